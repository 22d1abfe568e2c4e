theorem dX2_pass_116 : decode cX2_pass 116 = .ok (.iconst 1, 1) := by decide +kernel
theorem dX2_pass_117 : decode cX2_pass 117 = .ok (.iadd, 1) := by decide +kernel
theorem dX2_pass_118 : decode cX2_pass 118 = .ok (.iaload, 1) := by decide +kernel
theorem dX2_pass_119 : decode cX2_pass 119 = .ok (.iastore, 1) := by decide +kernel
theorem dX2_pass_120 : decode cX2_pass 120 = .ok (.aload_n 0, 1) := by decide +kernel
theorem dX2_pass_121 : decode cX2_pass 121 = .ok (.getfield 7, 3) := by decide +kernel
theorem dX2_pass_124 : decode cX2_pass 124 = .ok (.iload 7, 2) := by decide +kernel
theorem dX2_pass_126 : decode cX2_pass 126 = .ok (.iconst 1, 1) := by decide +kernel
theorem dX2_pass_127 : decode cX2_pass 127 = .ok (.iadd, 1) := by decide +kernel
theorem dX2_pass_128 : decode cX2_pass 128 = .ok (.iload 8, 2) := by decide +kernel
theorem dX2_pass_130 : decode cX2_pass 130 = .ok (.iastore, 1) := by decide +kernel
theorem dX2_pass_131 : decode cX2_pass 131 = .ok (.aload_n 0, 1) := by decide +kernel
theorem dX2_pass_132 : decode cX2_pass 132 = .ok (.getfield 13, 3) := by decide +kernel
theorem dX2_pass_135 : decode cX2_pass 135 = .ok (.iload 7, 2) := by decide +kernel
theorem dX2_pass_137 : decode cX2_pass 137 = .ok (.iconst 1, 1) := by decide +kernel
theorem dX2_pass_138 : decode cX2_pass 138 = .ok (.iadd, 1) := by decide +kernel
theorem dX2_pass_139 : decode cX2_pass 139 = .ok (.iload 9, 2) := by decide +kernel
theorem dX2_pass_141 : decode cX2_pass 141 = .ok (.iastore, 1) := by decide +kernel
theorem dX2_pass_142 : decode cX2_pass 142 = .ok (.iinc 5 1, 3) := by decide +kernel
theorem dX2_pass_145 : decode cX2_pass 145 = .ok (.iinc 6 1, 3) := by decide +kernel
theorem dX2_pass_148 : decode cX2_pass 148 = .ok (.goto (-111), 3) := by decide +kernel
theorem dX2_pass_151 : decode cX2_pass 151 = .ok (.aload_n 0, 1) := by decide +kernel
theorem dX2_pass_152 : decode cX2_pass 152 = .ok (.dup, 1) := by decide +kernel
theorem dX2_pass_153 : decode cX2_pass 153 = .ok (.getfield 82, 3) := by decide +kernel
theorem dX2_pass_156 : decode cX2_pass 156 = .ok (.iload 5, 2) := by decide +kernel
theorem dX2_pass_158 : decode cX2_pass 158 = .ok (.iadd, 1) := by decide +kernel
theorem dX2_pass_159 : decode cX2_pass 159 = .ok (.putfield 82, 3) := by decide +kernel
theorem dX2_pass_162 : decode cX2_pass 162 = .ok (.iload 5, 2) := by decide +kernel
theorem dX2_pass_164 : decode cX2_pass 164 = .ok (.ireturn, 1) := by decide +kernel
set_option maxRecDepth 20000 in
theorem ggX2_within_X2_in : GoodIn wsX2_within wsX2_in := goodIn_r _ [5] (by decide +kernel) (by decide +kernel)
set_option maxRecDepth 20000 in
theorem gX2_within_X2_in : GoodIn wsX2_within (va_wsS RX2 45 yX2_in wsX2_in) := goodIn_app (goodIn_of _ (by decide +kernel)) ggX2_within_X2_in
set_option maxRecDepth 20000 in
theorem ggX2_within_X2_isString : GoodIn wsX2_within wsX2_isString := goodIn_r _ [8, 2, 3, 4, 5] (by decide +kernel) (by decide +kernel)
set_option maxRecDepth 20000 in
theorem gX2_within_X2_isString : GoodIn wsX2_within (va_wsS RX2 79 yX2_isString wsX2_isString) := goodIn_app (goodIn_of _ (by decide +kernel)) ggX2_within_X2_isString
set_option maxRecDepth 20000 in
theorem ggX2_within_X2_isStringOrFork : GoodIn wsX2_within wsX2_isStringOrFork := goodIn_r _ [11, 2, 3, 4, 5] (by decide +kernel) (by decide +kernel)
set_option maxRecDepth 20000 in
theorem gX2_within_X2_isStringOrFork : GoodIn wsX2_within (va_wsS RX2 62 yX2_isStringOrFork wsX2_isStringOrFork) := goodIn_app (goodIn_of _ (by decide +kernel)) ggX2_within_X2_isStringOrFork
set_option maxRecDepth 20000 in
theorem ggX2_within_X2_stands : GoodIn wsX2_within wsX2_stands := goodIn_r _ [15, 1, 16, 17, 18, 4, 19, 20, 21, 22, 23, 24, 25, 26, 27, 28, 29, 30, 31, 32, 33, 34, 35, 36, 37, 38, 39, 40, 41] (by decide +kernel) (by decide +kernel)
set_option maxRecDepth 20000 in
theorem gX2_within_X2_stands : GoodIn wsX2_within (wsV RX2 72 RX2 yX2_stands wsX2_stands) := goodIn_app (goodIn_of _ (by decide +kernel)) ggX2_within_X2_stands
set_option maxRecDepth 20000 in
theorem ggX2_within_X2_at : GoodIn wsX2_within wsX2_at := goodIn_r _ [19] (by decide +kernel) (by decide +kernel)
set_option maxRecDepth 20000 in
theorem gX2_within_X2_at : GoodIn wsX2_within (va_wsS RX2 55 yX2_at wsX2_at) := goodIn_app (goodIn_of _ (by decide +kernel)) ggX2_within_X2_at
theorem dX2_within_0 : decode cX2_within 0 = .ok (.iload_n 1, 1) := by decide +kernel
theorem dX2_within_1 : decode cX2_within 1 = .ok (.iconst 0, 1) := by decide +kernel
theorem dX2_within_2 : decode cX2_within 2 = .ok (.iconst 1, 1) := by decide +kernel
theorem dX2_within_3 : decode cX2_within 3 = .ok (.invokestatic 45, 3) := by decide +kernel
theorem dX2_within_6 : decode cX2_within 6 = .ok (.ifCond .eq 25, 3) := by decide +kernel
theorem dX2_within_9 : decode cX2_within 9 = .ok (.iload_n 2, 1) := by decide +kernel
theorem dX2_within_10 : decode cX2_within 10 = .ok (.invokestatic 79, 3) := by decide +kernel
theorem dX2_within_13 : decode cX2_within 13 = .ok (.ifCond .eq 18, 3) := by decide +kernel
theorem dX2_within_16 : decode cX2_within 16 = .ok (.iload_n 3, 1) := by decide +kernel
theorem dX2_within_17 : decode cX2_within 17 = .ok (.invokestatic 62, 3) := by decide +kernel
theorem dX2_within_20 : decode cX2_within 20 = .ok (.ifCond .eq 11, 3) := by decide +kernel
theorem dX2_within_23 : decode cX2_within 23 = .ok (.iload 4, 2) := by decide +kernel
theorem dX2_within_25 : decode cX2_within 25 = .ok (.invokestatic 62, 3) := by decide +kernel
theorem dX2_within_28 : decode cX2_within 28 = .ok (.ifCond .ne 5, 3) := by decide +kernel
theorem dX2_within_31 : decode cX2_within 31 = .ok (.iconst (-1), 1) := by decide +kernel
theorem dX2_within_32 : decode cX2_within 32 = .ok (.ireturn, 1) := by decide +kernel
theorem dX2_within_33 : decode cX2_within 33 = .ok (.iconst 0, 1) := by decide +kernel
theorem dX2_within_34 : decode cX2_within 34 = .ok (.istore 5, 2) := by decide +kernel
theorem dX2_within_36 : decode cX2_within 36 = .ok (.aload_n 0, 1) := by decide +kernel
theorem dX2_within_37 : decode cX2_within 37 = .ok (.iload_n 1, 1) := by decide +kernel
theorem dX2_within_38 : decode cX2_within 38 = .ok (.iconst 3, 1) := by decide +kernel
theorem dX2_within_39 : decode cX2_within 39 = .ok (.iload_n 2, 1) := by decide +kernel
theorem dX2_within_40 : decode cX2_within 40 = .ok (.iload_n 3, 1) := by decide +kernel
theorem dX2_within_41 : decode cX2_within 41 = .ok (.invokevirtual 72, 3) := by decide +kernel
theorem dX2_within_44 : decode cX2_within 44 = .ok (.ifCond .eq 18, 3) := by decide +kernel
theorem dX2_within_47 : decode cX2_within 47 = .ok (.aload_n 0, 1) := by decide +kernel
theorem dX2_within_48 : decode cX2_within 48 = .ok (.iload_n 1, 1) := by decide +kernel
theorem dX2_within_49 : decode cX2_within 49 = .ok (.iconst 1, 1) := by decide +kernel
theorem dX2_within_50 : decode cX2_within 50 = .ok (.iload_n 2, 1) := by decide +kernel
theorem dX2_within_51 : decode cX2_within 51 = .ok (.iload 4, 2) := by decide +kernel
theorem dX2_within_53 : decode cX2_within 53 = .ok (.invokevirtual 72, 3) := by decide +kernel
theorem dX2_within_56 : decode cX2_within 56 = .ok (.ifCond .eq 6, 3) := by decide +kernel
theorem dX2_within_59 : decode cX2_within 59 = .ok (.iinc 5 1, 3) := by decide +kernel
theorem dX2_within_62 : decode cX2_within 62 = .ok (.aload_n 0, 1) := by decide +kernel
theorem dX2_within_63 : decode cX2_within 63 = .ok (.iload_n 1, 1) := by decide +kernel
theorem dX2_within_64 : decode cX2_within 64 = .ok (.iconst 0, 1) := by decide +kernel
theorem dX2_within_65 : decode cX2_within 65 = .ok (.iload_n 2, 1) := by decide +kernel
theorem dX2_within_66 : decode cX2_within 66 = .ok (.iload_n 3, 1) := by decide +kernel
theorem dX2_within_67 : decode cX2_within 67 = .ok (.invokevirtual 72, 3) := by decide +kernel
theorem dX2_within_70 : decode cX2_within 70 = .ok (.ifCond .ne 18, 3) := by decide +kernel
theorem dX2_within_73 : decode cX2_within 73 = .ok (.aload_n 0, 1) := by decide +kernel
theorem dX2_within_74 : decode cX2_within 74 = .ok (.iload_n 1, 1) := by decide +kernel
theorem dX2_within_75 : decode cX2_within 75 = .ok (.iconst 2, 1) := by decide +kernel
theorem dX2_within_76 : decode cX2_within 76 = .ok (.iload_n 2, 1) := by decide +kernel
theorem dX2_within_77 : decode cX2_within 77 = .ok (.iload 4, 2) := by decide +kernel
theorem dX2_within_79 : decode cX2_within 79 = .ok (.invokevirtual 72, 3) := by decide +kernel
theorem dX2_within_82 : decode cX2_within 82 = .ok (.ifCond .ne 6, 3) := by decide +kernel
theorem dX2_within_85 : decode cX2_within 85 = .ok (.iinc 5 2, 3) := by decide +kernel
theorem dX2_within_88 : decode cX2_within 88 = .ok (.aload_n 0, 1) := by decide +kernel
theorem dX2_within_89 : decode cX2_within 89 = .ok (.iload_n 1, 1) := by decide +kernel
theorem dX2_within_90 : decode cX2_within 90 = .ok (.iconst 0, 1) := by decide +kernel
theorem dX2_within_91 : decode cX2_within 91 = .ok (.iload_n 2, 1) := by decide +kernel
theorem dX2_within_92 : decode cX2_within 92 = .ok (.iload_n 3, 1) := by decide +kernel
theorem dX2_within_93 : decode cX2_within 93 = .ok (.invokevirtual 72, 3) := by decide +kernel
theorem dX2_within_96 : decode cX2_within 96 = .ok (.ifCond .ne 15, 3) := by decide +kernel
theorem dX2_within_99 : decode cX2_within 99 = .ok (.aload_n 0, 1) := by decide +kernel
theorem dX2_within_100 : decode cX2_within 100 = .ok (.iload_n 1, 1) := by decide +kernel
theorem dX2_within_101 : decode cX2_within 101 = .ok (.iconst 2, 1) := by decide +kernel
theorem dX2_within_102 : decode cX2_within 102 = .ok (.iload_n 2, 1) := by decide +kernel
theorem dX2_within_103 : decode cX2_within 103 = .ok (.iload 4, 2) := by decide +kernel
theorem dX2_within_105 : decode cX2_within 105 = .ok (.invokevirtual 72, 3) := by decide +kernel
theorem dX2_within_108 : decode cX2_within 108 = .ok (.ifCond .eq 6, 3) := by decide +kernel
theorem dX2_within_111 : decode cX2_within 111 = .ok (.iinc 5 4, 3) := by decide +kernel
theorem dX2_within_114 : decode cX2_within 114 = .ok (.aload_n 0, 1) := by decide +kernel
theorem dX2_within_115 : decode cX2_within 115 = .ok (.getfield 7, 3) := by decide +kernel
theorem dX2_within_118 : decode cX2_within 118 = .ok (.iload_n 1, 1) := by decide +kernel
theorem dX2_within_119 : decode cX2_within 119 = .ok (.iload_n 2, 1) := by decide +kernel
theorem dX2_within_120 : decode cX2_within 120 = .ok (.invokestatic 55, 3) := by decide +kernel
theorem dX2_within_123 : decode cX2_within 123 = .ok (.iaload, 1) := by decide +kernel
theorem dX2_within_124 : decode cX2_within 124 = .ok (.iconst 1, 1) := by decide +kernel
theorem dX2_within_125 : decode cX2_within 125 = .ok (.if_icmp .ne 6, 3) := by decide +kernel
theorem dX2_within_128 : decode cX2_within 128 = .ok (.iinc 5 8, 3) := by decide +kernel
theorem dX2_within_131 : decode cX2_within 131 = .ok (.iload 5, 2) := by decide +kernel
theorem dX2_within_133 : decode cX2_within 133 = .ok (.ireturn, 1) := by decide +kernel
set_option maxRecDepth 20000 in
theorem ggX2_guard_X2_in : GoodIn wsX2_guard wsX2_in := goodIn_r _ [15] (by decide +kernel) (by decide +kernel)
set_option maxRecDepth 20000 in
theorem gX2_guard_X2_in : GoodIn wsX2_guard (va_wsS RX2 45 yX2_in wsX2_in) := goodIn_app (goodIn_of _ (by decide +kernel)) ggX2_guard_X2_in
set_option maxRecDepth 20000 in
theorem ggX2_guard_X2_isAsked : GoodIn wsX2_guard wsX2_isAsked := goodIn_r _ [18, 12, 13, 14, 15] (by decide +kernel) (by decide +kernel)
set_option maxRecDepth 20000 in
theorem gX2_guard_X2_isAsked : GoodIn wsX2_guard (va_wsS RX2 68 yX2_isAsked wsX2_isAsked) := goodIn_app (goodIn_of _ (by decide +kernel)) ggX2_guard_X2_isAsked
set_option maxRecDepth 20000 in
theorem ggX2_guard_X2_isString : GoodIn wsX2_guard wsX2_isString := goodIn_r _ [21, 12, 13, 14, 15] (by decide +kernel) (by decide +kernel)
set_option maxRecDepth 20000 in
theorem gX2_guard_X2_isString : GoodIn wsX2_guard (va_wsS RX2 79 yX2_isString wsX2_isString) := goodIn_app (goodIn_of _ (by decide +kernel)) ggX2_guard_X2_isString
set_option maxRecDepth 20000 in
theorem ggX2_guard_X2_at : GoodIn wsX2_guard wsX2_at := goodIn_r _ [24] (by decide +kernel) (by decide +kernel)
set_option maxRecDepth 20000 in
theorem gX2_guard_X2_at : GoodIn wsX2_guard (va_wsS RX2 55 yX2_at wsX2_at) := goodIn_app (goodIn_of _ (by decide +kernel)) ggX2_guard_X2_at
theorem dX2_guard_0 : decode cX2_guard 0 = .ok (.iload_n 1, 1) := by decide +kernel
theorem dX2_guard_1 : decode cX2_guard 1 = .ok (.iconst 0, 1) := by decide +kernel
theorem dX2_guard_2 : decode cX2_guard 2 = .ok (.bipush 7, 2) := by decide +kernel
theorem dX2_guard_4 : decode cX2_guard 4 = .ok (.invokestatic 45, 3) := by decide +kernel
theorem dX2_guard_7 : decode cX2_guard 7 = .ok (.ifCond .eq 29, 3) := by decide +kernel
theorem dX2_guard_10 : decode cX2_guard 10 = .ok (.iload_n 2, 1) := by decide +kernel
theorem dX2_guard_11 : decode cX2_guard 11 = .ok (.iload_n 3, 1) := by decide +kernel
theorem dX2_guard_12 : decode cX2_guard 12 = .ok (.invokestatic 68, 3) := by decide +kernel
theorem dX2_guard_15 : decode cX2_guard 15 = .ok (.ifCond .eq 21, 3) := by decide +kernel
theorem dX2_guard_18 : decode cX2_guard 18 = .ok (.iload 4, 2) := by decide +kernel
theorem dX2_guard_20 : decode cX2_guard 20 = .ok (.invokestatic 79, 3) := by decide +kernel
theorem dX2_guard_23 : decode cX2_guard 23 = .ok (.ifCond .eq 13, 3) := by decide +kernel
theorem dX2_guard_26 : decode cX2_guard 26 = .ok (.iload 5, 2) := by decide +kernel
theorem dX2_guard_28 : decode cX2_guard 28 = .ok (.iconst 0, 1) := by decide +kernel
theorem dX2_guard_29 : decode cX2_guard 29 = .ok (.iconst 2, 1) := by decide +kernel
theorem dX2_guard_30 : decode cX2_guard 30 = .ok (.invokestatic 45, 3) := by decide +kernel
theorem dX2_guard_33 : decode cX2_guard 33 = .ok (.ifCond .ne 5, 3) := by decide +kernel
theorem dX2_guard_36 : decode cX2_guard 36 = .ok (.iconst 0, 1) := by decide +kernel
theorem dX2_guard_37 : decode cX2_guard 37 = .ok (.ireturn, 1) := by decide +kernel
theorem dX2_guard_38 : decode cX2_guard 38 = .ok (.aload_n 0, 1) := by decide +kernel
theorem dX2_guard_39 : decode cX2_guard 39 = .ok (.dup, 1) := by decide +kernel
theorem dX2_guard_40 : decode cX2_guard 40 = .ok (.getfield 85, 3) := by decide +kernel
theorem dX2_guard_43 : decode cX2_guard 43 = .ok (.aload_n 0, 1) := by decide +kernel
theorem dX2_guard_44 : decode cX2_guard 44 = .ok (.getfield 20, 3) := by decide +kernel
theorem dX2_guard_47 : decode cX2_guard 47 = .ok (.iload_n 1, 1) := by decide +kernel
theorem dX2_guard_48 : decode cX2_guard 48 = .ok (.baload, 1) := by decide +kernel
theorem dX2_guard_49 : decode cX2_guard 49 = .ok (.ifCond .eq 7, 3) := by decide +kernel
theorem dX2_guard_52 : decode cX2_guard 52 = .ok (.iconst 0, 1) := by decide +kernel
theorem dX2_guard_53 : decode cX2_guard 53 = .ok (.goto 4, 3) := by decide +kernel
theorem dX2_guard_56 : decode cX2_guard 56 = .ok (.iconst 1, 1) := by decide +kernel
theorem dX2_guard_57 : decode cX2_guard 57 = .ok (.iadd, 1) := by decide +kernel
theorem dX2_guard_58 : decode cX2_guard 58 = .ok (.putfield 85, 3) := by decide +kernel
theorem dX2_guard_61 : decode cX2_guard 61 = .ok (.aload_n 0, 1) := by decide +kernel
theorem dX2_guard_62 : decode cX2_guard 62 = .ok (.getfield 20, 3) := by decide +kernel
theorem dX2_guard_65 : decode cX2_guard 65 = .ok (.iload_n 1, 1) := by decide +kernel
theorem dX2_guard_66 : decode cX2_guard 66 = .ok (.iconst 1, 1) := by decide +kernel
theorem dX2_guard_67 : decode cX2_guard 67 = .ok (.bastore, 1) := by decide +kernel
theorem dX2_guard_68 : decode cX2_guard 68 = .ok (.aload_n 0, 1) := by decide +kernel
theorem dX2_guard_69 : decode cX2_guard 69 = .ok (.getfield 24, 3) := by decide +kernel
theorem dX2_guard_72 : decode cX2_guard 72 = .ok (.iload_n 1, 1) := by decide +kernel
theorem dX2_guard_73 : decode cX2_guard 73 = .ok (.iload_n 2, 1) := by decide +kernel
theorem dX2_guard_74 : decode cX2_guard 74 = .ok (.iastore, 1) := by decide +kernel
theorem dX2_guard_75 : decode cX2_guard 75 = .ok (.aload_n 0, 1) := by decide +kernel
theorem dX2_guard_76 : decode cX2_guard 76 = .ok (.getfield 27, 3) := by decide +kernel
theorem dX2_guard_79 : decode cX2_guard 79 = .ok (.iload_n 1, 1) := by decide +kernel
theorem dX2_guard_80 : decode cX2_guard 80 = .ok (.iload_n 3, 1) := by decide +kernel
theorem dX2_guard_81 : decode cX2_guard 81 = .ok (.iastore, 1) := by decide +kernel
theorem dX2_guard_82 : decode cX2_guard 82 = .ok (.aload_n 0, 1) := by decide +kernel
theorem dX2_guard_83 : decode cX2_guard 83 = .ok (.getfield 30, 3) := by decide +kernel
theorem dX2_guard_86 : decode cX2_guard 86 = .ok (.iload_n 1, 1) := by decide +kernel
theorem dX2_guard_87 : decode cX2_guard 87 = .ok (.iload 5, 2) := by decide +kernel
theorem dX2_guard_89 : decode cX2_guard 89 = .ok (.iastore, 1) := by decide +kernel
theorem dX2_guard_90 : decode cX2_guard 90 = .ok (.aload_n 0, 1) := by decide +kernel
theorem dX2_guard_91 : decode cX2_guard 91 = .ok (.getfield 33, 3) := by decide +kernel
theorem dX2_guard_94 : decode cX2_guard 94 = .ok (.iload_n 1, 1) := by decide +kernel
theorem dX2_guard_95 : decode cX2_guard 95 = .ok (.aload_n 0, 1) := by decide +kernel
theorem dX2_guard_96 : decode cX2_guard 96 = .ok (.getfield 7, 3) := by decide +kernel
theorem dX2_guard_99 : decode cX2_guard 99 = .ok (.iload_n 2, 1) := by decide +kernel
theorem dX2_guard_100 : decode cX2_guard 100 = .ok (.iload 4, 2) := by decide +kernel
theorem dX2_guard_102 : decode cX2_guard 102 = .ok (.invokestatic 55, 3) := by decide +kernel
theorem dX2_guard_105 : decode cX2_guard 105 = .ok (.iaload, 1) := by decide +kernel
theorem dX2_guard_106 : decode cX2_guard 106 = .ok (.iastore, 1) := by decide +kernel
theorem dX2_guard_107 : decode cX2_guard 107 = .ok (.aload_n 0, 1) := by decide +kernel
theorem dX2_guard_108 : decode cX2_guard 108 = .ok (.getfield 36, 3) := by decide +kernel
theorem dX2_guard_111 : decode cX2_guard 111 = .ok (.iload_n 1, 1) := by decide +kernel
theorem dX2_guard_112 : decode cX2_guard 112 = .ok (.aload_n 0, 1) := by decide +kernel
theorem dX2_guard_113 : decode cX2_guard 113 = .ok (.getfield 13, 3) := by decide +kernel
theorem dX2_guard_116 : decode cX2_guard 116 = .ok (.iload_n 2, 1) := by decide +kernel
theorem dX2_guard_117 : decode cX2_guard 117 = .ok (.iload 4, 2) := by decide +kernel
theorem dX2_guard_119 : decode cX2_guard 119 = .ok (.invokestatic 55, 3) := by decide +kernel
theorem dX2_guard_122 : decode cX2_guard 122 = .ok (.iaload, 1) := by decide +kernel
theorem dX2_guard_123 : decode cX2_guard 123 = .ok (.iastore, 1) := by decide +kernel
theorem dX2_guard_124 : decode cX2_guard 124 = .ok (.aload_n 0, 1) := by decide +kernel
theorem dX2_guard_125 : decode cX2_guard 125 = .ok (.getfield 39, 3) := by decide +kernel
theorem dX2_guard_128 : decode cX2_guard 128 = .ok (.iload_n 1, 1) := by decide +kernel
theorem dX2_guard_129 : decode cX2_guard 129 = .ok (.iconst 0, 1) := by decide +kernel
theorem dX2_guard_130 : decode cX2_guard 130 = .ok (.bastore, 1) := by decide +kernel
theorem dX2_guard_131 : decode cX2_guard 131 = .ok (.aload_n 0, 1) := by decide +kernel
theorem dX2_guard_132 : decode cX2_guard 132 = .ok (.getfield 42, 3) := by decide +kernel
theorem dX2_guard_135 : decode cX2_guard 135 = .ok (.iload_n 1, 1) := by decide +kernel
theorem dX2_guard_136 : decode cX2_guard 136 = .ok (.iconst 0, 1) := by decide +kernel
theorem dX2_guard_137 : decode cX2_guard 137 = .ok (.iastore, 1) := by decide +kernel
theorem dX2_guard_138 : decode cX2_guard 138 = .ok (.iconst 1, 1) := by decide +kernel
theorem dX2_guard_139 : decode cX2_guard 139 = .ok (.ireturn, 1) := by decide +kernel
set_option maxRecDepth 20000 in
theorem ggX2_look_X2_at : GoodIn wsX2_look wsX2_at := goodIn_r _ [14] (by decide +kernel) (by decide +kernel)
set_option maxRecDepth 20000 in
theorem gX2_look_X2_at : GoodIn wsX2_look (va_wsS RX2 55 yX2_at wsX2_at) := goodIn_app (goodIn_of _ (by decide +kernel)) ggX2_look_X2_at
set_option maxRecDepth 20000 in
theorem ggX2_look_X2_goes : GoodIn wsX2_look wsX2_goes := goodIn_r _ [17, 18, 19, 13, 20, 21, 22] (by decide +kernel) (by decide +kernel)
set_option maxRecDepth 20000 in
theorem gX2_look_X2_goes : GoodIn wsX2_look (va_wsS RX2 58 yX2_goes wsX2_goes) := goodIn_app (goodIn_of _ (by decide +kernel)) ggX2_look_X2_goes
theorem dX2_look_0 : decode cX2_look 0 = .ok (.iconst 0, 1) := by decide +kernel
theorem dX2_look_1 : decode cX2_look 1 = .ok (.istore_n 1, 1) := by decide +kernel
theorem dX2_look_2 : decode cX2_look 2 = .ok (.iconst 0, 1) := by decide +kernel
theorem dX2_look_3 : decode cX2_look 3 = .ok (.istore_n 2, 1) := by decide +kernel
theorem dX2_look_4 : decode cX2_look 4 = .ok (.iload_n 2, 1) := by decide +kernel
theorem dX2_look_5 : decode cX2_look 5 = .ok (.bipush 8, 2) := by decide +kernel
theorem dX2_look_7 : decode cX2_look 7 = .ok (.if_icmp .ge 155, 3) := by decide +kernel
theorem dX2_look_10 : decode cX2_look 10 = .ok (.aload_n 0, 1) := by decide +kernel
theorem dX2_look_11 : decode cX2_look 11 = .ok (.getfield 20, 3) := by decide +kernel
theorem dX2_look_14 : decode cX2_look 14 = .ok (.iload_n 2, 1) := by decide +kernel
theorem dX2_look_15 : decode cX2_look 15 = .ok (.baload, 1) := by decide +kernel
theorem dX2_look_16 : decode cX2_look 16 = .ok (.ifCond .ne 6, 3) := by decide +kernel
theorem dX2_look_19 : decode cX2_look 19 = .ok (.goto 137, 3) := by decide +kernel
theorem dX2_look_22 : decode cX2_look 22 = .ok (.aload_n 0, 1) := by decide +kernel
theorem dX2_look_23 : decode cX2_look 23 = .ok (.getfield 24, 3) := by decide +kernel
theorem dX2_look_26 : decode cX2_look 26 = .ok (.iload_n 2, 1) := by decide +kernel
theorem dX2_look_27 : decode cX2_look 27 = .ok (.iaload, 1) := by decide +kernel
theorem dX2_look_28 : decode cX2_look 28 = .ok (.bipush 32, 2) := by decide +kernel
theorem dX2_look_30 : decode cX2_look 30 = .ok (.invokestatic 55, 3) := by decide +kernel
theorem dX2_look_33 : decode cX2_look 33 = .ok (.istore_n 3, 1) := by decide +kernel
theorem dX2_look_34 : decode cX2_look 34 = .ok (.aload_n 0, 1) := by decide +kernel
theorem dX2_look_35 : decode cX2_look 35 = .ok (.getfield 27, 3) := by decide +kernel
theorem dX2_look_38 : decode cX2_look 38 = .ok (.iload_n 2, 1) := by decide +kernel
theorem dX2_look_39 : decode cX2_look 39 = .ok (.iaload, 1) := by decide +kernel
theorem dX2_look_40 : decode cX2_look 40 = .ok (.aload_n 0, 1) := by decide +kernel
theorem dX2_look_41 : decode cX2_look 41 = .ok (.getfield 7, 3) := by decide +kernel
theorem dX2_look_44 : decode cX2_look 44 = .ok (.iload_n 3, 1) := by decide +kernel
theorem dX2_look_45 : decode cX2_look 45 = .ok (.iaload, 1) := by decide +kernel
theorem dX2_look_46 : decode cX2_look 46 = .ok (.aload_n 0, 1) := by decide +kernel
theorem dX2_look_47 : decode cX2_look 47 = .ok (.getfield 13, 3) := by decide +kernel
theorem dX2_look_50 : decode cX2_look 50 = .ok (.iload_n 3, 1) := by decide +kernel
theorem dX2_look_51 : decode cX2_look 51 = .ok (.iaload, 1) := by decide +kernel
theorem dX2_look_52 : decode cX2_look 52 = .ok (.aload_n 0, 1) := by decide +kernel
theorem dX2_look_53 : decode cX2_look 53 = .ok (.getfield 33, 3) := by decide +kernel
theorem dX2_look_56 : decode cX2_look 56 = .ok (.iload_n 2, 1) := by decide +kernel
theorem dX2_look_57 : decode cX2_look 57 = .ok (.iaload, 1) := by decide +kernel
theorem dX2_look_58 : decode cX2_look 58 = .ok (.aload_n 0, 1) := by decide +kernel
theorem dX2_look_59 : decode cX2_look 59 = .ok (.getfield 36, 3) := by decide +kernel
theorem dX2_look_62 : decode cX2_look 62 = .ok (.iload_n 2, 1) := by decide +kernel
theorem dX2_look_63 : decode cX2_look 63 = .ok (.iaload, 1) := by decide +kernel
theorem dX2_look_64 : decode cX2_look 64 = .ok (.invokestatic 58, 3) := by decide +kernel
theorem dX2_look_67 : decode cX2_look 67 = .ok (.istore 4, 2) := by decide +kernel
theorem dX2_look_69 : decode cX2_look 69 = .ok (.aload_n 0, 1) := by decide +kernel
theorem dX2_look_70 : decode cX2_look 70 = .ok (.getfield 30, 3) := by decide +kernel
theorem dX2_look_73 : decode cX2_look 73 = .ok (.iload_n 2, 1) := by decide +kernel
theorem dX2_look_74 : decode cX2_look 74 = .ok (.iaload, 1) := by decide +kernel
theorem dX2_look_75 : decode cX2_look 75 = .ok (.ifCond .ne 8, 3) := by decide +kernel
theorem dX2_look_78 : decode cX2_look 78 = .ok (.iload 4, 2) := by decide +kernel
theorem dX2_look_80 : decode cX2_look 80 = .ok (.goto 42, 3) := by decide +kernel
theorem dX2_look_83 : decode cX2_look 83 = .ok (.aload_n 0, 1) := by decide +kernel
theorem dX2_look_84 : decode cX2_look 84 = .ok (.getfield 30, 3) := by decide +kernel
theorem dX2_look_87 : decode cX2_look 87 = .ok (.iload_n 2, 1) := by decide +kernel
theorem dX2_look_88 : decode cX2_look 88 = .ok (.iaload, 1) := by decide +kernel
theorem dX2_look_89 : decode cX2_look 89 = .ok (.iconst 1, 1) := by decide +kernel
theorem dX2_look_90 : decode cX2_look 90 = .ok (.if_icmp .ne 16, 3) := by decide +kernel
theorem dX2_look_93 : decode cX2_look 93 = .ok (.iload 4, 2) := by decide +kernel
theorem dX2_look_95 : decode cX2_look 95 = .ok (.ifCond .ne 7, 3) := by decide +kernel
theorem dX2_look_98 : decode cX2_look 98 = .ok (.iconst 1, 1) := by decide +kernel
theorem dX2_look_99 : decode cX2_look 99 = .ok (.goto 23, 3) := by decide +kernel
theorem dX2_look_102 : decode cX2_look 102 = .ok (.iconst 0, 1) := by decide +kernel
theorem dX2_look_103 : decode cX2_look 103 = .ok (.goto 19, 3) := by decide +kernel
theorem dX2_look_106 : decode cX2_look 106 = .ok (.iload 4, 2) := by decide +kernel
theorem dX2_look_108 : decode cX2_look 108 = .ok (.aload_n 0, 1) := by decide +kernel
theorem dX2_look_109 : decode cX2_look 109 = .ok (.getfield 39, 3) := by decide +kernel
theorem dX2_look_112 : decode cX2_look 112 = .ok (.iload_n 2, 1) := by decide +kernel
theorem dX2_look_113 : decode cX2_look 113 = .ok (.baload, 1) := by decide +kernel
theorem dX2_look_114 : decode cX2_look 114 = .ok (.if_icmp .eq 7, 3) := by decide +kernel
theorem dX2_look_117 : decode cX2_look 117 = .ok (.iconst 1, 1) := by decide +kernel
theorem dX2_look_118 : decode cX2_look 118 = .ok (.goto 4, 3) := by decide +kernel
theorem dX2_look_121 : decode cX2_look 121 = .ok (.iconst 0, 1) := by decide +kernel
theorem dX2_look_122 : decode cX2_look 122 = .ok (.istore 5, 2) := by decide +kernel
theorem dX2_look_124 : decode cX2_look 124 = .ok (.aload_n 0, 1) := by decide +kernel
theorem dX2_look_125 : decode cX2_look 125 = .ok (.getfield 39, 3) := by decide +kernel
theorem dX2_look_128 : decode cX2_look 128 = .ok (.iload_n 2, 1) := by decide +kernel
theorem dX2_look_129 : decode cX2_look 129 = .ok (.iload 4, 2) := by decide +kernel
theorem dX2_look_131 : decode cX2_look 131 = .ok (.bastore, 1) := by decide +kernel
theorem dX2_look_132 : decode cX2_look 132 = .ok (.iload 5, 2) := by decide +kernel
theorem dX2_look_134 : decode cX2_look 134 = .ok (.ifCond .ne 6, 3) := by decide +kernel
theorem dX2_look_137 : decode cX2_look 137 = .ok (.goto 19, 3) := by decide +kernel
theorem dX2_look_140 : decode cX2_look 140 = .ok (.aload_n 0, 1) := by decide +kernel
theorem dX2_look_141 : decode cX2_look 141 = .ok (.getfield 42, 3) := by decide +kernel
theorem dX2_look_144 : decode cX2_look 144 = .ok (.iload_n 2, 1) := by decide +kernel
theorem dX2_look_145 : decode cX2_look 145 = .ok (.dup2, 1) := by decide +kernel
theorem dX2_look_146 : decode cX2_look 146 = .ok (.iaload, 1) := by decide +kernel
theorem dX2_look_147 : decode cX2_look 147 = .ok (.iconst 1, 1) := by decide +kernel
theorem dX2_look_148 : decode cX2_look 148 = .ok (.iadd, 1) := by decide +kernel
theorem dX2_look_149 : decode cX2_look 149 = .ok (.iastore, 1) := by decide +kernel
theorem dX2_look_150 : decode cX2_look 150 = .ok (.iload_n 1, 1) := by decide +kernel
theorem dX2_look_151 : decode cX2_look 151 = .ok (.iconst 1, 1) := by decide +kernel
theorem dX2_look_152 : decode cX2_look 152 = .ok (.iload_n 2, 1) := by decide +kernel
theorem dX2_look_153 : decode cX2_look 153 = .ok (.ishl, 1) := by decide +kernel
theorem dX2_look_154 : decode cX2_look 154 = .ok (.iadd, 1) := by decide +kernel
theorem dX2_look_155 : decode cX2_look 155 = .ok (.istore_n 1, 1) := by decide +kernel
theorem dX2_look_156 : decode cX2_look 156 = .ok (.iinc 2 1, 3) := by decide +kernel
theorem dX2_look_159 : decode cX2_look 159 = .ok (.goto (-155), 3) := by decide +kernel
theorem dX2_look_162 : decode cX2_look 162 = .ok (.iload_n 1, 1) := by decide +kernel
theorem dX2_look_163 : decode cX2_look 163 = .ok (.ireturn, 1) := by decide +kernel
set_option maxRecDepth 20000 in
theorem ggX2_rings_X2_in : GoodIn wsX2_rings wsX2_in := goodIn_r _ [6] (by decide +kernel) (by decide +kernel)
set_option maxRecDepth 20000 in
theorem gX2_rings_X2_in : GoodIn wsX2_rings (va_wsS RX2 45 yX2_in wsX2_in) := goodIn_app (goodIn_of _ (by decide +kernel)) ggX2_rings_X2_in
theorem dX2_rings_0 : decode cX2_rings 0 = .ok (.iload_n 1, 1) := by decide +kernel
theorem dX2_rings_1 : decode cX2_rings 1 = .ok (.iconst 0, 1) := by decide +kernel
theorem dX2_rings_2 : decode cX2_rings 2 = .ok (.bipush 7, 2) := by decide +kernel
theorem dX2_rings_4 : decode cX2_rings 4 = .ok (.invokestatic 45, 3) := by decide +kernel
theorem dX2_rings_7 : decode cX2_rings 7 = .ok (.ifCond .eq 21, 3) := by decide +kernel
theorem dX2_rings_10 : decode cX2_rings 10 = .ok (.aload_n 0, 1) := by decide +kernel
theorem dX2_rings_11 : decode cX2_rings 11 = .ok (.getfield 20, 3) := by decide +kernel
theorem dX2_rings_14 : decode cX2_rings 14 = .ok (.iload_n 1, 1) := by decide +kernel
theorem dX2_rings_15 : decode cX2_rings 15 = .ok (.baload, 1) := by decide +kernel
theorem dX2_rings_16 : decode cX2_rings 16 = .ok (.ifCond .eq 12, 3) := by decide +kernel
theorem dX2_rings_19 : decode cX2_rings 19 = .ok (.aload_n 0, 1) := by decide +kernel
theorem dX2_rings_20 : decode cX2_rings 20 = .ok (.getfield 42, 3) := by decide +kernel
theorem dX2_rings_23 : decode cX2_rings 23 = .ok (.iload_n 1, 1) := by decide +kernel
theorem dX2_rings_24 : decode cX2_rings 24 = .ok (.iaload, 1) := by decide +kernel
theorem dX2_rings_25 : decode cX2_rings 25 = .ok (.goto 4, 3) := by decide +kernel
theorem dX2_rings_28 : decode cX2_rings 28 = .ok (.iconst (-1), 1) := by decide +kernel
theorem dX2_rings_29 : decode cX2_rings 29 = .ok (.ireturn, 1) := by decide +kernel
set_option maxRecDepth 20000 in
theorem ggX2_strike_X2_isString : GoodIn wsX2_strike wsX2_isString := goodIn_r _ [6, 7, 8, 5, 9] (by decide +kernel) (by decide +kernel)
set_option maxRecDepth 20000 in
theorem gX2_strike_X2_isString : GoodIn wsX2_strike (va_wsS RX2 79 yX2_isString wsX2_isString) := goodIn_app (goodIn_of _ (by decide +kernel)) ggX2_strike_X2_isString
set_option maxRecDepth 20000 in
theorem ggX2_strike_X2_at : GoodIn wsX2_strike wsX2_at := goodIn_r _ [12] (by decide +kernel) (by decide +kernel)
set_option maxRecDepth 20000 in
theorem gX2_strike_X2_at : GoodIn wsX2_strike (va_wsS RX2 55 yX2_at wsX2_at) := goodIn_app (goodIn_of _ (by decide +kernel)) ggX2_strike_X2_at
theorem dX2_strike_0 : decode cX2_strike 0 = .ok (.iload_n 1, 1) := by decide +kernel
theorem dX2_strike_1 : decode cX2_strike 1 = .ok (.invokestatic 79, 3) := by decide +kernel
theorem dX2_strike_4 : decode cX2_strike 4 = .ok (.ifCond .ne 5, 3) := by decide +kernel
theorem dX2_strike_7 : decode cX2_strike 7 = .ok (.iconst 0, 1) := by decide +kernel
theorem dX2_strike_8 : decode cX2_strike 8 = .ok (.ireturn, 1) := by decide +kernel
theorem dX2_strike_9 : decode cX2_strike 9 = .ok (.iconst 0, 1) := by decide +kernel
theorem dX2_strike_10 : decode cX2_strike 10 = .ok (.istore_n 2, 1) := by decide +kernel
theorem dX2_strike_11 : decode cX2_strike 11 = .ok (.iload_n 2, 1) := by decide +kernel
theorem dX2_strike_12 : decode cX2_strike 12 = .ok (.iconst 2, 1) := by decide +kernel
theorem dX2_strike_13 : decode cX2_strike 13 = .ok (.if_icmp .ge 51, 3) := by decide +kernel
theorem dX2_strike_16 : decode cX2_strike 16 = .ok (.aload_n 0, 1) := by decide +kernel
theorem dX2_strike_17 : decode cX2_strike 17 = .ok (.getfield 7, 3) := by decide +kernel
theorem dX2_strike_20 : decode cX2_strike 20 = .ok (.iload_n 2, 1) := by decide +kernel
theorem dX2_strike_21 : decode cX2_strike 21 = .ok (.bipush 32, 2) := by decide +kernel
theorem dX2_strike_23 : decode cX2_strike 23 = .ok (.invokestatic 55, 3) := by decide +kernel
theorem dX2_strike_26 : decode cX2_strike 26 = .ok (.aload_n 0, 1) := by decide +kernel
theorem dX2_strike_27 : decode cX2_strike 27 = .ok (.getfield 7, 3) := by decide +kernel
theorem dX2_strike_30 : decode cX2_strike 30 = .ok (.iload_n 2, 1) := by decide +kernel
theorem dX2_strike_31 : decode cX2_strike 31 = .ok (.iload_n 1, 1) := by decide +kernel
theorem dX2_strike_32 : decode cX2_strike 32 = .ok (.invokestatic 55, 3) := by decide +kernel
theorem dX2_strike_35 : decode cX2_strike 35 = .ok (.iaload, 1) := by decide +kernel
theorem dX2_strike_36 : decode cX2_strike 36 = .ok (.iastore, 1) := by decide +kernel
theorem dX2_strike_37 : decode cX2_strike 37 = .ok (.aload_n 0, 1) := by decide +kernel
theorem dX2_strike_38 : decode cX2_strike 38 = .ok (.getfield 13, 3) := by decide +kernel
theorem dX2_strike_41 : decode cX2_strike 41 = .ok (.iload_n 2, 1) := by decide +kernel
theorem dX2_strike_42 : decode cX2_strike 42 = .ok (.bipush 32, 2) := by decide +kernel
theorem dX2_strike_44 : decode cX2_strike 44 = .ok (.invokestatic 55, 3) := by decide +kernel
theorem dX2_strike_47 : decode cX2_strike 47 = .ok (.aload_n 0, 1) := by decide +kernel
theorem dX2_strike_48 : decode cX2_strike 48 = .ok (.getfield 13, 3) := by decide +kernel
theorem dX2_strike_51 : decode cX2_strike 51 = .ok (.iload_n 2, 1) := by decide +kernel
theorem dX2_strike_52 : decode cX2_strike 52 = .ok (.iload_n 1, 1) := by decide +kernel
theorem dX2_strike_53 : decode cX2_strike 53 = .ok (.invokestatic 55, 3) := by decide +kernel
theorem dX2_strike_56 : decode cX2_strike 56 = .ok (.iaload, 1) := by decide +kernel
theorem dX2_strike_57 : decode cX2_strike 57 = .ok (.iastore, 1) := by decide +kernel
theorem dX2_strike_58 : decode cX2_strike 58 = .ok (.iinc 2 1, 3) := by decide +kernel
theorem dX2_strike_61 : decode cX2_strike 61 = .ok (.goto (-50), 3) := by decide +kernel
theorem dX2_strike_64 : decode cX2_strike 64 = .ok (.iconst 1, 1) := by decide +kernel
theorem dX2_strike_65 : decode cX2_strike 65 = .ok (.ireturn, 1) := by decide +kernel
theorem dX2_count_0 : decode cX2_count 0 = .ok (.iload_n 1, 1) := by decide +kernel
theorem dX2_count_1 : decode cX2_count 1 = .ok (.tableswitch 51 0 3 #[31, 36, 41, 46], 31) := by decide +kernel
theorem dX2_count_32 : decode cX2_count 32 = .ok (.aload_n 0, 1) := by decide +kernel
theorem dX2_count_33 : decode cX2_count 33 = .ok (.getfield 76, 3) := by decide +kernel
theorem dX2_count_36 : decode cX2_count 36 = .ok (.ireturn, 1) := by decide +kernel
theorem dX2_count_37 : decode cX2_count 37 = .ok (.aload_n 0, 1) := by decide +kernel
theorem dX2_count_38 : decode cX2_count 38 = .ok (.getfield 16, 3) := by decide +kernel
theorem dX2_count_41 : decode cX2_count 41 = .ok (.ireturn, 1) := by decide +kernel
theorem dX2_count_42 : decode cX2_count 42 = .ok (.aload_n 0, 1) := by decide +kernel
theorem dX2_count_43 : decode cX2_count 43 = .ok (.getfield 85, 3) := by decide +kernel
theorem dX2_count_46 : decode cX2_count 46 = .ok (.ireturn, 1) := by decide +kernel
theorem dX2_count_47 : decode cX2_count 47 = .ok (.aload_n 0, 1) := by decide +kernel
theorem dX2_count_48 : decode cX2_count 48 = .ok (.getfield 82, 3) := by decide +kernel
theorem dX2_count_51 : decode cX2_count 51 = .ok (.ireturn, 1) := by decide +kernel
theorem dX2_count_52 : decode cX2_count 52 = .ok (.iconst (-1), 1) := by decide +kernel
theorem dX2_count_53 : decode cX2_count 53 = .ok (.ireturn, 1) := by decide +kernel
theorem dJ7_fill_53178_0 : decode cJ7_fill_53178 0 = .ok (.iconst 0, 1) := by decide +kernel
theorem dJ7_fill_53178_1 : decode cJ7_fill_53178 1 = .ok (.istore_n 2, 1) := by decide +kernel
theorem dJ7_fill_53178_2 : decode cJ7_fill_53178 2 = .ok (.aload_n 0, 1) := by decide +kernel
theorem dJ7_fill_53178_3 : decode cJ7_fill_53178 3 = .ok (.arraylength, 1) := by decide +kernel
theorem dJ7_fill_53178_4 : decode cJ7_fill_53178 4 = .ok (.istore_n 3, 1) := by decide +kernel
theorem dJ7_fill_53178_5 : decode cJ7_fill_53178 5 = .ok (.iload_n 2, 1) := by decide +kernel
theorem dJ7_fill_53178_6 : decode cJ7_fill_53178 6 = .ok (.iload_n 3, 1) := by decide +kernel
theorem dJ7_fill_53178_7 : decode cJ7_fill_53178 7 = .ok (.if_icmp .ge 13, 3) := by decide +kernel
theorem dJ7_fill_53178_10 : decode cJ7_fill_53178 10 = .ok (.aload_n 0, 1) := by decide +kernel
theorem dJ7_fill_53178_11 : decode cJ7_fill_53178 11 = .ok (.iload_n 2, 1) := by decide +kernel
theorem dJ7_fill_53178_12 : decode cJ7_fill_53178 12 = .ok (.iload_n 1, 1) := by decide +kernel
theorem dJ7_fill_53178_13 : decode cJ7_fill_53178 13 = .ok (.iastore, 1) := by decide +kernel
theorem dJ7_fill_53178_14 : decode cJ7_fill_53178 14 = .ok (.iinc 2 1, 3) := by decide +kernel
theorem dJ7_fill_53178_17 : decode cJ7_fill_53178 17 = .ok (.goto (-12), 3) := by decide +kernel
theorem dJ7_fill_53178_20 : decode cJ7_fill_53178 20 = .ok (.return_, 1) := by decide +kernel
set_option maxRecDepth 20000 in
theorem ggL_law_X1_init : GoodIn wsL_law wsX1_init := goodIn_r _ [8, 9, 10, 11, 12, 13, 14, 15, 16, 17, 18, 19, 20, 21, 22, 23, 24, 275, 276, 277, 278, 279] (by decide +kernel) (by decide +kernel)
set_option maxRecDepth 20000 in
theorem gL_law_X1_init : GoodIn wsL_law (wsX1_init) := ggL_law_X1_init
set_option maxRecDepth 20000 in
theorem ggL_law_X2_init : GoodIn wsL_law wsX2_init := goodIn_r _ [27, 28, 10, 11, 13, 29, 30, 31, 32, 33, 34, 35, 36, 37, 38, 39, 40, 280, 281, 282, 283, 284, 285, 286, 287, 288, 289, 290, 291, 292, 293] (by decide +kernel) (by decide +kernel)
set_option maxRecDepth 20000 in
theorem gL_law_X2_init : GoodIn wsL_law (wsX2_init) := ggL_law_X2_init
set_option maxRecDepth 20000 in
theorem ggL_law_X1_put : GoodIn wsL_law wsX1_put := goodIn_r _ [44, 14, 45, 46, 2, 47, 48, 49, 50, 51, 52, 53, 54, 55, 56, 57, 58, 59, 60, 61, 62, 63, 64, 20, 275, 276, 277, 278, 279] (by decide +kernel) (by decide +kernel)
set_option maxRecDepth 20000 in
theorem gL_law_X1_put : GoodIn wsL_law (wsV RL 13 RX1 yX1_put wsX1_put) := goodIn_app (goodIn_of _ (by decide +kernel)) ggL_law_X1_put
set_option maxRecDepth 20000 in
theorem ggL_law_X2_put : GoodIn wsL_law wsX2_put := goodIn_r _ [68, 69, 70, 29, 30, 71, 72, 5, 73, 74, 75, 76, 77, 78, 79, 280, 281, 282, 283, 284, 285, 286, 287, 288, 289, 290, 291, 292, 293] (by decide +kernel) (by decide +kernel)
set_option maxRecDepth 20000 in
theorem gL_law_X2_put : GoodIn wsL_law (wsV RL 17 RX2 yX2_put wsX2_put) := goodIn_app (goodIn_of _ (by decide +kernel)) ggL_law_X2_put
set_option maxRecDepth 20000 in
theorem ggL_law_X1_sort : GoodIn wsL_law wsX1_sort := goodIn_r _ [83, 14, 45, 46, 2, 47, 48, 49, 50, 51, 52, 53, 84, 85, 86, 275, 276, 277, 278, 279] (by decide +kernel) (by decide +kernel)
set_option maxRecDepth 20000 in
theorem gL_law_X1_sort : GoodIn wsL_law (wsV RL 18 RX1 yX1_sort wsX1_sort) := goodIn_app (goodIn_of _ (by decide +kernel)) ggL_law_X1_sort
set_option maxRecDepth 20000 in
theorem ggL_law_X2_sort : GoodIn wsL_law wsX2_sort := goodIn_r _ [90, 29, 71, 72, 5, 73, 74, 75, 76, 77, 78, 79, 280, 281, 282, 283, 284, 285, 286, 287, 288, 289, 290, 291, 292, 293] (by decide +kernel) (by decide +kernel)
set_option maxRecDepth 20000 in
theorem gL_law_X2_sort : GoodIn wsL_law (wsV RL 22 RX2 yX2_sort wsX2_sort) := goodIn_app (goodIn_of _ (by decide +kernel)) ggL_law_X2_sort
set_option maxRecDepth 20000 in
theorem ggL_law_X1_quarters : GoodIn wsL_law wsX1_quarters := goodIn_r _ [94, 14, 45, 46, 2, 47, 48, 49, 50, 51, 52, 53, 84, 85, 86, 275, 276, 277, 278, 279] (by decide +kernel) (by decide +kernel)
set_option maxRecDepth 20000 in
theorem gL_law_X1_quarters : GoodIn wsL_law (wsV RL 23 RX1 yX1_quarters wsX1_quarters) := goodIn_app (goodIn_of _ (by decide +kernel)) ggL_law_X1_quarters
set_option maxRecDepth 20000 in
theorem ggL_law_X2_quarters : GoodIn wsL_law wsX2_quarters := goodIn_r _ [98, 30, 71, 72, 5, 73, 74, 75, 76, 77, 78, 79, 280, 281, 282, 283, 284, 285, 286, 287, 288, 289, 290, 291, 292, 293] (by decide +kernel) (by decide +kernel)
set_option maxRecDepth 20000 in
theorem gL_law_X2_quarters : GoodIn wsL_law (wsV RL 26 RX2 yX2_quarters wsX2_quarters) := goodIn_app (goodIn_of _ (by decide +kernel)) ggL_law_X2_quarters
set_option maxRecDepth 20000 in
theorem ggL_law_X1_holds : GoodIn wsL_law wsX1_holds := goodIn_r _ [102, 18, 103, 104, 2, 105, 45, 46, 47, 106, 107, 108, 48, 49, 50, 51, 52, 53, 109, 110, 111, 112, 14, 113, 114, 115, 20, 116, 117, 118, 62, 119, 120, 121, 275, 276, 277, 278, 279] (by decide +kernel) (by decide +kernel)
set_option maxRecDepth 20000 in
theorem gL_law_X1_holds : GoodIn wsL_law (wsV RL 27 RX1 yX1_holds wsX1_holds) := goodIn_app (goodIn_of _ (by decide +kernel)) ggL_law_X1_holds
set_option maxRecDepth 20000 in
theorem ggL_law_X2_holds : GoodIn wsL_law wsX2_holds := goodIn_r _ [125, 31, 126, 127, 5, 128, 71, 72, 73, 74, 75, 76, 129, 130, 131, 132, 29, 30, 77, 78, 79, 133, 134, 135, 136, 137, 138, 139, 140, 280, 281, 282, 283, 284, 285, 286, 287, 288, 289, 290, 291, 292, 293] (by decide +kernel) (by decide +kernel)
set_option maxRecDepth 20000 in
theorem gL_law_X2_holds : GoodIn wsL_law (wsV RL 31 RX2 yX2_holds wsX2_holds) := goodIn_app (goodIn_of _ (by decide +kernel)) ggL_law_X2_holds
set_option maxRecDepth 20000 in
theorem ggL_law_X1_denies : GoodIn wsL_law wsX1_denies := goodIn_r _ [144, 17, 103, 104, 2, 105, 45, 46, 47, 106, 107, 108, 48, 49, 50, 51, 52, 53, 109, 110, 111, 112, 14, 113, 114, 115, 20, 116, 117, 118, 62, 119, 120, 121, 275, 276, 277, 278, 279] (by decide +kernel) (by decide +kernel)
set_option maxRecDepth 20000 in
theorem gL_law_X1_denies : GoodIn wsL_law (wsV RL 32 RX1 yX1_denies wsX1_denies) := goodIn_app (goodIn_of _ (by decide +kernel)) ggL_law_X1_denies
set_option maxRecDepth 20000 in
theorem ggL_law_X2_denies : GoodIn wsL_law wsX2_denies := goodIn_r _ [148, 149, 126, 127, 5, 128, 71, 72, 73, 74, 75, 76, 129, 130, 131, 132, 29, 30, 77, 78, 79, 133, 134, 135, 136, 137, 138, 139, 140, 280, 281, 282, 283, 284, 285, 286, 287, 288, 289, 290, 291, 292, 293] (by decide +kernel) (by decide +kernel)
set_option maxRecDepth 20000 in
theorem gL_law_X2_denies : GoodIn wsL_law (wsV RL 35 RX2 yX2_denies wsX2_denies) := goodIn_app (goodIn_of _ (by decide +kernel)) ggL_law_X2_denies
set_option maxRecDepth 20000 in
theorem ggL_law_X1_pick : GoodIn wsL_law wsX1_pick := goodIn_r _ [153, 103, 104, 2, 105, 45, 46, 47, 106, 107, 108, 48, 49, 50, 51, 52, 53, 109, 110, 111, 112, 14, 113, 114, 115, 20, 116, 117, 118, 62, 119, 120, 121, 275, 276, 277, 278, 279] (by decide +kernel) (by decide +kernel)
set_option maxRecDepth 20000 in
theorem gL_law_X1_pick : GoodIn wsL_law (wsV RL 36 RX1 yX1_pick wsX1_pick) := goodIn_app (goodIn_of _ (by decide +kernel)) ggL_law_X1_pick
set_option maxRecDepth 20000 in
theorem ggL_law_X2_pick : GoodIn wsL_law wsX2_pick := goodIn_r _ [157, 126, 127, 5, 128, 71, 72, 73, 74, 75, 76, 129, 130, 131, 132, 29, 30, 77, 78, 79, 133, 134, 135, 136, 137, 138, 139, 140, 280, 281, 282, 283, 284, 285, 286, 287, 288, 289, 290, 291, 292, 293] (by decide +kernel) (by decide +kernel)
set_option maxRecDepth 20000 in
theorem gL_law_X2_pick : GoodIn wsL_law (wsV RL 39 RX2 yX2_pick wsX2_pick) := goodIn_app (goodIn_of _ (by decide +kernel)) ggL_law_X2_pick
set_option maxRecDepth 20000 in
theorem ggL_law_X1_climb : GoodIn wsL_law wsX1_climb := goodIn_r _ [161, 103, 104, 2, 105, 45, 46, 47, 106, 107, 108, 51, 52, 53, 109, 110, 111, 112, 14, 113, 114, 115, 20, 116, 117, 118, 62, 119, 120, 121, 275, 276, 277, 278, 279] (by decide +kernel) (by decide +kernel)
set_option maxRecDepth 20000 in
theorem gL_law_X1_climb : GoodIn wsL_law (wsV RL 40 RX1 yX1_climb wsX1_climb) := goodIn_app (goodIn_of _ (by decide +kernel)) ggL_law_X1_climb
set_option maxRecDepth 20000 in
theorem ggL_law_X2_climb : GoodIn wsL_law wsX2_climb := goodIn_r _ [165, 126, 127, 5, 128, 71, 72, 73, 166, 167, 168, 129, 130, 131, 132, 29, 30, 77, 78, 79, 133, 134, 135, 136, 137, 138, 139, 140, 280, 281, 282, 283, 284, 285, 286, 287, 288, 289, 290, 291, 292, 293] (by decide +kernel) (by decide +kernel)
set_option maxRecDepth 20000 in
theorem gL_law_X2_climb : GoodIn wsL_law (wsV RL 44 RX2 yX2_climb wsX2_climb) := goodIn_app (goodIn_of _ (by decide +kernel)) ggL_law_X2_climb
set_option maxRecDepth 20000 in
theorem ggL_law_X1_first : GoodIn wsL_law wsX1_first := goodIn_r _ [172, 103, 104, 2, 105, 45, 46, 47, 106, 107, 108, 51, 52, 53, 109, 110, 111, 112, 14, 113, 114, 115, 20, 116, 117, 118, 62, 119, 120, 121, 275, 276, 277, 278, 279] (by decide +kernel) (by decide +kernel)
set_option maxRecDepth 20000 in
theorem gL_law_X1_first : GoodIn wsL_law (wsV RL 45 RX1 yX1_first wsX1_first) := goodIn_app (goodIn_of _ (by decide +kernel)) ggL_law_X1_first
set_option maxRecDepth 20000 in
theorem ggL_law_X2_first : GoodIn wsL_law wsX2_first := goodIn_r _ [176, 126, 127, 5, 128, 71, 72, 73, 166, 167, 168, 129, 130, 131, 132, 29, 30, 77, 78, 79, 133, 134, 135, 136, 137, 138, 139, 140, 280, 281, 282, 283, 284, 285, 286, 287, 288, 289, 290, 291, 292, 293] (by decide +kernel) (by decide +kernel)
set_option maxRecDepth 20000 in
theorem gL_law_X2_first : GoodIn wsL_law (wsV RL 49 RX2 yX2_first wsX2_first) := goodIn_app (goodIn_of _ (by decide +kernel)) ggL_law_X2_first
set_option maxRecDepth 20000 in
theorem ggL_law_X1_best : GoodIn wsL_law wsX1_best := goodIn_r _ [180, 103, 104, 2, 105, 45, 46, 47, 106, 107, 108, 109, 110, 111, 112, 14, 113, 114, 115, 20, 116, 117, 118, 62, 119, 120, 121, 275, 276, 277, 278, 279] (by decide +kernel) (by decide +kernel)
set_option maxRecDepth 20000 in
theorem gL_law_X1_best : GoodIn wsL_law (wsV RL 50 RX1 yX1_best wsX1_best) := goodIn_app (goodIn_of _ (by decide +kernel)) ggL_law_X1_best
set_option maxRecDepth 20000 in
theorem ggL_law_X2_best : GoodIn wsL_law wsX2_best := goodIn_r _ [184, 126, 127, 5, 128, 71, 72, 73, 129, 130, 131, 132, 29, 30, 77, 78, 79, 133, 134, 135, 136, 137, 138, 139, 140, 280, 281, 282, 283, 284, 285, 286, 287, 288, 289, 290, 291, 292, 293] (by decide +kernel) (by decide +kernel)
set_option maxRecDepth 20000 in
theorem gL_law_X2_best : GoodIn wsL_law (wsV RL 54 RX2 yX2_best wsX2_best) := goodIn_app (goodIn_of _ (by decide +kernel)) ggL_law_X2_best
set_option maxRecDepth 20000 in
theorem ggL_law_X1_pass : GoodIn wsL_law wsX1_pass := goodIn_r _ [188, 19, 103, 104, 2, 105, 45, 46, 47, 106, 107, 108, 51, 52, 53, 109, 110, 111, 112, 14, 113, 114, 115, 20, 116, 117, 118, 62, 119, 120, 121, 189, 190, 191, 192, 275, 276, 277, 278, 279] (by decide +kernel) (by decide +kernel)
set_option maxRecDepth 20000 in
theorem gL_law_X1_pass : GoodIn wsL_law (wsV RL 55 RX1 yX1_pass wsX1_pass) := goodIn_app (goodIn_of _ (by decide +kernel)) ggL_law_X1_pass
set_option maxRecDepth 20000 in
theorem ggL_law_X2_pass : GoodIn wsL_law wsX2_pass := goodIn_r _ [196, 29, 30, 197, 126, 127, 5, 128, 71, 72, 73, 166, 167, 168, 129, 130, 131, 132, 77, 78, 79, 133, 134, 135, 136, 137, 138, 139, 140, 280, 281, 282, 283, 284, 285, 286, 287, 288, 289, 290, 291, 292, 293] (by decide +kernel) (by decide +kernel)
set_option maxRecDepth 20000 in
theorem gL_law_X2_pass : GoodIn wsL_law (wsV RL 58 RX2 yX2_pass wsX2_pass) := goodIn_app (goodIn_of _ (by decide +kernel)) ggL_law_X2_pass
set_option maxRecDepth 20000 in
theorem ggL_law_X1_within : GoodIn wsL_law wsX1_within := goodIn_r _ [201, 45, 46, 2, 47, 51, 52, 53, 48, 49, 50, 109, 110, 111, 112, 14, 113, 114, 115, 20, 116, 117, 118, 62, 119, 120, 121, 275, 276, 277, 278, 279] (by decide +kernel) (by decide +kernel)
set_option maxRecDepth 20000 in
theorem gL_law_X1_within : GoodIn wsL_law (wsV RL 59 RX1 yX1_within wsX1_within) := goodIn_app (goodIn_of _ (by decide +kernel)) ggL_law_X1_within
set_option maxRecDepth 20000 in
theorem ggL_law_X2_within : GoodIn wsL_law wsX2_within := goodIn_r _ [205, 29, 71, 72, 5, 73, 166, 167, 168, 74, 75, 76, 129, 130, 131, 132, 30, 77, 78, 79, 133, 134, 135, 136, 137, 138, 139, 140, 280, 281, 282, 283, 284, 285, 286, 287, 288, 289, 290, 291, 292, 293] (by decide +kernel) (by decide +kernel)
set_option maxRecDepth 20000 in
theorem gL_law_X2_within : GoodIn wsL_law (wsV RL 62 RX2 yX2_within wsX2_within) := goodIn_app (goodIn_of _ (by decide +kernel)) ggL_law_X2_within
set_option maxRecDepth 20000 in
theorem ggL_law_X1_guard : GoodIn wsL_law wsX1_guard := goodIn_r _ [209, 16, 15, 210, 211, 14, 212, 213, 2, 214, 103, 104, 105, 45, 46, 47, 106, 107, 108, 51, 52, 53, 215, 216, 217, 218, 219, 220, 10, 11, 221, 222, 223, 224, 225, 226, 275, 276, 277, 278, 279, 294, 295, 296, 297, 298, 299] (by decide +kernel) (by decide +kernel)
set_option maxRecDepth 20000 in
theorem gL_law_X1_guard : GoodIn wsL_law (wsV RL 63 RX1 yX1_guard wsX1_guard) := goodIn_app (goodIn_of _ (by decide +kernel)) ggL_law_X1_guard
set_option maxRecDepth 20000 in
theorem ggL_law_X2_guard : GoodIn wsL_law wsX2_guard := goodIn_r _ [230, 231, 33, 34, 35, 36, 37, 29, 38, 30, 39, 40, 71, 72, 5, 73, 126, 127, 128, 166, 167, 168, 77, 78, 79, 280, 281, 282, 283, 284, 285, 286, 287, 288, 289, 290, 291, 292, 293] (by decide +kernel) (by decide +kernel)
set_option maxRecDepth 20000 in
theorem gL_law_X2_guard : GoodIn wsL_law (wsV RL 67 RX2 yX2_guard wsX2_guard) := goodIn_app (goodIn_of _ (by decide +kernel)) ggL_law_X2_guard
set_option maxRecDepth 20000 in
theorem ggL_law_X1_look : GoodIn wsL_law wsX1_look := goodIn_r _ [235, 16, 236, 237, 238, 2, 239, 14, 113, 114, 115, 20, 116, 117, 118, 62, 119, 120, 121, 240, 241, 242, 275, 276, 277, 278, 279, 294, 295, 296, 297, 298, 299] (by decide +kernel) (by decide +kernel)
set_option maxRecDepth 20000 in
theorem gL_law_X1_look : GoodIn wsL_law (wsV RL 68 RX1 yX1_look wsX1_look) := goodIn_app (goodIn_of _ (by decide +kernel)) ggL_law_X1_look
set_option maxRecDepth 20000 in
theorem ggL_law_X2_look : GoodIn wsL_law wsX2_look := goodIn_r _ [246, 33, 34, 35, 29, 30, 37, 38, 36, 39, 40, 77, 78, 5, 79, 133, 134, 135, 136, 137, 138, 139, 140, 280, 281, 282, 283, 284, 285, 286, 287, 288, 289, 290, 291, 292, 293] (by decide +kernel) (by decide +kernel)
set_option maxRecDepth 20000 in
theorem gL_law_X2_look : GoodIn wsL_law (wsV RL 72 RX2 yX2_look wsX2_look) := goodIn_app (goodIn_of _ (by decide +kernel)) ggL_law_X2_look
set_option maxRecDepth 20000 in
theorem ggL_law_X1_rings : GoodIn wsL_law wsX1_rings := goodIn_r _ [250, 16, 212, 213, 2, 214, 275, 276, 277, 278, 279, 294, 295, 296, 297, 298, 299] (by decide +kernel) (by decide +kernel)
set_option maxRecDepth 20000 in
theorem gL_law_X1_rings : GoodIn wsL_law (wsV RL 73 RX1 yX1_rings wsX1_rings) := goodIn_app (goodIn_of _ (by decide +kernel)) ggL_law_X1_rings
set_option maxRecDepth 20000 in
theorem ggL_law_X2_rings : GoodIn wsL_law wsX2_rings := goodIn_r _ [254, 33, 40, 71, 72, 5, 73, 280, 281, 282, 283, 284, 285, 286, 287, 288, 289, 290, 291, 292, 293] (by decide +kernel) (by decide +kernel)
set_option maxRecDepth 20000 in
theorem gL_law_X2_rings : GoodIn wsL_law (wsV RL 77 RX2 yX2_rings wsX2_rings) := goodIn_app (goodIn_of _ (by decide +kernel)) ggL_law_X2_rings
set_option maxRecDepth 20000 in
theorem ggL_law_X1_strike : GoodIn wsL_law wsX1_strike := goodIn_r _ [258, 14, 51, 52, 2, 53, 275, 276, 277, 278, 279] (by decide +kernel) (by decide +kernel)
set_option maxRecDepth 20000 in
theorem gL_law_X1_strike : GoodIn wsL_law (wsV RL 78 RX1 yX1_strike wsX1_strike) := goodIn_app (goodIn_of _ (by decide +kernel)) ggL_law_X1_strike
set_option maxRecDepth 20000 in
theorem ggL_law_X2_strike : GoodIn wsL_law wsX2_strike := goodIn_r _ [262, 29, 30, 166, 167, 5, 168, 71, 72, 73, 77, 78, 79, 280, 281, 282, 283, 284, 285, 286, 287, 288, 289, 290, 291, 292, 293] (by decide +kernel) (by decide +kernel)
set_option maxRecDepth 20000 in
theorem gL_law_X2_strike : GoodIn wsL_law (wsV RL 82 RX2 yX2_strike wsX2_strike) := goodIn_app (goodIn_of _ (by decide +kernel)) ggL_law_X2_strike
set_option maxRecDepth 20000 in
theorem ggL_law_X1_count : GoodIn wsL_law wsX1_count := goodIn_r _ [266, 17, 18, 19, 267, 268, 269, 2, 270, 16, 275, 276, 277, 278, 279] (by decide +kernel) (by decide +kernel)
set_option maxRecDepth 20000 in
theorem gL_law_X1_count : GoodIn wsL_law (wsV RL 83 RX1 yX1_count wsX1_count) := goodIn_app (goodIn_of _ (by decide +kernel)) ggL_law_X1_count
set_option maxRecDepth 20000 in
theorem ggL_law_X2_count : GoodIn wsL_law wsX2_count := goodIn_r _ [274, 149, 31, 231, 197, 280, 281, 282, 283, 284, 285, 286, 287, 288, 289, 290, 291, 292, 293] (by decide +kernel) (by decide +kernel)
set_option maxRecDepth 20000 in
theorem gL_law_X2_count : GoodIn wsL_law (wsV RL 86 RX2 yX2_count wsX2_count) := goodIn_app (goodIn_of _ (by decide +kernel)) ggL_law_X2_count
theorem dL_law_0 : decode cL_law 0 = .ok (.new 7, 3) := by decide +kernel
theorem dL_law_3 : decode cL_law 3 = .ok (.dup, 1) := by decide +kernel
theorem dL_law_4 : decode cL_law 4 = .ok (.invokespecial 9, 3) := by decide +kernel
theorem dL_law_7 : decode cL_law 7 = .ok (.astore_n 1, 1) := by decide +kernel
theorem dL_law_8 : decode cL_law 8 = .ok (.new 10, 3) := by decide +kernel
theorem dL_law_11 : decode cL_law 11 = .ok (.dup, 1) := by decide +kernel
theorem dL_law_12 : decode cL_law 12 = .ok (.invokespecial 12, 3) := by decide +kernel
theorem dL_law_15 : decode cL_law 15 = .ok (.astore_n 2, 1) := by decide +kernel
theorem dL_law_16 : decode cL_law 16 = .ok (.iconst 0, 1) := by decide +kernel
theorem dL_law_17 : decode cL_law 17 = .ok (.istore_n 3, 1) := by decide +kernel
theorem dL_law_18 : decode cL_law 18 = .ok (.iload_n 3, 1) := by decide +kernel
theorem dL_law_19 : decode cL_law 19 = .ok (.aload_n 0, 1) := by decide +kernel
theorem dL_law_20 : decode cL_law 20 = .ok (.arraylength, 1) := by decide +kernel
theorem dL_law_21 : decode cL_law 21 = .ok (.bipush 6, 2) := by decide +kernel
theorem dL_law_23 : decode cL_law 23 = .ok (.isub, 1) := by decide +kernel
theorem dL_law_24 : decode cL_law 24 = .ok (.if_icmp .gt 794, 3) := by decide +kernel
theorem dL_law_27 : decode cL_law 27 = .ok (.aload_n 0, 1) := by decide +kernel
theorem dL_law_28 : decode cL_law 28 = .ok (.iload_n 3, 1) := by decide +kernel
theorem dL_law_29 : decode cL_law 29 = .ok (.iaload, 1) := by decide +kernel
theorem dL_law_30 : decode cL_law 30 = .ok (.bipush 15, 2) := by decide +kernel
theorem dL_law_32 : decode cL_law 32 = .ok (.iand, 1) := by decide +kernel
theorem dL_law_33 : decode cL_law 33 = .ok (.tableswitch 779 0 15 #[79, 132, 165, 198, 251, 304, 357, 400, 469, 528, 581, 634, 697, 710, 733, 756], 79) := by decide +kernel
theorem dL_law_112 : decode cL_law 112 = .ok (.aload_n 1, 1) := by decide +kernel
theorem dL_law_113 : decode cL_law 113 = .ok (.aload_n 0, 1) := by decide +kernel
theorem dL_law_114 : decode cL_law 114 = .ok (.iload_n 3, 1) := by decide +kernel
theorem dL_law_115 : decode cL_law 115 = .ok (.iconst 1, 1) := by decide +kernel
theorem dL_law_116 : decode cL_law 116 = .ok (.iadd, 1) := by decide +kernel
theorem dL_law_117 : decode cL_law 117 = .ok (.iaload, 1) := by decide +kernel
theorem dL_law_118 : decode cL_law 118 = .ok (.aload_n 0, 1) := by decide +kernel
theorem dL_law_119 : decode cL_law 119 = .ok (.iload_n 3, 1) := by decide +kernel
theorem dL_law_120 : decode cL_law 120 = .ok (.iconst 2, 1) := by decide +kernel
theorem dL_law_121 : decode cL_law 121 = .ok (.iadd, 1) := by decide +kernel
theorem dL_law_122 : decode cL_law 122 = .ok (.iaload, 1) := by decide +kernel
theorem dL_law_123 : decode cL_law 123 = .ok (.aload_n 0, 1) := by decide +kernel
theorem dL_law_124 : decode cL_law 124 = .ok (.iload_n 3, 1) := by decide +kernel
theorem dL_law_125 : decode cL_law 125 = .ok (.iconst 3, 1) := by decide +kernel
theorem dL_law_126 : decode cL_law 126 = .ok (.iadd, 1) := by decide +kernel
theorem dL_law_127 : decode cL_law 127 = .ok (.iaload, 1) := by decide +kernel
theorem dL_law_128 : decode cL_law 128 = .ok (.aload_n 0, 1) := by decide +kernel
theorem dL_law_129 : decode cL_law 129 = .ok (.iload_n 3, 1) := by decide +kernel
theorem dL_law_130 : decode cL_law 130 = .ok (.iconst 4, 1) := by decide +kernel
theorem dL_law_131 : decode cL_law 131 = .ok (.iadd, 1) := by decide +kernel
theorem dL_law_132 : decode cL_law 132 = .ok (.iaload, 1) := by decide +kernel
theorem dL_law_133 : decode cL_law 133 = .ok (.invokevirtual 13, 3) := by decide +kernel
theorem dL_law_136 : decode cL_law 136 = .ok (.aload_n 2, 1) := by decide +kernel
theorem dL_law_137 : decode cL_law 137 = .ok (.aload_n 0, 1) := by decide +kernel
theorem dL_law_138 : decode cL_law 138 = .ok (.iload_n 3, 1) := by decide +kernel
theorem dL_law_139 : decode cL_law 139 = .ok (.iconst 1, 1) := by decide +kernel
theorem dL_law_140 : decode cL_law 140 = .ok (.iadd, 1) := by decide +kernel
theorem dL_law_141 : decode cL_law 141 = .ok (.iaload, 1) := by decide +kernel
theorem dL_law_142 : decode cL_law 142 = .ok (.aload_n 0, 1) := by decide +kernel
theorem dL_law_143 : decode cL_law 143 = .ok (.iload_n 3, 1) := by decide +kernel
theorem dL_law_144 : decode cL_law 144 = .ok (.iconst 2, 1) := by decide +kernel
theorem dL_law_145 : decode cL_law 145 = .ok (.iadd, 1) := by decide +kernel
theorem dL_law_146 : decode cL_law 146 = .ok (.iaload, 1) := by decide +kernel
theorem dL_law_147 : decode cL_law 147 = .ok (.aload_n 0, 1) := by decide +kernel
theorem dL_law_148 : decode cL_law 148 = .ok (.iload_n 3, 1) := by decide +kernel
theorem dL_law_149 : decode cL_law 149 = .ok (.iconst 3, 1) := by decide +kernel
theorem dL_law_150 : decode cL_law 150 = .ok (.iadd, 1) := by decide +kernel
theorem dL_law_151 : decode cL_law 151 = .ok (.iaload, 1) := by decide +kernel
theorem dL_law_152 : decode cL_law 152 = .ok (.aload_n 0, 1) := by decide +kernel
theorem dL_law_153 : decode cL_law 153 = .ok (.iload_n 3, 1) := by decide +kernel
theorem dL_law_154 : decode cL_law 154 = .ok (.iconst 4, 1) := by decide +kernel
theorem dL_law_155 : decode cL_law 155 = .ok (.iadd, 1) := by decide +kernel
theorem dL_law_156 : decode cL_law 156 = .ok (.iaload, 1) := by decide +kernel
theorem dL_law_157 : decode cL_law 157 = .ok (.invokevirtual 17, 3) := by decide +kernel
theorem dL_law_160 : decode cL_law 160 = .ok (.if_icmp .eq 652, 3) := by decide +kernel
theorem dL_law_163 : decode cL_law 163 = .ok (.iconst 0, 1) := by decide +kernel
theorem dL_law_164 : decode cL_law 164 = .ok (.ireturn, 1) := by decide +kernel
theorem dL_law_165 : decode cL_law 165 = .ok (.aload_n 1, 1) := by decide +kernel
theorem dL_law_166 : decode cL_law 166 = .ok (.aload_n 0, 1) := by decide +kernel
theorem dL_law_167 : decode cL_law 167 = .ok (.iload_n 3, 1) := by decide +kernel
theorem dL_law_168 : decode cL_law 168 = .ok (.iconst 1, 1) := by decide +kernel
theorem dL_law_169 : decode cL_law 169 = .ok (.iadd, 1) := by decide +kernel
theorem dL_law_170 : decode cL_law 170 = .ok (.iaload, 1) := by decide +kernel
theorem dL_law_171 : decode cL_law 171 = .ok (.aload_n 0, 1) := by decide +kernel
theorem dL_law_172 : decode cL_law 172 = .ok (.iload_n 3, 1) := by decide +kernel
theorem dL_law_173 : decode cL_law 173 = .ok (.iconst 2, 1) := by decide +kernel
theorem dL_law_174 : decode cL_law 174 = .ok (.iadd, 1) := by decide +kernel
theorem dL_law_175 : decode cL_law 175 = .ok (.iaload, 1) := by decide +kernel
theorem dL_law_176 : decode cL_law 176 = .ok (.invokevirtual 18, 3) := by decide +kernel
theorem dL_law_179 : decode cL_law 179 = .ok (.aload_n 2, 1) := by decide +kernel
theorem dL_law_180 : decode cL_law 180 = .ok (.aload_n 0, 1) := by decide +kernel
theorem dL_law_181 : decode cL_law 181 = .ok (.iload_n 3, 1) := by decide +kernel
theorem dL_law_182 : decode cL_law 182 = .ok (.iconst 1, 1) := by decide +kernel
theorem dL_law_183 : decode cL_law 183 = .ok (.iadd, 1) := by decide +kernel
theorem dL_law_184 : decode cL_law 184 = .ok (.iaload, 1) := by decide +kernel
theorem dL_law_185 : decode cL_law 185 = .ok (.aload_n 0, 1) := by decide +kernel
theorem dL_law_186 : decode cL_law 186 = .ok (.iload_n 3, 1) := by decide +kernel
theorem dL_law_187 : decode cL_law 187 = .ok (.iconst 2, 1) := by decide +kernel
theorem dL_law_188 : decode cL_law 188 = .ok (.iadd, 1) := by decide +kernel
theorem dL_law_189 : decode cL_law 189 = .ok (.iaload, 1) := by decide +kernel
theorem dL_law_190 : decode cL_law 190 = .ok (.invokevirtual 22, 3) := by decide +kernel
theorem dL_law_193 : decode cL_law 193 = .ok (.if_icmp .eq 619, 3) := by decide +kernel
theorem dL_law_196 : decode cL_law 196 = .ok (.iconst 0, 1) := by decide +kernel
theorem dL_law_197 : decode cL_law 197 = .ok (.ireturn, 1) := by decide +kernel
theorem dL_law_198 : decode cL_law 198 = .ok (.aload_n 1, 1) := by decide +kernel
theorem dL_law_199 : decode cL_law 199 = .ok (.aload_n 0, 1) := by decide +kernel
theorem dL_law_200 : decode cL_law 200 = .ok (.iload_n 3, 1) := by decide +kernel
theorem dL_law_201 : decode cL_law 201 = .ok (.iconst 1, 1) := by decide +kernel
theorem dL_law_202 : decode cL_law 202 = .ok (.iadd, 1) := by decide +kernel
theorem dL_law_203 : decode cL_law 203 = .ok (.iaload, 1) := by decide +kernel
theorem dL_law_204 : decode cL_law 204 = .ok (.aload_n 0, 1) := by decide +kernel
theorem dL_law_205 : decode cL_law 205 = .ok (.iload_n 3, 1) := by decide +kernel
theorem dL_law_206 : decode cL_law 206 = .ok (.iconst 2, 1) := by decide +kernel
theorem dL_law_207 : decode cL_law 207 = .ok (.iadd, 1) := by decide +kernel
theorem dL_law_208 : decode cL_law 208 = .ok (.iaload, 1) := by decide +kernel
theorem dL_law_209 : decode cL_law 209 = .ok (.invokevirtual 23, 3) := by decide +kernel
theorem dL_law_212 : decode cL_law 212 = .ok (.aload_n 2, 1) := by decide +kernel
theorem dL_law_213 : decode cL_law 213 = .ok (.aload_n 0, 1) := by decide +kernel
theorem dL_law_214 : decode cL_law 214 = .ok (.iload_n 3, 1) := by decide +kernel
theorem dL_law_215 : decode cL_law 215 = .ok (.iconst 1, 1) := by decide +kernel
theorem dL_law_216 : decode cL_law 216 = .ok (.iadd, 1) := by decide +kernel
theorem dL_law_217 : decode cL_law 217 = .ok (.iaload, 1) := by decide +kernel
theorem dL_law_218 : decode cL_law 218 = .ok (.aload_n 0, 1) := by decide +kernel
theorem dL_law_219 : decode cL_law 219 = .ok (.iload_n 3, 1) := by decide +kernel
theorem dL_law_220 : decode cL_law 220 = .ok (.iconst 2, 1) := by decide +kernel
theorem dL_law_221 : decode cL_law 221 = .ok (.iadd, 1) := by decide +kernel
theorem dL_law_222 : decode cL_law 222 = .ok (.iaload, 1) := by decide +kernel
theorem dL_law_223 : decode cL_law 223 = .ok (.invokevirtual 26, 3) := by decide +kernel
theorem dL_law_226 : decode cL_law 226 = .ok (.if_icmp .eq 586, 3) := by decide +kernel
theorem dL_law_229 : decode cL_law 229 = .ok (.iconst 0, 1) := by decide +kernel
theorem dL_law_230 : decode cL_law 230 = .ok (.ireturn, 1) := by decide +kernel
theorem dL_law_231 : decode cL_law 231 = .ok (.aload_n 1, 1) := by decide +kernel
theorem dL_law_232 : decode cL_law 232 = .ok (.aload_n 0, 1) := by decide +kernel
theorem dL_law_233 : decode cL_law 233 = .ok (.iload_n 3, 1) := by decide +kernel
theorem dL_law_234 : decode cL_law 234 = .ok (.iconst 1, 1) := by decide +kernel
theorem dL_law_235 : decode cL_law 235 = .ok (.iadd, 1) := by decide +kernel
theorem dL_law_236 : decode cL_law 236 = .ok (.iaload, 1) := by decide +kernel
theorem dL_law_237 : decode cL_law 237 = .ok (.aload_n 0, 1) := by decide +kernel
theorem dL_law_238 : decode cL_law 238 = .ok (.iload_n 3, 1) := by decide +kernel
theorem dL_law_239 : decode cL_law 239 = .ok (.iconst 2, 1) := by decide +kernel
theorem dL_law_240 : decode cL_law 240 = .ok (.iadd, 1) := by decide +kernel
theorem dL_law_241 : decode cL_law 241 = .ok (.iaload, 1) := by decide +kernel
theorem dL_law_242 : decode cL_law 242 = .ok (.aload_n 0, 1) := by decide +kernel
theorem dL_law_243 : decode cL_law 243 = .ok (.iload_n 3, 1) := by decide +kernel
theorem dL_law_244 : decode cL_law 244 = .ok (.iconst 3, 1) := by decide +kernel
theorem dL_law_245 : decode cL_law 245 = .ok (.iadd, 1) := by decide +kernel
theorem dL_law_246 : decode cL_law 246 = .ok (.iaload, 1) := by decide +kernel
theorem dL_law_247 : decode cL_law 247 = .ok (.aload_n 0, 1) := by decide +kernel
theorem dL_law_248 : decode cL_law 248 = .ok (.iload_n 3, 1) := by decide +kernel
theorem dL_law_249 : decode cL_law 249 = .ok (.iconst 4, 1) := by decide +kernel
theorem dL_law_250 : decode cL_law 250 = .ok (.iadd, 1) := by decide +kernel
theorem dL_law_251 : decode cL_law 251 = .ok (.iaload, 1) := by decide +kernel
theorem dL_law_252 : decode cL_law 252 = .ok (.invokevirtual 27, 3) := by decide +kernel
theorem dL_law_255 : decode cL_law 255 = .ok (.aload_n 2, 1) := by decide +kernel
theorem dL_law_256 : decode cL_law 256 = .ok (.aload_n 0, 1) := by decide +kernel
theorem dL_law_257 : decode cL_law 257 = .ok (.iload_n 3, 1) := by decide +kernel
theorem dL_law_258 : decode cL_law 258 = .ok (.iconst 1, 1) := by decide +kernel
theorem dL_law_259 : decode cL_law 259 = .ok (.iadd, 1) := by decide +kernel
theorem dL_law_260 : decode cL_law 260 = .ok (.iaload, 1) := by decide +kernel
theorem dL_law_261 : decode cL_law 261 = .ok (.aload_n 0, 1) := by decide +kernel
theorem dL_law_262 : decode cL_law 262 = .ok (.iload_n 3, 1) := by decide +kernel
theorem dL_law_263 : decode cL_law 263 = .ok (.iconst 2, 1) := by decide +kernel
theorem dL_law_264 : decode cL_law 264 = .ok (.iadd, 1) := by decide +kernel
theorem dL_law_265 : decode cL_law 265 = .ok (.iaload, 1) := by decide +kernel
theorem dL_law_266 : decode cL_law 266 = .ok (.aload_n 0, 1) := by decide +kernel
theorem dL_law_267 : decode cL_law 267 = .ok (.iload_n 3, 1) := by decide +kernel
theorem dL_law_268 : decode cL_law 268 = .ok (.iconst 3, 1) := by decide +kernel
theorem dL_law_269 : decode cL_law 269 = .ok (.iadd, 1) := by decide +kernel
theorem dL_law_270 : decode cL_law 270 = .ok (.iaload, 1) := by decide +kernel
theorem dL_law_271 : decode cL_law 271 = .ok (.aload_n 0, 1) := by decide +kernel
theorem dL_law_272 : decode cL_law 272 = .ok (.iload_n 3, 1) := by decide +kernel
theorem dL_law_273 : decode cL_law 273 = .ok (.iconst 4, 1) := by decide +kernel
theorem dL_law_274 : decode cL_law 274 = .ok (.iadd, 1) := by decide +kernel
theorem dL_law_275 : decode cL_law 275 = .ok (.iaload, 1) := by decide +kernel
theorem dL_law_276 : decode cL_law 276 = .ok (.invokevirtual 31, 3) := by decide +kernel
theorem dL_law_279 : decode cL_law 279 = .ok (.if_icmp .eq 533, 3) := by decide +kernel
theorem dL_law_282 : decode cL_law 282 = .ok (.iconst 0, 1) := by decide +kernel
theorem dL_law_283 : decode cL_law 283 = .ok (.ireturn, 1) := by decide +kernel
theorem dL_law_284 : decode cL_law 284 = .ok (.aload_n 1, 1) := by decide +kernel
theorem dL_law_285 : decode cL_law 285 = .ok (.aload_n 0, 1) := by decide +kernel
theorem dL_law_286 : decode cL_law 286 = .ok (.iload_n 3, 1) := by decide +kernel
theorem dL_law_287 : decode cL_law 287 = .ok (.iconst 1, 1) := by decide +kernel
theorem dL_law_288 : decode cL_law 288 = .ok (.iadd, 1) := by decide +kernel
theorem dL_law_289 : decode cL_law 289 = .ok (.iaload, 1) := by decide +kernel
theorem dL_law_290 : decode cL_law 290 = .ok (.aload_n 0, 1) := by decide +kernel
theorem dL_law_291 : decode cL_law 291 = .ok (.iload_n 3, 1) := by decide +kernel
theorem dL_law_292 : decode cL_law 292 = .ok (.iconst 2, 1) := by decide +kernel
theorem dL_law_293 : decode cL_law 293 = .ok (.iadd, 1) := by decide +kernel
theorem dL_law_294 : decode cL_law 294 = .ok (.iaload, 1) := by decide +kernel
theorem dL_law_295 : decode cL_law 295 = .ok (.aload_n 0, 1) := by decide +kernel
theorem dL_law_296 : decode cL_law 296 = .ok (.iload_n 3, 1) := by decide +kernel
theorem dL_law_297 : decode cL_law 297 = .ok (.iconst 3, 1) := by decide +kernel
theorem dL_law_298 : decode cL_law 298 = .ok (.iadd, 1) := by decide +kernel
theorem dL_law_299 : decode cL_law 299 = .ok (.iaload, 1) := by decide +kernel
theorem dL_law_300 : decode cL_law 300 = .ok (.aload_n 0, 1) := by decide +kernel
theorem dL_law_301 : decode cL_law 301 = .ok (.iload_n 3, 1) := by decide +kernel
theorem dL_law_302 : decode cL_law 302 = .ok (.iconst 4, 1) := by decide +kernel
theorem dL_law_303 : decode cL_law 303 = .ok (.iadd, 1) := by decide +kernel
theorem dL_law_304 : decode cL_law 304 = .ok (.iaload, 1) := by decide +kernel
theorem dL_law_305 : decode cL_law 305 = .ok (.invokevirtual 32, 3) := by decide +kernel
theorem dL_law_308 : decode cL_law 308 = .ok (.aload_n 2, 1) := by decide +kernel
theorem dL_law_309 : decode cL_law 309 = .ok (.aload_n 0, 1) := by decide +kernel
theorem dL_law_310 : decode cL_law 310 = .ok (.iload_n 3, 1) := by decide +kernel
theorem dL_law_311 : decode cL_law 311 = .ok (.iconst 1, 1) := by decide +kernel
theorem dL_law_312 : decode cL_law 312 = .ok (.iadd, 1) := by decide +kernel
theorem dL_law_313 : decode cL_law 313 = .ok (.iaload, 1) := by decide +kernel
theorem dL_law_314 : decode cL_law 314 = .ok (.aload_n 0, 1) := by decide +kernel
theorem dL_law_315 : decode cL_law 315 = .ok (.iload_n 3, 1) := by decide +kernel
theorem dL_law_316 : decode cL_law 316 = .ok (.iconst 2, 1) := by decide +kernel
theorem dL_law_317 : decode cL_law 317 = .ok (.iadd, 1) := by decide +kernel
theorem dL_law_318 : decode cL_law 318 = .ok (.iaload, 1) := by decide +kernel
theorem dL_law_319 : decode cL_law 319 = .ok (.aload_n 0, 1) := by decide +kernel
theorem dL_law_320 : decode cL_law 320 = .ok (.iload_n 3, 1) := by decide +kernel
theorem dL_law_321 : decode cL_law 321 = .ok (.iconst 3, 1) := by decide +kernel
theorem dL_law_322 : decode cL_law 322 = .ok (.iadd, 1) := by decide +kernel
theorem dL_law_323 : decode cL_law 323 = .ok (.iaload, 1) := by decide +kernel
theorem dL_law_324 : decode cL_law 324 = .ok (.aload_n 0, 1) := by decide +kernel
theorem dL_law_325 : decode cL_law 325 = .ok (.iload_n 3, 1) := by decide +kernel
theorem dL_law_326 : decode cL_law 326 = .ok (.iconst 4, 1) := by decide +kernel
theorem dL_law_327 : decode cL_law 327 = .ok (.iadd, 1) := by decide +kernel
theorem dL_law_328 : decode cL_law 328 = .ok (.iaload, 1) := by decide +kernel
theorem dL_law_329 : decode cL_law 329 = .ok (.invokevirtual 35, 3) := by decide +kernel
theorem dL_law_332 : decode cL_law 332 = .ok (.if_icmp .eq 480, 3) := by decide +kernel
theorem dL_law_335 : decode cL_law 335 = .ok (.iconst 0, 1) := by decide +kernel
theorem dL_law_336 : decode cL_law 336 = .ok (.ireturn, 1) := by decide +kernel
theorem dL_law_337 : decode cL_law 337 = .ok (.aload_n 1, 1) := by decide +kernel
theorem dL_law_338 : decode cL_law 338 = .ok (.aload_n 0, 1) := by decide +kernel
theorem dL_law_339 : decode cL_law 339 = .ok (.iload_n 3, 1) := by decide +kernel
theorem dL_law_340 : decode cL_law 340 = .ok (.iconst 1, 1) := by decide +kernel
theorem dL_law_341 : decode cL_law 341 = .ok (.iadd, 1) := by decide +kernel
theorem dL_law_342 : decode cL_law 342 = .ok (.iaload, 1) := by decide +kernel
theorem dL_law_343 : decode cL_law 343 = .ok (.aload_n 0, 1) := by decide +kernel
theorem dL_law_344 : decode cL_law 344 = .ok (.iload_n 3, 1) := by decide +kernel
theorem dL_law_345 : decode cL_law 345 = .ok (.iconst 2, 1) := by decide +kernel
theorem dL_law_346 : decode cL_law 346 = .ok (.iadd, 1) := by decide +kernel
theorem dL_law_347 : decode cL_law 347 = .ok (.iaload, 1) := by decide +kernel
theorem dL_law_348 : decode cL_law 348 = .ok (.aload_n 0, 1) := by decide +kernel
theorem dL_law_349 : decode cL_law 349 = .ok (.iload_n 3, 1) := by decide +kernel
theorem dL_law_350 : decode cL_law 350 = .ok (.iconst 3, 1) := by decide +kernel
theorem dL_law_351 : decode cL_law 351 = .ok (.iadd, 1) := by decide +kernel
theorem dL_law_352 : decode cL_law 352 = .ok (.iaload, 1) := by decide +kernel
theorem dL_law_353 : decode cL_law 353 = .ok (.aload_n 0, 1) := by decide +kernel
theorem dL_law_354 : decode cL_law 354 = .ok (.iload_n 3, 1) := by decide +kernel
theorem dL_law_355 : decode cL_law 355 = .ok (.iconst 4, 1) := by decide +kernel
theorem dL_law_356 : decode cL_law 356 = .ok (.iadd, 1) := by decide +kernel
theorem dL_law_357 : decode cL_law 357 = .ok (.iaload, 1) := by decide +kernel
theorem dL_law_358 : decode cL_law 358 = .ok (.invokevirtual 36, 3) := by decide +kernel
theorem dL_law_361 : decode cL_law 361 = .ok (.aload_n 2, 1) := by decide +kernel
theorem dL_law_362 : decode cL_law 362 = .ok (.aload_n 0, 1) := by decide +kernel
theorem dL_law_363 : decode cL_law 363 = .ok (.iload_n 3, 1) := by decide +kernel
theorem dL_law_364 : decode cL_law 364 = .ok (.iconst 1, 1) := by decide +kernel
theorem dL_law_365 : decode cL_law 365 = .ok (.iadd, 1) := by decide +kernel
theorem dL_law_366 : decode cL_law 366 = .ok (.iaload, 1) := by decide +kernel
theorem dL_law_367 : decode cL_law 367 = .ok (.aload_n 0, 1) := by decide +kernel
theorem dL_law_368 : decode cL_law 368 = .ok (.iload_n 3, 1) := by decide +kernel
theorem dL_law_369 : decode cL_law 369 = .ok (.iconst 2, 1) := by decide +kernel
theorem dL_law_370 : decode cL_law 370 = .ok (.iadd, 1) := by decide +kernel
theorem dL_law_371 : decode cL_law 371 = .ok (.iaload, 1) := by decide +kernel
theorem dL_law_372 : decode cL_law 372 = .ok (.aload_n 0, 1) := by decide +kernel
theorem dL_law_373 : decode cL_law 373 = .ok (.iload_n 3, 1) := by decide +kernel
theorem dL_law_374 : decode cL_law 374 = .ok (.iconst 3, 1) := by decide +kernel
theorem dL_law_375 : decode cL_law 375 = .ok (.iadd, 1) := by decide +kernel
theorem dL_law_376 : decode cL_law 376 = .ok (.iaload, 1) := by decide +kernel
theorem dL_law_377 : decode cL_law 377 = .ok (.aload_n 0, 1) := by decide +kernel
theorem dL_law_378 : decode cL_law 378 = .ok (.iload_n 3, 1) := by decide +kernel
theorem dL_law_379 : decode cL_law 379 = .ok (.iconst 4, 1) := by decide +kernel
theorem dL_law_380 : decode cL_law 380 = .ok (.iadd, 1) := by decide +kernel
theorem dL_law_381 : decode cL_law 381 = .ok (.iaload, 1) := by decide +kernel
theorem dL_law_382 : decode cL_law 382 = .ok (.invokevirtual 39, 3) := by decide +kernel
theorem dL_law_385 : decode cL_law 385 = .ok (.if_icmp .eq 427, 3) := by decide +kernel
theorem dL_law_388 : decode cL_law 388 = .ok (.iconst 0, 1) := by decide +kernel
theorem dL_law_389 : decode cL_law 389 = .ok (.ireturn, 1) := by decide +kernel
theorem dL_law_390 : decode cL_law 390 = .ok (.aload_n 1, 1) := by decide +kernel
theorem dL_law_391 : decode cL_law 391 = .ok (.aload_n 0, 1) := by decide +kernel
theorem dL_law_392 : decode cL_law 392 = .ok (.iload_n 3, 1) := by decide +kernel
theorem dL_law_393 : decode cL_law 393 = .ok (.iconst 1, 1) := by decide +kernel
theorem dL_law_394 : decode cL_law 394 = .ok (.iadd, 1) := by decide +kernel
theorem dL_law_395 : decode cL_law 395 = .ok (.iaload, 1) := by decide +kernel
theorem dL_law_396 : decode cL_law 396 = .ok (.aload_n 0, 1) := by decide +kernel
theorem dL_law_397 : decode cL_law 397 = .ok (.iload_n 3, 1) := by decide +kernel
theorem dL_law_398 : decode cL_law 398 = .ok (.iconst 2, 1) := by decide +kernel
theorem dL_law_399 : decode cL_law 399 = .ok (.iadd, 1) := by decide +kernel
theorem dL_law_400 : decode cL_law 400 = .ok (.iaload, 1) := by decide +kernel
theorem dL_law_401 : decode cL_law 401 = .ok (.aload_n 0, 1) := by decide +kernel
theorem dL_law_402 : decode cL_law 402 = .ok (.iload_n 3, 1) := by decide +kernel
theorem dL_law_403 : decode cL_law 403 = .ok (.iconst 3, 1) := by decide +kernel
theorem dL_law_404 : decode cL_law 404 = .ok (.iadd, 1) := by decide +kernel
theorem dL_law_405 : decode cL_law 405 = .ok (.iaload, 1) := by decide +kernel
theorem dL_law_406 : decode cL_law 406 = .ok (.invokevirtual 40, 3) := by decide +kernel
theorem dL_law_409 : decode cL_law 409 = .ok (.aload_n 2, 1) := by decide +kernel
theorem dL_law_410 : decode cL_law 410 = .ok (.aload_n 0, 1) := by decide +kernel
theorem dL_law_411 : decode cL_law 411 = .ok (.iload_n 3, 1) := by decide +kernel
theorem dL_law_412 : decode cL_law 412 = .ok (.iconst 1, 1) := by decide +kernel
theorem dL_law_413 : decode cL_law 413 = .ok (.iadd, 1) := by decide +kernel
theorem dL_law_414 : decode cL_law 414 = .ok (.iaload, 1) := by decide +kernel
theorem dL_law_415 : decode cL_law 415 = .ok (.aload_n 0, 1) := by decide +kernel
theorem dL_law_416 : decode cL_law 416 = .ok (.iload_n 3, 1) := by decide +kernel
theorem dL_law_417 : decode cL_law 417 = .ok (.iconst 2, 1) := by decide +kernel
theorem dL_law_418 : decode cL_law 418 = .ok (.iadd, 1) := by decide +kernel
theorem dL_law_419 : decode cL_law 419 = .ok (.iaload, 1) := by decide +kernel
theorem dL_law_420 : decode cL_law 420 = .ok (.aload_n 0, 1) := by decide +kernel
theorem dL_law_421 : decode cL_law 421 = .ok (.iload_n 3, 1) := by decide +kernel
theorem dL_law_422 : decode cL_law 422 = .ok (.iconst 3, 1) := by decide +kernel
theorem dL_law_423 : decode cL_law 423 = .ok (.iadd, 1) := by decide +kernel
theorem dL_law_424 : decode cL_law 424 = .ok (.iaload, 1) := by decide +kernel
theorem dL_law_425 : decode cL_law 425 = .ok (.invokevirtual 44, 3) := by decide +kernel
theorem dL_law_428 : decode cL_law 428 = .ok (.if_icmp .eq 384, 3) := by decide +kernel
theorem dL_law_431 : decode cL_law 431 = .ok (.iconst 0, 1) := by decide +kernel
theorem dL_law_432 : decode cL_law 432 = .ok (.ireturn, 1) := by decide +kernel
theorem dL_law_433 : decode cL_law 433 = .ok (.aload_n 1, 1) := by decide +kernel
theorem dL_law_434 : decode cL_law 434 = .ok (.aload_n 0, 1) := by decide +kernel
theorem dL_law_435 : decode cL_law 435 = .ok (.iload_n 3, 1) := by decide +kernel
theorem dL_law_436 : decode cL_law 436 = .ok (.iconst 1, 1) := by decide +kernel
theorem dL_law_437 : decode cL_law 437 = .ok (.iadd, 1) := by decide +kernel
theorem dL_law_438 : decode cL_law 438 = .ok (.iaload, 1) := by decide +kernel
theorem dL_law_439 : decode cL_law 439 = .ok (.aload_n 0, 1) := by decide +kernel
theorem dL_law_440 : decode cL_law 440 = .ok (.iload_n 3, 1) := by decide +kernel
theorem dL_law_441 : decode cL_law 441 = .ok (.iconst 2, 1) := by decide +kernel
theorem dL_law_442 : decode cL_law 442 = .ok (.iadd, 1) := by decide +kernel
theorem dL_law_443 : decode cL_law 443 = .ok (.iaload, 1) := by decide +kernel
theorem dL_law_444 : decode cL_law 444 = .ok (.aload_n 0, 1) := by decide +kernel
theorem dL_law_445 : decode cL_law 445 = .ok (.iload_n 3, 1) := by decide +kernel
theorem dL_law_446 : decode cL_law 446 = .ok (.iconst 3, 1) := by decide +kernel
theorem dL_law_447 : decode cL_law 447 = .ok (.iadd, 1) := by decide +kernel
theorem dL_law_448 : decode cL_law 448 = .ok (.iaload, 1) := by decide +kernel
theorem dL_law_449 : decode cL_law 449 = .ok (.aload_n 0, 1) := by decide +kernel
theorem dL_law_450 : decode cL_law 450 = .ok (.iload_n 3, 1) := by decide +kernel
theorem dL_law_451 : decode cL_law 451 = .ok (.iconst 4, 1) := by decide +kernel
theorem dL_law_452 : decode cL_law 452 = .ok (.iadd, 1) := by decide +kernel
theorem dL_law_453 : decode cL_law 453 = .ok (.iaload, 1) := by decide +kernel
theorem dL_law_454 : decode cL_law 454 = .ok (.ifCond .eq 7, 3) := by decide +kernel
theorem dL_law_457 : decode cL_law 457 = .ok (.iconst 1, 1) := by decide +kernel
theorem dL_law_458 : decode cL_law 458 = .ok (.goto 4, 3) := by decide +kernel
theorem dL_law_461 : decode cL_law 461 = .ok (.iconst 0, 1) := by decide +kernel
theorem dL_law_462 : decode cL_law 462 = .ok (.invokevirtual 45, 3) := by decide +kernel
theorem dL_law_465 : decode cL_law 465 = .ok (.aload_n 2, 1) := by decide +kernel
theorem dL_law_466 : decode cL_law 466 = .ok (.aload_n 0, 1) := by decide +kernel
theorem dL_law_467 : decode cL_law 467 = .ok (.iload_n 3, 1) := by decide +kernel
theorem dL_law_468 : decode cL_law 468 = .ok (.iconst 1, 1) := by decide +kernel
theorem dL_law_469 : decode cL_law 469 = .ok (.iadd, 1) := by decide +kernel
theorem dL_law_470 : decode cL_law 470 = .ok (.iaload, 1) := by decide +kernel
theorem dL_law_471 : decode cL_law 471 = .ok (.aload_n 0, 1) := by decide +kernel
theorem dL_law_472 : decode cL_law 472 = .ok (.iload_n 3, 1) := by decide +kernel
theorem dL_law_473 : decode cL_law 473 = .ok (.iconst 2, 1) := by decide +kernel
theorem dL_law_474 : decode cL_law 474 = .ok (.iadd, 1) := by decide +kernel
theorem dL_law_475 : decode cL_law 475 = .ok (.iaload, 1) := by decide +kernel
theorem dL_law_476 : decode cL_law 476 = .ok (.aload_n 0, 1) := by decide +kernel
theorem dL_law_477 : decode cL_law 477 = .ok (.iload_n 3, 1) := by decide +kernel
theorem dL_law_478 : decode cL_law 478 = .ok (.iconst 3, 1) := by decide +kernel
theorem dL_law_479 : decode cL_law 479 = .ok (.iadd, 1) := by decide +kernel
theorem dL_law_480 : decode cL_law 480 = .ok (.iaload, 1) := by decide +kernel
theorem dL_law_481 : decode cL_law 481 = .ok (.aload_n 0, 1) := by decide +kernel
theorem dL_law_482 : decode cL_law 482 = .ok (.iload_n 3, 1) := by decide +kernel
theorem dL_law_483 : decode cL_law 483 = .ok (.iconst 4, 1) := by decide +kernel
theorem dL_law_484 : decode cL_law 484 = .ok (.iadd, 1) := by decide +kernel
theorem dL_law_485 : decode cL_law 485 = .ok (.iaload, 1) := by decide +kernel
theorem dL_law_486 : decode cL_law 486 = .ok (.ifCond .eq 7, 3) := by decide +kernel
theorem dL_law_489 : decode cL_law 489 = .ok (.iconst 1, 1) := by decide +kernel
theorem dL_law_490 : decode cL_law 490 = .ok (.goto 4, 3) := by decide +kernel
theorem dL_law_493 : decode cL_law 493 = .ok (.iconst 0, 1) := by decide +kernel
theorem dL_law_494 : decode cL_law 494 = .ok (.invokevirtual 49, 3) := by decide +kernel
theorem dL_law_497 : decode cL_law 497 = .ok (.if_icmp .eq 315, 3) := by decide +kernel
theorem dL_law_500 : decode cL_law 500 = .ok (.iconst 0, 1) := by decide +kernel
theorem dL_law_501 : decode cL_law 501 = .ok (.ireturn, 1) := by decide +kernel
theorem dL_law_502 : decode cL_law 502 = .ok (.aload_n 1, 1) := by decide +kernel
theorem dL_law_503 : decode cL_law 503 = .ok (.aload_n 0, 1) := by decide +kernel
theorem dL_law_504 : decode cL_law 504 = .ok (.iload_n 3, 1) := by decide +kernel
theorem dL_law_505 : decode cL_law 505 = .ok (.iconst 1, 1) := by decide +kernel
theorem dL_law_506 : decode cL_law 506 = .ok (.iadd, 1) := by decide +kernel
theorem dL_law_507 : decode cL_law 507 = .ok (.iaload, 1) := by decide +kernel
theorem dL_law_508 : decode cL_law 508 = .ok (.aload_n 0, 1) := by decide +kernel
theorem dL_law_509 : decode cL_law 509 = .ok (.iload_n 3, 1) := by decide +kernel
theorem dL_law_510 : decode cL_law 510 = .ok (.iconst 2, 1) := by decide +kernel
theorem dL_law_511 : decode cL_law 511 = .ok (.iadd, 1) := by decide +kernel
theorem dL_law_512 : decode cL_law 512 = .ok (.iaload, 1) := by decide +kernel
theorem dL_law_513 : decode cL_law 513 = .ok (.aload_n 0, 1) := by decide +kernel
theorem dL_law_514 : decode cL_law 514 = .ok (.iload_n 3, 1) := by decide +kernel
theorem dL_law_515 : decode cL_law 515 = .ok (.iconst 3, 1) := by decide +kernel
theorem dL_law_516 : decode cL_law 516 = .ok (.iadd, 1) := by decide +kernel
theorem dL_law_517 : decode cL_law 517 = .ok (.iaload, 1) := by decide +kernel
theorem dL_law_518 : decode cL_law 518 = .ok (.ifCond .eq 7, 3) := by decide +kernel
theorem dL_law_521 : decode cL_law 521 = .ok (.iconst 1, 1) := by decide +kernel
theorem dL_law_522 : decode cL_law 522 = .ok (.goto 4, 3) := by decide +kernel
theorem dL_law_525 : decode cL_law 525 = .ok (.iconst 0, 1) := by decide +kernel
theorem dL_law_526 : decode cL_law 526 = .ok (.invokevirtual 50, 3) := by decide +kernel
theorem dL_law_529 : decode cL_law 529 = .ok (.aload_n 2, 1) := by decide +kernel
theorem dL_law_530 : decode cL_law 530 = .ok (.aload_n 0, 1) := by decide +kernel
theorem dL_law_531 : decode cL_law 531 = .ok (.iload_n 3, 1) := by decide +kernel
theorem dL_law_532 : decode cL_law 532 = .ok (.iconst 1, 1) := by decide +kernel
theorem dL_law_533 : decode cL_law 533 = .ok (.iadd, 1) := by decide +kernel
theorem dL_law_534 : decode cL_law 534 = .ok (.iaload, 1) := by decide +kernel
theorem dL_law_535 : decode cL_law 535 = .ok (.aload_n 0, 1) := by decide +kernel
theorem dL_law_536 : decode cL_law 536 = .ok (.iload_n 3, 1) := by decide +kernel
theorem dL_law_537 : decode cL_law 537 = .ok (.iconst 2, 1) := by decide +kernel
theorem dL_law_538 : decode cL_law 538 = .ok (.iadd, 1) := by decide +kernel
theorem dL_law_539 : decode cL_law 539 = .ok (.iaload, 1) := by decide +kernel
theorem dL_law_540 : decode cL_law 540 = .ok (.aload_n 0, 1) := by decide +kernel
theorem dL_law_541 : decode cL_law 541 = .ok (.iload_n 3, 1) := by decide +kernel
theorem dL_law_542 : decode cL_law 542 = .ok (.iconst 3, 1) := by decide +kernel
theorem dL_law_543 : decode cL_law 543 = .ok (.iadd, 1) := by decide +kernel
theorem dL_law_544 : decode cL_law 544 = .ok (.iaload, 1) := by decide +kernel
theorem dL_law_545 : decode cL_law 545 = .ok (.ifCond .eq 7, 3) := by decide +kernel
theorem dL_law_548 : decode cL_law 548 = .ok (.iconst 1, 1) := by decide +kernel
theorem dL_law_549 : decode cL_law 549 = .ok (.goto 4, 3) := by decide +kernel
theorem dL_law_552 : decode cL_law 552 = .ok (.iconst 0, 1) := by decide +kernel
theorem dL_law_553 : decode cL_law 553 = .ok (.invokevirtual 54, 3) := by decide +kernel
theorem dL_law_556 : decode cL_law 556 = .ok (.if_icmp .eq 256, 3) := by decide +kernel
theorem dL_law_559 : decode cL_law 559 = .ok (.iconst 0, 1) := by decide +kernel
theorem dL_law_560 : decode cL_law 560 = .ok (.ireturn, 1) := by decide +kernel
theorem dL_law_561 : decode cL_law 561 = .ok (.aload_n 1, 1) := by decide +kernel
theorem dL_law_562 : decode cL_law 562 = .ok (.aload_n 0, 1) := by decide +kernel
theorem dL_law_563 : decode cL_law 563 = .ok (.iload_n 3, 1) := by decide +kernel
theorem dL_law_564 : decode cL_law 564 = .ok (.iconst 1, 1) := by decide +kernel
theorem dL_law_565 : decode cL_law 565 = .ok (.iadd, 1) := by decide +kernel
theorem dL_law_566 : decode cL_law 566 = .ok (.iaload, 1) := by decide +kernel
theorem dL_law_567 : decode cL_law 567 = .ok (.aload_n 0, 1) := by decide +kernel
theorem dL_law_568 : decode cL_law 568 = .ok (.iload_n 3, 1) := by decide +kernel
theorem dL_law_569 : decode cL_law 569 = .ok (.iconst 2, 1) := by decide +kernel
theorem dL_law_570 : decode cL_law 570 = .ok (.iadd, 1) := by decide +kernel
theorem dL_law_571 : decode cL_law 571 = .ok (.iaload, 1) := by decide +kernel
theorem dL_law_572 : decode cL_law 572 = .ok (.aload_n 0, 1) := by decide +kernel
theorem dL_law_573 : decode cL_law 573 = .ok (.iload_n 3, 1) := by decide +kernel
theorem dL_law_574 : decode cL_law 574 = .ok (.iconst 3, 1) := by decide +kernel
theorem dL_law_575 : decode cL_law 575 = .ok (.iadd, 1) := by decide +kernel
theorem dL_law_576 : decode cL_law 576 = .ok (.iaload, 1) := by decide +kernel
theorem dL_law_577 : decode cL_law 577 = .ok (.aload_n 0, 1) := by decide +kernel
theorem dL_law_578 : decode cL_law 578 = .ok (.iload_n 3, 1) := by decide +kernel
theorem dL_law_579 : decode cL_law 579 = .ok (.iconst 4, 1) := by decide +kernel
theorem dL_law_580 : decode cL_law 580 = .ok (.iadd, 1) := by decide +kernel
theorem dL_law_581 : decode cL_law 581 = .ok (.iaload, 1) := by decide +kernel
theorem dL_law_582 : decode cL_law 582 = .ok (.invokevirtual 55, 3) := by decide +kernel
theorem dL_law_585 : decode cL_law 585 = .ok (.aload_n 2, 1) := by decide +kernel
theorem dL_law_586 : decode cL_law 586 = .ok (.aload_n 0, 1) := by decide +kernel
theorem dL_law_587 : decode cL_law 587 = .ok (.iload_n 3, 1) := by decide +kernel
theorem dL_law_588 : decode cL_law 588 = .ok (.iconst 1, 1) := by decide +kernel
theorem dL_law_589 : decode cL_law 589 = .ok (.iadd, 1) := by decide +kernel
theorem dL_law_590 : decode cL_law 590 = .ok (.iaload, 1) := by decide +kernel
theorem dL_law_591 : decode cL_law 591 = .ok (.aload_n 0, 1) := by decide +kernel
theorem dL_law_592 : decode cL_law 592 = .ok (.iload_n 3, 1) := by decide +kernel
theorem dL_law_593 : decode cL_law 593 = .ok (.iconst 2, 1) := by decide +kernel
theorem dL_law_594 : decode cL_law 594 = .ok (.iadd, 1) := by decide +kernel
theorem dL_law_595 : decode cL_law 595 = .ok (.iaload, 1) := by decide +kernel
theorem dL_law_596 : decode cL_law 596 = .ok (.aload_n 0, 1) := by decide +kernel
theorem dL_law_597 : decode cL_law 597 = .ok (.iload_n 3, 1) := by decide +kernel
theorem dL_law_598 : decode cL_law 598 = .ok (.iconst 3, 1) := by decide +kernel
theorem dL_law_599 : decode cL_law 599 = .ok (.iadd, 1) := by decide +kernel
