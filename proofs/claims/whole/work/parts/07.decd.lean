theorem dX8_look_0 : decode cX8_look 0 = .ok (.aload_n 0, 1) := by decide +kernel
theorem dX8_look_1 : decode cX8_look 1 = .ok (.aload_n 0, 1) := by decide +kernel
theorem dX8_look_2 : decode cX8_look 2 = .ok (.getfield 20, 3) := by decide +kernel
theorem dX8_look_5 : decode cX8_look 5 = .ok (.iload_n 1, 1) := by decide +kernel
theorem dX8_look_6 : decode cX8_look 6 = .ok (.iaload, 1) := by decide +kernel
theorem dX8_look_7 : decode cX8_look 7 = .ok (.putfield 180, 3) := by decide +kernel
theorem dX8_look_10 : decode cX8_look 10 = .ok (.iconst 0, 1) := by decide +kernel
theorem dX8_look_11 : decode cX8_look 11 = .ok (.istore_n 2, 1) := by decide +kernel
theorem dX8_look_12 : decode cX8_look 12 = .ok (.iload_n 2, 1) := by decide +kernel
theorem dX8_look_13 : decode cX8_look 13 = .ok (.aload_n 0, 1) := by decide +kernel
theorem dX8_look_14 : decode cX8_look 14 = .ok (.getfield 180, 3) := by decide +kernel
theorem dX8_look_17 : decode cX8_look 17 = .ok (.if_icmp .ge 63, 3) := by decide +kernel
theorem dX8_look_20 : decode cX8_look 20 = .ok (.aload_n 0, 1) := by decide +kernel
theorem dX8_look_21 : decode cX8_look 21 = .ok (.getfield 93, 3) := by decide +kernel
theorem dX8_look_24 : decode cX8_look 24 = .ok (.iload_n 2, 1) := by decide +kernel
theorem dX8_look_25 : decode cX8_look 25 = .ok (.aload_n 0, 1) := by decide +kernel
theorem dX8_look_26 : decode cX8_look 26 = .ok (.getfield 23, 3) := by decide +kernel
theorem dX8_look_29 : decode cX8_look 29 = .ok (.sipush 151, 3) := by decide +kernel
theorem dX8_look_32 : decode cX8_look 32 = .ok (.iload_n 1, 1) := by decide +kernel
theorem dX8_look_33 : decode cX8_look 33 = .ok (.imul, 1) := by decide +kernel
theorem dX8_look_34 : decode cX8_look 34 = .ok (.iload_n 2, 1) := by decide +kernel
theorem dX8_look_35 : decode cX8_look 35 = .ok (.iadd, 1) := by decide +kernel
theorem dX8_look_36 : decode cX8_look 36 = .ok (.iaload, 1) := by decide +kernel
theorem dX8_look_37 : decode cX8_look 37 = .ok (.iastore, 1) := by decide +kernel
theorem dX8_look_38 : decode cX8_look 38 = .ok (.aload_n 0, 1) := by decide +kernel
theorem dX8_look_39 : decode cX8_look 39 = .ok (.getfield 96, 3) := by decide +kernel
theorem dX8_look_42 : decode cX8_look 42 = .ok (.iload_n 2, 1) := by decide +kernel
theorem dX8_look_43 : decode cX8_look 43 = .ok (.aload_n 0, 1) := by decide +kernel
theorem dX8_look_44 : decode cX8_look 44 = .ok (.getfield 26, 3) := by decide +kernel
theorem dX8_look_47 : decode cX8_look 47 = .ok (.sipush 151, 3) := by decide +kernel
theorem dX8_look_50 : decode cX8_look 50 = .ok (.iload_n 1, 1) := by decide +kernel
theorem dX8_look_51 : decode cX8_look 51 = .ok (.imul, 1) := by decide +kernel
theorem dX8_look_52 : decode cX8_look 52 = .ok (.iload_n 2, 1) := by decide +kernel
theorem dX8_look_53 : decode cX8_look 53 = .ok (.iadd, 1) := by decide +kernel
theorem dX8_look_54 : decode cX8_look 54 = .ok (.iaload, 1) := by decide +kernel
theorem dX8_look_55 : decode cX8_look 55 = .ok (.iastore, 1) := by decide +kernel
theorem dX8_look_56 : decode cX8_look 56 = .ok (.aload_n 0, 1) := by decide +kernel
theorem dX8_look_57 : decode cX8_look 57 = .ok (.getfield 99, 3) := by decide +kernel
theorem dX8_look_60 : decode cX8_look 60 = .ok (.iload_n 2, 1) := by decide +kernel
theorem dX8_look_61 : decode cX8_look 61 = .ok (.aload_n 0, 1) := by decide +kernel
theorem dX8_look_62 : decode cX8_look 62 = .ok (.getfield 29, 3) := by decide +kernel
theorem dX8_look_65 : decode cX8_look 65 = .ok (.sipush 151, 3) := by decide +kernel
theorem dX8_look_68 : decode cX8_look 68 = .ok (.iload_n 1, 1) := by decide +kernel
theorem dX8_look_69 : decode cX8_look 69 = .ok (.imul, 1) := by decide +kernel
theorem dX8_look_70 : decode cX8_look 70 = .ok (.iload_n 2, 1) := by decide +kernel
theorem dX8_look_71 : decode cX8_look 71 = .ok (.iadd, 1) := by decide +kernel
theorem dX8_look_72 : decode cX8_look 72 = .ok (.iaload, 1) := by decide +kernel
theorem dX8_look_73 : decode cX8_look 73 = .ok (.iastore, 1) := by decide +kernel
theorem dX8_look_74 : decode cX8_look 74 = .ok (.iinc 2 1, 3) := by decide +kernel
theorem dX8_look_77 : decode cX8_look 77 = .ok (.goto (-65), 3) := by decide +kernel
theorem dX8_look_80 : decode cX8_look 80 = .ok (.return_, 1) := by decide +kernel
set_option maxRecDepth 20000 in
theorem ggX8_seenHead_X8_headBehind : GoodIn wsX8_seenHead wsX8_headBehind := goodIn_r _ [7, 8, 9, 10, 6, 11, 12] (by decide +kernel) (by decide +kernel)
set_option maxRecDepth 20000 in
theorem gX8_seenHead_X8_headBehind : GoodIn wsX8_seenHead (va_wsS RX8 125 yX8_headBehind wsX8_headBehind) := goodIn_app (goodIn_of _ (by decide +kernel)) ggX8_seenHead_X8_headBehind
theorem dX8_seenHead_0 : decode cX8_seenHead 0 = .ok (.lconst 0, 1) := by decide +kernel
theorem dX8_seenHead_1 : decode cX8_seenHead 1 = .ok (.lstore_n 2, 1) := by decide +kernel
theorem dX8_seenHead_2 : decode cX8_seenHead 2 = .ok (.iconst 0, 1) := by decide +kernel
theorem dX8_seenHead_3 : decode cX8_seenHead 3 = .ok (.istore 4, 2) := by decide +kernel
theorem dX8_seenHead_5 : decode cX8_seenHead 5 = .ok (.iload 4, 2) := by decide +kernel
theorem dX8_seenHead_7 : decode cX8_seenHead 7 = .ok (.iload_n 1, 1) := by decide +kernel
theorem dX8_seenHead_8 : decode cX8_seenHead 8 = .ok (.if_icmp .ge 35, 3) := by decide +kernel
theorem dX8_seenHead_11 : decode cX8_seenHead 11 = .ok (.lload_n 2, 1) := by decide +kernel
theorem dX8_seenHead_12 : decode cX8_seenHead 12 = .ok (.aload_n 0, 1) := by decide +kernel
theorem dX8_seenHead_13 : decode cX8_seenHead 13 = .ok (.getfield 93, 3) := by decide +kernel
theorem dX8_seenHead_16 : decode cX8_seenHead 16 = .ok (.iload 4, 2) := by decide +kernel
theorem dX8_seenHead_18 : decode cX8_seenHead 18 = .ok (.iaload, 1) := by decide +kernel
theorem dX8_seenHead_19 : decode cX8_seenHead 19 = .ok (.aload_n 0, 1) := by decide +kernel
theorem dX8_seenHead_20 : decode cX8_seenHead 20 = .ok (.getfield 96, 3) := by decide +kernel
theorem dX8_seenHead_23 : decode cX8_seenHead 23 = .ok (.iload 4, 2) := by decide +kernel
theorem dX8_seenHead_25 : decode cX8_seenHead 25 = .ok (.iaload, 1) := by decide +kernel
theorem dX8_seenHead_26 : decode cX8_seenHead 26 = .ok (.aload_n 0, 1) := by decide +kernel
theorem dX8_seenHead_27 : decode cX8_seenHead 27 = .ok (.getfield 99, 3) := by decide +kernel
theorem dX8_seenHead_30 : decode cX8_seenHead 30 = .ok (.iload 4, 2) := by decide +kernel
theorem dX8_seenHead_32 : decode cX8_seenHead 32 = .ok (.iaload, 1) := by decide +kernel
theorem dX8_seenHead_33 : decode cX8_seenHead 33 = .ok (.invokestatic 125, 3) := by decide +kernel
theorem dX8_seenHead_36 : decode cX8_seenHead 36 = .ok (.lstore_n 2, 1) := by decide +kernel
theorem dX8_seenHead_37 : decode cX8_seenHead 37 = .ok (.iinc 4 1, 3) := by decide +kernel
theorem dX8_seenHead_40 : decode cX8_seenHead 40 = .ok (.goto (-35), 3) := by decide +kernel
theorem dX8_seenHead_43 : decode cX8_seenHead 43 = .ok (.lload_n 2, 1) := by decide +kernel
theorem dX8_seenHead_44 : decode cX8_seenHead 44 = .ok (.lreturn, 1) := by decide +kernel
set_option maxRecDepth 20000 in
theorem ggX8_firstWrong_X8_sendsByInput : GoodIn wsX8_firstWrong wsX8_sendsByInput := goodIn_r _ [9] (by decide +kernel) (by decide +kernel)
set_option maxRecDepth 20000 in
theorem gX8_firstWrong_X8_sendsByInput : GoodIn wsX8_firstWrong (va_wsS RX8 149 yX8_sendsByInput wsX8_sendsByInput) := goodIn_app (goodIn_of _ (by decide +kernel)) ggX8_firstWrong_X8_sendsByInput
set_option maxRecDepth 20000 in
theorem ggX8_firstWrong_X8_target : GoodIn wsX8_firstWrong wsX8_target := goodIn_r _ [13, 5, 17, 18, 19, 20, 21, 22, 23, 24, 25, 26, 27, 28, 29, 30, 31, 32, 33, 34, 35, 36, 37, 38, 39, 40, 41, 42, 43, 44, 45, 46, 47, 48, 49, 50, 51] (by decide +kernel) (by decide +kernel)
set_option maxRecDepth 20000 in
theorem gX8_firstWrong_X8_target : GoodIn wsX8_firstWrong (wsV RX8 152 RX8 yX8_target wsX8_target) := goodIn_app (goodIn_of _ (by decide +kernel)) ggX8_firstWrong_X8_target
set_option maxRecDepth 20000 in
theorem ggX8_firstWrong_X8_turned : GoodIn wsX8_firstWrong wsX8_turned := goodIn_r _ [16] (by decide +kernel) (by decide +kernel)
set_option maxRecDepth 20000 in
theorem gX8_firstWrong_X8_turned : GoodIn wsX8_firstWrong (va_wsS RX8 176 yX8_turned wsX8_turned) := goodIn_app (goodIn_of _ (by decide +kernel)) ggX8_firstWrong_X8_turned
theorem dX8_firstWrong_0 : decode cX8_firstWrong 0 = .ok (.iconst 0, 1) := by decide +kernel
theorem dX8_firstWrong_1 : decode cX8_firstWrong 1 = .ok (.istore_n 2, 1) := by decide +kernel
theorem dX8_firstWrong_2 : decode cX8_firstWrong 2 = .ok (.iconst 0, 1) := by decide +kernel
theorem dX8_firstWrong_3 : decode cX8_firstWrong 3 = .ok (.istore_n 3, 1) := by decide +kernel
theorem dX8_firstWrong_4 : decode cX8_firstWrong 4 = .ok (.iconst 0, 1) := by decide +kernel
theorem dX8_firstWrong_5 : decode cX8_firstWrong 5 = .ok (.istore 4, 2) := by decide +kernel
theorem dX8_firstWrong_7 : decode cX8_firstWrong 7 = .ok (.iconst 0, 1) := by decide +kernel
theorem dX8_firstWrong_8 : decode cX8_firstWrong 8 = .ok (.istore 5, 2) := by decide +kernel
theorem dX8_firstWrong_10 : decode cX8_firstWrong 10 = .ok (.iconst 0, 1) := by decide +kernel
theorem dX8_firstWrong_11 : decode cX8_firstWrong 11 = .ok (.istore 6, 2) := by decide +kernel
theorem dX8_firstWrong_13 : decode cX8_firstWrong 13 = .ok (.iconst 0, 1) := by decide +kernel
theorem dX8_firstWrong_14 : decode cX8_firstWrong 14 = .ok (.istore 7, 2) := by decide +kernel
theorem dX8_firstWrong_16 : decode cX8_firstWrong 16 = .ok (.iload 7, 2) := by decide +kernel
theorem dX8_firstWrong_18 : decode cX8_firstWrong 18 = .ok (.aload_n 0, 1) := by decide +kernel
theorem dX8_firstWrong_19 : decode cX8_firstWrong 19 = .ok (.getfield 180, 3) := by decide +kernel
theorem dX8_firstWrong_22 : decode cX8_firstWrong 22 = .ok (.if_icmp .ge 250, 3) := by decide +kernel
theorem dX8_firstWrong_25 : decode cX8_firstWrong 25 = .ok (.aload_n 0, 1) := by decide +kernel
theorem dX8_firstWrong_26 : decode cX8_firstWrong 26 = .ok (.getfield 93, 3) := by decide +kernel
theorem dX8_firstWrong_29 : decode cX8_firstWrong 29 = .ok (.iload 7, 2) := by decide +kernel
theorem dX8_firstWrong_31 : decode cX8_firstWrong 31 = .ok (.iaload, 1) := by decide +kernel
theorem dX8_firstWrong_32 : decode cX8_firstWrong 32 = .ok (.iconst 3, 1) := by decide +kernel
theorem dX8_firstWrong_33 : decode cX8_firstWrong 33 = .ok (.if_icmp .ne 31, 3) := by decide +kernel
theorem dX8_firstWrong_36 : decode cX8_firstWrong 36 = .ok (.aload_n 0, 1) := by decide +kernel
theorem dX8_firstWrong_37 : decode cX8_firstWrong 37 = .ok (.getfield 96, 3) := by decide +kernel
theorem dX8_firstWrong_40 : decode cX8_firstWrong 40 = .ok (.iload 7, 2) := by decide +kernel
theorem dX8_firstWrong_42 : decode cX8_firstWrong 42 = .ok (.iaload, 1) := by decide +kernel
theorem dX8_firstWrong_43 : decode cX8_firstWrong 43 = .ok (.iload 5, 2) := by decide +kernel
theorem dX8_firstWrong_45 : decode cX8_firstWrong 45 = .ok (.if_icmp .ne 19, 3) := by decide +kernel
theorem dX8_firstWrong_48 : decode cX8_firstWrong 48 = .ok (.aload_n 0, 1) := by decide +kernel
theorem dX8_firstWrong_49 : decode cX8_firstWrong 49 = .ok (.getfield 99, 3) := by decide +kernel
theorem dX8_firstWrong_52 : decode cX8_firstWrong 52 = .ok (.iload 7, 2) := by decide +kernel
theorem dX8_firstWrong_54 : decode cX8_firstWrong 54 = .ok (.iaload, 1) := by decide +kernel
theorem dX8_firstWrong_55 : decode cX8_firstWrong 55 = .ok (.iload 6, 2) := by decide +kernel
theorem dX8_firstWrong_57 : decode cX8_firstWrong 57 = .ok (.if_icmp .ne 7, 3) := by decide +kernel
theorem dX8_firstWrong_60 : decode cX8_firstWrong 60 = .ok (.iconst 1, 1) := by decide +kernel
theorem dX8_firstWrong_61 : decode cX8_firstWrong 61 = .ok (.goto 4, 3) := by decide +kernel
theorem dX8_firstWrong_64 : decode cX8_firstWrong 64 = .ok (.iconst 0, 1) := by decide +kernel
theorem dX8_firstWrong_65 : decode cX8_firstWrong 65 = .ok (.istore 8, 2) := by decide +kernel
theorem dX8_firstWrong_67 : decode cX8_firstWrong 67 = .ok (.aload_n 0, 1) := by decide +kernel
theorem dX8_firstWrong_68 : decode cX8_firstWrong 68 = .ok (.getfield 93, 3) := by decide +kernel
theorem dX8_firstWrong_71 : decode cX8_firstWrong 71 = .ok (.iload 7, 2) := by decide +kernel
theorem dX8_firstWrong_73 : decode cX8_firstWrong 73 = .ok (.iaload, 1) := by decide +kernel
theorem dX8_firstWrong_74 : decode cX8_firstWrong 74 = .ok (.iconst 1, 1) := by decide +kernel
theorem dX8_firstWrong_75 : decode cX8_firstWrong 75 = .ok (.if_icmp .ne 17, 3) := by decide +kernel
theorem dX8_firstWrong_78 : decode cX8_firstWrong 78 = .ok (.aload_n 0, 1) := by decide +kernel
theorem dX8_firstWrong_79 : decode cX8_firstWrong 79 = .ok (.getfield 96, 3) := by decide +kernel
theorem dX8_firstWrong_82 : decode cX8_firstWrong 82 = .ok (.iload 7, 2) := by decide +kernel
theorem dX8_firstWrong_84 : decode cX8_firstWrong 84 = .ok (.iaload, 1) := by decide +kernel
theorem dX8_firstWrong_85 : decode cX8_firstWrong 85 = .ok (.ifCond .ne 7, 3) := by decide +kernel
theorem dX8_firstWrong_88 : decode cX8_firstWrong 88 = .ok (.iconst 1, 1) := by decide +kernel
theorem dX8_firstWrong_89 : decode cX8_firstWrong 89 = .ok (.goto 4, 3) := by decide +kernel
theorem dX8_firstWrong_92 : decode cX8_firstWrong 92 = .ok (.iconst 0, 1) := by decide +kernel
theorem dX8_firstWrong_93 : decode cX8_firstWrong 93 = .ok (.istore 9, 2) := by decide +kernel
theorem dX8_firstWrong_95 : decode cX8_firstWrong 95 = .ok (.aload_n 0, 1) := by decide +kernel
theorem dX8_firstWrong_96 : decode cX8_firstWrong 96 = .ok (.getfield 93, 3) := by decide +kernel
theorem dX8_firstWrong_99 : decode cX8_firstWrong 99 = .ok (.iload 7, 2) := by decide +kernel
theorem dX8_firstWrong_101 : decode cX8_firstWrong 101 = .ok (.iaload, 1) := by decide +kernel
theorem dX8_firstWrong_102 : decode cX8_firstWrong 102 = .ok (.iconst 2, 1) := by decide +kernel
theorem dX8_firstWrong_103 : decode cX8_firstWrong 103 = .ok (.if_icmp .ne 32, 3) := by decide +kernel
theorem dX8_firstWrong_106 : decode cX8_firstWrong 106 = .ok (.aload_n 0, 1) := by decide +kernel
theorem dX8_firstWrong_107 : decode cX8_firstWrong 107 = .ok (.getfield 96, 3) := by decide +kernel
theorem dX8_firstWrong_110 : decode cX8_firstWrong 110 = .ok (.iload 7, 2) := by decide +kernel
theorem dX8_firstWrong_112 : decode cX8_firstWrong 112 = .ok (.iaload, 1) := by decide +kernel
theorem dX8_firstWrong_113 : decode cX8_firstWrong 113 = .ok (.iload_n 1, 1) := by decide +kernel
theorem dX8_firstWrong_114 : decode cX8_firstWrong 114 = .ok (.if_icmp .eq 21, 3) := by decide +kernel
theorem dX8_firstWrong_117 : decode cX8_firstWrong 117 = .ok (.aload_n 0, 1) := by decide +kernel
theorem dX8_firstWrong_118 : decode cX8_firstWrong 118 = .ok (.getfield 96, 3) := by decide +kernel
theorem dX8_firstWrong_121 : decode cX8_firstWrong 121 = .ok (.iload 7, 2) := by decide +kernel
theorem dX8_firstWrong_123 : decode cX8_firstWrong 123 = .ok (.iaload, 1) := by decide +kernel
theorem dX8_firstWrong_124 : decode cX8_firstWrong 124 = .ok (.aload_n 0, 1) := by decide +kernel
theorem dX8_firstWrong_125 : decode cX8_firstWrong 125 = .ok (.getfield 7, 3) := by decide +kernel
theorem dX8_firstWrong_128 : decode cX8_firstWrong 128 = .ok (.if_icmp .ge 7, 3) := by decide +kernel
theorem dX8_firstWrong_131 : decode cX8_firstWrong 131 = .ok (.iconst 1, 1) := by decide +kernel
theorem dX8_firstWrong_132 : decode cX8_firstWrong 132 = .ok (.goto 4, 3) := by decide +kernel
theorem dX8_firstWrong_135 : decode cX8_firstWrong 135 = .ok (.iconst 0, 1) := by decide +kernel
theorem dX8_firstWrong_136 : decode cX8_firstWrong 136 = .ok (.istore 10, 2) := by decide +kernel
theorem dX8_firstWrong_138 : decode cX8_firstWrong 138 = .ok (.iload 4, 2) := by decide +kernel
theorem dX8_firstWrong_140 : decode cX8_firstWrong 140 = .ok (.ifCond .eq 11, 3) := by decide +kernel
theorem dX8_firstWrong_143 : decode cX8_firstWrong 143 = .ok (.iload 8, 2) := by decide +kernel
theorem dX8_firstWrong_145 : decode cX8_firstWrong 145 = .ok (.ifCond .ne 21, 3) := by decide +kernel
theorem dX8_firstWrong_148 : decode cX8_firstWrong 148 = .ok (.goto 13, 3) := by decide +kernel
theorem dX8_firstWrong_151 : decode cX8_firstWrong 151 = .ok (.iload 9, 2) := by decide +kernel
theorem dX8_firstWrong_153 : decode cX8_firstWrong 153 = .ok (.ifCond .ne 13, 3) := by decide +kernel
theorem dX8_firstWrong_156 : decode cX8_firstWrong 156 = .ok (.iload 10, 2) := by decide +kernel
theorem dX8_firstWrong_158 : decode cX8_firstWrong 158 = .ok (.ifCond .ne 8, 3) := by decide +kernel
theorem dX8_firstWrong_161 : decode cX8_firstWrong 161 = .ok (.iload 7, 2) := by decide +kernel
theorem dX8_firstWrong_163 : decode cX8_firstWrong 163 = .ok (.iconst 1, 1) := by decide +kernel
theorem dX8_firstWrong_164 : decode cX8_firstWrong 164 = .ok (.iadd, 1) := by decide +kernel
theorem dX8_firstWrong_165 : decode cX8_firstWrong 165 = .ok (.ireturn, 1) := by decide +kernel
theorem dX8_firstWrong_166 : decode cX8_firstWrong 166 = .ok (.iload 4, 2) := by decide +kernel
theorem dX8_firstWrong_168 : decode cX8_firstWrong 168 = .ok (.ifCond .eq 9, 3) := by decide +kernel
theorem dX8_firstWrong_171 : decode cX8_firstWrong 171 = .ok (.iconst 0, 1) := by decide +kernel
theorem dX8_firstWrong_172 : decode cX8_firstWrong 172 = .ok (.istore 4, 2) := by decide +kernel
theorem dX8_firstWrong_174 : decode cX8_firstWrong 174 = .ok (.goto 92, 3) := by decide +kernel
theorem dX8_firstWrong_177 : decode cX8_firstWrong 177 = .ok (.iload 9, 2) := by decide +kernel
theorem dX8_firstWrong_179 : decode cX8_firstWrong 179 = .ok (.ifCond .eq 40, 3) := by decide +kernel
theorem dX8_firstWrong_182 : decode cX8_firstWrong 182 = .ok (.bipush 31, 2) := by decide +kernel
theorem dX8_firstWrong_184 : decode cX8_firstWrong 184 = .ok (.iload_n 2, 1) := by decide +kernel
theorem dX8_firstWrong_185 : decode cX8_firstWrong 185 = .ok (.imul, 1) := by decide +kernel
theorem dX8_firstWrong_186 : decode cX8_firstWrong 186 = .ok (.aload_n 0, 1) := by decide +kernel
theorem dX8_firstWrong_187 : decode cX8_firstWrong 187 = .ok (.getfield 99, 3) := by decide +kernel
theorem dX8_firstWrong_190 : decode cX8_firstWrong 190 = .ok (.iload 7, 2) := by decide +kernel
theorem dX8_firstWrong_192 : decode cX8_firstWrong 192 = .ok (.iaload, 1) := by decide +kernel
theorem dX8_firstWrong_193 : decode cX8_firstWrong 193 = .ok (.iadd, 1) := by decide +kernel
theorem dX8_firstWrong_194 : decode cX8_firstWrong 194 = .ok (.istore_n 2, 1) := by decide +kernel
theorem dX8_firstWrong_195 : decode cX8_firstWrong 195 = .ok (.iload_n 2, 1) := by decide +kernel
theorem dX8_firstWrong_196 : decode cX8_firstWrong 196 = .ok (.invokestatic 149, 3) := by decide +kernel
theorem dX8_firstWrong_199 : decode cX8_firstWrong 199 = .ok (.istore 4, 2) := by decide +kernel
theorem dX8_firstWrong_201 : decode cX8_firstWrong 201 = .ok (.aload_n 0, 1) := by decide +kernel
theorem dX8_firstWrong_202 : decode cX8_firstWrong 202 = .ok (.iload_n 1, 1) := by decide +kernel
theorem dX8_firstWrong_203 : decode cX8_firstWrong 203 = .ok (.iload_n 2, 1) := by decide +kernel
theorem dX8_firstWrong_204 : decode cX8_firstWrong 204 = .ok (.invokevirtual 152, 3) := by decide +kernel
theorem dX8_firstWrong_207 : decode cX8_firstWrong 207 = .ok (.istore 5, 2) := by decide +kernel
theorem dX8_firstWrong_209 : decode cX8_firstWrong 209 = .ok (.iload_n 2, 1) := by decide +kernel
theorem dX8_firstWrong_210 : decode cX8_firstWrong 210 = .ok (.iconst 1, 1) := by decide +kernel
theorem dX8_firstWrong_211 : decode cX8_firstWrong 211 = .ok (.iushr, 1) := by decide +kernel
theorem dX8_firstWrong_212 : decode cX8_firstWrong 212 = .ok (.iload_n 3, 1) := by decide +kernel
theorem dX8_firstWrong_213 : decode cX8_firstWrong 213 = .ok (.ixor, 1) := by decide +kernel
theorem dX8_firstWrong_214 : decode cX8_firstWrong 214 = .ok (.istore 6, 2) := by decide +kernel
theorem dX8_firstWrong_216 : decode cX8_firstWrong 216 = .ok (.goto 50, 3) := by decide +kernel
theorem dX8_firstWrong_219 : decode cX8_firstWrong 219 = .ok (.iload_n 3, 1) := by decide +kernel
theorem dX8_firstWrong_220 : decode cX8_firstWrong 220 = .ok (.aload_n 0, 1) := by decide +kernel
theorem dX8_firstWrong_221 : decode cX8_firstWrong 221 = .ok (.getfield 99, 3) := by decide +kernel
theorem dX8_firstWrong_224 : decode cX8_firstWrong 224 = .ok (.iload 7, 2) := by decide +kernel
theorem dX8_firstWrong_226 : decode cX8_firstWrong 226 = .ok (.iaload, 1) := by decide +kernel
theorem dX8_firstWrong_227 : decode cX8_firstWrong 227 = .ok (.aload_n 0, 1) := by decide +kernel
theorem dX8_firstWrong_228 : decode cX8_firstWrong 228 = .ok (.getfield 96, 3) := by decide +kernel
theorem dX8_firstWrong_231 : decode cX8_firstWrong 231 = .ok (.iload 7, 2) := by decide +kernel
theorem dX8_firstWrong_233 : decode cX8_firstWrong 233 = .ok (.iaload, 1) := by decide +kernel
theorem dX8_firstWrong_234 : decode cX8_firstWrong 234 = .ok (.iadd, 1) := by decide +kernel
theorem dX8_firstWrong_235 : decode cX8_firstWrong 235 = .ok (.ixor, 1) := by decide +kernel
theorem dX8_firstWrong_236 : decode cX8_firstWrong 236 = .ok (.invokestatic 176, 3) := by decide +kernel
theorem dX8_firstWrong_239 : decode cX8_firstWrong 239 = .ok (.istore_n 3, 1) := by decide +kernel
theorem dX8_firstWrong_240 : decode cX8_firstWrong 240 = .ok (.iload_n 3, 1) := by decide +kernel
theorem dX8_firstWrong_241 : decode cX8_firstWrong 241 = .ok (.bipush 8, 2) := by decide +kernel
theorem dX8_firstWrong_243 : decode cX8_firstWrong 243 = .ok (.irem, 1) := by decide +kernel
theorem dX8_firstWrong_244 : decode cX8_firstWrong 244 = .ok (.ifCond .ne 7, 3) := by decide +kernel
theorem dX8_firstWrong_247 : decode cX8_firstWrong 247 = .ok (.iconst 1, 1) := by decide +kernel
theorem dX8_firstWrong_248 : decode cX8_firstWrong 248 = .ok (.goto 4, 3) := by decide +kernel
theorem dX8_firstWrong_251 : decode cX8_firstWrong 251 = .ok (.iconst 0, 1) := by decide +kernel
theorem dX8_firstWrong_252 : decode cX8_firstWrong 252 = .ok (.istore 4, 2) := by decide +kernel
theorem dX8_firstWrong_254 : decode cX8_firstWrong 254 = .ok (.aload_n 0, 1) := by decide +kernel
theorem dX8_firstWrong_255 : decode cX8_firstWrong 255 = .ok (.getfield 96, 3) := by decide +kernel
theorem dX8_firstWrong_258 : decode cX8_firstWrong 258 = .ok (.iload 7, 2) := by decide +kernel
theorem dX8_firstWrong_260 : decode cX8_firstWrong 260 = .ok (.iaload, 1) := by decide +kernel
theorem dX8_firstWrong_261 : decode cX8_firstWrong 261 = .ok (.istore 5, 2) := by decide +kernel
theorem dX8_firstWrong_263 : decode cX8_firstWrong 263 = .ok (.iload_n 3, 1) := by decide +kernel
theorem dX8_firstWrong_264 : decode cX8_firstWrong 264 = .ok (.istore 6, 2) := by decide +kernel
theorem dX8_firstWrong_266 : decode cX8_firstWrong 266 = .ok (.iinc 7 1, 3) := by decide +kernel
theorem dX8_firstWrong_269 : decode cX8_firstWrong 269 = .ok (.goto (-253), 3) := by decide +kernel
theorem dX8_firstWrong_272 : decode cX8_firstWrong 272 = .ok (.iload 4, 2) := by decide +kernel
theorem dX8_firstWrong_274 : decode cX8_firstWrong 274 = .ok (.ifCond .eq 12, 3) := by decide +kernel
theorem dX8_firstWrong_277 : decode cX8_firstWrong 277 = .ok (.aload_n 0, 1) := by decide +kernel
theorem dX8_firstWrong_278 : decode cX8_firstWrong 278 = .ok (.getfield 180, 3) := by decide +kernel
theorem dX8_firstWrong_281 : decode cX8_firstWrong 281 = .ok (.iconst 1, 1) := by decide +kernel
theorem dX8_firstWrong_282 : decode cX8_firstWrong 282 = .ok (.iadd, 1) := by decide +kernel
theorem dX8_firstWrong_283 : decode cX8_firstWrong 283 = .ok (.goto 4, 3) := by decide +kernel
theorem dX8_firstWrong_286 : decode cX8_firstWrong 286 = .ok (.iconst 0, 1) := by decide +kernel
theorem dX8_firstWrong_287 : decode cX8_firstWrong 287 = .ok (.ireturn, 1) := by decide +kernel
set_option maxRecDepth 20000 in
theorem ggX8_fork_X8_headOf : GoodIn wsX8_fork wsX8_headOf := goodIn_r _ [10, 11, 12, 13, 14, 15, 9, 16, 17, 18, 19, 20, 21, 22, 23, 24, 25, 26, 27, 28, 29, 30, 31, 32, 33, 34, 35, 36, 37, 38, 39, 40, 41, 42, 43, 44, 45, 46, 47, 48, 49, 50, 51, 52, 53, 54, 55, 56] (by decide +kernel) (by decide +kernel)
set_option maxRecDepth 20000 in
theorem gX8_fork_X8_headOf : GoodIn wsX8_fork (wsV RX8 129 RX8 yX8_headOf wsX8_headOf) := goodIn_app (goodIn_of _ (by decide +kernel)) ggX8_fork_X8_headOf
theorem dX8_fork_0 : decode cX8_fork 0 = .ok (.iconst (-1), 1) := by decide +kernel
theorem dX8_fork_1 : decode cX8_fork 1 = .ok (.istore_n 3, 1) := by decide +kernel
theorem dX8_fork_2 : decode cX8_fork 2 = .ok (.iconst 0, 1) := by decide +kernel
theorem dX8_fork_3 : decode cX8_fork 3 = .ok (.istore 4, 2) := by decide +kernel
theorem dX8_fork_5 : decode cX8_fork 5 = .ok (.iload 4, 2) := by decide +kernel
theorem dX8_fork_7 : decode cX8_fork 7 = .ok (.aload_n 0, 1) := by decide +kernel
theorem dX8_fork_8 : decode cX8_fork 8 = .ok (.getfield 70, 3) := by decide +kernel
theorem dX8_fork_11 : decode cX8_fork 11 = .ok (.iload_n 1, 1) := by decide +kernel
theorem dX8_fork_12 : decode cX8_fork 12 = .ok (.iaload, 1) := by decide +kernel
theorem dX8_fork_13 : decode cX8_fork 13 = .ok (.if_icmp .ge 116, 3) := by decide +kernel
theorem dX8_fork_16 : decode cX8_fork 16 = .ok (.sipush 300, 3) := by decide +kernel
theorem dX8_fork_19 : decode cX8_fork 19 = .ok (.iload_n 1, 1) := by decide +kernel
theorem dX8_fork_20 : decode cX8_fork 20 = .ok (.imul, 1) := by decide +kernel
theorem dX8_fork_21 : decode cX8_fork 21 = .ok (.iload 4, 2) := by decide +kernel
theorem dX8_fork_23 : decode cX8_fork 23 = .ok (.iadd, 1) := by decide +kernel
theorem dX8_fork_24 : decode cX8_fork 24 = .ok (.istore 5, 2) := by decide +kernel
theorem dX8_fork_26 : decode cX8_fork 26 = .ok (.aload_n 0, 1) := by decide +kernel
theorem dX8_fork_27 : decode cX8_fork 27 = .ok (.getfield 73, 3) := by decide +kernel
theorem dX8_fork_30 : decode cX8_fork 30 = .ok (.iload 5, 2) := by decide +kernel
theorem dX8_fork_32 : decode cX8_fork 32 = .ok (.iaload, 1) := by decide +kernel
theorem dX8_fork_33 : decode cX8_fork 33 = .ok (.iload_n 2, 1) := by decide +kernel
theorem dX8_fork_34 : decode cX8_fork 34 = .ok (.if_icmp .ne 23, 3) := by decide +kernel
theorem dX8_fork_37 : decode cX8_fork 37 = .ok (.aload_n 0, 1) := by decide +kernel
theorem dX8_fork_38 : decode cX8_fork 38 = .ok (.getfield 76, 3) := by decide +kernel
theorem dX8_fork_41 : decode cX8_fork 41 = .ok (.iload 5, 2) := by decide +kernel
theorem dX8_fork_43 : decode cX8_fork 43 = .ok (.iaload, 1) := by decide +kernel
theorem dX8_fork_44 : decode cX8_fork 44 = .ok (.aload_n 0, 1) := by decide +kernel
theorem dX8_fork_45 : decode cX8_fork 45 = .ok (.getfield 20, 3) := by decide +kernel
theorem dX8_fork_48 : decode cX8_fork 48 = .ok (.iload_n 2, 1) := by decide +kernel
theorem dX8_fork_49 : decode cX8_fork 49 = .ok (.iaload, 1) := by decide +kernel
theorem dX8_fork_50 : decode cX8_fork 50 = .ok (.if_icmp .gt 7, 3) := by decide +kernel
theorem dX8_fork_53 : decode cX8_fork 53 = .ok (.iconst 1, 1) := by decide +kernel
theorem dX8_fork_54 : decode cX8_fork 54 = .ok (.goto 4, 3) := by decide +kernel
theorem dX8_fork_57 : decode cX8_fork 57 = .ok (.iconst 0, 1) := by decide +kernel
theorem dX8_fork_58 : decode cX8_fork 58 = .ok (.istore 6, 2) := by decide +kernel
theorem dX8_fork_60 : decode cX8_fork 60 = .ok (.iload 6, 2) := by decide +kernel
theorem dX8_fork_62 : decode cX8_fork 62 = .ok (.ifCond .eq 30, 3) := by decide +kernel
theorem dX8_fork_65 : decode cX8_fork 65 = .ok (.aload_n 0, 1) := by decide +kernel
theorem dX8_fork_66 : decode cX8_fork 66 = .ok (.getfield 79, 3) := by decide +kernel
theorem dX8_fork_69 : decode cX8_fork 69 = .ok (.iload 5, 2) := by decide +kernel
theorem dX8_fork_71 : decode cX8_fork 71 = .ok (.laload, 1) := by decide +kernel
theorem dX8_fork_72 : decode cX8_fork 72 = .ok (.aload_n 0, 1) := by decide +kernel
theorem dX8_fork_73 : decode cX8_fork 73 = .ok (.iload_n 2, 1) := by decide +kernel
theorem dX8_fork_74 : decode cX8_fork 74 = .ok (.aload_n 0, 1) := by decide +kernel
theorem dX8_fork_75 : decode cX8_fork 75 = .ok (.getfield 76, 3) := by decide +kernel
theorem dX8_fork_78 : decode cX8_fork 78 = .ok (.iload 5, 2) := by decide +kernel
theorem dX8_fork_80 : decode cX8_fork 80 = .ok (.iaload, 1) := by decide +kernel
theorem dX8_fork_81 : decode cX8_fork 81 = .ok (.invokevirtual 129, 3) := by decide +kernel
theorem dX8_fork_84 : decode cX8_fork 84 = .ok (.lcmp, 1) := by decide +kernel
theorem dX8_fork_85 : decode cX8_fork 85 = .ok (.ifCond .eq 7, 3) := by decide +kernel
theorem dX8_fork_88 : decode cX8_fork 88 = .ok (.iconst 1, 1) := by decide +kernel
theorem dX8_fork_89 : decode cX8_fork 89 = .ok (.goto 4, 3) := by decide +kernel
theorem dX8_fork_92 : decode cX8_fork 92 = .ok (.iconst 0, 1) := by decide +kernel
theorem dX8_fork_93 : decode cX8_fork 93 = .ok (.istore 6, 2) := by decide +kernel
theorem dX8_fork_95 : decode cX8_fork 95 = .ok (.iload 6, 2) := by decide +kernel
theorem dX8_fork_97 : decode cX8_fork 97 = .ok (.ifCond .eq 26, 3) := by decide +kernel
theorem dX8_fork_100 : decode cX8_fork 100 = .ok (.iload_n 3, 1) := by decide +kernel
theorem dX8_fork_101 : decode cX8_fork 101 = .ok (.ifCond .lt 19, 3) := by decide +kernel
theorem dX8_fork_104 : decode cX8_fork 104 = .ok (.aload_n 0, 1) := by decide +kernel
theorem dX8_fork_105 : decode cX8_fork 105 = .ok (.getfield 76, 3) := by decide +kernel
theorem dX8_fork_108 : decode cX8_fork 108 = .ok (.iload 5, 2) := by decide +kernel
theorem dX8_fork_110 : decode cX8_fork 110 = .ok (.iaload, 1) := by decide +kernel
theorem dX8_fork_111 : decode cX8_fork 111 = .ok (.aload_n 0, 1) := by decide +kernel
theorem dX8_fork_112 : decode cX8_fork 112 = .ok (.getfield 76, 3) := by decide +kernel
theorem dX8_fork_115 : decode cX8_fork 115 = .ok (.iload_n 3, 1) := by decide +kernel
theorem dX8_fork_116 : decode cX8_fork 116 = .ok (.iaload, 1) := by decide +kernel
theorem dX8_fork_117 : decode cX8_fork 117 = .ok (.if_icmp .ge 6, 3) := by decide +kernel
theorem dX8_fork_120 : decode cX8_fork 120 = .ok (.iload 5, 2) := by decide +kernel
theorem dX8_fork_122 : decode cX8_fork 122 = .ok (.istore_n 3, 1) := by decide +kernel
theorem dX8_fork_123 : decode cX8_fork 123 = .ok (.iinc 4 1, 3) := by decide +kernel
theorem dX8_fork_126 : decode cX8_fork 126 = .ok (.goto (-121), 3) := by decide +kernel
theorem dX8_fork_129 : decode cX8_fork 129 = .ok (.iload_n 3, 1) := by decide +kernel
theorem dX8_fork_130 : decode cX8_fork 130 = .ok (.ireturn, 1) := by decide +kernel
theorem dX8_isBehind_0 : decode cX8_isBehind 0 = .ok (.iconst 0, 1) := by decide +kernel
theorem dX8_isBehind_1 : decode cX8_isBehind 1 = .ok (.istore_n 3, 1) := by decide +kernel
theorem dX8_isBehind_2 : decode cX8_isBehind 2 = .ok (.iload_n 3, 1) := by decide +kernel
theorem dX8_isBehind_3 : decode cX8_isBehind 3 = .ok (.aload_n 0, 1) := by decide +kernel
theorem dX8_isBehind_4 : decode cX8_isBehind 4 = .ok (.getfield 70, 3) := by decide +kernel
theorem dX8_isBehind_7 : decode cX8_isBehind 7 = .ok (.iload_n 1, 1) := by decide +kernel
theorem dX8_isBehind_8 : decode cX8_isBehind 8 = .ok (.iaload, 1) := by decide +kernel
theorem dX8_isBehind_9 : decode cX8_isBehind 9 = .ok (.if_icmp .ge 47, 3) := by decide +kernel
theorem dX8_isBehind_12 : decode cX8_isBehind 12 = .ok (.sipush 300, 3) := by decide +kernel
theorem dX8_isBehind_15 : decode cX8_isBehind 15 = .ok (.iload_n 1, 1) := by decide +kernel
theorem dX8_isBehind_16 : decode cX8_isBehind 16 = .ok (.imul, 1) := by decide +kernel
theorem dX8_isBehind_17 : decode cX8_isBehind 17 = .ok (.iload_n 3, 1) := by decide +kernel
theorem dX8_isBehind_18 : decode cX8_isBehind 18 = .ok (.iadd, 1) := by decide +kernel
theorem dX8_isBehind_19 : decode cX8_isBehind 19 = .ok (.istore 4, 2) := by decide +kernel
theorem dX8_isBehind_21 : decode cX8_isBehind 21 = .ok (.aload_n 0, 1) := by decide +kernel
theorem dX8_isBehind_22 : decode cX8_isBehind 22 = .ok (.getfield 73, 3) := by decide +kernel
theorem dX8_isBehind_25 : decode cX8_isBehind 25 = .ok (.iload 4, 2) := by decide +kernel
theorem dX8_isBehind_27 : decode cX8_isBehind 27 = .ok (.iaload, 1) := by decide +kernel
theorem dX8_isBehind_28 : decode cX8_isBehind 28 = .ok (.iload_n 2, 1) := by decide +kernel
theorem dX8_isBehind_29 : decode cX8_isBehind 29 = .ok (.if_icmp .ne 21, 3) := by decide +kernel
theorem dX8_isBehind_32 : decode cX8_isBehind 32 = .ok (.aload_n 0, 1) := by decide +kernel
theorem dX8_isBehind_33 : decode cX8_isBehind 33 = .ok (.getfield 76, 3) := by decide +kernel
theorem dX8_isBehind_36 : decode cX8_isBehind 36 = .ok (.iload 4, 2) := by decide +kernel
theorem dX8_isBehind_38 : decode cX8_isBehind 38 = .ok (.iaload, 1) := by decide +kernel
theorem dX8_isBehind_39 : decode cX8_isBehind 39 = .ok (.aload_n 0, 1) := by decide +kernel
theorem dX8_isBehind_40 : decode cX8_isBehind 40 = .ok (.getfield 20, 3) := by decide +kernel
theorem dX8_isBehind_43 : decode cX8_isBehind 43 = .ok (.iload_n 2, 1) := by decide +kernel
theorem dX8_isBehind_44 : decode cX8_isBehind 44 = .ok (.iaload, 1) := by decide +kernel
theorem dX8_isBehind_45 : decode cX8_isBehind 45 = .ok (.if_icmp .le 5, 3) := by decide +kernel
theorem dX8_isBehind_48 : decode cX8_isBehind 48 = .ok (.iconst 1, 1) := by decide +kernel
theorem dX8_isBehind_49 : decode cX8_isBehind 49 = .ok (.ireturn, 1) := by decide +kernel
theorem dX8_isBehind_50 : decode cX8_isBehind 50 = .ok (.iinc 3 1, 3) := by decide +kernel
theorem dX8_isBehind_53 : decode cX8_isBehind 53 = .ok (.goto (-51), 3) := by decide +kernel
theorem dX8_isBehind_56 : decode cX8_isBehind 56 = .ok (.iconst 0, 1) := by decide +kernel
theorem dX8_isBehind_57 : decode cX8_isBehind 57 = .ok (.ireturn, 1) := by decide +kernel
theorem dX8_put_0 : decode cX8_put 0 = .ok (.iload_n 3, 1) := by decide +kernel
theorem dX8_put_1 : decode cX8_put 1 = .ok (.iconst 1, 1) := by decide +kernel
theorem dX8_put_2 : decode cX8_put 2 = .ok (.isub, 1) := by decide +kernel
theorem dX8_put_3 : decode cX8_put 3 = .ok (.istore 4, 2) := by decide +kernel
theorem dX8_put_5 : decode cX8_put 5 = .ok (.iload 4, 2) := by decide +kernel
theorem dX8_put_7 : decode cX8_put 7 = .ok (.ifCond .lt 54, 3) := by decide +kernel
theorem dX8_put_10 : decode cX8_put 10 = .ok (.aload_n 0, 1) := by decide +kernel
theorem dX8_put_11 : decode cX8_put 11 = .ok (.getfield 89, 3) := by decide +kernel
theorem dX8_put_14 : decode cX8_put 14 = .ok (.sipush 940, 3) := by decide +kernel
theorem dX8_put_17 : decode cX8_put 17 = .ok (.aload_n 0, 1) := by decide +kernel
theorem dX8_put_18 : decode cX8_put 18 = .ok (.getfield 114, 3) := by decide +kernel
theorem dX8_put_21 : decode cX8_put 21 = .ok (.imul, 1) := by decide +kernel
theorem dX8_put_22 : decode cX8_put 22 = .ok (.aload_n 0, 1) := by decide +kernel
theorem dX8_put_23 : decode cX8_put 23 = .ok (.getfield 85, 3) := by decide +kernel
theorem dX8_put_26 : decode cX8_put 26 = .ok (.aload_n 0, 1) := by decide +kernel
theorem dX8_put_27 : decode cX8_put 27 = .ok (.getfield 114, 3) := by decide +kernel
theorem dX8_put_30 : decode cX8_put 30 = .ok (.iaload, 1) := by decide +kernel
theorem dX8_put_31 : decode cX8_put 31 = .ok (.iadd, 1) := by decide +kernel
theorem dX8_put_32 : decode cX8_put 32 = .ok (.lload_n 1, 1) := by decide +kernel
theorem dX8_put_33 : decode cX8_put 33 = .ok (.bipush 8, 2) := by decide +kernel
theorem dX8_put_35 : decode cX8_put 35 = .ok (.iload 4, 2) := by decide +kernel
theorem dX8_put_37 : decode cX8_put 37 = .ok (.imul, 1) := by decide +kernel
theorem dX8_put_38 : decode cX8_put 38 = .ok (.lshr, 1) := by decide +kernel
theorem dX8_put_39 : decode cX8_put 39 = .ok (.l2i, 1) := by decide +kernel
theorem dX8_put_40 : decode cX8_put 40 = .ok (.i2b, 1) := by decide +kernel
theorem dX8_put_41 : decode cX8_put 41 = .ok (.bastore, 1) := by decide +kernel
theorem dX8_put_42 : decode cX8_put 42 = .ok (.aload_n 0, 1) := by decide +kernel
theorem dX8_put_43 : decode cX8_put 43 = .ok (.getfield 85, 3) := by decide +kernel
theorem dX8_put_46 : decode cX8_put 46 = .ok (.aload_n 0, 1) := by decide +kernel
theorem dX8_put_47 : decode cX8_put 47 = .ok (.getfield 114, 3) := by decide +kernel
theorem dX8_put_50 : decode cX8_put 50 = .ok (.dup2, 1) := by decide +kernel
theorem dX8_put_51 : decode cX8_put 51 = .ok (.iaload, 1) := by decide +kernel
theorem dX8_put_52 : decode cX8_put 52 = .ok (.iconst 1, 1) := by decide +kernel
theorem dX8_put_53 : decode cX8_put 53 = .ok (.iadd, 1) := by decide +kernel
theorem dX8_put_54 : decode cX8_put 54 = .ok (.iastore, 1) := by decide +kernel
theorem dX8_put_55 : decode cX8_put 55 = .ok (.iinc 4 (-1), 3) := by decide +kernel
theorem dX8_put_58 : decode cX8_put 58 = .ok (.goto (-53), 3) := by decide +kernel
theorem dX8_put_61 : decode cX8_put 61 = .ok (.return_, 1) := by decide +kernel
set_option maxRecDepth 20000 in
theorem ggX8_beginPiece_X8_put : GoodIn wsX8_beginPiece wsX8_put := goodIn_r _ [11, 12, 2, 1, 28, 29, 30, 31, 32, 33, 34, 35, 36, 37, 38, 39, 40, 41, 42, 43, 44, 45, 46, 47, 48, 49, 50, 51, 52, 53, 54, 55, 56, 57, 58, 59, 60, 61, 62] (by decide +kernel) (by decide +kernel)
set_option maxRecDepth 20000 in
theorem gX8_beginPiece_X8_put : GoodIn wsX8_beginPiece (wsV RX8 183 RX8 yX8_put wsX8_put) := goodIn_app (goodIn_of _ (by decide +kernel)) ggX8_beginPiece_X8_put
set_option maxRecDepth 20000 in
theorem ggX8_beginPiece_X8_seenHead : GoodIn wsX8_beginPiece wsX8_seenHead := goodIn_r _ [16, 4, 5, 6, 17, 18, 10, 19, 20, 21, 22, 23, 24, 28, 29, 30, 31, 32, 33, 34, 35, 36, 37, 38, 39, 40, 41, 42, 43, 44, 45, 46, 47, 48, 49, 50, 51, 52, 53, 54, 55, 56, 57, 58, 59, 60, 61, 62] (by decide +kernel) (by decide +kernel)
set_option maxRecDepth 20000 in
theorem gX8_beginPiece_X8_seenHead : GoodIn wsX8_beginPiece (wsV RX8 187 RX8 yX8_seenHead wsX8_seenHead) := goodIn_app (goodIn_of _ (by decide +kernel)) ggX8_beginPiece_X8_seenHead
set_option maxRecDepth 20000 in
theorem ggX8_beginPiece_X8_signature : GoodIn wsX8_beginPiece wsX8_signature := goodIn_r _ [27, 20, 21, 22, 10, 23, 24] (by decide +kernel) (by decide +kernel)
set_option maxRecDepth 20000 in
theorem gX8_beginPiece_X8_signature : GoodIn wsX8_beginPiece (va_wsS RX8 137 yX8_signature wsX8_signature) := goodIn_app (goodIn_of _ (by decide +kernel)) ggX8_beginPiece_X8_signature
theorem dX8_beginPiece_0 : decode cX8_beginPiece 0 = .ok (.aload_n 0, 1) := by decide +kernel
theorem dX8_beginPiece_1 : decode cX8_beginPiece 1 = .ok (.getfield 85, 3) := by decide +kernel
theorem dX8_beginPiece_4 : decode cX8_beginPiece 4 = .ok (.aload_n 0, 1) := by decide +kernel
theorem dX8_beginPiece_5 : decode cX8_beginPiece 5 = .ok (.getfield 114, 3) := by decide +kernel
theorem dX8_beginPiece_8 : decode cX8_beginPiece 8 = .ok (.iconst 0, 1) := by decide +kernel
theorem dX8_beginPiece_9 : decode cX8_beginPiece 9 = .ok (.iastore, 1) := by decide +kernel
theorem dX8_beginPiece_10 : decode cX8_beginPiece 10 = .ok (.aload_n 0, 1) := by decide +kernel
theorem dX8_beginPiece_11 : decode cX8_beginPiece 11 = .ok (.iload_n 1, 1) := by decide +kernel
theorem dX8_beginPiece_12 : decode cX8_beginPiece 12 = .ok (.i2l, 1) := by decide +kernel
theorem dX8_beginPiece_13 : decode cX8_beginPiece 13 = .ok (.iconst 1, 1) := by decide +kernel
theorem dX8_beginPiece_14 : decode cX8_beginPiece 14 = .ok (.invokevirtual 183, 3) := by decide +kernel
theorem dX8_beginPiece_17 : decode cX8_beginPiece 17 = .ok (.aload_n 0, 1) := by decide +kernel
theorem dX8_beginPiece_18 : decode cX8_beginPiece 18 = .ok (.iload_n 2, 1) := by decide +kernel
theorem dX8_beginPiece_19 : decode cX8_beginPiece 19 = .ok (.i2l, 1) := by decide +kernel
theorem dX8_beginPiece_20 : decode cX8_beginPiece 20 = .ok (.iconst 1, 1) := by decide +kernel
theorem dX8_beginPiece_21 : decode cX8_beginPiece 21 = .ok (.invokevirtual 183, 3) := by decide +kernel
theorem dX8_beginPiece_24 : decode cX8_beginPiece 24 = .ok (.aload_n 0, 1) := by decide +kernel
theorem dX8_beginPiece_25 : decode cX8_beginPiece 25 = .ok (.aload_n 0, 1) := by decide +kernel
theorem dX8_beginPiece_26 : decode cX8_beginPiece 26 = .ok (.getfield 180, 3) := by decide +kernel
theorem dX8_beginPiece_29 : decode cX8_beginPiece 29 = .ok (.i2l, 1) := by decide +kernel
theorem dX8_beginPiece_30 : decode cX8_beginPiece 30 = .ok (.iconst 2, 1) := by decide +kernel
theorem dX8_beginPiece_31 : decode cX8_beginPiece 31 = .ok (.invokevirtual 183, 3) := by decide +kernel
theorem dX8_beginPiece_34 : decode cX8_beginPiece 34 = .ok (.iconst 0, 1) := by decide +kernel
theorem dX8_beginPiece_35 : decode cX8_beginPiece 35 = .ok (.istore_n 3, 1) := by decide +kernel
theorem dX8_beginPiece_36 : decode cX8_beginPiece 36 = .ok (.iload_n 3, 1) := by decide +kernel
theorem dX8_beginPiece_37 : decode cX8_beginPiece 37 = .ok (.aload_n 0, 1) := by decide +kernel
theorem dX8_beginPiece_38 : decode cX8_beginPiece 38 = .ok (.getfield 180, 3) := by decide +kernel
theorem dX8_beginPiece_41 : decode cX8_beginPiece 41 = .ok (.if_icmp .ge 45, 3) := by decide +kernel
theorem dX8_beginPiece_44 : decode cX8_beginPiece 44 = .ok (.aload_n 0, 1) := by decide +kernel
theorem dX8_beginPiece_45 : decode cX8_beginPiece 45 = .ok (.aload_n 0, 1) := by decide +kernel
theorem dX8_beginPiece_46 : decode cX8_beginPiece 46 = .ok (.getfield 93, 3) := by decide +kernel
theorem dX8_beginPiece_49 : decode cX8_beginPiece 49 = .ok (.iload_n 3, 1) := by decide +kernel
theorem dX8_beginPiece_50 : decode cX8_beginPiece 50 = .ok (.iaload, 1) := by decide +kernel
theorem dX8_beginPiece_51 : decode cX8_beginPiece 51 = .ok (.i2l, 1) := by decide +kernel
theorem dX8_beginPiece_52 : decode cX8_beginPiece 52 = .ok (.iconst 1, 1) := by decide +kernel
theorem dX8_beginPiece_53 : decode cX8_beginPiece 53 = .ok (.invokevirtual 183, 3) := by decide +kernel
theorem dX8_beginPiece_56 : decode cX8_beginPiece 56 = .ok (.aload_n 0, 1) := by decide +kernel
theorem dX8_beginPiece_57 : decode cX8_beginPiece 57 = .ok (.aload_n 0, 1) := by decide +kernel
theorem dX8_beginPiece_58 : decode cX8_beginPiece 58 = .ok (.getfield 96, 3) := by decide +kernel
theorem dX8_beginPiece_61 : decode cX8_beginPiece 61 = .ok (.iload_n 3, 1) := by decide +kernel
theorem dX8_beginPiece_62 : decode cX8_beginPiece 62 = .ok (.iaload, 1) := by decide +kernel
theorem dX8_beginPiece_63 : decode cX8_beginPiece 63 = .ok (.i2l, 1) := by decide +kernel
theorem dX8_beginPiece_64 : decode cX8_beginPiece 64 = .ok (.iconst 1, 1) := by decide +kernel
theorem dX8_beginPiece_65 : decode cX8_beginPiece 65 = .ok (.invokevirtual 183, 3) := by decide +kernel
theorem dX8_beginPiece_68 : decode cX8_beginPiece 68 = .ok (.aload_n 0, 1) := by decide +kernel
theorem dX8_beginPiece_69 : decode cX8_beginPiece 69 = .ok (.aload_n 0, 1) := by decide +kernel
theorem dX8_beginPiece_70 : decode cX8_beginPiece 70 = .ok (.getfield 99, 3) := by decide +kernel
theorem dX8_beginPiece_73 : decode cX8_beginPiece 73 = .ok (.iload_n 3, 1) := by decide +kernel
theorem dX8_beginPiece_74 : decode cX8_beginPiece 74 = .ok (.iaload, 1) := by decide +kernel
theorem dX8_beginPiece_75 : decode cX8_beginPiece 75 = .ok (.i2l, 1) := by decide +kernel
theorem dX8_beginPiece_76 : decode cX8_beginPiece 76 = .ok (.iconst 4, 1) := by decide +kernel
theorem dX8_beginPiece_77 : decode cX8_beginPiece 77 = .ok (.invokevirtual 183, 3) := by decide +kernel
theorem dX8_beginPiece_80 : decode cX8_beginPiece 80 = .ok (.iinc 3 1, 3) := by decide +kernel
theorem dX8_beginPiece_83 : decode cX8_beginPiece 83 = .ok (.goto (-47), 3) := by decide +kernel
theorem dX8_beginPiece_86 : decode cX8_beginPiece 86 = .ok (.aload_n 0, 1) := by decide +kernel
theorem dX8_beginPiece_87 : decode cX8_beginPiece 87 = .ok (.iload_n 2, 1) := by decide +kernel
theorem dX8_beginPiece_88 : decode cX8_beginPiece 88 = .ok (.aload_n 0, 1) := by decide +kernel
theorem dX8_beginPiece_89 : decode cX8_beginPiece 89 = .ok (.getfield 180, 3) := by decide +kernel
theorem dX8_beginPiece_92 : decode cX8_beginPiece 92 = .ok (.aload_n 0, 1) := by decide +kernel
theorem dX8_beginPiece_93 : decode cX8_beginPiece 93 = .ok (.aload_n 0, 1) := by decide +kernel
theorem dX8_beginPiece_94 : decode cX8_beginPiece 94 = .ok (.getfield 180, 3) := by decide +kernel
theorem dX8_beginPiece_97 : decode cX8_beginPiece 97 = .ok (.invokevirtual 187, 3) := by decide +kernel
theorem dX8_beginPiece_100 : decode cX8_beginPiece 100 = .ok (.invokestatic 137, 3) := by decide +kernel
theorem dX8_beginPiece_103 : decode cX8_beginPiece 103 = .ok (.bipush 8, 2) := by decide +kernel
theorem dX8_beginPiece_105 : decode cX8_beginPiece 105 = .ok (.invokevirtual 183, 3) := by decide +kernel
theorem dX8_beginPiece_108 : decode cX8_beginPiece 108 = .ok (.return_, 1) := by decide +kernel
theorem dX8_said_0 : decode cX8_said 0 = .ok (.aload_n 0, 1) := by decide +kernel
theorem dX8_said_1 : decode cX8_said 1 = .ok (.getfield 36, 3) := by decide +kernel
theorem dX8_said_4 : decode cX8_said 4 = .ok (.bipush 6, 2) := by decide +kernel
theorem dX8_said_6 : decode cX8_said 6 = .ok (.iload_n 1, 1) := by decide +kernel
theorem dX8_said_7 : decode cX8_said 7 = .ok (.imul, 1) := by decide +kernel
theorem dX8_said_8 : decode cX8_said 8 = .ok (.iload_n 2, 1) := by decide +kernel
theorem dX8_said_9 : decode cX8_said 9 = .ok (.iadd, 1) := by decide +kernel
theorem dX8_said_10 : decode cX8_said 10 = .ok (.iload_n 3, 1) := by decide +kernel
theorem dX8_said_11 : decode cX8_said 11 = .ok (.iastore, 1) := by decide +kernel
theorem dX8_said_12 : decode cX8_said 12 = .ok (.iload_n 3, 1) := by decide +kernel
theorem dX8_said_13 : decode cX8_said 13 = .ok (.ireturn, 1) := by decide +kernel
set_option maxRecDepth 20000 in
theorem ggX8_audit_X8_no : GoodIn wsX8_audit wsX8_no := goodIn_r _ [13, 1, 91, 92, 93, 94, 95, 96, 97, 98, 99, 100, 101, 102, 103, 104, 105, 106, 107, 108, 109, 110, 111, 112, 113, 114, 115, 116, 117, 118, 119, 120, 121, 122, 123, 124, 125] (by decide +kernel) (by decide +kernel)
set_option maxRecDepth 20000 in
theorem gX8_audit_X8_no : GoodIn wsX8_audit (wsV RX8 145 RX8 yX8_no wsX8_no) := goodIn_app (goodIn_of _ (by decide +kernel)) ggX8_audit_X8_no
set_option maxRecDepth 20000 in
theorem ggX8_audit_X8_said : GoodIn wsX8_audit wsX8_said := goodIn_r _ [17, 4, 91, 92, 93, 94, 95, 96, 97, 98, 99, 100, 101, 102, 103, 104, 105, 106, 107, 108, 109, 110, 111, 112, 113, 114, 115, 116, 117, 118, 119, 120, 121, 122, 123, 124, 125] (by decide +kernel) (by decide +kernel)
set_option maxRecDepth 20000 in
theorem gX8_audit_X8_said : GoodIn wsX8_audit (wsV RX8 191 RX8 yX8_said wsX8_said) := goodIn_app (goodIn_of _ (by decide +kernel)) ggX8_audit_X8_said
set_option maxRecDepth 20000 in
theorem ggX8_audit_X8_look : GoodIn wsX8_audit wsX8_look := goodIn_r _ [21, 8, 22, 23, 24, 25, 26, 27, 28, 91, 92, 93, 94, 95, 96, 97, 98, 99, 100, 101, 102, 103, 104, 105, 106, 107, 108, 109, 110, 111, 112, 113, 114, 115, 116, 117, 118, 119, 120, 121, 122, 123, 124, 125] (by decide +kernel) (by decide +kernel)
set_option maxRecDepth 20000 in
theorem gX8_audit_X8_look : GoodIn wsX8_audit (wsV RX8 195 RX8 yX8_look wsX8_look) := goodIn_app (goodIn_of _ (by decide +kernel)) ggX8_audit_X8_look
set_option maxRecDepth 20000 in
theorem ggX8_audit_X8_fork : GoodIn wsX8_audit wsX8_fork := goodIn_r _ [32, 33, 34, 6, 8, 7, 35, 36, 37, 12, 38, 24, 26, 28, 39, 40, 41, 42, 43, 44, 45, 46, 91, 92, 93, 94, 95, 96, 97, 98, 99, 100, 101, 102, 103, 104, 105, 106, 107, 108, 109, 110, 111, 112, 113, 114, 115, 116, 117, 118, 119, 120, 121, 122, 123, 124, 125] (by decide +kernel) (by decide +kernel)
set_option maxRecDepth 20000 in
theorem gX8_audit_X8_fork : GoodIn wsX8_audit (wsV RX8 198 RX8 yX8_fork wsX8_fork) := goodIn_app (goodIn_of _ (by decide +kernel)) ggX8_audit_X8_fork
set_option maxRecDepth 20000 in
theorem ggX8_audit_X8_firstWrong : GoodIn wsX8_audit wsX8_firstWrong := goodIn_r _ [50, 22, 23, 25, 27, 1, 51, 52, 12, 53, 54, 55, 56, 57, 58, 59, 60, 91, 92, 93, 94, 95, 96, 97, 98, 99, 100, 101, 102, 103, 104, 105, 106, 107, 108, 109, 110, 111, 112, 113, 114, 115, 116, 117, 118, 119, 120, 121, 122, 123, 124, 125] (by decide +kernel) (by decide +kernel)
set_option maxRecDepth 20000 in
theorem gX8_audit_X8_firstWrong : GoodIn wsX8_audit (wsV RX8 201 RX8 yX8_firstWrong wsX8_firstWrong) := goodIn_app (goodIn_of _ (by decide +kernel)) ggX8_audit_X8_firstWrong
set_option maxRecDepth 20000 in
theorem ggX8_audit_X8_beginPiece : GoodIn wsX8_audit wsX8_beginPiece := goodIn_r _ [64, 65, 2, 22, 23, 25, 27, 66, 67, 68, 12, 69, 70, 71, 72, 73, 74, 39, 40, 41, 42, 43, 44, 45, 46, 75, 76, 77, 91, 92, 93, 94, 95, 96, 97, 98, 99, 100, 101, 102, 103, 104, 105, 106, 107, 108, 109, 110, 111, 112, 113, 114, 115, 116, 117, 118, 119, 120, 121, 122, 123, 124, 125] (by decide +kernel) (by decide +kernel)
set_option maxRecDepth 20000 in
theorem gX8_audit_X8_beginPiece : GoodIn wsX8_audit (wsV RX8 204 RX8 yX8_beginPiece wsX8_beginPiece) := goodIn_app (goodIn_of _ (by decide +kernel)) ggX8_audit_X8_beginPiece
set_option maxRecDepth 20000 in
theorem ggX8_audit_X8_put : GoodIn wsX8_audit wsX8_put := goodIn_r _ [69, 70, 2, 65, 91, 92, 93, 94, 95, 96, 97, 98, 99, 100, 101, 102, 103, 104, 105, 106, 107, 108, 109, 110, 111, 112, 113, 114, 115, 116, 117, 118, 119, 120, 121, 122, 123, 124, 125] (by decide +kernel) (by decide +kernel)
set_option maxRecDepth 20000 in
theorem gX8_audit_X8_put : GoodIn wsX8_audit (wsV RX8 183 RX8 yX8_put wsX8_put) := goodIn_app (goodIn_of _ (by decide +kernel)) ggX8_audit_X8_put
set_option maxRecDepth 20000 in
theorem ggX8_audit_X8_signature : GoodIn wsX8_audit wsX8_signature := goodIn_r _ [77, 42, 43, 44, 12, 45, 46] (by decide +kernel) (by decide +kernel)
set_option maxRecDepth 20000 in
theorem gX8_audit_X8_signature : GoodIn wsX8_audit (va_wsS RX8 137 yX8_signature wsX8_signature) := goodIn_app (goodIn_of _ (by decide +kernel)) ggX8_audit_X8_signature
set_option maxRecDepth 20000 in
theorem ggX8_audit_X8_isBehind : GoodIn wsX8_audit wsX8_isBehind := goodIn_r _ [81, 33, 34, 6, 8, 91, 92, 93, 94, 95, 96, 97, 98, 99, 100, 101, 102, 103, 104, 105, 106, 107, 108, 109, 110, 111, 112, 113, 114, 115, 116, 117, 118, 119, 120, 121, 122, 123, 124, 125] (by decide +kernel) (by decide +kernel)
set_option maxRecDepth 20000 in
theorem gX8_audit_X8_isBehind : GoodIn wsX8_audit (wsV RX8 208 RX8 yX8_isBehind wsX8_isBehind) := goodIn_app (goodIn_of _ (by decide +kernel)) ggX8_audit_X8_isBehind
set_option maxRecDepth 20000 in
theorem ggX8_audit_X8_headOf : GoodIn wsX8_audit wsX8_headOf := goodIn_r _ [38, 24, 26, 28, 39, 40, 12, 41, 42, 43, 44, 45, 46, 91, 92, 93, 94, 95, 96, 97, 98, 99, 100, 101, 102, 103, 104, 105, 106, 107, 108, 109, 110, 111, 112, 113, 114, 115, 116, 117, 118, 119, 120, 121, 122, 123, 124, 125] (by decide +kernel) (by decide +kernel)
set_option maxRecDepth 20000 in
theorem gX8_audit_X8_headOf : GoodIn wsX8_audit (wsV RX8 129 RX8 yX8_headOf wsX8_headOf) := goodIn_app (goodIn_of _ (by decide +kernel)) ggX8_audit_X8_headOf
set_option maxRecDepth 20000 in
theorem ggX8_audit_X8_keep : GoodIn wsX8_audit wsX8_keep := goodIn_r _ [85, 33, 34, 6, 7, 86, 87, 88, 89, 12, 90, 91, 92, 93, 94, 95, 96, 97, 98, 99, 100, 101, 102, 103, 104, 105, 106, 107, 108, 109, 110, 111, 112, 113, 114, 115, 116, 117, 118, 119, 120, 121, 122, 123, 124, 125] (by decide +kernel) (by decide +kernel)
set_option maxRecDepth 20000 in
theorem gX8_audit_X8_keep : GoodIn wsX8_audit (wsV RX8 168 RX8 yX8_keep wsX8_keep) := goodIn_app (goodIn_of _ (by decide +kernel)) ggX8_audit_X8_keep
theorem dX8_audit_0 : decode cX8_audit 0 = .ok (.aload_n 0, 1) := by decide +kernel
theorem dX8_audit_1 : decode cX8_audit 1 = .ok (.iload_n 1, 1) := by decide +kernel
theorem dX8_audit_2 : decode cX8_audit 2 = .ok (.invokevirtual 145, 3) := by decide +kernel
theorem dX8_audit_5 : decode cX8_audit 5 = .ok (.ifCond .ne 39, 3) := by decide +kernel
theorem dX8_audit_8 : decode cX8_audit 8 = .ok (.aload_n 0, 1) := by decide +kernel
theorem dX8_audit_9 : decode cX8_audit 9 = .ok (.iload_n 2, 1) := by decide +kernel
theorem dX8_audit_10 : decode cX8_audit 10 = .ok (.invokevirtual 145, 3) := by decide +kernel
theorem dX8_audit_13 : decode cX8_audit 13 = .ok (.ifCond .ne 31, 3) := by decide +kernel
theorem dX8_audit_16 : decode cX8_audit 16 = .ok (.iload_n 2, 1) := by decide +kernel
theorem dX8_audit_17 : decode cX8_audit 17 = .ok (.iconst 1, 1) := by decide +kernel
theorem dX8_audit_18 : decode cX8_audit 18 = .ok (.iadd, 1) := by decide +kernel
theorem dX8_audit_19 : decode cX8_audit 19 = .ok (.aload_n 0, 1) := by decide +kernel
theorem dX8_audit_20 : decode cX8_audit 20 = .ok (.getfield 7, 3) := by decide +kernel
theorem dX8_audit_23 : decode cX8_audit 23 = .ok (.irem, 1) := by decide +kernel
theorem dX8_audit_24 : decode cX8_audit 24 = .ok (.iload_n 1, 1) := by decide +kernel
theorem dX8_audit_25 : decode cX8_audit 25 = .ok (.if_icmp .eq 15, 3) := by decide +kernel
theorem dX8_audit_28 : decode cX8_audit 28 = .ok (.iload_n 2, 1) := by decide +kernel
theorem dX8_audit_29 : decode cX8_audit 29 = .ok (.iconst 2, 1) := by decide +kernel
theorem dX8_audit_30 : decode cX8_audit 30 = .ok (.iadd, 1) := by decide +kernel
theorem dX8_audit_31 : decode cX8_audit 31 = .ok (.aload_n 0, 1) := by decide +kernel
theorem dX8_audit_32 : decode cX8_audit 32 = .ok (.getfield 7, 3) := by decide +kernel
theorem dX8_audit_35 : decode cX8_audit 35 = .ok (.irem, 1) := by decide +kernel
theorem dX8_audit_36 : decode cX8_audit 36 = .ok (.iload_n 1, 1) := by decide +kernel
theorem dX8_audit_37 : decode cX8_audit 37 = .ok (.if_icmp .ne 7, 3) := by decide +kernel
theorem dX8_audit_40 : decode cX8_audit 40 = .ok (.iconst 1, 1) := by decide +kernel
theorem dX8_audit_41 : decode cX8_audit 41 = .ok (.goto 4, 3) := by decide +kernel
theorem dX8_audit_44 : decode cX8_audit 44 = .ok (.iconst 0, 1) := by decide +kernel
theorem dX8_audit_45 : decode cX8_audit 45 = .ok (.istore_n 3, 1) := by decide +kernel
theorem dX8_audit_46 : decode cX8_audit 46 = .ok (.aload_n 0, 1) := by decide +kernel
theorem dX8_audit_47 : decode cX8_audit 47 = .ok (.iload_n 3, 1) := by decide +kernel
theorem dX8_audit_48 : decode cX8_audit 48 = .ok (.ifCond .ne 7, 3) := by decide +kernel
theorem dX8_audit_51 : decode cX8_audit 51 = .ok (.iconst 1, 1) := by decide +kernel
theorem dX8_audit_52 : decode cX8_audit 52 = .ok (.goto 17, 3) := by decide +kernel
theorem dX8_audit_55 : decode cX8_audit 55 = .ok (.aload_n 0, 1) := by decide +kernel
theorem dX8_audit_56 : decode cX8_audit 56 = .ok (.getfield 114, 3) := by decide +kernel
theorem dX8_audit_59 : decode cX8_audit 59 = .ok (.bipush 40, 2) := by decide +kernel
theorem dX8_audit_61 : decode cX8_audit 61 = .ok (.if_icmp .ne 7, 3) := by decide +kernel
theorem dX8_audit_64 : decode cX8_audit 64 = .ok (.iconst 2, 1) := by decide +kernel
theorem dX8_audit_65 : decode cX8_audit 65 = .ok (.goto 4, 3) := by decide +kernel
theorem dX8_audit_68 : decode cX8_audit 68 = .ok (.iconst 0, 1) := by decide +kernel
theorem dX8_audit_69 : decode cX8_audit 69 = .ok (.putfield 102, 3) := by decide +kernel
theorem dX8_audit_72 : decode cX8_audit 72 = .ok (.aload_n 0, 1) := by decide +kernel
theorem dX8_audit_73 : decode cX8_audit 73 = .ok (.getfield 102, 3) := by decide +kernel
theorem dX8_audit_76 : decode cX8_audit 76 = .ok (.ifCond .le 5, 3) := by decide +kernel
theorem dX8_audit_79 : decode cX8_audit 79 = .ok (.iconst 0, 1) := by decide +kernel
theorem dX8_audit_80 : decode cX8_audit 80 = .ok (.ireturn, 1) := by decide +kernel
theorem dX8_audit_81 : decode cX8_audit 81 = .ok (.aload_n 0, 1) := by decide +kernel
theorem dX8_audit_82 : decode cX8_audit 82 = .ok (.getfield 36, 3) := by decide +kernel
theorem dX8_audit_85 : decode cX8_audit 85 = .ok (.bipush 6, 2) := by decide +kernel
theorem dX8_audit_87 : decode cX8_audit 87 = .ok (.iload_n 1, 1) := by decide +kernel
theorem dX8_audit_88 : decode cX8_audit 88 = .ok (.imul, 1) := by decide +kernel
theorem dX8_audit_89 : decode cX8_audit 89 = .ok (.iload_n 2, 1) := by decide +kernel
theorem dX8_audit_90 : decode cX8_audit 90 = .ok (.iadd, 1) := by decide +kernel
theorem dX8_audit_91 : decode cX8_audit 91 = .ok (.iaload, 1) := by decide +kernel
theorem dX8_audit_92 : decode cX8_audit 92 = .ok (.iconst 2, 1) := by decide +kernel
theorem dX8_audit_93 : decode cX8_audit 93 = .ok (.if_icmp .ne 5, 3) := by decide +kernel
theorem dX8_audit_96 : decode cX8_audit 96 = .ok (.iconst 2, 1) := by decide +kernel
theorem dX8_audit_97 : decode cX8_audit 97 = .ok (.ireturn, 1) := by decide +kernel
theorem dX8_audit_98 : decode cX8_audit 98 = .ok (.aload_n 0, 1) := by decide +kernel
theorem dX8_audit_99 : decode cX8_audit 99 = .ok (.getfield 32, 3) := by decide +kernel
theorem dX8_audit_102 : decode cX8_audit 102 = .ok (.iload_n 2, 1) := by decide +kernel
theorem dX8_audit_103 : decode cX8_audit 103 = .ok (.baload, 1) := by decide +kernel
theorem dX8_audit_104 : decode cX8_audit 104 = .ok (.ifCond .eq 11, 3) := by decide +kernel
theorem dX8_audit_107 : decode cX8_audit 107 = .ok (.aload_n 0, 1) := by decide +kernel
theorem dX8_audit_108 : decode cX8_audit 108 = .ok (.iload_n 1, 1) := by decide +kernel
theorem dX8_audit_109 : decode cX8_audit 109 = .ok (.iload_n 2, 1) := by decide +kernel
theorem dX8_audit_110 : decode cX8_audit 110 = .ok (.iconst 1, 1) := by decide +kernel
theorem dX8_audit_111 : decode cX8_audit 111 = .ok (.invokevirtual 191, 3) := by decide +kernel
theorem dX8_audit_114 : decode cX8_audit 114 = .ok (.ireturn, 1) := by decide +kernel
theorem dX8_audit_115 : decode cX8_audit 115 = .ok (.aload_n 0, 1) := by decide +kernel
theorem dX8_audit_116 : decode cX8_audit 116 = .ok (.iload_n 2, 1) := by decide +kernel
theorem dX8_audit_117 : decode cX8_audit 117 = .ok (.invokevirtual 195, 3) := by decide +kernel
theorem dX8_audit_120 : decode cX8_audit 120 = .ok (.aload_n 0, 1) := by decide +kernel
theorem dX8_audit_121 : decode cX8_audit 121 = .ok (.iload_n 1, 1) := by decide +kernel
theorem dX8_audit_122 : decode cX8_audit 122 = .ok (.iload_n 2, 1) := by decide +kernel
theorem dX8_audit_123 : decode cX8_audit 123 = .ok (.invokevirtual 198, 3) := by decide +kernel
theorem dX8_audit_126 : decode cX8_audit 126 = .ok (.istore 4, 2) := by decide +kernel
theorem dX8_audit_128 : decode cX8_audit 128 = .ok (.aload_n 0, 1) := by decide +kernel
theorem dX8_audit_129 : decode cX8_audit 129 = .ok (.iload_n 2, 1) := by decide +kernel
theorem dX8_audit_130 : decode cX8_audit 130 = .ok (.invokevirtual 201, 3) := by decide +kernel
theorem dX8_audit_133 : decode cX8_audit 133 = .ok (.istore 5, 2) := by decide +kernel
theorem dX8_audit_135 : decode cX8_audit 135 = .ok (.iload 4, 2) := by decide +kernel
theorem dX8_audit_137 : decode cX8_audit 137 = .ok (.ifCond .lt 77, 3) := by decide +kernel
theorem dX8_audit_140 : decode cX8_audit 140 = .ok (.aload_n 0, 1) := by decide +kernel
theorem dX8_audit_141 : decode cX8_audit 141 = .ok (.iconst 1, 1) := by decide +kernel
theorem dX8_audit_142 : decode cX8_audit 142 = .ok (.iload_n 2, 1) := by decide +kernel
theorem dX8_audit_143 : decode cX8_audit 143 = .ok (.invokevirtual 204, 3) := by decide +kernel
theorem dX8_audit_146 : decode cX8_audit 146 = .ok (.aload_n 0, 1) := by decide +kernel
theorem dX8_audit_147 : decode cX8_audit 147 = .ok (.aload_n 0, 1) := by decide +kernel
theorem dX8_audit_148 : decode cX8_audit 148 = .ok (.getfield 76, 3) := by decide +kernel
theorem dX8_audit_151 : decode cX8_audit 151 = .ok (.iload 4, 2) := by decide +kernel
theorem dX8_audit_153 : decode cX8_audit 153 = .ok (.iaload, 1) := by decide +kernel
theorem dX8_audit_154 : decode cX8_audit 154 = .ok (.i2l, 1) := by decide +kernel
theorem dX8_audit_155 : decode cX8_audit 155 = .ok (.iconst 2, 1) := by decide +kernel
theorem dX8_audit_156 : decode cX8_audit 156 = .ok (.invokevirtual 183, 3) := by decide +kernel
theorem dX8_audit_159 : decode cX8_audit 159 = .ok (.aload_n 0, 1) := by decide +kernel
theorem dX8_audit_160 : decode cX8_audit 160 = .ok (.aload_n 0, 1) := by decide +kernel
theorem dX8_audit_161 : decode cX8_audit 161 = .ok (.getfield 79, 3) := by decide +kernel
theorem dX8_audit_164 : decode cX8_audit 164 = .ok (.iload 4, 2) := by decide +kernel
theorem dX8_audit_166 : decode cX8_audit 166 = .ok (.laload, 1) := by decide +kernel
theorem dX8_audit_167 : decode cX8_audit 167 = .ok (.bipush 8, 2) := by decide +kernel
theorem dX8_audit_169 : decode cX8_audit 169 = .ok (.invokevirtual 183, 3) := by decide +kernel
theorem dX8_audit_172 : decode cX8_audit 172 = .ok (.aload_n 0, 1) := by decide +kernel
theorem dX8_audit_173 : decode cX8_audit 173 = .ok (.iload_n 2, 1) := by decide +kernel
theorem dX8_audit_174 : decode cX8_audit 174 = .ok (.aload_n 0, 1) := by decide +kernel
theorem dX8_audit_175 : decode cX8_audit 175 = .ok (.getfield 76, 3) := by decide +kernel
theorem dX8_audit_178 : decode cX8_audit 178 = .ok (.iload 4, 2) := by decide +kernel
theorem dX8_audit_180 : decode cX8_audit 180 = .ok (.iaload, 1) := by decide +kernel
theorem dX8_audit_181 : decode cX8_audit 181 = .ok (.aload_n 0, 1) := by decide +kernel
theorem dX8_audit_182 : decode cX8_audit 182 = .ok (.getfield 79, 3) := by decide +kernel
theorem dX8_audit_185 : decode cX8_audit 185 = .ok (.iload 4, 2) := by decide +kernel
theorem dX8_audit_187 : decode cX8_audit 187 = .ok (.laload, 1) := by decide +kernel
theorem dX8_audit_188 : decode cX8_audit 188 = .ok (.invokestatic 137, 3) := by decide +kernel
theorem dX8_audit_191 : decode cX8_audit 191 = .ok (.bipush 8, 2) := by decide +kernel
theorem dX8_audit_193 : decode cX8_audit 193 = .ok (.invokevirtual 183, 3) := by decide +kernel
theorem dX8_audit_196 : decode cX8_audit 196 = .ok (.aload_n 0, 1) := by decide +kernel
theorem dX8_audit_197 : decode cX8_audit 197 = .ok (.dup, 1) := by decide +kernel
theorem dX8_audit_198 : decode cX8_audit 198 = .ok (.getfield 114, 3) := by decide +kernel
theorem dX8_audit_201 : decode cX8_audit 201 = .ok (.iconst 1, 1) := by decide +kernel
theorem dX8_audit_202 : decode cX8_audit 202 = .ok (.iadd, 1) := by decide +kernel
theorem dX8_audit_203 : decode cX8_audit 203 = .ok (.putfield 114, 3) := by decide +kernel
theorem dX8_audit_206 : decode cX8_audit 206 = .ok (.aload_n 0, 1) := by decide +kernel
theorem dX8_audit_207 : decode cX8_audit 207 = .ok (.iload_n 1, 1) := by decide +kernel
theorem dX8_audit_208 : decode cX8_audit 208 = .ok (.iload_n 2, 1) := by decide +kernel
theorem dX8_audit_209 : decode cX8_audit 209 = .ok (.iconst 2, 1) := by decide +kernel
theorem dX8_audit_210 : decode cX8_audit 210 = .ok (.invokevirtual 191, 3) := by decide +kernel
theorem dX8_audit_213 : decode cX8_audit 213 = .ok (.ireturn, 1) := by decide +kernel
theorem dX8_audit_214 : decode cX8_audit 214 = .ok (.iload 5, 2) := by decide +kernel
theorem dX8_audit_216 : decode cX8_audit 216 = .ok (.ifCond .le 35, 3) := by decide +kernel
theorem dX8_audit_219 : decode cX8_audit 219 = .ok (.aload_n 0, 1) := by decide +kernel
theorem dX8_audit_220 : decode cX8_audit 220 = .ok (.iconst 2, 1) := by decide +kernel
theorem dX8_audit_221 : decode cX8_audit 221 = .ok (.iload_n 2, 1) := by decide +kernel
theorem dX8_audit_222 : decode cX8_audit 222 = .ok (.invokevirtual 204, 3) := by decide +kernel
theorem dX8_audit_225 : decode cX8_audit 225 = .ok (.aload_n 0, 1) := by decide +kernel
theorem dX8_audit_226 : decode cX8_audit 226 = .ok (.iload 5, 2) := by decide +kernel
theorem dX8_audit_228 : decode cX8_audit 228 = .ok (.i2l, 1) := by decide +kernel
theorem dX8_audit_229 : decode cX8_audit 229 = .ok (.iconst 2, 1) := by decide +kernel
theorem dX8_audit_230 : decode cX8_audit 230 = .ok (.invokevirtual 183, 3) := by decide +kernel
theorem dX8_audit_233 : decode cX8_audit 233 = .ok (.aload_n 0, 1) := by decide +kernel
theorem dX8_audit_234 : decode cX8_audit 234 = .ok (.dup, 1) := by decide +kernel
theorem dX8_audit_235 : decode cX8_audit 235 = .ok (.getfield 114, 3) := by decide +kernel
theorem dX8_audit_238 : decode cX8_audit 238 = .ok (.iconst 1, 1) := by decide +kernel
theorem dX8_audit_239 : decode cX8_audit 239 = .ok (.iadd, 1) := by decide +kernel
theorem dX8_audit_240 : decode cX8_audit 240 = .ok (.putfield 114, 3) := by decide +kernel
theorem dX8_audit_243 : decode cX8_audit 243 = .ok (.aload_n 0, 1) := by decide +kernel
theorem dX8_audit_244 : decode cX8_audit 244 = .ok (.iload_n 1, 1) := by decide +kernel
theorem dX8_audit_245 : decode cX8_audit 245 = .ok (.iload_n 2, 1) := by decide +kernel
theorem dX8_audit_246 : decode cX8_audit 246 = .ok (.iconst 2, 1) := by decide +kernel
theorem dX8_audit_247 : decode cX8_audit 247 = .ok (.invokevirtual 191, 3) := by decide +kernel
theorem dX8_audit_250 : decode cX8_audit 250 = .ok (.ireturn, 1) := by decide +kernel
theorem dX8_audit_251 : decode cX8_audit 251 = .ok (.aload_n 0, 1) := by decide +kernel
theorem dX8_audit_252 : decode cX8_audit 252 = .ok (.iload_n 1, 1) := by decide +kernel
theorem dX8_audit_253 : decode cX8_audit 253 = .ok (.iload_n 2, 1) := by decide +kernel
theorem dX8_audit_254 : decode cX8_audit 254 = .ok (.invokevirtual 208, 3) := by decide +kernel
theorem dX8_audit_257 : decode cX8_audit 257 = .ok (.ifCond .eq 11, 3) := by decide +kernel
theorem dX8_audit_260 : decode cX8_audit 260 = .ok (.aload_n 0, 1) := by decide +kernel
theorem dX8_audit_261 : decode cX8_audit 261 = .ok (.iload_n 1, 1) := by decide +kernel
theorem dX8_audit_262 : decode cX8_audit 262 = .ok (.iload_n 2, 1) := by decide +kernel
theorem dX8_audit_263 : decode cX8_audit 263 = .ok (.iconst 1, 1) := by decide +kernel
theorem dX8_audit_264 : decode cX8_audit 264 = .ok (.invokevirtual 191, 3) := by decide +kernel
theorem dX8_audit_267 : decode cX8_audit 267 = .ok (.ireturn, 1) := by decide +kernel
theorem dX8_audit_268 : decode cX8_audit 268 = .ok (.aload_n 0, 1) := by decide +kernel
theorem dX8_audit_269 : decode cX8_audit 269 = .ok (.getfield 20, 3) := by decide +kernel
theorem dX8_audit_272 : decode cX8_audit 272 = .ok (.iload_n 2, 1) := by decide +kernel
theorem dX8_audit_273 : decode cX8_audit 273 = .ok (.iaload, 1) := by decide +kernel
theorem dX8_audit_274 : decode cX8_audit 274 = .ok (.ifCond .le 34, 3) := by decide +kernel
theorem dX8_audit_277 : decode cX8_audit 277 = .ok (.aload_n 0, 1) := by decide +kernel
theorem dX8_audit_278 : decode cX8_audit 278 = .ok (.iload_n 1, 1) := by decide +kernel
theorem dX8_audit_279 : decode cX8_audit 279 = .ok (.iload_n 2, 1) := by decide +kernel
theorem dX8_audit_280 : decode cX8_audit 280 = .ok (.aload_n 0, 1) := by decide +kernel
theorem dX8_audit_281 : decode cX8_audit 281 = .ok (.getfield 20, 3) := by decide +kernel
theorem dX8_audit_284 : decode cX8_audit 284 = .ok (.iload_n 2, 1) := by decide +kernel
theorem dX8_audit_285 : decode cX8_audit 285 = .ok (.iaload, 1) := by decide +kernel
theorem dX8_audit_286 : decode cX8_audit 286 = .ok (.aload_n 0, 1) := by decide +kernel
theorem dX8_audit_287 : decode cX8_audit 287 = .ok (.iload_n 2, 1) := by decide +kernel
theorem dX8_audit_288 : decode cX8_audit 288 = .ok (.aload_n 0, 1) := by decide +kernel
theorem dX8_audit_289 : decode cX8_audit 289 = .ok (.getfield 20, 3) := by decide +kernel
theorem dX8_audit_292 : decode cX8_audit 292 = .ok (.iload_n 2, 1) := by decide +kernel
theorem dX8_audit_293 : decode cX8_audit 293 = .ok (.iaload, 1) := by decide +kernel
theorem dX8_audit_294 : decode cX8_audit 294 = .ok (.invokevirtual 129, 3) := by decide +kernel
theorem dX8_audit_297 : decode cX8_audit 297 = .ok (.iconst 0, 1) := by decide +kernel
theorem dX8_audit_298 : decode cX8_audit 298 = .ok (.invokevirtual 168, 3) := by decide +kernel
theorem dX8_audit_301 : decode cX8_audit 301 = .ok (.ifCond .eq 7, 3) := by decide +kernel
theorem dX8_audit_304 : decode cX8_audit 304 = .ok (.iconst 1, 1) := by decide +kernel
theorem dX8_audit_305 : decode cX8_audit 305 = .ok (.goto 4, 3) := by decide +kernel
theorem dX8_audit_308 : decode cX8_audit 308 = .ok (.iconst 0, 1) := by decide +kernel
theorem dX8_audit_309 : decode cX8_audit 309 = .ok (.istore 6, 2) := by decide +kernel
theorem dX8_audit_311 : decode cX8_audit 311 = .ok (.aload_n 0, 1) := by decide +kernel
theorem dX8_audit_312 : decode cX8_audit 312 = .ok (.iload_n 1, 1) := by decide +kernel
theorem dX8_audit_313 : decode cX8_audit 313 = .ok (.iload_n 2, 1) := by decide +kernel
theorem dX8_audit_314 : decode cX8_audit 314 = .ok (.iconst 0, 1) := by decide +kernel
theorem dX8_audit_315 : decode cX8_audit 315 = .ok (.invokevirtual 191, 3) := by decide +kernel
theorem dX8_audit_318 : decode cX8_audit 318 = .ok (.ireturn, 1) := by decide +kernel
theorem dX8_read_0 : decode cX8_read 0 = .ok (.lconst 0, 1) := by decide +kernel
theorem dX8_read_1 : decode cX8_read 1 = .ok (.lstore 4, 2) := by decide +kernel
theorem dX8_read_3 : decode cX8_read 3 = .ok (.iconst 0, 1) := by decide +kernel
theorem dX8_read_4 : decode cX8_read 4 = .ok (.istore 6, 2) := by decide +kernel
theorem dX8_read_6 : decode cX8_read 6 = .ok (.iload 6, 2) := by decide +kernel
theorem dX8_read_8 : decode cX8_read 8 = .ok (.iload_n 3, 1) := by decide +kernel
theorem dX8_read_9 : decode cX8_read 9 = .ok (.if_icmp .ge 37, 3) := by decide +kernel
theorem dX8_read_12 : decode cX8_read 12 = .ok (.lload 4, 2) := by decide +kernel
theorem dX8_read_14 : decode cX8_read 14 = .ok (.bipush 8, 2) := by decide +kernel
theorem dX8_read_16 : decode cX8_read 16 = .ok (.lshl, 1) := by decide +kernel
theorem dX8_read_17 : decode cX8_read 17 = .ok (.aload_n 0, 1) := by decide +kernel
theorem dX8_read_18 : decode cX8_read 18 = .ok (.getfield 89, 3) := by decide +kernel
theorem dX8_read_21 : decode cX8_read 21 = .ok (.sipush 940, 3) := by decide +kernel
theorem dX8_read_24 : decode cX8_read 24 = .ok (.iload_n 1, 1) := by decide +kernel
theorem dX8_read_25 : decode cX8_read 25 = .ok (.imul, 1) := by decide +kernel
theorem dX8_read_26 : decode cX8_read 26 = .ok (.iload_n 2, 1) := by decide +kernel
theorem dX8_read_27 : decode cX8_read 27 = .ok (.iadd, 1) := by decide +kernel
theorem dX8_read_28 : decode cX8_read 28 = .ok (.iload 6, 2) := by decide +kernel
theorem dX8_read_30 : decode cX8_read 30 = .ok (.iadd, 1) := by decide +kernel
theorem dX8_read_31 : decode cX8_read 31 = .ok (.baload, 1) := by decide +kernel
theorem dX8_read_32 : decode cX8_read 32 = .ok (.sipush 255, 3) := by decide +kernel
theorem dX8_read_35 : decode cX8_read 35 = .ok (.iand, 1) := by decide +kernel
theorem dX8_read_36 : decode cX8_read 36 = .ok (.i2l, 1) := by decide +kernel
theorem dX8_read_37 : decode cX8_read 37 = .ok (.lor, 1) := by decide +kernel
theorem dX8_read_38 : decode cX8_read 38 = .ok (.lstore 4, 2) := by decide +kernel
theorem dX8_read_40 : decode cX8_read 40 = .ok (.iinc 6 1, 3) := by decide +kernel
theorem dX8_read_43 : decode cX8_read 43 = .ok (.goto (-37), 3) := by decide +kernel
theorem dX8_read_46 : decode cX8_read 46 = .ok (.lload 4, 2) := by decide +kernel
theorem dX8_read_48 : decode cX8_read 48 = .ok (.lreturn, 1) := by decide +kernel
theorem dX8_isPiece_0 : decode cX8_isPiece 0 = .ok (.iload_n 1, 1) := by decide +kernel
theorem dX8_isPiece_1 : decode cX8_isPiece 1 = .ok (.ifCond .lt 15, 3) := by decide +kernel
theorem dX8_isPiece_4 : decode cX8_isPiece 4 = .ok (.iload_n 1, 1) := by decide +kernel
theorem dX8_isPiece_5 : decode cX8_isPiece 5 = .ok (.aload_n 0, 1) := by decide +kernel
theorem dX8_isPiece_6 : decode cX8_isPiece 6 = .ok (.getfield 114, 3) := by decide +kernel
theorem dX8_isPiece_9 : decode cX8_isPiece 9 = .ok (.if_icmp .ge 7, 3) := by decide +kernel
theorem dX8_isPiece_12 : decode cX8_isPiece 12 = .ok (.iconst 1, 1) := by decide +kernel
theorem dX8_isPiece_13 : decode cX8_isPiece 13 = .ok (.goto 4, 3) := by decide +kernel
theorem dX8_isPiece_16 : decode cX8_isPiece 16 = .ok (.iconst 0, 1) := by decide +kernel
theorem dX8_isPiece_17 : decode cX8_isPiece 17 = .ok (.ireturn, 1) := by decide +kernel
set_option maxRecDepth 20000 in
theorem ggX8_doesHold_X8_read : GoodIn wsX8_doesHold wsX8_read := goodIn_r _ [11, 12, 42, 43, 44, 45, 46, 47, 48, 49, 50, 51, 52, 53, 54, 55, 56, 57, 58, 59, 60, 61, 62, 63, 64, 65, 66, 67, 68, 69, 70, 71, 72, 73, 74, 75, 76] (by decide +kernel) (by decide +kernel)
set_option maxRecDepth 20000 in
theorem gX8_doesHold_X8_read : GoodIn wsX8_doesHold (wsV RX8 212 RX8 yX8_read wsX8_read) := goodIn_app (goodIn_of _ (by decide +kernel)) ggX8_doesHold_X8_read
set_option maxRecDepth 20000 in
theorem ggX8_doesHold_X8_seenHead : GoodIn wsX8_doesHold wsX8_seenHead := goodIn_r _ [16, 4, 5, 6, 17, 18, 10, 19, 20, 21, 22, 23, 24, 42, 43, 44, 45, 46, 47, 48, 49, 50, 51, 52, 53, 54, 55, 56, 57, 58, 59, 60, 61, 62, 63, 64, 65, 66, 67, 68, 69, 70, 71, 72, 73, 74, 75, 76] (by decide +kernel) (by decide +kernel)
set_option maxRecDepth 20000 in
theorem gX8_doesHold_X8_seenHead : GoodIn wsX8_doesHold (wsV RX8 187 RX8 yX8_seenHead wsX8_seenHead) := goodIn_app (goodIn_of _ (by decide +kernel)) ggX8_doesHold_X8_seenHead
set_option maxRecDepth 20000 in
theorem ggX8_doesHold_X8_signature : GoodIn wsX8_doesHold wsX8_signature := goodIn_r _ [27, 20, 21, 22, 10, 23, 24] (by decide +kernel) (by decide +kernel)
set_option maxRecDepth 20000 in
theorem gX8_doesHold_X8_signature : GoodIn wsX8_doesHold (va_wsS RX8 137 yX8_signature wsX8_signature) := goodIn_app (goodIn_of _ (by decide +kernel)) ggX8_doesHold_X8_signature
set_option maxRecDepth 20000 in
theorem ggX8_doesHold_X8_firstWrong : GoodIn wsX8_doesHold wsX8_firstWrong := goodIn_r _ [31, 3, 4, 5, 6, 1, 32, 33, 10, 34, 35, 36, 37, 38, 39, 40, 41, 42, 43, 44, 45, 46, 47, 48, 49, 50, 51, 52, 53, 54, 55, 56, 57, 58, 59, 60, 61, 62, 63, 64, 65, 66, 67, 68, 69, 70, 71, 72, 73, 74, 75, 76] (by decide +kernel) (by decide +kernel)
set_option maxRecDepth 20000 in
theorem gX8_doesHold_X8_firstWrong : GoodIn wsX8_doesHold (wsV RX8 201 RX8 yX8_firstWrong wsX8_firstWrong) := goodIn_app (goodIn_of _ (by decide +kernel)) ggX8_doesHold_X8_firstWrong
theorem dX8_doesHold_0 : decode cX8_doesHold 0 = .ok (.aload_n 0, 1) := by decide +kernel
theorem dX8_doesHold_1 : decode cX8_doesHold 1 = .ok (.iload_n 1, 1) := by decide +kernel
theorem dX8_doesHold_2 : decode cX8_doesHold 2 = .ok (.iconst 0, 1) := by decide +kernel
theorem dX8_doesHold_3 : decode cX8_doesHold 3 = .ok (.iconst 1, 1) := by decide +kernel
theorem dX8_doesHold_4 : decode cX8_doesHold 4 = .ok (.invokevirtual 212, 3) := by decide +kernel
theorem dX8_doesHold_7 : decode cX8_doesHold 7 = .ok (.l2i, 1) := by decide +kernel
theorem dX8_doesHold_8 : decode cX8_doesHold 8 = .ok (.istore_n 2, 1) := by decide +kernel
theorem dX8_doesHold_9 : decode cX8_doesHold 9 = .ok (.aload_n 0, 1) := by decide +kernel
theorem dX8_doesHold_10 : decode cX8_doesHold 10 = .ok (.iload_n 1, 1) := by decide +kernel
theorem dX8_doesHold_11 : decode cX8_doesHold 11 = .ok (.iconst 1, 1) := by decide +kernel
theorem dX8_doesHold_12 : decode cX8_doesHold 12 = .ok (.iconst 1, 1) := by decide +kernel
theorem dX8_doesHold_13 : decode cX8_doesHold 13 = .ok (.invokevirtual 212, 3) := by decide +kernel
theorem dX8_doesHold_16 : decode cX8_doesHold 16 = .ok (.l2i, 1) := by decide +kernel
theorem dX8_doesHold_17 : decode cX8_doesHold 17 = .ok (.istore_n 3, 1) := by decide +kernel
theorem dX8_doesHold_18 : decode cX8_doesHold 18 = .ok (.aload_n 0, 1) := by decide +kernel
theorem dX8_doesHold_19 : decode cX8_doesHold 19 = .ok (.iload_n 1, 1) := by decide +kernel
theorem dX8_doesHold_20 : decode cX8_doesHold 20 = .ok (.iconst 2, 1) := by decide +kernel
theorem dX8_doesHold_21 : decode cX8_doesHold 21 = .ok (.iconst 2, 1) := by decide +kernel
theorem dX8_doesHold_22 : decode cX8_doesHold 22 = .ok (.invokevirtual 212, 3) := by decide +kernel
theorem dX8_doesHold_25 : decode cX8_doesHold 25 = .ok (.l2i, 1) := by decide +kernel
theorem dX8_doesHold_26 : decode cX8_doesHold 26 = .ok (.istore 4, 2) := by decide +kernel
theorem dX8_doesHold_28 : decode cX8_doesHold 28 = .ok (.iload_n 2, 1) := by decide +kernel
theorem dX8_doesHold_29 : decode cX8_doesHold 29 = .ok (.iconst 1, 1) := by decide +kernel
theorem dX8_doesHold_30 : decode cX8_doesHold 30 = .ok (.if_icmp .lt 45, 3) := by decide +kernel
theorem dX8_doesHold_33 : decode cX8_doesHold 33 = .ok (.iload_n 2, 1) := by decide +kernel
theorem dX8_doesHold_34 : decode cX8_doesHold 34 = .ok (.iconst 2, 1) := by decide +kernel
theorem dX8_doesHold_35 : decode cX8_doesHold 35 = .ok (.if_icmp .gt 40, 3) := by decide +kernel
theorem dX8_doesHold_38 : decode cX8_doesHold 38 = .ok (.iload_n 3, 1) := by decide +kernel
theorem dX8_doesHold_39 : decode cX8_doesHold 39 = .ok (.aload_n 0, 1) := by decide +kernel
theorem dX8_doesHold_40 : decode cX8_doesHold 40 = .ok (.getfield 7, 3) := by decide +kernel
theorem dX8_doesHold_43 : decode cX8_doesHold 43 = .ok (.if_icmp .ge 32, 3) := by decide +kernel
theorem dX8_doesHold_46 : decode cX8_doesHold 46 = .ok (.aload_n 0, 1) := by decide +kernel
theorem dX8_doesHold_47 : decode cX8_doesHold 47 = .ok (.getfield 85, 3) := by decide +kernel
theorem dX8_doesHold_50 : decode cX8_doesHold 50 = .ok (.iload_n 1, 1) := by decide +kernel
theorem dX8_doesHold_51 : decode cX8_doesHold 51 = .ok (.iaload, 1) := by decide +kernel
theorem dX8_doesHold_52 : decode cX8_doesHold 52 = .ok (.bipush 12, 2) := by decide +kernel
theorem dX8_doesHold_54 : decode cX8_doesHold 54 = .ok (.bipush 6, 2) := by decide +kernel
theorem dX8_doesHold_56 : decode cX8_doesHold 56 = .ok (.iload 4, 2) := by decide +kernel
theorem dX8_doesHold_58 : decode cX8_doesHold 58 = .ok (.imul, 1) := by decide +kernel
theorem dX8_doesHold_59 : decode cX8_doesHold 59 = .ok (.iadd, 1) := by decide +kernel
theorem dX8_doesHold_60 : decode cX8_doesHold 60 = .ok (.iload_n 2, 1) := by decide +kernel
theorem dX8_doesHold_61 : decode cX8_doesHold 61 = .ok (.iconst 1, 1) := by decide +kernel
theorem dX8_doesHold_62 : decode cX8_doesHold 62 = .ok (.if_icmp .ne 8, 3) := by decide +kernel
theorem dX8_doesHold_65 : decode cX8_doesHold 65 = .ok (.bipush 18, 2) := by decide +kernel
theorem dX8_doesHold_67 : decode cX8_doesHold 67 = .ok (.goto 4, 3) := by decide +kernel
theorem dX8_doesHold_70 : decode cX8_doesHold 70 = .ok (.iconst 2, 1) := by decide +kernel
theorem dX8_doesHold_71 : decode cX8_doesHold 71 = .ok (.iadd, 1) := by decide +kernel
theorem dX8_doesHold_72 : decode cX8_doesHold 72 = .ok (.if_icmp .eq 5, 3) := by decide +kernel
theorem dX8_doesHold_75 : decode cX8_doesHold 75 = .ok (.iconst 0, 1) := by decide +kernel
theorem dX8_doesHold_76 : decode cX8_doesHold 76 = .ok (.ireturn, 1) := by decide +kernel
theorem dX8_doesHold_77 : decode cX8_doesHold 77 = .ok (.aload_n 0, 1) := by decide +kernel
theorem dX8_doesHold_78 : decode cX8_doesHold 78 = .ok (.iload 4, 2) := by decide +kernel
theorem dX8_doesHold_80 : decode cX8_doesHold 80 = .ok (.putfield 180, 3) := by decide +kernel
theorem dX8_doesHold_83 : decode cX8_doesHold 83 = .ok (.iconst 0, 1) := by decide +kernel
theorem dX8_doesHold_84 : decode cX8_doesHold 84 = .ok (.istore 5, 2) := by decide +kernel
theorem dX8_doesHold_86 : decode cX8_doesHold 86 = .ok (.iload 5, 2) := by decide +kernel
theorem dX8_doesHold_88 : decode cX8_doesHold 88 = .ok (.iload 4, 2) := by decide +kernel
theorem dX8_doesHold_90 : decode cX8_doesHold 90 = .ok (.if_icmp .ge 97, 3) := by decide +kernel
theorem dX8_doesHold_93 : decode cX8_doesHold 93 = .ok (.aload_n 0, 1) := by decide +kernel
theorem dX8_doesHold_94 : decode cX8_doesHold 94 = .ok (.getfield 93, 3) := by decide +kernel
theorem dX8_doesHold_97 : decode cX8_doesHold 97 = .ok (.iload 5, 2) := by decide +kernel
theorem dX8_doesHold_99 : decode cX8_doesHold 99 = .ok (.aload_n 0, 1) := by decide +kernel
theorem dX8_doesHold_100 : decode cX8_doesHold 100 = .ok (.iload_n 1, 1) := by decide +kernel
theorem dX8_doesHold_101 : decode cX8_doesHold 101 = .ok (.iconst 4, 1) := by decide +kernel
theorem dX8_doesHold_102 : decode cX8_doesHold 102 = .ok (.bipush 6, 2) := by decide +kernel
theorem dX8_doesHold_104 : decode cX8_doesHold 104 = .ok (.iload 5, 2) := by decide +kernel
theorem dX8_doesHold_106 : decode cX8_doesHold 106 = .ok (.imul, 1) := by decide +kernel
theorem dX8_doesHold_107 : decode cX8_doesHold 107 = .ok (.iadd, 1) := by decide +kernel
theorem dX8_doesHold_108 : decode cX8_doesHold 108 = .ok (.iconst 1, 1) := by decide +kernel
theorem dX8_doesHold_109 : decode cX8_doesHold 109 = .ok (.invokevirtual 212, 3) := by decide +kernel
theorem dX8_doesHold_112 : decode cX8_doesHold 112 = .ok (.l2i, 1) := by decide +kernel
theorem dX8_doesHold_113 : decode cX8_doesHold 113 = .ok (.iastore, 1) := by decide +kernel
theorem dX8_doesHold_114 : decode cX8_doesHold 114 = .ok (.aload_n 0, 1) := by decide +kernel
theorem dX8_doesHold_115 : decode cX8_doesHold 115 = .ok (.getfield 96, 3) := by decide +kernel
theorem dX8_doesHold_118 : decode cX8_doesHold 118 = .ok (.iload 5, 2) := by decide +kernel
theorem dX8_doesHold_120 : decode cX8_doesHold 120 = .ok (.aload_n 0, 1) := by decide +kernel
theorem dX8_doesHold_121 : decode cX8_doesHold 121 = .ok (.iload_n 1, 1) := by decide +kernel
theorem dX8_doesHold_122 : decode cX8_doesHold 122 = .ok (.iconst 5, 1) := by decide +kernel
theorem dX8_doesHold_123 : decode cX8_doesHold 123 = .ok (.bipush 6, 2) := by decide +kernel
theorem dX8_doesHold_125 : decode cX8_doesHold 125 = .ok (.iload 5, 2) := by decide +kernel
theorem dX8_doesHold_127 : decode cX8_doesHold 127 = .ok (.imul, 1) := by decide +kernel
theorem dX8_doesHold_128 : decode cX8_doesHold 128 = .ok (.iadd, 1) := by decide +kernel
theorem dX8_doesHold_129 : decode cX8_doesHold 129 = .ok (.iconst 1, 1) := by decide +kernel
theorem dX8_doesHold_130 : decode cX8_doesHold 130 = .ok (.invokevirtual 212, 3) := by decide +kernel
theorem dX8_doesHold_133 : decode cX8_doesHold 133 = .ok (.l2i, 1) := by decide +kernel
theorem dX8_doesHold_134 : decode cX8_doesHold 134 = .ok (.iastore, 1) := by decide +kernel
theorem dX8_doesHold_135 : decode cX8_doesHold 135 = .ok (.aload_n 0, 1) := by decide +kernel
theorem dX8_doesHold_136 : decode cX8_doesHold 136 = .ok (.getfield 99, 3) := by decide +kernel
theorem dX8_doesHold_139 : decode cX8_doesHold 139 = .ok (.iload 5, 2) := by decide +kernel
theorem dX8_doesHold_141 : decode cX8_doesHold 141 = .ok (.aload_n 0, 1) := by decide +kernel
theorem dX8_doesHold_142 : decode cX8_doesHold 142 = .ok (.iload_n 1, 1) := by decide +kernel
theorem dX8_doesHold_143 : decode cX8_doesHold 143 = .ok (.bipush 6, 2) := by decide +kernel
theorem dX8_doesHold_145 : decode cX8_doesHold 145 = .ok (.bipush 6, 2) := by decide +kernel
theorem dX8_doesHold_147 : decode cX8_doesHold 147 = .ok (.iload 5, 2) := by decide +kernel
theorem dX8_doesHold_149 : decode cX8_doesHold 149 = .ok (.imul, 1) := by decide +kernel
theorem dX8_doesHold_150 : decode cX8_doesHold 150 = .ok (.iadd, 1) := by decide +kernel
theorem dX8_doesHold_151 : decode cX8_doesHold 151 = .ok (.iconst 4, 1) := by decide +kernel
theorem dX8_doesHold_152 : decode cX8_doesHold 152 = .ok (.invokevirtual 212, 3) := by decide +kernel
theorem dX8_doesHold_155 : decode cX8_doesHold 155 = .ok (.l2i, 1) := by decide +kernel
theorem dX8_doesHold_156 : decode cX8_doesHold 156 = .ok (.iastore, 1) := by decide +kernel
theorem dX8_doesHold_157 : decode cX8_doesHold 157 = .ok (.aload_n 0, 1) := by decide +kernel
theorem dX8_doesHold_158 : decode cX8_doesHold 158 = .ok (.getfield 93, 3) := by decide +kernel
theorem dX8_doesHold_161 : decode cX8_doesHold 161 = .ok (.iload 5, 2) := by decide +kernel
theorem dX8_doesHold_163 : decode cX8_doesHold 163 = .ok (.iaload, 1) := by decide +kernel
theorem dX8_doesHold_164 : decode cX8_doesHold 164 = .ok (.iconst 1, 1) := by decide +kernel
theorem dX8_doesHold_165 : decode cX8_doesHold 165 = .ok (.if_icmp .lt 14, 3) := by decide +kernel
theorem dX8_doesHold_168 : decode cX8_doesHold 168 = .ok (.aload_n 0, 1) := by decide +kernel
theorem dX8_doesHold_169 : decode cX8_doesHold 169 = .ok (.getfield 93, 3) := by decide +kernel
theorem dX8_doesHold_172 : decode cX8_doesHold 172 = .ok (.iload 5, 2) := by decide +kernel
theorem dX8_doesHold_174 : decode cX8_doesHold 174 = .ok (.iaload, 1) := by decide +kernel
theorem dX8_doesHold_175 : decode cX8_doesHold 175 = .ok (.iconst 3, 1) := by decide +kernel
theorem dX8_doesHold_176 : decode cX8_doesHold 176 = .ok (.if_icmp .le 5, 3) := by decide +kernel
theorem dX8_doesHold_179 : decode cX8_doesHold 179 = .ok (.iconst 0, 1) := by decide +kernel
theorem dX8_doesHold_180 : decode cX8_doesHold 180 = .ok (.ireturn, 1) := by decide +kernel
theorem dX8_doesHold_181 : decode cX8_doesHold 181 = .ok (.iinc 5 1, 3) := by decide +kernel
theorem dX8_doesHold_184 : decode cX8_doesHold 184 = .ok (.goto (-98), 3) := by decide +kernel
theorem dX8_doesHold_187 : decode cX8_doesHold 187 = .ok (.iconst 4, 1) := by decide +kernel
theorem dX8_doesHold_188 : decode cX8_doesHold 188 = .ok (.bipush 6, 2) := by decide +kernel
theorem dX8_doesHold_190 : decode cX8_doesHold 190 = .ok (.iload 4, 2) := by decide +kernel
theorem dX8_doesHold_192 : decode cX8_doesHold 192 = .ok (.imul, 1) := by decide +kernel
theorem dX8_doesHold_193 : decode cX8_doesHold 193 = .ok (.iadd, 1) := by decide +kernel
theorem dX8_doesHold_194 : decode cX8_doesHold 194 = .ok (.istore 5, 2) := by decide +kernel
theorem dX8_doesHold_196 : decode cX8_doesHold 196 = .ok (.aload_n 0, 1) := by decide +kernel
theorem dX8_doesHold_197 : decode cX8_doesHold 197 = .ok (.iload_n 1, 1) := by decide +kernel
theorem dX8_doesHold_198 : decode cX8_doesHold 198 = .ok (.iload 5, 2) := by decide +kernel
theorem dX8_doesHold_200 : decode cX8_doesHold 200 = .ok (.bipush 8, 2) := by decide +kernel
theorem dX8_doesHold_202 : decode cX8_doesHold 202 = .ok (.invokevirtual 212, 3) := by decide +kernel
theorem dX8_doesHold_205 : decode cX8_doesHold 205 = .ok (.iload_n 3, 1) := by decide +kernel
theorem dX8_doesHold_206 : decode cX8_doesHold 206 = .ok (.iload 4, 2) := by decide +kernel
theorem dX8_doesHold_208 : decode cX8_doesHold 208 = .ok (.aload_n 0, 1) := by decide +kernel
theorem dX8_doesHold_209 : decode cX8_doesHold 209 = .ok (.iload 4, 2) := by decide +kernel
theorem dX8_doesHold_211 : decode cX8_doesHold 211 = .ok (.invokevirtual 187, 3) := by decide +kernel
theorem dX8_doesHold_214 : decode cX8_doesHold 214 = .ok (.invokestatic 137, 3) := by decide +kernel
theorem dX8_doesHold_217 : decode cX8_doesHold 217 = .ok (.lcmp, 1) := by decide +kernel
theorem dX8_doesHold_218 : decode cX8_doesHold 218 = .ok (.ifCond .eq 5, 3) := by decide +kernel
theorem dX8_doesHold_221 : decode cX8_doesHold 221 = .ok (.iconst 0, 1) := by decide +kernel
theorem dX8_doesHold_222 : decode cX8_doesHold 222 = .ok (.ireturn, 1) := by decide +kernel
theorem dX8_doesHold_223 : decode cX8_doesHold 223 = .ok (.aload_n 0, 1) := by decide +kernel
theorem dX8_doesHold_224 : decode cX8_doesHold 224 = .ok (.iload_n 1, 1) := by decide +kernel
theorem dX8_doesHold_225 : decode cX8_doesHold 225 = .ok (.iload 5, 2) := by decide +kernel
theorem dX8_doesHold_227 : decode cX8_doesHold 227 = .ok (.bipush 8, 2) := by decide +kernel
theorem dX8_doesHold_229 : decode cX8_doesHold 229 = .ok (.iadd, 1) := by decide +kernel
theorem dX8_doesHold_230 : decode cX8_doesHold 230 = .ok (.iconst 2, 1) := by decide +kernel
theorem dX8_doesHold_231 : decode cX8_doesHold 231 = .ok (.invokevirtual 212, 3) := by decide +kernel
theorem dX8_doesHold_234 : decode cX8_doesHold 234 = .ok (.l2i, 1) := by decide +kernel
theorem dX8_doesHold_235 : decode cX8_doesHold 235 = .ok (.istore 6, 2) := by decide +kernel
theorem dX8_doesHold_237 : decode cX8_doesHold 237 = .ok (.iload_n 2, 1) := by decide +kernel
theorem dX8_doesHold_238 : decode cX8_doesHold 238 = .ok (.iconst 2, 1) := by decide +kernel
theorem dX8_doesHold_239 : decode cX8_doesHold 239 = .ok (.if_icmp .ne 28, 3) := by decide +kernel
theorem dX8_doesHold_242 : decode cX8_doesHold 242 = .ok (.aload_n 0, 1) := by decide +kernel
theorem dX8_doesHold_243 : decode cX8_doesHold 243 = .ok (.iload_n 3, 1) := by decide +kernel
theorem dX8_doesHold_244 : decode cX8_doesHold 244 = .ok (.invokevirtual 201, 3) := by decide +kernel
theorem dX8_doesHold_247 : decode cX8_doesHold 247 = .ok (.istore 7, 2) := by decide +kernel
theorem dX8_doesHold_249 : decode cX8_doesHold 249 = .ok (.iload 7, 2) := by decide +kernel
theorem dX8_doesHold_251 : decode cX8_doesHold 251 = .ok (.ifCond .le 14, 3) := by decide +kernel
theorem dX8_doesHold_254 : decode cX8_doesHold 254 = .ok (.iload 6, 2) := by decide +kernel
theorem dX8_doesHold_256 : decode cX8_doesHold 256 = .ok (.iload 7, 2) := by decide +kernel
theorem dX8_doesHold_258 : decode cX8_doesHold 258 = .ok (.if_icmp .ne 7, 3) := by decide +kernel
theorem dX8_doesHold_261 : decode cX8_doesHold 261 = .ok (.iconst 1, 1) := by decide +kernel
theorem dX8_doesHold_262 : decode cX8_doesHold 262 = .ok (.goto 4, 3) := by decide +kernel
theorem dX8_doesHold_265 : decode cX8_doesHold 265 = .ok (.iconst 0, 1) := by decide +kernel
theorem dX8_doesHold_266 : decode cX8_doesHold 266 = .ok (.ireturn, 1) := by decide +kernel
theorem dX8_doesHold_267 : decode cX8_doesHold 267 = .ok (.aload_n 0, 1) := by decide +kernel
theorem dX8_doesHold_268 : decode cX8_doesHold 268 = .ok (.iload_n 1, 1) := by decide +kernel
theorem dX8_doesHold_269 : decode cX8_doesHold 269 = .ok (.iload 5, 2) := by decide +kernel
theorem dX8_doesHold_271 : decode cX8_doesHold 271 = .ok (.bipush 10, 2) := by decide +kernel
theorem dX8_doesHold_273 : decode cX8_doesHold 273 = .ok (.iadd, 1) := by decide +kernel
theorem dX8_doesHold_274 : decode cX8_doesHold 274 = .ok (.bipush 8, 2) := by decide +kernel
theorem dX8_doesHold_276 : decode cX8_doesHold 276 = .ok (.invokevirtual 212, 3) := by decide +kernel
theorem dX8_doesHold_279 : decode cX8_doesHold 279 = .ok (.lstore 7, 2) := by decide +kernel
theorem dX8_doesHold_281 : decode cX8_doesHold 281 = .ok (.iload 6, 2) := by decide +kernel
theorem dX8_doesHold_283 : decode cX8_doesHold 283 = .ok (.iconst 1, 1) := by decide +kernel
theorem dX8_doesHold_284 : decode cX8_doesHold 284 = .ok (.if_icmp .lt 50, 3) := by decide +kernel
theorem dX8_doesHold_287 : decode cX8_doesHold 287 = .ok (.iload 6, 2) := by decide +kernel
theorem dX8_doesHold_289 : decode cX8_doesHold 289 = .ok (.iload 4, 2) := by decide +kernel
theorem dX8_doesHold_291 : decode cX8_doesHold 291 = .ok (.if_icmp .gt 43, 3) := by decide +kernel
theorem dX8_doesHold_294 : decode cX8_doesHold 294 = .ok (.aload_n 0, 1) := by decide +kernel
theorem dX8_doesHold_295 : decode cX8_doesHold 295 = .ok (.iload_n 1, 1) := by decide +kernel
theorem dX8_doesHold_296 : decode cX8_doesHold 296 = .ok (.iload 5, 2) := by decide +kernel
theorem dX8_doesHold_298 : decode cX8_doesHold 298 = .ok (.bipush 18, 2) := by decide +kernel
theorem dX8_doesHold_300 : decode cX8_doesHold 300 = .ok (.iadd, 1) := by decide +kernel
theorem dX8_doesHold_301 : decode cX8_doesHold 301 = .ok (.bipush 8, 2) := by decide +kernel
theorem dX8_doesHold_303 : decode cX8_doesHold 303 = .ok (.invokevirtual 212, 3) := by decide +kernel
theorem dX8_doesHold_306 : decode cX8_doesHold 306 = .ok (.iload_n 3, 1) := by decide +kernel
theorem dX8_doesHold_307 : decode cX8_doesHold 307 = .ok (.iload 6, 2) := by decide +kernel
theorem dX8_doesHold_309 : decode cX8_doesHold 309 = .ok (.lload 7, 2) := by decide +kernel
theorem dX8_doesHold_311 : decode cX8_doesHold 311 = .ok (.invokestatic 137, 3) := by decide +kernel
theorem dX8_doesHold_314 : decode cX8_doesHold 314 = .ok (.lcmp, 1) := by decide +kernel
theorem dX8_doesHold_315 : decode cX8_doesHold 315 = .ok (.ifCond .ne 19, 3) := by decide +kernel
theorem dX8_doesHold_318 : decode cX8_doesHold 318 = .ok (.lload 7, 2) := by decide +kernel
theorem dX8_doesHold_320 : decode cX8_doesHold 320 = .ok (.aload_n 0, 1) := by decide +kernel
theorem dX8_doesHold_321 : decode cX8_doesHold 321 = .ok (.iload 6, 2) := by decide +kernel
theorem dX8_doesHold_323 : decode cX8_doesHold 323 = .ok (.invokevirtual 187, 3) := by decide +kernel
theorem dX8_doesHold_326 : decode cX8_doesHold 326 = .ok (.lcmp, 1) := by decide +kernel
theorem dX8_doesHold_327 : decode cX8_doesHold 327 = .ok (.ifCond .eq 7, 3) := by decide +kernel
theorem dX8_doesHold_330 : decode cX8_doesHold 330 = .ok (.iconst 1, 1) := by decide +kernel
theorem dX8_doesHold_331 : decode cX8_doesHold 331 = .ok (.goto 4, 3) := by decide +kernel
theorem dX8_doesHold_334 : decode cX8_doesHold 334 = .ok (.iconst 0, 1) := by decide +kernel
theorem dX8_doesHold_335 : decode cX8_doesHold 335 = .ok (.ireturn, 1) := by decide +kernel
set_option maxRecDepth 20000 in
theorem ggX8_holds_X8_isPiece : GoodIn wsX8_holds wsX8_isPiece := goodIn_r _ [6, 7, 52, 53, 54, 55, 56, 57, 58, 59, 60, 61, 62, 63, 64, 65, 66, 67, 68, 69, 70, 71, 72, 73, 74, 75, 76, 77, 78, 79, 80, 81, 82, 83, 84, 85, 86] (by decide +kernel) (by decide +kernel)
set_option maxRecDepth 20000 in
theorem gX8_holds_X8_isPiece : GoodIn wsX8_holds (wsV RX8 216 RX8 yX8_isPiece wsX8_isPiece) := goodIn_app (goodIn_of _ (by decide +kernel)) ggX8_holds_X8_isPiece
set_option maxRecDepth 20000 in
theorem ggX8_holds_X8_doesHold : GoodIn wsX8_holds wsX8_doesHold := goodIn_r _ [11, 12, 13, 14, 15, 16, 17, 18, 19, 20, 5, 21, 22, 23, 24, 25, 26, 27, 28, 29, 30, 31, 32, 33, 34, 35, 36, 37, 38, 39, 40, 41, 42, 43, 44, 45, 46, 47, 48, 49, 50, 51, 52, 53, 54, 55, 56, 57, 58, 59, 60, 61, 62, 63, 64, 65, 66, 67, 68, 69, 70, 71, 72, 73, 74, 75, 76, 77, 78, 79, 80, 81, 82, 83, 84, 85, 86] (by decide +kernel) (by decide +kernel)
set_option maxRecDepth 20000 in
theorem gX8_holds_X8_doesHold : GoodIn wsX8_holds (wsV RX8 219 RX8 yX8_doesHold wsX8_doesHold) := goodIn_app (goodIn_of _ (by decide +kernel)) ggX8_holds_X8_doesHold
theorem dX8_holds_0 : decode cX8_holds 0 = .ok (.aload_n 0, 1) := by decide +kernel
theorem dX8_holds_1 : decode cX8_holds 1 = .ok (.aload_n 0, 1) := by decide +kernel
theorem dX8_holds_2 : decode cX8_holds 2 = .ok (.iload_n 1, 1) := by decide +kernel
theorem dX8_holds_3 : decode cX8_holds 3 = .ok (.invokevirtual 216, 3) := by decide +kernel
theorem dX8_holds_6 : decode cX8_holds 6 = .ok (.ifCond .eq 7, 3) := by decide +kernel
theorem dX8_holds_9 : decode cX8_holds 9 = .ok (.iconst 0, 1) := by decide +kernel
theorem dX8_holds_10 : decode cX8_holds 10 = .ok (.goto 4, 3) := by decide +kernel
theorem dX8_holds_13 : decode cX8_holds 13 = .ok (.iconst 1, 1) := by decide +kernel
theorem dX8_holds_14 : decode cX8_holds 14 = .ok (.putfield 102, 3) := by decide +kernel
theorem dX8_holds_17 : decode cX8_holds 17 = .ok (.aload_n 0, 1) := by decide +kernel
theorem dX8_holds_18 : decode cX8_holds 18 = .ok (.getfield 102, 3) := by decide +kernel
theorem dX8_holds_21 : decode cX8_holds 21 = .ok (.ifCond .ne 15, 3) := by decide +kernel
theorem dX8_holds_24 : decode cX8_holds 24 = .ok (.aload_n 0, 1) := by decide +kernel
theorem dX8_holds_25 : decode cX8_holds 25 = .ok (.iload_n 1, 1) := by decide +kernel
theorem dX8_holds_26 : decode cX8_holds 26 = .ok (.invokevirtual 219, 3) := by decide +kernel
theorem dX8_holds_29 : decode cX8_holds 29 = .ok (.ifCond .eq 7, 3) := by decide +kernel
theorem dX8_holds_32 : decode cX8_holds 32 = .ok (.iconst 1, 1) := by decide +kernel
theorem dX8_holds_33 : decode cX8_holds 33 = .ok (.goto 4, 3) := by decide +kernel
theorem dX8_holds_36 : decode cX8_holds 36 = .ok (.iconst 0, 1) := by decide +kernel
theorem dX8_holds_37 : decode cX8_holds 37 = .ok (.ireturn, 1) := by decide +kernel
set_option maxRecDepth 20000 in
theorem ggX8_judge_X8_no : GoodIn wsX8_judge wsX8_no := goodIn_r _ [7, 8, 57, 58, 59, 60, 61, 62, 63, 64, 65, 66, 67, 68, 69, 70, 71, 72, 73, 74, 75, 76, 77, 78, 79, 80, 81, 82, 83, 84, 85, 86, 87, 88, 89, 90, 91] (by decide +kernel) (by decide +kernel)
set_option maxRecDepth 20000 in
theorem gX8_judge_X8_no : GoodIn wsX8_judge (wsV RX8 145 RX8 yX8_no wsX8_no) := goodIn_app (goodIn_of _ (by decide +kernel)) ggX8_judge_X8_no
set_option maxRecDepth 20000 in
theorem ggX8_judge_X8_isPiece : GoodIn wsX8_judge wsX8_isPiece := goodIn_r _ [12, 13, 57, 58, 59, 60, 61, 62, 63, 64, 65, 66, 67, 68, 69, 70, 71, 72, 73, 74, 75, 76, 77, 78, 79, 80, 81, 82, 83, 84, 85, 86, 87, 88, 89, 90, 91] (by decide +kernel) (by decide +kernel)
set_option maxRecDepth 20000 in
theorem gX8_judge_X8_isPiece : GoodIn wsX8_judge (wsV RX8 216 RX8 yX8_isPiece wsX8_isPiece) := goodIn_app (goodIn_of _ (by decide +kernel)) ggX8_judge_X8_isPiece
set_option maxRecDepth 20000 in
theorem ggX8_judge_X8_doesHold : GoodIn wsX8_judge wsX8_doesHold := goodIn_r _ [17, 8, 18, 19, 20, 21, 22, 23, 24, 25, 6, 26, 27, 28, 29, 30, 31, 32, 33, 34, 35, 36, 37, 38, 39, 40, 41, 42, 43, 44, 45, 46, 47, 48, 49, 50, 51, 52, 53, 54, 55, 56, 57, 58, 59, 60, 61, 62, 63, 64, 65, 66, 67, 68, 69, 70, 71, 72, 73, 74, 75, 76, 77, 78, 79, 80, 81, 82, 83, 84, 85, 86, 87, 88, 89, 90, 91] (by decide +kernel) (by decide +kernel)
set_option maxRecDepth 20000 in
theorem gX8_judge_X8_doesHold : GoodIn wsX8_judge (wsV RX8 219 RX8 yX8_doesHold wsX8_doesHold) := goodIn_app (goodIn_of _ (by decide +kernel)) ggX8_judge_X8_doesHold
set_option maxRecDepth 20000 in
theorem ggX8_judge_X8_read : GoodIn wsX8_judge wsX8_read := goodIn_r _ [26, 27, 57, 58, 59, 60, 61, 62, 63, 64, 65, 66, 67, 68, 69, 70, 71, 72, 73, 74, 75, 76, 77, 78, 79, 80, 81, 82, 83, 84, 85, 86, 87, 88, 89, 90, 91] (by decide +kernel) (by decide +kernel)
set_option maxRecDepth 20000 in
theorem gX8_judge_X8_read : GoodIn wsX8_judge (wsV RX8 212 RX8 yX8_read wsX8_read) := goodIn_app (goodIn_of _ (by decide +kernel)) ggX8_judge_X8_read
theorem dX8_judge_0 : decode cX8_judge 0 = .ok (.aload_n 0, 1) := by decide +kernel
theorem dX8_judge_1 : decode cX8_judge 1 = .ok (.aload_n 0, 1) := by decide +kernel
theorem dX8_judge_2 : decode cX8_judge 2 = .ok (.iload_n 1, 1) := by decide +kernel
theorem dX8_judge_3 : decode cX8_judge 3 = .ok (.invokevirtual 145, 3) := by decide +kernel
theorem dX8_judge_6 : decode cX8_judge 6 = .ok (.ifCond .ne 11, 3) := by decide +kernel
theorem dX8_judge_9 : decode cX8_judge 9 = .ok (.aload_n 0, 1) := by decide +kernel
theorem dX8_judge_10 : decode cX8_judge 10 = .ok (.iload_n 2, 1) := by decide +kernel
theorem dX8_judge_11 : decode cX8_judge 11 = .ok (.invokevirtual 216, 3) := by decide +kernel
theorem dX8_judge_14 : decode cX8_judge 14 = .ok (.ifCond .ne 7, 3) := by decide +kernel
theorem dX8_judge_17 : decode cX8_judge 17 = .ok (.iconst 1, 1) := by decide +kernel
theorem dX8_judge_18 : decode cX8_judge 18 = .ok (.goto 4, 3) := by decide +kernel
theorem dX8_judge_21 : decode cX8_judge 21 = .ok (.iconst 0, 1) := by decide +kernel
theorem dX8_judge_22 : decode cX8_judge 22 = .ok (.putfield 102, 3) := by decide +kernel
theorem dX8_judge_25 : decode cX8_judge 25 = .ok (.aload_n 0, 1) := by decide +kernel
theorem dX8_judge_26 : decode cX8_judge 26 = .ok (.getfield 102, 3) := by decide +kernel
theorem dX8_judge_29 : decode cX8_judge 29 = .ok (.ifCond .gt 11, 3) := by decide +kernel
theorem dX8_judge_32 : decode cX8_judge 32 = .ok (.aload_n 0, 1) := by decide +kernel
theorem dX8_judge_33 : decode cX8_judge 33 = .ok (.iload_n 2, 1) := by decide +kernel
theorem dX8_judge_34 : decode cX8_judge 34 = .ok (.invokevirtual 219, 3) := by decide +kernel
theorem dX8_judge_37 : decode cX8_judge 37 = .ok (.ifCond .ne 5, 3) := by decide +kernel
theorem dX8_judge_40 : decode cX8_judge 40 = .ok (.iconst 0, 1) := by decide +kernel
theorem dX8_judge_41 : decode cX8_judge 41 = .ok (.ireturn, 1) := by decide +kernel
theorem dX8_judge_42 : decode cX8_judge 42 = .ok (.aload_n 0, 1) := by decide +kernel
theorem dX8_judge_43 : decode cX8_judge 43 = .ok (.getfield 36, 3) := by decide +kernel
theorem dX8_judge_46 : decode cX8_judge 46 = .ok (.bipush 6, 2) := by decide +kernel
theorem dX8_judge_48 : decode cX8_judge 48 = .ok (.iload_n 1, 1) := by decide +kernel
theorem dX8_judge_49 : decode cX8_judge 49 = .ok (.imul, 1) := by decide +kernel
theorem dX8_judge_50 : decode cX8_judge 50 = .ok (.aload_n 0, 1) := by decide +kernel
theorem dX8_judge_51 : decode cX8_judge 51 = .ok (.iload_n 2, 1) := by decide +kernel
theorem dX8_judge_52 : decode cX8_judge 52 = .ok (.iconst 1, 1) := by decide +kernel
theorem dX8_judge_53 : decode cX8_judge 53 = .ok (.iconst 1, 1) := by decide +kernel
theorem dX8_judge_54 : decode cX8_judge 54 = .ok (.invokevirtual 212, 3) := by decide +kernel
theorem dX8_judge_57 : decode cX8_judge 57 = .ok (.l2i, 1) := by decide +kernel
theorem dX8_judge_58 : decode cX8_judge 58 = .ok (.iadd, 1) := by decide +kernel
theorem dX8_judge_59 : decode cX8_judge 59 = .ok (.iconst 2, 1) := by decide +kernel
theorem dX8_judge_60 : decode cX8_judge 60 = .ok (.iastore, 1) := by decide +kernel
theorem dX8_judge_61 : decode cX8_judge 61 = .ok (.iconst 1, 1) := by decide +kernel
theorem dX8_judge_62 : decode cX8_judge 62 = .ok (.ireturn, 1) := by decide +kernel
set_option maxRecDepth 20000 in
theorem ggX8_byteOf_X8_isPiece : GoodIn wsX8_byteOf wsX8_isPiece := goodIn_r _ [8, 9, 10, 11, 12, 13, 14, 15, 16, 17, 18, 19, 20, 21, 22, 23, 24, 25, 26, 27, 28, 29, 30, 31, 32, 33, 34, 35, 36, 37, 38, 39, 40, 41, 42, 43, 44] (by decide +kernel) (by decide +kernel)
set_option maxRecDepth 20000 in
theorem gX8_byteOf_X8_isPiece : GoodIn wsX8_byteOf (wsV RX8 216 RX8 yX8_isPiece wsX8_isPiece) := goodIn_app (goodIn_of _ (by decide +kernel)) ggX8_byteOf_X8_isPiece
theorem dX8_byteOf_0 : decode cX8_byteOf 0 = .ok (.aload_n 0, 1) := by decide +kernel
theorem dX8_byteOf_1 : decode cX8_byteOf 1 = .ok (.aload_n 0, 1) := by decide +kernel
theorem dX8_byteOf_2 : decode cX8_byteOf 2 = .ok (.iload_n 1, 1) := by decide +kernel
theorem dX8_byteOf_3 : decode cX8_byteOf 3 = .ok (.invokevirtual 216, 3) := by decide +kernel
theorem dX8_byteOf_6 : decode cX8_byteOf 6 = .ok (.ifCond .ne 7, 3) := by decide +kernel
theorem dX8_byteOf_9 : decode cX8_byteOf 9 = .ok (.iconst 1, 1) := by decide +kernel
theorem dX8_byteOf_10 : decode cX8_byteOf 10 = .ok (.goto 4, 3) := by decide +kernel
theorem dX8_byteOf_13 : decode cX8_byteOf 13 = .ok (.iconst 0, 1) := by decide +kernel
theorem dX8_byteOf_14 : decode cX8_byteOf 14 = .ok (.putfield 102, 3) := by decide +kernel
theorem dX8_byteOf_17 : decode cX8_byteOf 17 = .ok (.aload_n 0, 1) := by decide +kernel
theorem dX8_byteOf_18 : decode cX8_byteOf 18 = .ok (.getfield 102, 3) := by decide +kernel
theorem dX8_byteOf_21 : decode cX8_byteOf 21 = .ok (.ifCond .le 5, 3) := by decide +kernel
theorem dX8_byteOf_24 : decode cX8_byteOf 24 = .ok (.iconst 0, 1) := by decide +kernel
theorem dX8_byteOf_25 : decode cX8_byteOf 25 = .ok (.ireturn, 1) := by decide +kernel
theorem dX8_byteOf_26 : decode cX8_byteOf 26 = .ok (.iload_n 2, 1) := by decide +kernel
theorem dX8_byteOf_27 : decode cX8_byteOf 27 = .ok (.ifCond .lt 13, 3) := by decide +kernel
theorem dX8_byteOf_30 : decode cX8_byteOf 30 = .ok (.iload_n 2, 1) := by decide +kernel
theorem dX8_byteOf_31 : decode cX8_byteOf 31 = .ok (.aload_n 0, 1) := by decide +kernel
theorem dX8_byteOf_32 : decode cX8_byteOf 32 = .ok (.getfield 85, 3) := by decide +kernel
theorem dX8_byteOf_35 : decode cX8_byteOf 35 = .ok (.iload_n 1, 1) := by decide +kernel
theorem dX8_byteOf_36 : decode cX8_byteOf 36 = .ok (.iaload, 1) := by decide +kernel
theorem dX8_byteOf_37 : decode cX8_byteOf 37 = .ok (.if_icmp .lt 7, 3) := by decide +kernel
theorem dX8_byteOf_40 : decode cX8_byteOf 40 = .ok (.iconst (-1), 1) := by decide +kernel
theorem dX8_byteOf_41 : decode cX8_byteOf 41 = .ok (.goto 19, 3) := by decide +kernel
theorem dX8_byteOf_44 : decode cX8_byteOf 44 = .ok (.aload_n 0, 1) := by decide +kernel
theorem dX8_byteOf_45 : decode cX8_byteOf 45 = .ok (.getfield 89, 3) := by decide +kernel
theorem dX8_byteOf_48 : decode cX8_byteOf 48 = .ok (.sipush 940, 3) := by decide +kernel
theorem dX8_byteOf_51 : decode cX8_byteOf 51 = .ok (.iload_n 1, 1) := by decide +kernel
theorem dX8_byteOf_52 : decode cX8_byteOf 52 = .ok (.imul, 1) := by decide +kernel
theorem dX8_byteOf_53 : decode cX8_byteOf 53 = .ok (.iload_n 2, 1) := by decide +kernel
theorem dX8_byteOf_54 : decode cX8_byteOf 54 = .ok (.iadd, 1) := by decide +kernel
theorem dX8_byteOf_55 : decode cX8_byteOf 55 = .ok (.baload, 1) := by decide +kernel
theorem dX8_byteOf_56 : decode cX8_byteOf 56 = .ok (.sipush 255, 3) := by decide +kernel
theorem dX8_byteOf_59 : decode cX8_byteOf 59 = .ok (.iand, 1) := by decide +kernel
theorem dX8_byteOf_60 : decode cX8_byteOf 60 = .ok (.ireturn, 1) := by decide +kernel
set_option maxRecDepth 20000 in
theorem ggX8_smudge_X8_isPiece : GoodIn wsX8_smudge wsX8_isPiece := goodIn_r _ [8, 9, 10, 11, 12, 13, 14, 15, 16, 17, 18, 19, 20, 21, 22, 23, 24, 25, 26, 27, 28, 29, 30, 31, 32, 33, 34, 35, 36, 37, 38, 39, 40, 41, 42, 43, 44] (by decide +kernel) (by decide +kernel)
set_option maxRecDepth 20000 in
theorem gX8_smudge_X8_isPiece : GoodIn wsX8_smudge (wsV RX8 216 RX8 yX8_isPiece wsX8_isPiece) := goodIn_app (goodIn_of _ (by decide +kernel)) ggX8_smudge_X8_isPiece
theorem dX8_smudge_0 : decode cX8_smudge 0 = .ok (.aload_n 0, 1) := by decide +kernel
theorem dX8_smudge_1 : decode cX8_smudge 1 = .ok (.aload_n 0, 1) := by decide +kernel
theorem dX8_smudge_2 : decode cX8_smudge 2 = .ok (.iload_n 1, 1) := by decide +kernel
theorem dX8_smudge_3 : decode cX8_smudge 3 = .ok (.invokevirtual 216, 3) := by decide +kernel
theorem dX8_smudge_6 : decode cX8_smudge 6 = .ok (.ifCond .eq 18, 3) := by decide +kernel
theorem dX8_smudge_9 : decode cX8_smudge 9 = .ok (.iload_n 2, 1) := by decide +kernel
theorem dX8_smudge_10 : decode cX8_smudge 10 = .ok (.ifCond .lt 14, 3) := by decide +kernel
theorem dX8_smudge_13 : decode cX8_smudge 13 = .ok (.iload_n 3, 1) := by decide +kernel
theorem dX8_smudge_14 : decode cX8_smudge 14 = .ok (.ifCond .lt 10, 3) := by decide +kernel
theorem dX8_smudge_17 : decode cX8_smudge 17 = .ok (.iload_n 3, 1) := by decide +kernel
theorem dX8_smudge_18 : decode cX8_smudge 18 = .ok (.sipush 255, 3) := by decide +kernel
theorem dX8_smudge_21 : decode cX8_smudge 21 = .ok (.if_icmp .le 7, 3) := by decide +kernel
theorem dX8_smudge_24 : decode cX8_smudge 24 = .ok (.iconst 1, 1) := by decide +kernel
theorem dX8_smudge_25 : decode cX8_smudge 25 = .ok (.goto 18, 3) := by decide +kernel
theorem dX8_smudge_28 : decode cX8_smudge 28 = .ok (.iload_n 2, 1) := by decide +kernel
theorem dX8_smudge_29 : decode cX8_smudge 29 = .ok (.aload_n 0, 1) := by decide +kernel
theorem dX8_smudge_30 : decode cX8_smudge 30 = .ok (.getfield 85, 3) := by decide +kernel
theorem dX8_smudge_33 : decode cX8_smudge 33 = .ok (.iload_n 1, 1) := by decide +kernel
theorem dX8_smudge_34 : decode cX8_smudge 34 = .ok (.iaload, 1) := by decide +kernel
theorem dX8_smudge_35 : decode cX8_smudge 35 = .ok (.if_icmp .lt 7, 3) := by decide +kernel
theorem dX8_smudge_38 : decode cX8_smudge 38 = .ok (.iconst 1, 1) := by decide +kernel
theorem dX8_smudge_39 : decode cX8_smudge 39 = .ok (.goto 4, 3) := by decide +kernel
theorem dX8_smudge_42 : decode cX8_smudge 42 = .ok (.iconst 0, 1) := by decide +kernel
theorem dX8_smudge_43 : decode cX8_smudge 43 = .ok (.putfield 102, 3) := by decide +kernel
theorem dX8_smudge_46 : decode cX8_smudge 46 = .ok (.aload_n 0, 1) := by decide +kernel
theorem dX8_smudge_47 : decode cX8_smudge 47 = .ok (.getfield 102, 3) := by decide +kernel
theorem dX8_smudge_50 : decode cX8_smudge 50 = .ok (.ifCond .le 5, 3) := by decide +kernel
theorem dX8_smudge_53 : decode cX8_smudge 53 = .ok (.iconst 0, 1) := by decide +kernel
theorem dX8_smudge_54 : decode cX8_smudge 54 = .ok (.ireturn, 1) := by decide +kernel
theorem dX8_smudge_55 : decode cX8_smudge 55 = .ok (.aload_n 0, 1) := by decide +kernel
theorem dX8_smudge_56 : decode cX8_smudge 56 = .ok (.getfield 89, 3) := by decide +kernel
theorem dX8_smudge_59 : decode cX8_smudge 59 = .ok (.sipush 940, 3) := by decide +kernel
theorem dX8_smudge_62 : decode cX8_smudge 62 = .ok (.iload_n 1, 1) := by decide +kernel
theorem dX8_smudge_63 : decode cX8_smudge 63 = .ok (.imul, 1) := by decide +kernel
theorem dX8_smudge_64 : decode cX8_smudge 64 = .ok (.iload_n 2, 1) := by decide +kernel
theorem dX8_smudge_65 : decode cX8_smudge 65 = .ok (.iadd, 1) := by decide +kernel
theorem dX8_smudge_66 : decode cX8_smudge 66 = .ok (.baload, 1) := by decide +kernel
theorem dX8_smudge_67 : decode cX8_smudge 67 = .ok (.sipush 255, 3) := by decide +kernel
theorem dX8_smudge_70 : decode cX8_smudge 70 = .ok (.iand, 1) := by decide +kernel
theorem dX8_smudge_71 : decode cX8_smudge 71 = .ok (.istore 4, 2) := by decide +kernel
theorem dX8_smudge_73 : decode cX8_smudge 73 = .ok (.aload_n 0, 1) := by decide +kernel
theorem dX8_smudge_74 : decode cX8_smudge 74 = .ok (.getfield 89, 3) := by decide +kernel
theorem dX8_smudge_77 : decode cX8_smudge 77 = .ok (.sipush 940, 3) := by decide +kernel
theorem dX8_smudge_80 : decode cX8_smudge 80 = .ok (.iload_n 1, 1) := by decide +kernel
theorem dX8_smudge_81 : decode cX8_smudge 81 = .ok (.imul, 1) := by decide +kernel
theorem dX8_smudge_82 : decode cX8_smudge 82 = .ok (.iload_n 2, 1) := by decide +kernel
theorem dX8_smudge_83 : decode cX8_smudge 83 = .ok (.iadd, 1) := by decide +kernel
theorem dX8_smudge_84 : decode cX8_smudge 84 = .ok (.iload_n 3, 1) := by decide +kernel
theorem dX8_smudge_85 : decode cX8_smudge 85 = .ok (.i2b, 1) := by decide +kernel
theorem dX8_smudge_86 : decode cX8_smudge 86 = .ok (.bastore, 1) := by decide +kernel
theorem dX8_smudge_87 : decode cX8_smudge 87 = .ok (.iload 4, 2) := by decide +kernel
theorem dX8_smudge_89 : decode cX8_smudge 89 = .ok (.ireturn, 1) := by decide +kernel
set_option maxRecDepth 20000 in
theorem ggX8_verdict_X8_no : GoodIn wsX8_verdict wsX8_no := goodIn_r _ [7, 8, 9, 10, 11, 12, 13, 14, 15, 16, 17, 18, 19, 20, 21, 22, 23, 24, 25, 26, 27, 28, 29, 30, 31, 32, 33, 34, 35, 36, 37, 38, 39, 40, 41, 42, 43] (by decide +kernel) (by decide +kernel)
set_option maxRecDepth 20000 in
theorem gX8_verdict_X8_no : GoodIn wsX8_verdict (wsV RX8 145 RX8 yX8_no wsX8_no) := goodIn_app (goodIn_of _ (by decide +kernel)) ggX8_verdict_X8_no
theorem dX8_verdict_0 : decode cX8_verdict 0 = .ok (.aload_n 0, 1) := by decide +kernel
theorem dX8_verdict_1 : decode cX8_verdict 1 = .ok (.aload_n 0, 1) := by decide +kernel
theorem dX8_verdict_2 : decode cX8_verdict 2 = .ok (.iload_n 1, 1) := by decide +kernel
theorem dX8_verdict_3 : decode cX8_verdict 3 = .ok (.invokevirtual 145, 3) := by decide +kernel
theorem dX8_verdict_6 : decode cX8_verdict 6 = .ok (.ifCond .ne 16, 3) := by decide +kernel
theorem dX8_verdict_9 : decode cX8_verdict 9 = .ok (.aload_n 0, 1) := by decide +kernel
theorem dX8_verdict_10 : decode cX8_verdict 10 = .ok (.iload_n 2, 1) := by decide +kernel
theorem dX8_verdict_11 : decode cX8_verdict 11 = .ok (.invokevirtual 145, 3) := by decide +kernel
theorem dX8_verdict_14 : decode cX8_verdict 14 = .ok (.ifCond .ne 8, 3) := by decide +kernel
theorem dX8_verdict_17 : decode cX8_verdict 17 = .ok (.iload_n 1, 1) := by decide +kernel
theorem dX8_verdict_18 : decode cX8_verdict 18 = .ok (.iload_n 2, 1) := by decide +kernel
theorem dX8_verdict_19 : decode cX8_verdict 19 = .ok (.if_icmp .ne 7, 3) := by decide +kernel
theorem dX8_verdict_22 : decode cX8_verdict 22 = .ok (.iconst 1, 1) := by decide +kernel
theorem dX8_verdict_23 : decode cX8_verdict 23 = .ok (.goto 4, 3) := by decide +kernel
theorem dX8_verdict_26 : decode cX8_verdict 26 = .ok (.iconst 0, 1) := by decide +kernel
theorem dX8_verdict_27 : decode cX8_verdict 27 = .ok (.putfield 102, 3) := by decide +kernel
theorem dX8_verdict_30 : decode cX8_verdict 30 = .ok (.aload_n 0, 1) := by decide +kernel
theorem dX8_verdict_31 : decode cX8_verdict 31 = .ok (.getfield 102, 3) := by decide +kernel
theorem dX8_verdict_34 : decode cX8_verdict 34 = .ok (.ifCond .le 7, 3) := by decide +kernel
theorem dX8_verdict_37 : decode cX8_verdict 37 = .ok (.iconst 0, 1) := by decide +kernel
theorem dX8_verdict_38 : decode cX8_verdict 38 = .ok (.goto 14, 3) := by decide +kernel
theorem dX8_verdict_41 : decode cX8_verdict 41 = .ok (.aload_n 0, 1) := by decide +kernel
theorem dX8_verdict_42 : decode cX8_verdict 42 = .ok (.getfield 36, 3) := by decide +kernel
theorem dX8_verdict_45 : decode cX8_verdict 45 = .ok (.bipush 6, 2) := by decide +kernel
theorem dX8_verdict_47 : decode cX8_verdict 47 = .ok (.iload_n 1, 1) := by decide +kernel
theorem dX8_verdict_48 : decode cX8_verdict 48 = .ok (.imul, 1) := by decide +kernel
theorem dX8_verdict_49 : decode cX8_verdict 49 = .ok (.iload_n 2, 1) := by decide +kernel
theorem dX8_verdict_50 : decode cX8_verdict 50 = .ok (.iadd, 1) := by decide +kernel
theorem dX8_verdict_51 : decode cX8_verdict 51 = .ok (.iaload, 1) := by decide +kernel
theorem dX8_verdict_52 : decode cX8_verdict 52 = .ok (.ireturn, 1) := by decide +kernel
set_option maxRecDepth 20000 in
theorem ggX8_entry_X8_no : GoodIn wsX8_entry wsX8_no := goodIn_r _ [10, 11, 12, 13, 14, 15, 16, 17, 18, 19, 20, 21, 22, 23, 24, 25, 26, 27, 28, 29, 30, 31, 32, 33, 34, 35, 36, 37, 38, 39, 40, 41, 42, 43, 44, 45, 46] (by decide +kernel) (by decide +kernel)
set_option maxRecDepth 20000 in
theorem gX8_entry_X8_no : GoodIn wsX8_entry (wsV RX8 145 RX8 yX8_no wsX8_no) := goodIn_app (goodIn_of _ (by decide +kernel)) ggX8_entry_X8_no
theorem dX8_entry_0 : decode cX8_entry 0 = .ok (.aload_n 0, 1) := by decide +kernel
theorem dX8_entry_1 : decode cX8_entry 1 = .ok (.aload_n 0, 1) := by decide +kernel
theorem dX8_entry_2 : decode cX8_entry 2 = .ok (.iload_n 1, 1) := by decide +kernel
theorem dX8_entry_3 : decode cX8_entry 3 = .ok (.invokevirtual 145, 3) := by decide +kernel
theorem dX8_entry_6 : decode cX8_entry 6 = .ok (.ifCond .ne 17, 3) := by decide +kernel
theorem dX8_entry_9 : decode cX8_entry 9 = .ok (.iload_n 2, 1) := by decide +kernel
theorem dX8_entry_10 : decode cX8_entry 10 = .ok (.iconst 1, 1) := by decide +kernel
theorem dX8_entry_11 : decode cX8_entry 11 = .ok (.if_icmp .lt 12, 3) := by decide +kernel
theorem dX8_entry_14 : decode cX8_entry 14 = .ok (.iload_n 3, 1) := by decide +kernel
theorem dX8_entry_15 : decode cX8_entry 15 = .ok (.ifCond .lt 8, 3) := by decide +kernel
theorem dX8_entry_18 : decode cX8_entry 18 = .ok (.iload_n 3, 1) := by decide +kernel
theorem dX8_entry_19 : decode cX8_entry 19 = .ok (.iconst 2, 1) := by decide +kernel
theorem dX8_entry_20 : decode cX8_entry 20 = .ok (.if_icmp .le 7, 3) := by decide +kernel
theorem dX8_entry_23 : decode cX8_entry 23 = .ok (.iconst 1, 1) := by decide +kernel
theorem dX8_entry_24 : decode cX8_entry 24 = .ok (.goto 18, 3) := by decide +kernel
theorem dX8_entry_27 : decode cX8_entry 27 = .ok (.iload_n 2, 1) := by decide +kernel
theorem dX8_entry_28 : decode cX8_entry 28 = .ok (.aload_n 0, 1) := by decide +kernel
theorem dX8_entry_29 : decode cX8_entry 29 = .ok (.getfield 20, 3) := by decide +kernel
theorem dX8_entry_32 : decode cX8_entry 32 = .ok (.iload_n 1, 1) := by decide +kernel
theorem dX8_entry_33 : decode cX8_entry 33 = .ok (.iaload, 1) := by decide +kernel
theorem dX8_entry_34 : decode cX8_entry 34 = .ok (.if_icmp .le 7, 3) := by decide +kernel
theorem dX8_entry_37 : decode cX8_entry 37 = .ok (.iconst 1, 1) := by decide +kernel
theorem dX8_entry_38 : decode cX8_entry 38 = .ok (.goto 4, 3) := by decide +kernel
theorem dX8_entry_41 : decode cX8_entry 41 = .ok (.iconst 0, 1) := by decide +kernel
theorem dX8_entry_42 : decode cX8_entry 42 = .ok (.putfield 102, 3) := by decide +kernel
theorem dX8_entry_45 : decode cX8_entry 45 = .ok (.aload_n 0, 1) := by decide +kernel
theorem dX8_entry_46 : decode cX8_entry 46 = .ok (.getfield 102, 3) := by decide +kernel
theorem dX8_entry_49 : decode cX8_entry 49 = .ok (.ifCond .le 5, 3) := by decide +kernel
theorem dX8_entry_52 : decode cX8_entry 52 = .ok (.iconst 0, 1) := by decide +kernel
theorem dX8_entry_53 : decode cX8_entry 53 = .ok (.ireturn, 1) := by decide +kernel
theorem dX8_entry_54 : decode cX8_entry 54 = .ok (.sipush 151, 3) := by decide +kernel
theorem dX8_entry_57 : decode cX8_entry 57 = .ok (.iload_n 1, 1) := by decide +kernel
theorem dX8_entry_58 : decode cX8_entry 58 = .ok (.imul, 1) := by decide +kernel
theorem dX8_entry_59 : decode cX8_entry 59 = .ok (.iload_n 2, 1) := by decide +kernel
theorem dX8_entry_60 : decode cX8_entry 60 = .ok (.iadd, 1) := by decide +kernel
theorem dX8_entry_61 : decode cX8_entry 61 = .ok (.iconst 1, 1) := by decide +kernel
theorem dX8_entry_62 : decode cX8_entry 62 = .ok (.isub, 1) := by decide +kernel
theorem dX8_entry_63 : decode cX8_entry 63 = .ok (.istore 4, 2) := by decide +kernel
theorem dX8_entry_65 : decode cX8_entry 65 = .ok (.iload_n 3, 1) := by decide +kernel
theorem dX8_entry_66 : decode cX8_entry 66 = .ok (.ifCond .ne 13, 3) := by decide +kernel
theorem dX8_entry_69 : decode cX8_entry 69 = .ok (.aload_n 0, 1) := by decide +kernel
theorem dX8_entry_70 : decode cX8_entry 70 = .ok (.getfield 23, 3) := by decide +kernel
theorem dX8_entry_73 : decode cX8_entry 73 = .ok (.iload 4, 2) := by decide +kernel
theorem dX8_entry_75 : decode cX8_entry 75 = .ok (.iaload, 1) := by decide +kernel
theorem dX8_entry_76 : decode cX8_entry 76 = .ok (.goto 25, 3) := by decide +kernel
theorem dX8_entry_79 : decode cX8_entry 79 = .ok (.iload_n 3, 1) := by decide +kernel
theorem dX8_entry_80 : decode cX8_entry 80 = .ok (.iconst 1, 1) := by decide +kernel
theorem dX8_entry_81 : decode cX8_entry 81 = .ok (.if_icmp .ne 13, 3) := by decide +kernel
theorem dX8_entry_84 : decode cX8_entry 84 = .ok (.aload_n 0, 1) := by decide +kernel
theorem dX8_entry_85 : decode cX8_entry 85 = .ok (.getfield 26, 3) := by decide +kernel
theorem dX8_entry_88 : decode cX8_entry 88 = .ok (.iload 4, 2) := by decide +kernel
theorem dX8_entry_90 : decode cX8_entry 90 = .ok (.iaload, 1) := by decide +kernel
theorem dX8_entry_91 : decode cX8_entry 91 = .ok (.goto 10, 3) := by decide +kernel
theorem dX8_entry_94 : decode cX8_entry 94 = .ok (.aload_n 0, 1) := by decide +kernel
theorem dX8_entry_95 : decode cX8_entry 95 = .ok (.getfield 29, 3) := by decide +kernel
theorem dX8_entry_98 : decode cX8_entry 98 = .ok (.iload 4, 2) := by decide +kernel
theorem dX8_entry_100 : decode cX8_entry 100 = .ok (.iaload, 1) := by decide +kernel
theorem dX8_entry_101 : decode cX8_entry 101 = .ok (.ireturn, 1) := by decide +kernel
set_option maxRecDepth 20000 in
theorem ggX8_head_X8_no : GoodIn wsX8_head wsX8_no := goodIn_r _ [7, 8, 24, 25, 26, 27, 28, 29, 30, 31, 32, 33, 34, 35, 36, 37, 38, 39, 40, 41, 42, 43, 44, 45, 46, 47, 48, 49, 50, 51, 52, 53, 54, 55, 56, 57, 58] (by decide +kernel) (by decide +kernel)
set_option maxRecDepth 20000 in
theorem gX8_head_X8_no : GoodIn wsX8_head (wsV RX8 145 RX8 yX8_no wsX8_no) := goodIn_app (goodIn_of _ (by decide +kernel)) ggX8_head_X8_no
set_option maxRecDepth 20000 in
theorem ggX8_head_X8_headOf : GoodIn wsX8_head wsX8_headOf := goodIn_r _ [12, 13, 14, 15, 16, 17, 6, 18, 19, 20, 21, 22, 23, 24, 25, 26, 27, 28, 29, 30, 31, 32, 33, 34, 35, 36, 37, 38, 39, 40, 41, 42, 43, 44, 45, 46, 47, 48, 49, 50, 51, 52, 53, 54, 55, 56, 57, 58] (by decide +kernel) (by decide +kernel)
set_option maxRecDepth 20000 in
theorem gX8_head_X8_headOf : GoodIn wsX8_head (wsV RX8 129 RX8 yX8_headOf wsX8_headOf) := goodIn_app (goodIn_of _ (by decide +kernel)) ggX8_head_X8_headOf
theorem dX8_head_0 : decode cX8_head 0 = .ok (.aload_n 0, 1) := by decide +kernel
theorem dX8_head_1 : decode cX8_head 1 = .ok (.aload_n 0, 1) := by decide +kernel
theorem dX8_head_2 : decode cX8_head 2 = .ok (.iload_n 1, 1) := by decide +kernel
theorem dX8_head_3 : decode cX8_head 3 = .ok (.invokevirtual 145, 3) := by decide +kernel
theorem dX8_head_6 : decode cX8_head 6 = .ok (.ifCond .ne 7, 3) := by decide +kernel
theorem dX8_head_9 : decode cX8_head 9 = .ok (.iload_n 2, 1) := by decide +kernel
theorem dX8_head_10 : decode cX8_head 10 = .ok (.ifCond .ge 7, 3) := by decide +kernel
theorem dX8_head_13 : decode cX8_head 13 = .ok (.iconst 1, 1) := by decide +kernel
theorem dX8_head_14 : decode cX8_head 14 = .ok (.goto 18, 3) := by decide +kernel
theorem dX8_head_17 : decode cX8_head 17 = .ok (.iload_n 2, 1) := by decide +kernel
theorem dX8_head_18 : decode cX8_head 18 = .ok (.aload_n 0, 1) := by decide +kernel
theorem dX8_head_19 : decode cX8_head 19 = .ok (.getfield 20, 3) := by decide +kernel
theorem dX8_head_22 : decode cX8_head 22 = .ok (.iload_n 1, 1) := by decide +kernel
theorem dX8_head_23 : decode cX8_head 23 = .ok (.iaload, 1) := by decide +kernel
theorem dX8_head_24 : decode cX8_head 24 = .ok (.if_icmp .le 7, 3) := by decide +kernel
theorem dX8_head_27 : decode cX8_head 27 = .ok (.iconst 1, 1) := by decide +kernel
theorem dX8_head_28 : decode cX8_head 28 = .ok (.goto 4, 3) := by decide +kernel
theorem dX8_head_31 : decode cX8_head 31 = .ok (.iconst 0, 1) := by decide +kernel
theorem dX8_head_32 : decode cX8_head 32 = .ok (.putfield 102, 3) := by decide +kernel
theorem dX8_head_35 : decode cX8_head 35 = .ok (.aload_n 0, 1) := by decide +kernel
theorem dX8_head_36 : decode cX8_head 36 = .ok (.getfield 102, 3) := by decide +kernel
theorem dX8_head_39 : decode cX8_head 39 = .ok (.ifCond .le 7, 3) := by decide +kernel
theorem dX8_head_42 : decode cX8_head 42 = .ok (.lconst 0, 1) := by decide +kernel
theorem dX8_head_43 : decode cX8_head 43 = .ok (.goto 9, 3) := by decide +kernel
theorem dX8_head_46 : decode cX8_head 46 = .ok (.aload_n 0, 1) := by decide +kernel
theorem dX8_head_47 : decode cX8_head 47 = .ok (.iload_n 1, 1) := by decide +kernel
theorem dX8_head_48 : decode cX8_head 48 = .ok (.iload_n 2, 1) := by decide +kernel
theorem dX8_head_49 : decode cX8_head 49 = .ok (.invokevirtual 129, 3) := by decide +kernel
theorem dX8_head_52 : decode cX8_head 52 = .ok (.lreturn, 1) := by decide +kernel
set_option maxRecDepth 20000 in
theorem ggX8_about_X8_no : GoodIn wsX8_about wsX8_no := goodIn_r _ [12, 13, 14, 15, 16, 17, 18, 19, 20, 21, 22, 23, 24, 25, 26, 27, 28, 29, 30, 31, 32, 33, 34, 35, 36, 37, 38, 39, 40, 41, 42, 43, 44, 45, 46, 47, 48] (by decide +kernel) (by decide +kernel)
set_option maxRecDepth 20000 in
theorem gX8_about_X8_no : GoodIn wsX8_about (wsV RX8 145 RX8 yX8_no wsX8_no) := goodIn_app (goodIn_of _ (by decide +kernel)) ggX8_about_X8_no
theorem dX8_about_0 : decode cX8_about 0 = .ok (.aload_n 0, 1) := by decide +kernel
theorem dX8_about_1 : decode cX8_about 1 = .ok (.aload_n 0, 1) := by decide +kernel
theorem dX8_about_2 : decode cX8_about 2 = .ok (.iload_n 1, 1) := by decide +kernel
theorem dX8_about_3 : decode cX8_about 3 = .ok (.invokevirtual 145, 3) := by decide +kernel
theorem dX8_about_6 : decode cX8_about 6 = .ok (.ifCond .ne 12, 3) := by decide +kernel
theorem dX8_about_9 : decode cX8_about 9 = .ok (.iload_n 2, 1) := by decide +kernel
theorem dX8_about_10 : decode cX8_about 10 = .ok (.ifCond .lt 8, 3) := by decide +kernel
theorem dX8_about_13 : decode cX8_about 13 = .ok (.iload_n 2, 1) := by decide +kernel
theorem dX8_about_14 : decode cX8_about 14 = .ok (.iconst 4, 1) := by decide +kernel
theorem dX8_about_15 : decode cX8_about 15 = .ok (.if_icmp .le 7, 3) := by decide +kernel
theorem dX8_about_18 : decode cX8_about 18 = .ok (.iconst 1, 1) := by decide +kernel
theorem dX8_about_19 : decode cX8_about 19 = .ok (.goto 4, 3) := by decide +kernel
theorem dX8_about_22 : decode cX8_about 22 = .ok (.iconst 0, 1) := by decide +kernel
theorem dX8_about_23 : decode cX8_about 23 = .ok (.putfield 102, 3) := by decide +kernel
theorem dX8_about_26 : decode cX8_about 26 = .ok (.aload_n 0, 1) := by decide +kernel
theorem dX8_about_27 : decode cX8_about 27 = .ok (.getfield 102, 3) := by decide +kernel
theorem dX8_about_30 : decode cX8_about 30 = .ok (.ifCond .le 5, 3) := by decide +kernel
theorem dX8_about_33 : decode cX8_about 33 = .ok (.iconst 0, 1) := by decide +kernel
theorem dX8_about_34 : decode cX8_about 34 = .ok (.ireturn, 1) := by decide +kernel
theorem dX8_about_35 : decode cX8_about 35 = .ok (.iload_n 2, 1) := by decide +kernel
theorem dX8_about_36 : decode cX8_about 36 = .ok (.ifCond .ne 10, 3) := by decide +kernel
theorem dX8_about_39 : decode cX8_about 39 = .ok (.aload_n 0, 1) := by decide +kernel
theorem dX8_about_40 : decode cX8_about 40 = .ok (.getfield 20, 3) := by decide +kernel
theorem dX8_about_43 : decode cX8_about 43 = .ok (.iload_n 1, 1) := by decide +kernel
theorem dX8_about_44 : decode cX8_about 44 = .ok (.iaload, 1) := by decide +kernel
theorem dX8_about_45 : decode cX8_about 45 = .ok (.ireturn, 1) := by decide +kernel
theorem dX8_about_46 : decode cX8_about 46 = .ok (.iload_n 2, 1) := by decide +kernel
theorem dX8_about_47 : decode cX8_about 47 = .ok (.iconst 1, 1) := by decide +kernel
theorem dX8_about_48 : decode cX8_about 48 = .ok (.if_icmp .ne 10, 3) := by decide +kernel
theorem dX8_about_51 : decode cX8_about 51 = .ok (.aload_n 0, 1) := by decide +kernel
theorem dX8_about_52 : decode cX8_about 52 = .ok (.getfield 13, 3) := by decide +kernel
theorem dX8_about_55 : decode cX8_about 55 = .ok (.iload_n 1, 1) := by decide +kernel
theorem dX8_about_56 : decode cX8_about 56 = .ok (.iaload, 1) := by decide +kernel
theorem dX8_about_57 : decode cX8_about 57 = .ok (.ireturn, 1) := by decide +kernel
theorem dX8_about_58 : decode cX8_about 58 = .ok (.iload_n 2, 1) := by decide +kernel
theorem dX8_about_59 : decode cX8_about 59 = .ok (.iconst 2, 1) := by decide +kernel
theorem dX8_about_60 : decode cX8_about 60 = .ok (.if_icmp .ne 10, 3) := by decide +kernel
theorem dX8_about_63 : decode cX8_about 63 = .ok (.aload_n 0, 1) := by decide +kernel
theorem dX8_about_64 : decode cX8_about 64 = .ok (.getfield 17, 3) := by decide +kernel
theorem dX8_about_67 : decode cX8_about 67 = .ok (.iload_n 1, 1) := by decide +kernel
theorem dX8_about_68 : decode cX8_about 68 = .ok (.iaload, 1) := by decide +kernel
theorem dX8_about_69 : decode cX8_about 69 = .ok (.ireturn, 1) := by decide +kernel
theorem dX8_about_70 : decode cX8_about 70 = .ok (.iload_n 2, 1) := by decide +kernel
theorem dX8_about_71 : decode cX8_about 71 = .ok (.iconst 3, 1) := by decide +kernel
theorem dX8_about_72 : decode cX8_about 72 = .ok (.if_icmp .ne 10, 3) := by decide +kernel
theorem dX8_about_75 : decode cX8_about 75 = .ok (.aload_n 0, 1) := by decide +kernel
theorem dX8_about_76 : decode cX8_about 76 = .ok (.getfield 70, 3) := by decide +kernel
theorem dX8_about_79 : decode cX8_about 79 = .ok (.iload_n 1, 1) := by decide +kernel
theorem dX8_about_80 : decode cX8_about 80 = .ok (.iaload, 1) := by decide +kernel
theorem dX8_about_81 : decode cX8_about 81 = .ok (.ireturn, 1) := by decide +kernel
theorem dX8_about_82 : decode cX8_about 82 = .ok (.iconst 0, 1) := by decide +kernel
theorem dX8_about_83 : decode cX8_about 83 = .ok (.istore_n 3, 1) := by decide +kernel
theorem dX8_about_84 : decode cX8_about 84 = .ok (.iconst 0, 1) := by decide +kernel
theorem dX8_about_85 : decode cX8_about 85 = .ok (.istore 4, 2) := by decide +kernel
theorem dX8_about_87 : decode cX8_about 87 = .ok (.iload 4, 2) := by decide +kernel
theorem dX8_about_89 : decode cX8_about 89 = .ok (.aload_n 0, 1) := by decide +kernel
theorem dX8_about_90 : decode cX8_about 90 = .ok (.getfield 111, 3) := by decide +kernel
theorem dX8_about_93 : decode cX8_about 93 = .ok (.if_icmp .ge 28, 3) := by decide +kernel
theorem dX8_about_96 : decode cX8_about 96 = .ok (.aload_n 0, 1) := by decide +kernel
theorem dX8_about_97 : decode cX8_about 97 = .ok (.getfield 61, 3) := by decide +kernel
theorem dX8_about_100 : decode cX8_about 100 = .ok (.iload 4, 2) := by decide +kernel
theorem dX8_about_102 : decode cX8_about 102 = .ok (.iaload, 1) := by decide +kernel
theorem dX8_about_103 : decode cX8_about 103 = .ok (.iload_n 1, 1) := by decide +kernel
theorem dX8_about_104 : decode cX8_about 104 = .ok (.if_icmp .ne 9, 3) := by decide +kernel
theorem dX8_about_107 : decode cX8_about 107 = .ok (.iload_n 3, 1) := by decide +kernel
theorem dX8_about_108 : decode cX8_about 108 = .ok (.iconst 1, 1) := by decide +kernel
theorem dX8_about_109 : decode cX8_about 109 = .ok (.iadd, 1) := by decide +kernel
theorem dX8_about_110 : decode cX8_about 110 = .ok (.goto 4, 3) := by decide +kernel
theorem dX8_about_113 : decode cX8_about 113 = .ok (.iload_n 3, 1) := by decide +kernel
theorem dX8_about_114 : decode cX8_about 114 = .ok (.istore_n 3, 1) := by decide +kernel
theorem dX8_about_115 : decode cX8_about 115 = .ok (.iinc 4 1, 3) := by decide +kernel
theorem dX8_about_118 : decode cX8_about 118 = .ok (.goto (-31), 3) := by decide +kernel
theorem dX8_about_121 : decode cX8_about 121 = .ok (.iload_n 3, 1) := by decide +kernel
theorem dX8_about_122 : decode cX8_about 122 = .ok (.ireturn, 1) := by decide +kernel
theorem dX8_total_0 : decode cX8_total 0 = .ok (.aload_n 0, 1) := by decide +kernel
theorem dX8_total_1 : decode cX8_total 1 = .ok (.iload_n 1, 1) := by decide +kernel
theorem dX8_total_2 : decode cX8_total 2 = .ok (.ifCond .lt 8, 3) := by decide +kernel
theorem dX8_total_5 : decode cX8_total 5 = .ok (.iload_n 1, 1) := by decide +kernel
theorem dX8_total_6 : decode cX8_total 6 = .ok (.iconst 3, 1) := by decide +kernel
theorem dX8_total_7 : decode cX8_total 7 = .ok (.if_icmp .le 7, 3) := by decide +kernel
theorem dX8_total_10 : decode cX8_total 10 = .ok (.iconst 1, 1) := by decide +kernel
theorem dX8_total_11 : decode cX8_total 11 = .ok (.goto 4, 3) := by decide +kernel
theorem dX8_total_14 : decode cX8_total 14 = .ok (.iconst 0, 1) := by decide +kernel
theorem dX8_total_15 : decode cX8_total 15 = .ok (.putfield 102, 3) := by decide +kernel
theorem dX8_total_18 : decode cX8_total 18 = .ok (.aload_n 0, 1) := by decide +kernel
theorem dX8_total_19 : decode cX8_total 19 = .ok (.getfield 102, 3) := by decide +kernel
theorem dX8_total_22 : decode cX8_total 22 = .ok (.ifCond .le 5, 3) := by decide +kernel
theorem dX8_total_25 : decode cX8_total 25 = .ok (.iconst 0, 1) := by decide +kernel
theorem dX8_total_26 : decode cX8_total 26 = .ok (.ireturn, 1) := by decide +kernel
theorem dX8_total_27 : decode cX8_total 27 = .ok (.iload_n 1, 1) := by decide +kernel
theorem dX8_total_28 : decode cX8_total 28 = .ok (.ifCond .ne 10, 3) := by decide +kernel
theorem dX8_total_31 : decode cX8_total 31 = .ok (.aload_n 0, 1) := by decide +kernel
theorem dX8_total_32 : decode cX8_total 32 = .ok (.getfield 105, 3) := by decide +kernel
theorem dX8_total_35 : decode cX8_total 35 = .ok (.goto 31, 3) := by decide +kernel
theorem dX8_total_38 : decode cX8_total 38 = .ok (.iload_n 1, 1) := by decide +kernel
theorem dX8_total_39 : decode cX8_total 39 = .ok (.iconst 1, 1) := by decide +kernel
theorem dX8_total_40 : decode cX8_total 40 = .ok (.if_icmp .ne 10, 3) := by decide +kernel
theorem dX8_total_43 : decode cX8_total 43 = .ok (.aload_n 0, 1) := by decide +kernel
theorem dX8_total_44 : decode cX8_total 44 = .ok (.getfield 108, 3) := by decide +kernel
theorem dX8_total_47 : decode cX8_total 47 = .ok (.goto 19, 3) := by decide +kernel
theorem dX8_total_50 : decode cX8_total 50 = .ok (.iload_n 1, 1) := by decide +kernel
theorem dX8_total_51 : decode cX8_total 51 = .ok (.iconst 2, 1) := by decide +kernel
theorem dX8_total_52 : decode cX8_total 52 = .ok (.if_icmp .ne 10, 3) := by decide +kernel
theorem dX8_total_55 : decode cX8_total 55 = .ok (.aload_n 0, 1) := by decide +kernel
theorem dX8_total_56 : decode cX8_total 56 = .ok (.getfield 114, 3) := by decide +kernel
theorem dX8_total_59 : decode cX8_total 59 = .ok (.goto 7, 3) := by decide +kernel
theorem dX8_total_62 : decode cX8_total 62 = .ok (.aload_n 0, 1) := by decide +kernel
theorem dX8_total_63 : decode cX8_total 63 = .ok (.getfield 7, 3) := by decide +kernel
theorem dX8_total_66 : decode cX8_total 66 = .ok (.ireturn, 1) := by decide +kernel
