theorem dX7_sendWhatIsDue_0 : decode cX7_sendWhatIsDue 0 = .ok (.aload_n 1, 1) := by decide +kernel
theorem dX7_sendWhatIsDue_1 : decode cX7_sendWhatIsDue 1 = .ok (.getfield 71, 3) := by decide +kernel
theorem dX7_sendWhatIsDue_4 : decode cX7_sendWhatIsDue 4 = .ok (.getfield 226, 3) := by decide +kernel
theorem dX7_sendWhatIsDue_7 : decode cX7_sendWhatIsDue 7 = .ok (.ifCond .eq 22, 3) := by decide +kernel
theorem dX7_sendWhatIsDue_10 : decode cX7_sendWhatIsDue 10 = .ok (.aload_n 0, 1) := by decide +kernel
theorem dX7_sendWhatIsDue_11 : decode cX7_sendWhatIsDue 11 = .ok (.aload_n 1, 1) := by decide +kernel
theorem dX7_sendWhatIsDue_12 : decode cX7_sendWhatIsDue 12 = .ok (.aload_n 1, 1) := by decide +kernel
theorem dX7_sendWhatIsDue_13 : decode cX7_sendWhatIsDue 13 = .ok (.getfield 71, 3) := by decide +kernel
theorem dX7_sendWhatIsDue_16 : decode cX7_sendWhatIsDue 16 = .ok (.getfield 229, 3) := by decide +kernel
theorem dX7_sendWhatIsDue_19 : decode cX7_sendWhatIsDue 19 = .ok (.aload_n 1, 1) := by decide +kernel
theorem dX7_sendWhatIsDue_20 : decode cX7_sendWhatIsDue 20 = .ok (.getfield 71, 3) := by decide +kernel
theorem dX7_sendWhatIsDue_23 : decode cX7_sendWhatIsDue 23 = .ok (.getfield 232, 3) := by decide +kernel
theorem dX7_sendWhatIsDue_26 : decode cX7_sendWhatIsDue 26 = .ok (.invokevirtual 129, 3) := by decide +kernel
theorem dX7_sendWhatIsDue_29 : decode cX7_sendWhatIsDue 29 = .ok (.return_, 1) := by decide +kernel
set_option maxRecDepth 20000 in
theorem ggX7_sendMessage_X2_append : GoodIn wsX7_sendMessage wsX2_append := goodIn_r _ [12, 13, 14, 15, 16, 17, 18, 19, 20, 21, 22, 23, 24, 25, 63, 64, 65, 66, 67] (by decide +kernel) (by decide +kernel)
set_option maxRecDepth 20000 in
theorem gX7_sendMessage_X2_append : GoodIn wsX7_sendMessage (wsV RX7 67 RX2 yX2_append wsX2_append) := goodIn_app (goodIn_of _ (by decide +kernel)) ggX7_sendMessage_X2_append
set_option maxRecDepth 20000 in
theorem ggX7_sendMessage_X5_hasRoom : GoodIn wsX7_sendMessage wsX5_hasRoom := goodIn_r _ [30, 31, 75, 76, 77, 78] (by decide +kernel) (by decide +kernel)
set_option maxRecDepth 20000 in
theorem gX7_sendMessage_X5_hasRoom : GoodIn wsX7_sendMessage (wsV RX7 235 RX5 yX5_hasRoom wsX5_hasRoom) := goodIn_app (goodIn_of _ (by decide +kernel)) ggX7_sendMessage_X5_hasRoom
set_option maxRecDepth 20000 in
theorem ggX7_sendMessage_X5_addLast : GoodIn wsX7_sendMessage wsX5_addLast := goodIn_r _ [35, 31, 36, 75, 76, 77, 78] (by decide +kernel) (by decide +kernel)
set_option maxRecDepth 20000 in
theorem gX7_sendMessage_X5_addLast : GoodIn wsX7_sendMessage (wsV RX7 238 RX5 yX5_addLast wsX5_addLast) := goodIn_app (goodIn_of _ (by decide +kernel)) ggX7_sendMessage_X5_addLast
set_option maxRecDepth 20000 in
theorem ggX7_sendMessage_X1_address : GoodIn wsX7_sendMessage wsX1_address := goodIn_r _ [41, 42, 43, 44, 79, 80, 81, 82, 83, 84, 85] (by decide +kernel) (by decide +kernel)
set_option maxRecDepth 20000 in
theorem gX7_sendMessage_X1_address : GoodIn wsX7_sendMessage (wsV RX7 245 RX1 yX1_address wsX1_address) := goodIn_app (goodIn_of _ (by decide +kernel)) ggX7_sendMessage_X1_address
set_option maxRecDepth 20000 in
theorem ggX7_sendMessage_X7_signatureOf : GoodIn wsX7_sendMessage wsX7_signatureOf := goodIn_r _ [47, 21, 22, 23, 19, 24, 25] (by decide +kernel) (by decide +kernel)
set_option maxRecDepth 20000 in
theorem gX7_sendMessage_X7_signatureOf : GoodIn wsX7_sendMessage (va_wsS RX7 248 yX7_signatureOf wsX7_signatureOf) := goodIn_app (goodIn_of _ (by decide +kernel)) ggX7_sendMessage_X7_signatureOf
set_option maxRecDepth 20000 in
theorem ggX7_sendMessage_X1_seal : GoodIn wsX7_sendMessage wsX1_seal := goodIn_r _ [51, 52, 53, 54, 79, 80, 81, 82, 83, 84, 85] (by decide +kernel) (by decide +kernel)
set_option maxRecDepth 20000 in
theorem gX7_sendMessage_X1_seal : GoodIn wsX7_sendMessage (wsV RX7 252 RX1 yX1_seal wsX1_seal) := goodIn_app (goodIn_of _ (by decide +kernel)) ggX7_sendMessage_X1_seal
theorem dX7_sendMessage_0 : decode cX7_sendMessage 0 = .ok (.aload_n 1, 1) := by decide +kernel
theorem dX7_sendMessage_1 : decode cX7_sendMessage 1 = .ok (.getfield 57, 3) := by decide +kernel
theorem dX7_sendMessage_4 : decode cX7_sendMessage 4 = .ok (.astore 4, 2) := by decide +kernel
theorem dX7_sendMessage_6 : decode cX7_sendMessage 6 = .ok (.aload 4, 2) := by decide +kernel
theorem dX7_sendMessage_8 : decode cX7_sendMessage 8 = .ok (.getfield 192, 3) := by decide +kernel
theorem dX7_sendMessage_11 : decode cX7_sendMessage 11 = .ok (.aload 4, 2) := by decide +kernel
theorem dX7_sendMessage_13 : decode cX7_sendMessage 13 = .ok (.getfield 81, 3) := by decide +kernel
theorem dX7_sendMessage_16 : decode cX7_sendMessage 16 = .ok (.laload, 1) := by decide +kernel
theorem dX7_sendMessage_17 : decode cX7_sendMessage 17 = .ok (.lstore 5, 2) := by decide +kernel
theorem dX7_sendMessage_19 : decode cX7_sendMessage 19 = .ok (.aload 4, 2) := by decide +kernel
theorem dX7_sendMessage_21 : decode cX7_sendMessage 21 = .ok (.iconst 3, 1) := by decide +kernel
theorem dX7_sendMessage_22 : decode cX7_sendMessage 22 = .ok (.iload_n 2, 1) := by decide +kernel
theorem dX7_sendMessage_23 : decode cX7_sendMessage 23 = .ok (.iload_n 3, 1) := by decide +kernel
theorem dX7_sendMessage_24 : decode cX7_sendMessage 24 = .ok (.invokevirtual 67, 3) := by decide +kernel
theorem dX7_sendMessage_27 : decode cX7_sendMessage 27 = .ok (.aload_n 0, 1) := by decide +kernel
theorem dX7_sendMessage_28 : decode cX7_sendMessage 28 = .ok (.getfield 18, 3) := by decide +kernel
theorem dX7_sendMessage_31 : decode cX7_sendMessage 31 = .ok (.dup, 1) := by decide +kernel
theorem dX7_sendMessage_32 : decode cX7_sendMessage 32 = .ok (.getfield 206, 3) := by decide +kernel
theorem dX7_sendMessage_35 : decode cX7_sendMessage 35 = .ok (.iconst 1, 1) := by decide +kernel
theorem dX7_sendMessage_36 : decode cX7_sendMessage 36 = .ok (.iadd, 1) := by decide +kernel
theorem dX7_sendMessage_37 : decode cX7_sendMessage 37 = .ok (.putfield 206, 3) := by decide +kernel
theorem dX7_sendMessage_40 : decode cX7_sendMessage 40 = .ok (.aload_n 0, 1) := by decide +kernel
theorem dX7_sendMessage_41 : decode cX7_sendMessage 41 = .ok (.getfield 18, 3) := by decide +kernel
theorem dX7_sendMessage_44 : decode cX7_sendMessage 44 = .ok (.invokevirtual 235, 3) := by decide +kernel
theorem dX7_sendMessage_47 : decode cX7_sendMessage 47 = .ok (.ifCond .eq 64, 3) := by decide +kernel
theorem dX7_sendMessage_50 : decode cX7_sendMessage 50 = .ok (.aload_n 0, 1) := by decide +kernel
theorem dX7_sendMessage_51 : decode cX7_sendMessage 51 = .ok (.getfield 18, 3) := by decide +kernel
theorem dX7_sendMessage_54 : decode cX7_sendMessage 54 = .ok (.invokevirtual 238, 3) := by decide +kernel
theorem dX7_sendMessage_57 : decode cX7_sendMessage 57 = .ok (.astore 7, 2) := by decide +kernel
theorem dX7_sendMessage_59 : decode cX7_sendMessage 59 = .ok (.aload 7, 2) := by decide +kernel
theorem dX7_sendMessage_61 : decode cX7_sendMessage 61 = .ok (.iconst 1, 1) := by decide +kernel
theorem dX7_sendMessage_62 : decode cX7_sendMessage 62 = .ok (.aload_n 1, 1) := by decide +kernel
theorem dX7_sendMessage_63 : decode cX7_sendMessage 63 = .ok (.getfield 242, 3) := by decide +kernel
theorem dX7_sendMessage_66 : decode cX7_sendMessage 66 = .ok (.iload_n 2, 1) := by decide +kernel
theorem dX7_sendMessage_67 : decode cX7_sendMessage 67 = .ok (.invokevirtual 245, 3) := by decide +kernel
theorem dX7_sendMessage_70 : decode cX7_sendMessage 70 = .ok (.aload 7, 2) := by decide +kernel
theorem dX7_sendMessage_72 : decode cX7_sendMessage 72 = .ok (.iload_n 3, 1) := by decide +kernel
theorem dX7_sendMessage_73 : decode cX7_sendMessage 73 = .ok (.putfield 111, 3) := by decide +kernel
theorem dX7_sendMessage_76 : decode cX7_sendMessage 76 = .ok (.aload 7, 2) := by decide +kernel
theorem dX7_sendMessage_78 : decode cX7_sendMessage 78 = .ok (.aload 4, 2) := by decide +kernel
theorem dX7_sendMessage_80 : decode cX7_sendMessage 80 = .ok (.getfield 81, 3) := by decide +kernel
theorem dX7_sendMessage_83 : decode cX7_sendMessage 83 = .ok (.lload 5, 2) := by decide +kernel
theorem dX7_sendMessage_85 : decode cX7_sendMessage 85 = .ok (.aload_n 1, 1) := by decide +kernel
theorem dX7_sendMessage_86 : decode cX7_sendMessage 86 = .ok (.getfield 242, 3) := by decide +kernel
theorem dX7_sendMessage_89 : decode cX7_sendMessage 89 = .ok (.aload 4, 2) := by decide +kernel
theorem dX7_sendMessage_91 : decode cX7_sendMessage 91 = .ok (.getfield 81, 3) := by decide +kernel
theorem dX7_sendMessage_94 : decode cX7_sendMessage 94 = .ok (.aload 4, 2) := by decide +kernel
theorem dX7_sendMessage_96 : decode cX7_sendMessage 96 = .ok (.getfield 192, 3) := by decide +kernel
theorem dX7_sendMessage_99 : decode cX7_sendMessage 99 = .ok (.aload 4, 2) := by decide +kernel
theorem dX7_sendMessage_101 : decode cX7_sendMessage 101 = .ok (.getfield 81, 3) := by decide +kernel
theorem dX7_sendMessage_104 : decode cX7_sendMessage 104 = .ok (.laload, 1) := by decide +kernel
theorem dX7_sendMessage_105 : decode cX7_sendMessage 105 = .ok (.invokestatic 248, 3) := by decide +kernel
theorem dX7_sendMessage_108 : decode cX7_sendMessage 108 = .ok (.invokevirtual 252, 3) := by decide +kernel
theorem dX7_sendMessage_111 : decode cX7_sendMessage 111 = .ok (.return_, 1) := by decide +kernel
set_option maxRecDepth 20000 in
theorem ggX7_sendNote_X5_hasRoom : GoodIn wsX7_sendNote wsX5_hasRoom := goodIn_r _ [11, 12, 54, 55, 56, 57] (by decide +kernel) (by decide +kernel)
set_option maxRecDepth 20000 in
theorem gX7_sendNote_X5_hasRoom : GoodIn wsX7_sendNote (wsV RX7 235 RX5 yX5_hasRoom wsX5_hasRoom) := goodIn_app (goodIn_of _ (by decide +kernel)) ggX7_sendNote_X5_hasRoom
set_option maxRecDepth 20000 in
theorem ggX7_sendNote_X5_addLast : GoodIn wsX7_sendNote wsX5_addLast := goodIn_r _ [16, 12, 17, 54, 55, 56, 57] (by decide +kernel) (by decide +kernel)
set_option maxRecDepth 20000 in
theorem gX7_sendNote_X5_addLast : GoodIn wsX7_sendNote (wsV RX7 238 RX5 yX5_addLast wsX5_addLast) := goodIn_app (goodIn_of _ (by decide +kernel)) ggX7_sendNote_X5_addLast
set_option maxRecDepth 20000 in
theorem ggX7_sendNote_X1_address : GoodIn wsX7_sendNote wsX1_address := goodIn_r _ [22, 23, 24, 25, 58, 59, 60, 61, 62, 63, 64] (by decide +kernel) (by decide +kernel)
set_option maxRecDepth 20000 in
theorem gX7_sendNote_X1_address : GoodIn wsX7_sendNote (wsV RX7 245 RX1 yX1_address wsX1_address) := goodIn_app (goodIn_of _ (by decide +kernel)) ggX7_sendNote_X1_address
set_option maxRecDepth 20000 in
theorem ggX7_sendNote_X7_signatureOf : GoodIn wsX7_sendNote wsX7_signatureOf := goodIn_r _ [29, 30, 31, 32, 28, 33, 34] (by decide +kernel) (by decide +kernel)
set_option maxRecDepth 20000 in
theorem gX7_sendNote_X7_signatureOf : GoodIn wsX7_sendNote (va_wsS RX7 248 yX7_signatureOf wsX7_signatureOf) := goodIn_app (goodIn_of _ (by decide +kernel)) ggX7_sendNote_X7_signatureOf
set_option maxRecDepth 20000 in
theorem ggX7_sendNote_X1_seal : GoodIn wsX7_sendNote wsX1_seal := goodIn_r _ [38, 39, 40, 41, 58, 59, 60, 61, 62, 63, 64] (by decide +kernel) (by decide +kernel)
set_option maxRecDepth 20000 in
theorem gX7_sendNote_X1_seal : GoodIn wsX7_sendNote (wsV RX7 252 RX1 yX1_seal wsX1_seal) := goodIn_app (goodIn_of _ (by decide +kernel)) ggX7_sendNote_X1_seal
theorem dX7_sendNote_0 : decode cX7_sendNote 0 = .ok (.aload_n 2, 1) := by decide +kernel
theorem dX7_sendNote_1 : decode cX7_sendNote 1 = .ok (.getfield 256, 3) := by decide +kernel
theorem dX7_sendNote_4 : decode cX7_sendNote 4 = .ok (.iload_n 3, 1) := by decide +kernel
theorem dX7_sendNote_5 : decode cX7_sendNote 5 = .ok (.iaload, 1) := by decide +kernel
theorem dX7_sendNote_6 : decode cX7_sendNote 6 = .ok (.istore 5, 2) := by decide +kernel
theorem dX7_sendNote_8 : decode cX7_sendNote 8 = .ok (.iload 5, 2) := by decide +kernel
theorem dX7_sendNote_10 : decode cX7_sendNote 10 = .ok (.iload 4, 2) := by decide +kernel
theorem dX7_sendNote_12 : decode cX7_sendNote 12 = .ok (.iadd, 1) := by decide +kernel
theorem dX7_sendNote_13 : decode cX7_sendNote 13 = .ok (.aload_n 0, 1) := by decide +kernel
theorem dX7_sendNote_14 : decode cX7_sendNote 14 = .ok (.getfield 209, 3) := by decide +kernel
theorem dX7_sendNote_17 : decode cX7_sendNote 17 = .ok (.irem, 1) := by decide +kernel
theorem dX7_sendNote_18 : decode cX7_sendNote 18 = .ok (.istore 6, 2) := by decide +kernel
theorem dX7_sendNote_20 : decode cX7_sendNote 20 = .ok (.iload 6, 2) := by decide +kernel
theorem dX7_sendNote_22 : decode cX7_sendNote 22 = .ok (.iload_n 1, 1) := by decide +kernel
theorem dX7_sendNote_23 : decode cX7_sendNote 23 = .ok (.if_icmp .ne 5, 3) := by decide +kernel
theorem dX7_sendNote_26 : decode cX7_sendNote 26 = .ok (.iconst 0, 1) := by decide +kernel
theorem dX7_sendNote_27 : decode cX7_sendNote 27 = .ok (.ireturn, 1) := by decide +kernel
theorem dX7_sendNote_28 : decode cX7_sendNote 28 = .ok (.aload_n 0, 1) := by decide +kernel
theorem dX7_sendNote_29 : decode cX7_sendNote 29 = .ok (.getfield 18, 3) := by decide +kernel
theorem dX7_sendNote_32 : decode cX7_sendNote 32 = .ok (.dup, 1) := by decide +kernel
theorem dX7_sendNote_33 : decode cX7_sendNote 33 = .ok (.getfield 206, 3) := by decide +kernel
theorem dX7_sendNote_36 : decode cX7_sendNote 36 = .ok (.iconst 1, 1) := by decide +kernel
theorem dX7_sendNote_37 : decode cX7_sendNote 37 = .ok (.iadd, 1) := by decide +kernel
theorem dX7_sendNote_38 : decode cX7_sendNote 38 = .ok (.putfield 206, 3) := by decide +kernel
theorem dX7_sendNote_41 : decode cX7_sendNote 41 = .ok (.aload_n 0, 1) := by decide +kernel
theorem dX7_sendNote_42 : decode cX7_sendNote 42 = .ok (.getfield 18, 3) := by decide +kernel
theorem dX7_sendNote_45 : decode cX7_sendNote 45 = .ok (.invokevirtual 235, 3) := by decide +kernel
theorem dX7_sendNote_48 : decode cX7_sendNote 48 = .ok (.ifCond .eq 56, 3) := by decide +kernel
theorem dX7_sendNote_51 : decode cX7_sendNote 51 = .ok (.aload_n 0, 1) := by decide +kernel
theorem dX7_sendNote_52 : decode cX7_sendNote 52 = .ok (.getfield 18, 3) := by decide +kernel
theorem dX7_sendNote_55 : decode cX7_sendNote 55 = .ok (.invokevirtual 238, 3) := by decide +kernel
theorem dX7_sendNote_58 : decode cX7_sendNote 58 = .ok (.astore 7, 2) := by decide +kernel
theorem dX7_sendNote_60 : decode cX7_sendNote 60 = .ok (.aload 7, 2) := by decide +kernel
theorem dX7_sendNote_62 : decode cX7_sendNote 62 = .ok (.iconst 2, 1) := by decide +kernel
theorem dX7_sendNote_63 : decode cX7_sendNote 63 = .ok (.iload 5, 2) := by decide +kernel
theorem dX7_sendNote_65 : decode cX7_sendNote 65 = .ok (.iload 6, 2) := by decide +kernel
theorem dX7_sendNote_67 : decode cX7_sendNote 67 = .ok (.invokevirtual 245, 3) := by decide +kernel
theorem dX7_sendNote_70 : decode cX7_sendNote 70 = .ok (.aload 7, 2) := by decide +kernel
theorem dX7_sendNote_72 : decode cX7_sendNote 72 = .ok (.aload_n 2, 1) := by decide +kernel
theorem dX7_sendNote_73 : decode cX7_sendNote 73 = .ok (.getfield 259, 3) := by decide +kernel
theorem dX7_sendNote_76 : decode cX7_sendNote 76 = .ok (.iload_n 3, 1) := by decide +kernel
theorem dX7_sendNote_77 : decode cX7_sendNote 77 = .ok (.iaload, 1) := by decide +kernel
theorem dX7_sendNote_78 : decode cX7_sendNote 78 = .ok (.aload_n 2, 1) := by decide +kernel
theorem dX7_sendNote_79 : decode cX7_sendNote 79 = .ok (.getfield 262, 3) := by decide +kernel
theorem dX7_sendNote_82 : decode cX7_sendNote 82 = .ok (.iload_n 3, 1) := by decide +kernel
theorem dX7_sendNote_83 : decode cX7_sendNote 83 = .ok (.laload, 1) := by decide +kernel
theorem dX7_sendNote_84 : decode cX7_sendNote 84 = .ok (.iload 5, 2) := by decide +kernel
theorem dX7_sendNote_86 : decode cX7_sendNote 86 = .ok (.aload_n 2, 1) := by decide +kernel
theorem dX7_sendNote_87 : decode cX7_sendNote 87 = .ok (.getfield 259, 3) := by decide +kernel
theorem dX7_sendNote_90 : decode cX7_sendNote 90 = .ok (.iload_n 3, 1) := by decide +kernel
theorem dX7_sendNote_91 : decode cX7_sendNote 91 = .ok (.iaload, 1) := by decide +kernel
theorem dX7_sendNote_92 : decode cX7_sendNote 92 = .ok (.aload_n 2, 1) := by decide +kernel
theorem dX7_sendNote_93 : decode cX7_sendNote 93 = .ok (.getfield 262, 3) := by decide +kernel
theorem dX7_sendNote_96 : decode cX7_sendNote 96 = .ok (.iload_n 3, 1) := by decide +kernel
theorem dX7_sendNote_97 : decode cX7_sendNote 97 = .ok (.laload, 1) := by decide +kernel
theorem dX7_sendNote_98 : decode cX7_sendNote 98 = .ok (.invokestatic 248, 3) := by decide +kernel
theorem dX7_sendNote_101 : decode cX7_sendNote 101 = .ok (.invokevirtual 252, 3) := by decide +kernel
theorem dX7_sendNote_104 : decode cX7_sendNote 104 = .ok (.iconst 1, 1) := by decide +kernel
theorem dX7_sendNote_105 : decode cX7_sendNote 105 = .ok (.ireturn, 1) := by decide +kernel
set_option maxRecDepth 20000 in
theorem ggX7_takeMessage_X7_headBehind : GoodIn wsX7_takeMessage wsX7_headBehind := goodIn_r _ [14, 15, 16, 17, 13, 18, 19] (by decide +kernel) (by decide +kernel)
set_option maxRecDepth 20000 in
theorem gX7_takeMessage_X7_headBehind : GoodIn wsX7_takeMessage (va_wsS RX7 270 yX7_headBehind wsX7_headBehind) := goodIn_app (goodIn_of _ (by decide +kernel)) ggX7_takeMessage_X7_headBehind
set_option maxRecDepth 20000 in
theorem ggX7_takeMessage_X7_signatureOf : GoodIn wsX7_takeMessage wsX7_signatureOf := goodIn_r _ [22, 15, 16, 17, 13, 18, 19] (by decide +kernel) (by decide +kernel)
set_option maxRecDepth 20000 in
theorem gX7_takeMessage_X7_signatureOf : GoodIn wsX7_takeMessage (va_wsS RX7 248 yX7_signatureOf wsX7_signatureOf) := goodIn_app (goodIn_of _ (by decide +kernel)) ggX7_takeMessage_X7_signatureOf
set_option maxRecDepth 20000 in
theorem ggX7_takeMessage_X4_hasTaken : GoodIn wsX7_takeMessage wsX4_hasTaken := goodIn_r _ [27, 28, 127, 128, 129, 130, 131, 132, 133, 134] (by decide +kernel) (by decide +kernel)
set_option maxRecDepth 20000 in
theorem gX7_takeMessage_X4_hasTaken : GoodIn wsX7_takeMessage (wsV RX7 283 RX4 yX4_hasTaken wsX4_hasTaken) := goodIn_app (goodIn_of _ (by decide +kernel)) ggX7_takeMessage_X4_hasTaken
set_option maxRecDepth 20000 in
theorem ggX7_takeMessage_X2_hasTwoPlaces : GoodIn wsX7_takeMessage wsX2_hasTwoPlaces := goodIn_r _ [33, 34, 135, 136, 137, 138, 139] (by decide +kernel) (by decide +kernel)
set_option maxRecDepth 20000 in
theorem gX7_takeMessage_X2_hasTwoPlaces : GoodIn wsX7_takeMessage (wsV RX7 60 RX2 yX2_hasTwoPlaces wsX2_hasTwoPlaces) := goodIn_app (goodIn_of _ (by decide +kernel)) ggX7_takeMessage_X2_hasTwoPlaces
set_option maxRecDepth 20000 in
theorem ggX7_takeMessage_X4_noteTaken : GoodIn wsX7_takeMessage wsX4_noteTaken := goodIn_r _ [38, 28, 39, 127, 128, 129, 130, 131, 132, 133, 134] (by decide +kernel) (by decide +kernel)
set_option maxRecDepth 20000 in
theorem gX7_takeMessage_X4_noteTaken : GoodIn wsX7_takeMessage (wsV RX7 286 RX4 yX4_noteTaken wsX4_noteTaken) := goodIn_app (goodIn_of _ (by decide +kernel)) ggX7_takeMessage_X4_noteTaken
set_option maxRecDepth 20000 in
theorem ggX7_takeMessage_X2_append : GoodIn wsX7_takeMessage wsX2_append := goodIn_r _ [43, 34, 44, 45, 46, 47, 12, 13, 14, 15, 16, 17, 18, 19, 135, 136, 137, 138, 139] (by decide +kernel) (by decide +kernel)
set_option maxRecDepth 20000 in
theorem gX7_takeMessage_X2_append : GoodIn wsX7_takeMessage (wsV RX7 67 RX2 yX2_append wsX2_append) := goodIn_app (goodIn_of _ (by decide +kernel)) ggX7_takeMessage_X2_append
set_option maxRecDepth 20000 in
theorem ggX7_takeMessage_X6_keep : GoodIn wsX7_takeMessage wsX6_keep := goodIn_r _ [52, 53, 54, 55, 56, 57, 58, 59, 60, 51, 61, 140, 141, 142, 143, 144] (by decide +kernel) (by decide +kernel)
set_option maxRecDepth 20000 in
theorem gX7_takeMessage_X6_keep : GoodIn wsX7_takeMessage (wsV RX7 289 RX6 yX6_keep wsX6_keep) := goodIn_app (goodIn_of _ (by decide +kernel)) ggX7_takeMessage_X6_keep
set_option maxRecDepth 20000 in
theorem ggX7_takeMessage_X3_stepReceipt : GoodIn wsX7_takeMessage wsX3_stepReceipt := goodIn_r _ [66, 67, 68, 69, 70, 145, 146, 147, 148, 149, 150, 151] (by decide +kernel) (by decide +kernel)
set_option maxRecDepth 20000 in
theorem gX7_takeMessage_X3_stepReceipt : GoodIn wsX7_takeMessage (wsV RX7 293 RX3 yX3_stepReceipt wsX3_stepReceipt) := goodIn_app (goodIn_of _ (by decide +kernel)) ggX7_takeMessage_X3_stepReceipt
set_option maxRecDepth 20000 in
theorem ggX7_takeMessage_X7_sendWhatIsDue : GoodIn wsX7_takeMessage wsX7_sendWhatIsDue := goodIn_r _ [74, 10, 75, 76, 77, 78, 79, 80, 13, 81, 8, 82, 83, 84, 85, 86, 4, 40, 41, 42, 32, 43, 34, 44, 45, 46, 47, 12, 14, 15, 16, 17, 18, 19, 87, 88, 89, 90, 91, 92, 93, 94, 95, 96, 97, 98, 99, 100, 101, 102, 103, 104, 105, 20, 21, 22, 106, 107, 108, 109, 110, 111, 112, 127, 128, 129, 130, 131, 132, 133, 134, 145, 146, 147, 148, 149, 150, 151, 135, 136, 137, 138, 139, 113, 114, 115, 116, 117, 118, 119, 152, 153, 154, 155, 120, 121, 122, 123, 124, 125, 126] (by decide +kernel) (by decide +kernel)
set_option maxRecDepth 20000 in
theorem gX7_takeMessage_X7_sendWhatIsDue : GoodIn wsX7_takeMessage (wsV RX7 77 RX7 yX7_sendWhatIsDue wsX7_sendWhatIsDue) := goodIn_app (goodIn_of _ (by decide +kernel)) ggX7_takeMessage_X7_sendWhatIsDue
theorem dX7_takeMessage_0 : decode cX7_takeMessage 0 = .ok (.aload_n 0, 1) := by decide +kernel
theorem dX7_takeMessage_1 : decode cX7_takeMessage 1 = .ok (.getfield 11, 3) := by decide +kernel
theorem dX7_takeMessage_4 : decode cX7_takeMessage 4 = .ok (.aload_n 1, 1) := by decide +kernel
theorem dX7_takeMessage_5 : decode cX7_takeMessage 5 = .ok (.getfield 263, 3) := by decide +kernel
theorem dX7_takeMessage_8 : decode cX7_takeMessage 8 = .ok (.aaload, 1) := by decide +kernel
theorem dX7_takeMessage_9 : decode cX7_takeMessage 9 = .ok (.astore_n 2, 1) := by decide +kernel
theorem dX7_takeMessage_10 : decode cX7_takeMessage 10 = .ok (.aload_n 1, 1) := by decide +kernel
theorem dX7_takeMessage_11 : decode cX7_takeMessage 11 = .ok (.getfield 266, 3) := by decide +kernel
theorem dX7_takeMessage_14 : decode cX7_takeMessage 14 = .ok (.iconst 3, 1) := by decide +kernel
theorem dX7_takeMessage_15 : decode cX7_takeMessage 15 = .ok (.aload_n 1, 1) := by decide +kernel
theorem dX7_takeMessage_16 : decode cX7_takeMessage 16 = .ok (.getfield 263, 3) := by decide +kernel
theorem dX7_takeMessage_19 : decode cX7_takeMessage 19 = .ok (.aload_n 1, 1) := by decide +kernel
theorem dX7_takeMessage_20 : decode cX7_takeMessage 20 = .ok (.getfield 111, 3) := by decide +kernel
theorem dX7_takeMessage_23 : decode cX7_takeMessage 23 = .ok (.invokestatic 270, 3) := by decide +kernel
theorem dX7_takeMessage_26 : decode cX7_takeMessage 26 = .ok (.lstore_n 3, 1) := by decide +kernel
theorem dX7_takeMessage_27 : decode cX7_takeMessage 27 = .ok (.aload_n 1, 1) := by decide +kernel
theorem dX7_takeMessage_28 : decode cX7_takeMessage 28 = .ok (.getfield 274, 3) := by decide +kernel
theorem dX7_takeMessage_31 : decode cX7_takeMessage 31 = .ok (.aload_n 1, 1) := by decide +kernel
theorem dX7_takeMessage_32 : decode cX7_takeMessage 32 = .ok (.getfield 277, 3) := by decide +kernel
theorem dX7_takeMessage_35 : decode cX7_takeMessage 35 = .ok (.aload_n 1, 1) := by decide +kernel
theorem dX7_takeMessage_36 : decode cX7_takeMessage 36 = .ok (.getfield 280, 3) := by decide +kernel
theorem dX7_takeMessage_39 : decode cX7_takeMessage 39 = .ok (.lload_n 3, 1) := by decide +kernel
theorem dX7_takeMessage_40 : decode cX7_takeMessage 40 = .ok (.invokestatic 248, 3) := by decide +kernel
theorem dX7_takeMessage_43 : decode cX7_takeMessage 43 = .ok (.lcmp, 1) := by decide +kernel
theorem dX7_takeMessage_44 : decode cX7_takeMessage 44 = .ok (.ifCond .ne 28, 3) := by decide +kernel
theorem dX7_takeMessage_47 : decode cX7_takeMessage 47 = .ok (.aload_n 2, 1) := by decide +kernel
theorem dX7_takeMessage_48 : decode cX7_takeMessage 48 = .ok (.aload_n 1, 1) := by decide +kernel
theorem dX7_takeMessage_49 : decode cX7_takeMessage 49 = .ok (.getfield 277, 3) := by decide +kernel
theorem dX7_takeMessage_52 : decode cX7_takeMessage 52 = .ok (.aload_n 1, 1) := by decide +kernel
theorem dX7_takeMessage_53 : decode cX7_takeMessage 53 = .ok (.getfield 280, 3) := by decide +kernel
theorem dX7_takeMessage_56 : decode cX7_takeMessage 56 = .ok (.invokevirtual 283, 3) := by decide +kernel
theorem dX7_takeMessage_59 : decode cX7_takeMessage 59 = .ok (.ifCond .ne 13, 3) := by decide +kernel
theorem dX7_takeMessage_62 : decode cX7_takeMessage 62 = .ok (.aload_n 2, 1) := by decide +kernel
theorem dX7_takeMessage_63 : decode cX7_takeMessage 63 = .ok (.getfield 57, 3) := by decide +kernel
theorem dX7_takeMessage_66 : decode cX7_takeMessage 66 = .ok (.invokevirtual 60, 3) := by decide +kernel
theorem dX7_takeMessage_69 : decode cX7_takeMessage 69 = .ok (.ifCond .ne 5, 3) := by decide +kernel
theorem dX7_takeMessage_72 : decode cX7_takeMessage 72 = .ok (.iconst 0, 1) := by decide +kernel
theorem dX7_takeMessage_73 : decode cX7_takeMessage 73 = .ok (.ireturn, 1) := by decide +kernel
theorem dX7_takeMessage_74 : decode cX7_takeMessage 74 = .ok (.aload_n 2, 1) := by decide +kernel
theorem dX7_takeMessage_75 : decode cX7_takeMessage 75 = .ok (.aload_n 1, 1) := by decide +kernel
theorem dX7_takeMessage_76 : decode cX7_takeMessage 76 = .ok (.getfield 277, 3) := by decide +kernel
theorem dX7_takeMessage_79 : decode cX7_takeMessage 79 = .ok (.aload_n 1, 1) := by decide +kernel
theorem dX7_takeMessage_80 : decode cX7_takeMessage 80 = .ok (.getfield 280, 3) := by decide +kernel
theorem dX7_takeMessage_83 : decode cX7_takeMessage 83 = .ok (.invokevirtual 286, 3) := by decide +kernel
theorem dX7_takeMessage_86 : decode cX7_takeMessage 86 = .ok (.aload_n 2, 1) := by decide +kernel
theorem dX7_takeMessage_87 : decode cX7_takeMessage 87 = .ok (.getfield 57, 3) := by decide +kernel
theorem dX7_takeMessage_90 : decode cX7_takeMessage 90 = .ok (.iconst 2, 1) := by decide +kernel
theorem dX7_takeMessage_91 : decode cX7_takeMessage 91 = .ok (.aload_n 1, 1) := by decide +kernel
theorem dX7_takeMessage_92 : decode cX7_takeMessage 92 = .ok (.getfield 277, 3) := by decide +kernel
theorem dX7_takeMessage_95 : decode cX7_takeMessage 95 = .ok (.aload_n 1, 1) := by decide +kernel
theorem dX7_takeMessage_96 : decode cX7_takeMessage 96 = .ok (.getfield 111, 3) := by decide +kernel
theorem dX7_takeMessage_99 : decode cX7_takeMessage 99 = .ok (.invokevirtual 67, 3) := by decide +kernel
theorem dX7_takeMessage_102 : decode cX7_takeMessage 102 = .ok (.aload_n 2, 1) := by decide +kernel
theorem dX7_takeMessage_103 : decode cX7_takeMessage 103 = .ok (.getfield 114, 3) := by decide +kernel
theorem dX7_takeMessage_106 : decode cX7_takeMessage 106 = .ok (.aload_n 1, 1) := by decide +kernel
theorem dX7_takeMessage_107 : decode cX7_takeMessage 107 = .ok (.getfield 277, 3) := by decide +kernel
theorem dX7_takeMessage_110 : decode cX7_takeMessage 110 = .ok (.aload_n 1, 1) := by decide +kernel
theorem dX7_takeMessage_111 : decode cX7_takeMessage 111 = .ok (.getfield 280, 3) := by decide +kernel
theorem dX7_takeMessage_114 : decode cX7_takeMessage 114 = .ok (.lload_n 3, 1) := by decide +kernel
theorem dX7_takeMessage_115 : decode cX7_takeMessage 115 = .ok (.iconst 0, 1) := by decide +kernel
theorem dX7_takeMessage_116 : decode cX7_takeMessage 116 = .ok (.invokevirtual 289, 3) := by decide +kernel
theorem dX7_takeMessage_119 : decode cX7_takeMessage 119 = .ok (.pop, 1) := by decide +kernel
theorem dX7_takeMessage_120 : decode cX7_takeMessage 120 = .ok (.aload_n 2, 1) := by decide +kernel
theorem dX7_takeMessage_121 : decode cX7_takeMessage 121 = .ok (.getfield 71, 3) := by decide +kernel
theorem dX7_takeMessage_124 : decode cX7_takeMessage 124 = .ok (.aload_n 1, 1) := by decide +kernel
theorem dX7_takeMessage_125 : decode cX7_takeMessage 125 = .ok (.getfield 111, 3) := by decide +kernel
theorem dX7_takeMessage_128 : decode cX7_takeMessage 128 = .ok (.aload_n 1, 1) := by decide +kernel
theorem dX7_takeMessage_129 : decode cX7_takeMessage 129 = .ok (.getfield 277, 3) := by decide +kernel
theorem dX7_takeMessage_132 : decode cX7_takeMessage 132 = .ok (.invokevirtual 293, 3) := by decide +kernel
theorem dX7_takeMessage_135 : decode cX7_takeMessage 135 = .ok (.aload_n 0, 1) := by decide +kernel
theorem dX7_takeMessage_136 : decode cX7_takeMessage 136 = .ok (.aload_n 2, 1) := by decide +kernel
theorem dX7_takeMessage_137 : decode cX7_takeMessage 137 = .ok (.invokevirtual 77, 3) := by decide +kernel
theorem dX7_takeMessage_140 : decode cX7_takeMessage 140 = .ok (.iconst 1, 1) := by decide +kernel
theorem dX7_takeMessage_141 : decode cX7_takeMessage 141 = .ok (.ireturn, 1) := by decide +kernel
set_option maxRecDepth 20000 in
theorem ggX7_takeNote_X7_signatureOf : GoodIn wsX7_takeNote wsX7_signatureOf := goodIn_r _ [11, 12, 13, 14, 10, 15, 16] (by decide +kernel) (by decide +kernel)
set_option maxRecDepth 20000 in
theorem gX7_takeNote_X7_signatureOf : GoodIn wsX7_takeNote (va_wsS RX7 248 yX7_signatureOf wsX7_signatureOf) := goodIn_app (goodIn_of _ (by decide +kernel)) ggX7_takeNote_X7_signatureOf
set_option maxRecDepth 20000 in
theorem ggX7_takeNote_X6_keep : GoodIn wsX7_takeNote wsX6_keep := goodIn_r _ [21, 22, 23, 24, 25, 26, 27, 28, 29, 20, 30, 53, 54, 55, 56, 57] (by decide +kernel) (by decide +kernel)
set_option maxRecDepth 20000 in
theorem gX7_takeNote_X6_keep : GoodIn wsX7_takeNote (wsV RX7 289 RX6 yX6_keep wsX6_keep) := goodIn_app (goodIn_of _ (by decide +kernel)) ggX7_takeNote_X6_keep
theorem dX7_takeNote_0 : decode cX7_takeNote 0 = .ok (.aload_n 1, 1) := by decide +kernel
theorem dX7_takeNote_1 : decode cX7_takeNote 1 = .ok (.getfield 274, 3) := by decide +kernel
theorem dX7_takeNote_4 : decode cX7_takeNote 4 = .ok (.aload_n 1, 1) := by decide +kernel
theorem dX7_takeNote_5 : decode cX7_takeNote 5 = .ok (.getfield 277, 3) := by decide +kernel
theorem dX7_takeNote_8 : decode cX7_takeNote 8 = .ok (.aload_n 1, 1) := by decide +kernel
theorem dX7_takeNote_9 : decode cX7_takeNote 9 = .ok (.getfield 280, 3) := by decide +kernel
theorem dX7_takeNote_12 : decode cX7_takeNote 12 = .ok (.aload_n 1, 1) := by decide +kernel
theorem dX7_takeNote_13 : decode cX7_takeNote 13 = .ok (.getfield 266, 3) := by decide +kernel
theorem dX7_takeNote_16 : decode cX7_takeNote 16 = .ok (.invokestatic 248, 3) := by decide +kernel
theorem dX7_takeNote_19 : decode cX7_takeNote 19 = .ok (.lcmp, 1) := by decide +kernel
theorem dX7_takeNote_20 : decode cX7_takeNote 20 = .ok (.ifCond .ne 38, 3) := by decide +kernel
theorem dX7_takeNote_23 : decode cX7_takeNote 23 = .ok (.aload_n 0, 1) := by decide +kernel
theorem dX7_takeNote_24 : decode cX7_takeNote 24 = .ok (.getfield 11, 3) := by decide +kernel
theorem dX7_takeNote_27 : decode cX7_takeNote 27 = .ok (.aload_n 1, 1) := by decide +kernel
theorem dX7_takeNote_28 : decode cX7_takeNote 28 = .ok (.getfield 263, 3) := by decide +kernel
theorem dX7_takeNote_31 : decode cX7_takeNote 31 = .ok (.aaload, 1) := by decide +kernel
theorem dX7_takeNote_32 : decode cX7_takeNote 32 = .ok (.getfield 114, 3) := by decide +kernel
theorem dX7_takeNote_35 : decode cX7_takeNote 35 = .ok (.aload_n 1, 1) := by decide +kernel
theorem dX7_takeNote_36 : decode cX7_takeNote 36 = .ok (.getfield 277, 3) := by decide +kernel
theorem dX7_takeNote_39 : decode cX7_takeNote 39 = .ok (.aload_n 1, 1) := by decide +kernel
theorem dX7_takeNote_40 : decode cX7_takeNote 40 = .ok (.getfield 280, 3) := by decide +kernel
theorem dX7_takeNote_43 : decode cX7_takeNote 43 = .ok (.aload_n 1, 1) := by decide +kernel
theorem dX7_takeNote_44 : decode cX7_takeNote 44 = .ok (.getfield 266, 3) := by decide +kernel
theorem dX7_takeNote_47 : decode cX7_takeNote 47 = .ok (.iconst 1, 1) := by decide +kernel
theorem dX7_takeNote_48 : decode cX7_takeNote 48 = .ok (.invokevirtual 289, 3) := by decide +kernel
theorem dX7_takeNote_51 : decode cX7_takeNote 51 = .ok (.ifCond .eq 7, 3) := by decide +kernel
theorem dX7_takeNote_54 : decode cX7_takeNote 54 = .ok (.iconst 1, 1) := by decide +kernel
theorem dX7_takeNote_55 : decode cX7_takeNote 55 = .ok (.goto 4, 3) := by decide +kernel
theorem dX7_takeNote_58 : decode cX7_takeNote 58 = .ok (.iconst 0, 1) := by decide +kernel
theorem dX7_takeNote_59 : decode cX7_takeNote 59 = .ok (.ireturn, 1) := by decide +kernel
set_option maxRecDepth 20000 in
theorem ggX7_examine_X6_leastFork : GoodIn wsX7_examine wsX6_leastFork := goodIn_r _ [10, 11, 12, 13, 14, 15, 16, 204, 205, 206, 207, 208, 199, 200, 201, 202, 203] (by decide +kernel) (by decide +kernel)
set_option maxRecDepth 20000 in
theorem gX7_examine_X6_leastFork : GoodIn wsX7_examine (wsV RX7 296 RX6 yX6_leastFork wsX6_leastFork) := goodIn_app (goodIn_of _ (by decide +kernel)) ggX7_examine_X6_leastFork
set_option maxRecDepth 20000 in
theorem ggX7_examine_X7_writeFork : GoodIn wsX7_examine wsX7_writeFork := goodIn_r _ [21, 22, 23, 2, 24, 25, 26, 20, 27, 28, 29, 30, 31, 32, 33, 34, 35, 36, 37, 38, 39, 40, 41, 42, 43, 44, 45, 46, 47, 48, 49, 50, 51, 52, 53, 54, 55, 56, 57, 58, 59, 60, 61, 62, 63, 64, 65, 66, 67, 68, 69, 70, 71, 72, 73, 74, 75, 76, 77, 78, 79, 80, 81, 82, 83, 84, 85, 86, 87, 88, 89, 90, 91, 92, 93, 94, 95, 96, 97, 98, 99, 100, 101, 102, 103, 104, 105, 106, 107, 108, 109, 110, 111, 112, 113, 114, 115, 116, 117, 118, 119, 120, 3, 4, 121, 122, 123, 5, 124, 125, 126, 127, 128, 129, 130, 131, 132, 133, 134, 135, 136, 204, 205, 206, 207, 208, 191, 192, 193, 194, 195, 196, 197, 198, 209, 210, 211, 212, 213, 214, 215, 216, 217, 218, 219, 220, 199, 200, 201, 202, 203] (by decide +kernel) (by decide +kernel)
set_option maxRecDepth 20000 in
theorem gX7_examine_X7_writeFork : GoodIn wsX7_examine (wsV RX7 300 RX7 yX7_writeFork wsX7_writeFork) := goodIn_app (goodIn_of _ (by decide +kernel)) ggX7_examine_X7_writeFork
set_option maxRecDepth 20000 in
theorem ggX7_examine_X7_firstWrong : GoodIn wsX7_examine wsX7_firstWrong := goodIn_r _ [140, 141, 142, 4, 143, 144, 145, 146, 147, 148, 149, 150, 151, 152, 153, 154, 155, 156, 20, 157, 121, 122, 123, 158, 159, 160, 161, 162, 163, 164, 165, 166, 167, 168, 169, 170, 171, 172, 173, 209, 210, 211, 212, 213, 214, 215, 199, 200, 201, 202, 203, 221, 222, 223, 224, 225, 226, 227] (by decide +kernel) (by decide +kernel)
set_option maxRecDepth 20000 in
theorem gX7_examine_X7_firstWrong : GoodIn wsX7_examine (wsV RX7 304 RX7 yX7_firstWrong wsX7_firstWrong) := goodIn_app (goodIn_of _ (by decide +kernel)) ggX7_examine_X7_firstWrong
set_option maxRecDepth 20000 in
theorem ggX7_examine_X7_writeRun : GoodIn wsX7_examine wsX7_writeRun := goodIn_r _ [177, 24, 25, 26, 20, 27, 28, 29, 30, 31, 32, 33, 34, 35, 36, 37, 38, 39, 40, 41, 42, 43, 44, 45, 46, 47, 48, 49, 50, 51, 52, 53, 54, 55, 56, 57, 58, 59, 60, 61, 62, 63, 64, 65, 66, 67, 68, 69, 70, 71, 72, 73, 74, 75, 76, 77, 78, 79, 80, 81, 82, 83, 84, 85, 86, 87, 88, 89, 90, 91, 92, 93, 94, 95, 96, 97, 98, 99, 100, 101, 102, 103, 104, 105, 106, 107, 108, 109, 110, 111, 112, 113, 114, 115, 116, 117, 118, 119, 120, 3, 2, 4, 121, 122, 123, 5, 124, 125, 126, 127, 128, 129, 130, 131, 132, 133, 134, 135, 136, 209, 210, 211, 212, 213, 214, 215, 216, 217, 218, 219, 220, 191, 192, 193, 194, 195, 196, 197, 198, 199, 200, 201, 202, 203] (by decide +kernel) (by decide +kernel)
set_option maxRecDepth 20000 in
theorem gX7_examine_X7_writeRun : GoodIn wsX7_examine (wsV RX7 307 RX7 yX7_writeRun wsX7_writeRun) := goodIn_app (goodIn_of _ (by decide +kernel)) ggX7_examine_X7_writeRun
set_option maxRecDepth 20000 in
theorem ggX7_examine_X6_keepsBeyond : GoodIn wsX7_examine wsX6_keepsBeyond := goodIn_r _ [181, 11, 12, 13, 204, 205, 206, 207, 208] (by decide +kernel) (by decide +kernel)
set_option maxRecDepth 20000 in
theorem gX7_examine_X6_keepsBeyond : GoodIn wsX7_examine (wsV RX7 311 RX6 yX6_keepsBeyond wsX6_keepsBeyond) := goodIn_app (goodIn_of _ (by decide +kernel)) ggX7_examine_X6_keepsBeyond
set_option maxRecDepth 20000 in
theorem ggX7_examine_X6_keep : GoodIn wsX7_examine wsX6_keep := goodIn_r _ [185, 11, 12, 13, 15, 186, 187, 188, 189, 9, 190, 204, 205, 206, 207, 208] (by decide +kernel) (by decide +kernel)
set_option maxRecDepth 20000 in
theorem gX7_examine_X6_keep : GoodIn wsX7_examine (wsV RX7 289 RX6 yX6_keep wsX6_keep) := goodIn_app (goodIn_of _ (by decide +kernel)) ggX7_examine_X6_keep
theorem dX7_examine_0 : decode cX7_examine 0 = .ok (.aload_n 2, 1) := by decide +kernel
theorem dX7_examine_1 : decode cX7_examine 1 = .ok (.getfield 141, 3) := by decide +kernel
theorem dX7_examine_4 : decode cX7_examine 4 = .ok (.ifCond .eq 5, 3) := by decide +kernel
theorem dX7_examine_7 : decode cX7_examine 7 = .ok (.iconst 1, 1) := by decide +kernel
theorem dX7_examine_8 : decode cX7_examine 8 = .ok (.ireturn, 1) := by decide +kernel
theorem dX7_examine_9 : decode cX7_examine 9 = .ok (.aload_n 1, 1) := by decide +kernel
theorem dX7_examine_10 : decode cX7_examine 10 = .ok (.aload_n 2, 1) := by decide +kernel
theorem dX7_examine_11 : decode cX7_examine 11 = .ok (.getfield 242, 3) := by decide +kernel
theorem dX7_examine_14 : decode cX7_examine 14 = .ok (.aload_n 2, 1) := by decide +kernel
theorem dX7_examine_15 : decode cX7_examine 15 = .ok (.getfield 57, 3) := by decide +kernel
theorem dX7_examine_18 : decode cX7_examine 18 = .ok (.invokevirtual 296, 3) := by decide +kernel
theorem dX7_examine_21 : decode cX7_examine 21 = .ok (.istore_n 3, 1) := by decide +kernel
theorem dX7_examine_22 : decode cX7_examine 22 = .ok (.iload_n 3, 1) := by decide +kernel
theorem dX7_examine_23 : decode cX7_examine 23 = .ok (.iconst (-1), 1) := by decide +kernel
theorem dX7_examine_24 : decode cX7_examine 24 = .ok (.if_icmp .eq 12, 3) := by decide +kernel
theorem dX7_examine_27 : decode cX7_examine 27 = .ok (.aload_n 0, 1) := by decide +kernel
theorem dX7_examine_28 : decode cX7_examine 28 = .ok (.aload_n 2, 1) := by decide +kernel
theorem dX7_examine_29 : decode cX7_examine 29 = .ok (.aload_n 1, 1) := by decide +kernel
theorem dX7_examine_30 : decode cX7_examine 30 = .ok (.iload_n 3, 1) := by decide +kernel
theorem dX7_examine_31 : decode cX7_examine 31 = .ok (.invokevirtual 300, 3) := by decide +kernel
theorem dX7_examine_34 : decode cX7_examine 34 = .ok (.iconst 2, 1) := by decide +kernel
theorem dX7_examine_35 : decode cX7_examine 35 = .ok (.ireturn, 1) := by decide +kernel
theorem dX7_examine_36 : decode cX7_examine 36 = .ok (.aload_n 0, 1) := by decide +kernel
theorem dX7_examine_37 : decode cX7_examine 37 = .ok (.aload_n 2, 1) := by decide +kernel
theorem dX7_examine_38 : decode cX7_examine 38 = .ok (.getfield 242, 3) := by decide +kernel
theorem dX7_examine_41 : decode cX7_examine 41 = .ok (.aload_n 2, 1) := by decide +kernel
theorem dX7_examine_42 : decode cX7_examine 42 = .ok (.getfield 57, 3) := by decide +kernel
theorem dX7_examine_45 : decode cX7_examine 45 = .ok (.invokevirtual 304, 3) := by decide +kernel
theorem dX7_examine_48 : decode cX7_examine 48 = .ok (.istore 4, 2) := by decide +kernel
theorem dX7_examine_50 : decode cX7_examine 50 = .ok (.iload 4, 2) := by decide +kernel
theorem dX7_examine_52 : decode cX7_examine 52 = .ok (.iconst (-1), 1) := by decide +kernel
theorem dX7_examine_53 : decode cX7_examine 53 = .ok (.if_icmp .eq 12, 3) := by decide +kernel
theorem dX7_examine_56 : decode cX7_examine 56 = .ok (.aload_n 0, 1) := by decide +kernel
theorem dX7_examine_57 : decode cX7_examine 57 = .ok (.aload_n 2, 1) := by decide +kernel
theorem dX7_examine_58 : decode cX7_examine 58 = .ok (.iload 4, 2) := by decide +kernel
theorem dX7_examine_60 : decode cX7_examine 60 = .ok (.invokevirtual 307, 3) := by decide +kernel
theorem dX7_examine_63 : decode cX7_examine 63 = .ok (.iconst 2, 1) := by decide +kernel
theorem dX7_examine_64 : decode cX7_examine 64 = .ok (.ireturn, 1) := by decide +kernel
theorem dX7_examine_65 : decode cX7_examine 65 = .ok (.aload_n 1, 1) := by decide +kernel
theorem dX7_examine_66 : decode cX7_examine 66 = .ok (.aload_n 2, 1) := by decide +kernel
theorem dX7_examine_67 : decode cX7_examine 67 = .ok (.getfield 242, 3) := by decide +kernel
theorem dX7_examine_70 : decode cX7_examine 70 = .ok (.aload_n 2, 1) := by decide +kernel
theorem dX7_examine_71 : decode cX7_examine 71 = .ok (.getfield 57, 3) := by decide +kernel
theorem dX7_examine_74 : decode cX7_examine 74 = .ok (.getfield 81, 3) := by decide +kernel
theorem dX7_examine_77 : decode cX7_examine 77 = .ok (.invokevirtual 311, 3) := by decide +kernel
theorem dX7_examine_80 : decode cX7_examine 80 = .ok (.ifCond .eq 5, 3) := by decide +kernel
theorem dX7_examine_83 : decode cX7_examine 83 = .ok (.iconst 1, 1) := by decide +kernel
theorem dX7_examine_84 : decode cX7_examine 84 = .ok (.ireturn, 1) := by decide +kernel
theorem dX7_examine_85 : decode cX7_examine 85 = .ok (.aload_n 2, 1) := by decide +kernel
theorem dX7_examine_86 : decode cX7_examine 86 = .ok (.getfield 57, 3) := by decide +kernel
theorem dX7_examine_89 : decode cX7_examine 89 = .ok (.getfield 81, 3) := by decide +kernel
theorem dX7_examine_92 : decode cX7_examine 92 = .ok (.ifCond .le 35, 3) := by decide +kernel
theorem dX7_examine_95 : decode cX7_examine 95 = .ok (.aload_n 1, 1) := by decide +kernel
theorem dX7_examine_96 : decode cX7_examine 96 = .ok (.aload_n 2, 1) := by decide +kernel
theorem dX7_examine_97 : decode cX7_examine 97 = .ok (.getfield 242, 3) := by decide +kernel
theorem dX7_examine_100 : decode cX7_examine 100 = .ok (.aload_n 2, 1) := by decide +kernel
theorem dX7_examine_101 : decode cX7_examine 101 = .ok (.getfield 57, 3) := by decide +kernel
theorem dX7_examine_104 : decode cX7_examine 104 = .ok (.getfield 81, 3) := by decide +kernel
theorem dX7_examine_107 : decode cX7_examine 107 = .ok (.aload_n 2, 1) := by decide +kernel
theorem dX7_examine_108 : decode cX7_examine 108 = .ok (.getfield 57, 3) := by decide +kernel
theorem dX7_examine_111 : decode cX7_examine 111 = .ok (.getfield 192, 3) := by decide +kernel
theorem dX7_examine_114 : decode cX7_examine 114 = .ok (.aload_n 2, 1) := by decide +kernel
theorem dX7_examine_115 : decode cX7_examine 115 = .ok (.getfield 57, 3) := by decide +kernel
theorem dX7_examine_118 : decode cX7_examine 118 = .ok (.getfield 81, 3) := by decide +kernel
theorem dX7_examine_121 : decode cX7_examine 121 = .ok (.laload, 1) := by decide +kernel
theorem dX7_examine_122 : decode cX7_examine 122 = .ok (.iconst 0, 1) := by decide +kernel
theorem dX7_examine_123 : decode cX7_examine 123 = .ok (.invokevirtual 289, 3) := by decide +kernel
theorem dX7_examine_126 : decode cX7_examine 126 = .ok (.pop, 1) := by decide +kernel
theorem dX7_examine_127 : decode cX7_examine 127 = .ok (.iconst 0, 1) := by decide +kernel
theorem dX7_examine_128 : decode cX7_examine 128 = .ok (.ireturn, 1) := by decide +kernel
set_option maxRecDepth 20000 in
theorem ggX7_firstWrong_X3_restart : GoodIn wsX7_firstWrong wsX3_restart := goodIn_r _ [9, 10, 11, 12, 13, 14, 51, 52, 53, 54, 55, 56, 57] (by decide +kernel) (by decide +kernel)
set_option maxRecDepth 20000 in
theorem gX7_firstWrong_X3_restart : GoodIn wsX7_firstWrong (wsV RX7 314 RX3 yX3_restart wsX3_restart) := goodIn_app (goodIn_of _ (by decide +kernel)) ggX7_firstWrong_X3_restart
set_option maxRecDepth 20000 in
theorem ggX7_firstWrong_X7_replayEntry : GoodIn wsX7_firstWrong wsX7_replayEntry := goodIn_r _ [19, 20, 21, 22, 1, 4, 23, 24, 25, 26, 27, 8, 28, 12, 14, 10, 11, 29, 13, 30, 31, 32, 33, 18, 34, 2, 35, 36, 37, 38, 46, 47, 48, 49, 50, 39, 40, 41, 42, 43, 44, 45, 51, 52, 53, 54, 55, 56, 57] (by decide +kernel) (by decide +kernel)
set_option maxRecDepth 20000 in
theorem gX7_firstWrong_X7_replayEntry : GoodIn wsX7_firstWrong (wsV RX7 316 RX7 yX7_replayEntry wsX7_replayEntry) := goodIn_app (goodIn_of _ (by decide +kernel)) ggX7_firstWrong_X7_replayEntry
theorem dX7_firstWrong_0 : decode cX7_firstWrong 0 = .ok (.aload_n 0, 1) := by decide +kernel
theorem dX7_firstWrong_1 : decode cX7_firstWrong 1 = .ok (.getfield 32, 3) := by decide +kernel
theorem dX7_firstWrong_4 : decode cX7_firstWrong 4 = .ok (.iload_n 1, 1) := by decide +kernel
theorem dX7_firstWrong_5 : decode cX7_firstWrong 5 = .ok (.aload_n 0, 1) := by decide +kernel
theorem dX7_firstWrong_6 : decode cX7_firstWrong 6 = .ok (.getfield 209, 3) := by decide +kernel
theorem dX7_firstWrong_9 : decode cX7_firstWrong 9 = .ok (.invokevirtual 314, 3) := by decide +kernel
theorem dX7_firstWrong_12 : decode cX7_firstWrong 12 = .ok (.iconst 1, 1) := by decide +kernel
theorem dX7_firstWrong_13 : decode cX7_firstWrong 13 = .ok (.istore_n 3, 1) := by decide +kernel
theorem dX7_firstWrong_14 : decode cX7_firstWrong 14 = .ok (.iload_n 3, 1) := by decide +kernel
theorem dX7_firstWrong_15 : decode cX7_firstWrong 15 = .ok (.aload_n 2, 1) := by decide +kernel
theorem dX7_firstWrong_16 : decode cX7_firstWrong 16 = .ok (.getfield 81, 3) := by decide +kernel
theorem dX7_firstWrong_19 : decode cX7_firstWrong 19 = .ok (.if_icmp .gt 21, 3) := by decide +kernel
theorem dX7_firstWrong_22 : decode cX7_firstWrong 22 = .ok (.aload_n 0, 1) := by decide +kernel
theorem dX7_firstWrong_23 : decode cX7_firstWrong 23 = .ok (.iload_n 1, 1) := by decide +kernel
theorem dX7_firstWrong_24 : decode cX7_firstWrong 24 = .ok (.aload_n 2, 1) := by decide +kernel
theorem dX7_firstWrong_25 : decode cX7_firstWrong 25 = .ok (.iload_n 3, 1) := by decide +kernel
theorem dX7_firstWrong_26 : decode cX7_firstWrong 26 = .ok (.invokevirtual 316, 3) := by decide +kernel
theorem dX7_firstWrong_29 : decode cX7_firstWrong 29 = .ok (.ifCond .ne 5, 3) := by decide +kernel
theorem dX7_firstWrong_32 : decode cX7_firstWrong 32 = .ok (.iload_n 3, 1) := by decide +kernel
theorem dX7_firstWrong_33 : decode cX7_firstWrong 33 = .ok (.ireturn, 1) := by decide +kernel
theorem dX7_firstWrong_34 : decode cX7_firstWrong 34 = .ok (.iinc 3 1, 3) := by decide +kernel
theorem dX7_firstWrong_37 : decode cX7_firstWrong 37 = .ok (.goto (-23), 3) := by decide +kernel
theorem dX7_firstWrong_40 : decode cX7_firstWrong 40 = .ok (.aload_n 0, 1) := by decide +kernel
theorem dX7_firstWrong_41 : decode cX7_firstWrong 41 = .ok (.getfield 32, 3) := by decide +kernel
theorem dX7_firstWrong_44 : decode cX7_firstWrong 44 = .ok (.getfield 226, 3) := by decide +kernel
theorem dX7_firstWrong_47 : decode cX7_firstWrong 47 = .ok (.ifCond .eq 12, 3) := by decide +kernel
theorem dX7_firstWrong_50 : decode cX7_firstWrong 50 = .ok (.aload_n 2, 1) := by decide +kernel
theorem dX7_firstWrong_51 : decode cX7_firstWrong 51 = .ok (.getfield 81, 3) := by decide +kernel
theorem dX7_firstWrong_54 : decode cX7_firstWrong 54 = .ok (.iconst 1, 1) := by decide +kernel
theorem dX7_firstWrong_55 : decode cX7_firstWrong 55 = .ok (.iadd, 1) := by decide +kernel
theorem dX7_firstWrong_56 : decode cX7_firstWrong 56 = .ok (.goto 4, 3) := by decide +kernel
theorem dX7_firstWrong_59 : decode cX7_firstWrong 59 = .ok (.iconst (-1), 1) := by decide +kernel
theorem dX7_firstWrong_60 : decode cX7_firstWrong 60 = .ok (.ireturn, 1) := by decide +kernel
set_option maxRecDepth 20000 in
theorem ggX7_replayEntry_X3_stepInput : GoodIn wsX7_replayEntry wsX3_stepInput := goodIn_r _ [12, 13, 14, 15, 16, 17, 18, 19, 42, 43, 44, 45, 46, 47, 48] (by decide +kernel) (by decide +kernel)
set_option maxRecDepth 20000 in
theorem gX7_replayEntry_X3_stepInput : GoodIn wsX7_replayEntry (wsV RX7 74 RX3 yX3_stepInput wsX3_stepInput) := goodIn_app (goodIn_of _ (by decide +kernel)) ggX7_replayEntry_X3_stepInput
set_option maxRecDepth 20000 in
theorem ggX7_replayEntry_X7_isNode : GoodIn wsX7_replayEntry wsX7_isNode := goodIn_r _ [24, 25, 35, 36, 37, 38, 39, 40, 41] (by decide +kernel) (by decide +kernel)
set_option maxRecDepth 20000 in
theorem gX7_replayEntry_X7_isNode : GoodIn wsX7_replayEntry (wsV RX7 53 RX7 yX7_isNode wsX7_isNode) := goodIn_app (goodIn_of _ (by decide +kernel)) ggX7_replayEntry_X7_isNode
set_option maxRecDepth 20000 in
theorem ggX7_replayEntry_X3_stepReceipt : GoodIn wsX7_replayEntry wsX3_stepReceipt := goodIn_r _ [29, 18, 14, 17, 19, 42, 43, 44, 45, 46, 47, 48] (by decide +kernel) (by decide +kernel)
set_option maxRecDepth 20000 in
theorem gX7_replayEntry_X3_stepReceipt : GoodIn wsX7_replayEntry (wsV RX7 293 RX3 yX3_stepReceipt wsX3_stepReceipt) := goodIn_app (goodIn_of _ (by decide +kernel)) ggX7_replayEntry_X3_stepReceipt
theorem dX7_replayEntry_0 : decode cX7_replayEntry 0 = .ok (.aload_n 2, 1) := by decide +kernel
theorem dX7_replayEntry_1 : decode cX7_replayEntry 1 = .ok (.getfield 183, 3) := by decide +kernel
theorem dX7_replayEntry_4 : decode cX7_replayEntry 4 = .ok (.iload_n 3, 1) := by decide +kernel
theorem dX7_replayEntry_5 : decode cX7_replayEntry 5 = .ok (.iaload, 1) := by decide +kernel
theorem dX7_replayEntry_6 : decode cX7_replayEntry 6 = .ok (.istore 4, 2) := by decide +kernel
theorem dX7_replayEntry_8 : decode cX7_replayEntry 8 = .ok (.aload_n 2, 1) := by decide +kernel
theorem dX7_replayEntry_9 : decode cX7_replayEntry 9 = .ok (.getfield 186, 3) := by decide +kernel
theorem dX7_replayEntry_12 : decode cX7_replayEntry 12 = .ok (.iload_n 3, 1) := by decide +kernel
theorem dX7_replayEntry_13 : decode cX7_replayEntry 13 = .ok (.iaload, 1) := by decide +kernel
theorem dX7_replayEntry_14 : decode cX7_replayEntry 14 = .ok (.istore 5, 2) := by decide +kernel
theorem dX7_replayEntry_16 : decode cX7_replayEntry 16 = .ok (.aload_n 2, 1) := by decide +kernel
theorem dX7_replayEntry_17 : decode cX7_replayEntry 17 = .ok (.getfield 133, 3) := by decide +kernel
theorem dX7_replayEntry_20 : decode cX7_replayEntry 20 = .ok (.iload_n 3, 1) := by decide +kernel
theorem dX7_replayEntry_21 : decode cX7_replayEntry 21 = .ok (.iaload, 1) := by decide +kernel
theorem dX7_replayEntry_22 : decode cX7_replayEntry 22 = .ok (.istore 6, 2) := by decide +kernel
theorem dX7_replayEntry_24 : decode cX7_replayEntry 24 = .ok (.aload_n 0, 1) := by decide +kernel
theorem dX7_replayEntry_25 : decode cX7_replayEntry 25 = .ok (.getfield 32, 3) := by decide +kernel
theorem dX7_replayEntry_28 : decode cX7_replayEntry 28 = .ok (.getfield 226, 3) := by decide +kernel
theorem dX7_replayEntry_31 : decode cX7_replayEntry 31 = .ok (.ifCond .eq 47, 3) := by decide +kernel
theorem dX7_replayEntry_34 : decode cX7_replayEntry 34 = .ok (.aload_n 0, 1) := by decide +kernel
theorem dX7_replayEntry_35 : decode cX7_replayEntry 35 = .ok (.getfield 32, 3) := by decide +kernel
theorem dX7_replayEntry_38 : decode cX7_replayEntry 38 = .ok (.iconst 0, 1) := by decide +kernel
theorem dX7_replayEntry_39 : decode cX7_replayEntry 39 = .ok (.putfield 226, 3) := by decide +kernel
theorem dX7_replayEntry_42 : decode cX7_replayEntry 42 = .ok (.iload 4, 2) := by decide +kernel
theorem dX7_replayEntry_44 : decode cX7_replayEntry 44 = .ok (.iconst 3, 1) := by decide +kernel
theorem dX7_replayEntry_45 : decode cX7_replayEntry 45 = .ok (.if_icmp .ne 31, 3) := by decide +kernel
theorem dX7_replayEntry_48 : decode cX7_replayEntry 48 = .ok (.iload 5, 2) := by decide +kernel
theorem dX7_replayEntry_50 : decode cX7_replayEntry 50 = .ok (.aload_n 0, 1) := by decide +kernel
theorem dX7_replayEntry_51 : decode cX7_replayEntry 51 = .ok (.getfield 32, 3) := by decide +kernel
theorem dX7_replayEntry_54 : decode cX7_replayEntry 54 = .ok (.getfield 229, 3) := by decide +kernel
theorem dX7_replayEntry_57 : decode cX7_replayEntry 57 = .ok (.if_icmp .ne 19, 3) := by decide +kernel
theorem dX7_replayEntry_60 : decode cX7_replayEntry 60 = .ok (.iload 6, 2) := by decide +kernel
theorem dX7_replayEntry_62 : decode cX7_replayEntry 62 = .ok (.aload_n 0, 1) := by decide +kernel
theorem dX7_replayEntry_63 : decode cX7_replayEntry 63 = .ok (.getfield 32, 3) := by decide +kernel
theorem dX7_replayEntry_66 : decode cX7_replayEntry 66 = .ok (.getfield 232, 3) := by decide +kernel
theorem dX7_replayEntry_69 : decode cX7_replayEntry 69 = .ok (.if_icmp .ne 7, 3) := by decide +kernel
theorem dX7_replayEntry_72 : decode cX7_replayEntry 72 = .ok (.iconst 1, 1) := by decide +kernel
theorem dX7_replayEntry_73 : decode cX7_replayEntry 73 = .ok (.goto 4, 3) := by decide +kernel
theorem dX7_replayEntry_76 : decode cX7_replayEntry 76 = .ok (.iconst 0, 1) := by decide +kernel
theorem dX7_replayEntry_77 : decode cX7_replayEntry 77 = .ok (.ireturn, 1) := by decide +kernel
theorem dX7_replayEntry_78 : decode cX7_replayEntry 78 = .ok (.iload 4, 2) := by decide +kernel
theorem dX7_replayEntry_80 : decode cX7_replayEntry 80 = .ok (.iconst 1, 1) := by decide +kernel
theorem dX7_replayEntry_81 : decode cX7_replayEntry 81 = .ok (.if_icmp .ne 19, 3) := by decide +kernel
theorem dX7_replayEntry_84 : decode cX7_replayEntry 84 = .ok (.iload 5, 2) := by decide +kernel
theorem dX7_replayEntry_86 : decode cX7_replayEntry 86 = .ok (.ifCond .ne 14, 3) := by decide +kernel
theorem dX7_replayEntry_89 : decode cX7_replayEntry 89 = .ok (.aload_n 0, 1) := by decide +kernel
theorem dX7_replayEntry_90 : decode cX7_replayEntry 90 = .ok (.getfield 32, 3) := by decide +kernel
theorem dX7_replayEntry_93 : decode cX7_replayEntry 93 = .ok (.iload 6, 2) := by decide +kernel
theorem dX7_replayEntry_95 : decode cX7_replayEntry 95 = .ok (.invokevirtual 74, 3) := by decide +kernel
theorem dX7_replayEntry_98 : decode cX7_replayEntry 98 = .ok (.iconst 1, 1) := by decide +kernel
theorem dX7_replayEntry_99 : decode cX7_replayEntry 99 = .ok (.ireturn, 1) := by decide +kernel
theorem dX7_replayEntry_100 : decode cX7_replayEntry 100 = .ok (.iload 4, 2) := by decide +kernel
theorem dX7_replayEntry_102 : decode cX7_replayEntry 102 = .ok (.iconst 2, 1) := by decide +kernel
theorem dX7_replayEntry_103 : decode cX7_replayEntry 103 = .ok (.if_icmp .ne 31, 3) := by decide +kernel
theorem dX7_replayEntry_106 : decode cX7_replayEntry 106 = .ok (.aload_n 0, 1) := by decide +kernel
theorem dX7_replayEntry_107 : decode cX7_replayEntry 107 = .ok (.iload 5, 2) := by decide +kernel
theorem dX7_replayEntry_109 : decode cX7_replayEntry 109 = .ok (.invokevirtual 53, 3) := by decide +kernel
theorem dX7_replayEntry_112 : decode cX7_replayEntry 112 = .ok (.ifCond .eq 22, 3) := by decide +kernel
theorem dX7_replayEntry_115 : decode cX7_replayEntry 115 = .ok (.iload 5, 2) := by decide +kernel
theorem dX7_replayEntry_117 : decode cX7_replayEntry 117 = .ok (.iload_n 1, 1) := by decide +kernel
theorem dX7_replayEntry_118 : decode cX7_replayEntry 118 = .ok (.if_icmp .eq 16, 3) := by decide +kernel
theorem dX7_replayEntry_121 : decode cX7_replayEntry 121 = .ok (.aload_n 0, 1) := by decide +kernel
theorem dX7_replayEntry_122 : decode cX7_replayEntry 122 = .ok (.getfield 32, 3) := by decide +kernel
theorem dX7_replayEntry_125 : decode cX7_replayEntry 125 = .ok (.iload 6, 2) := by decide +kernel
theorem dX7_replayEntry_127 : decode cX7_replayEntry 127 = .ok (.iload 5, 2) := by decide +kernel
theorem dX7_replayEntry_129 : decode cX7_replayEntry 129 = .ok (.invokevirtual 293, 3) := by decide +kernel
theorem dX7_replayEntry_132 : decode cX7_replayEntry 132 = .ok (.iconst 1, 1) := by decide +kernel
theorem dX7_replayEntry_133 : decode cX7_replayEntry 133 = .ok (.ireturn, 1) := by decide +kernel
theorem dX7_replayEntry_134 : decode cX7_replayEntry 134 = .ok (.iconst 0, 1) := by decide +kernel
theorem dX7_replayEntry_135 : decode cX7_replayEntry 135 = .ok (.ireturn, 1) := by decide +kernel
set_option maxRecDepth 20000 in
theorem ggX7_newPiece_Jx4a65c_size_8abf5 : GoodIn wsX7_newPiece wsJx4a65c_size_8abf5 := goodIn_r _ [12, 13, 100, 101, 102] (by decide +kernel) (by decide +kernel)
set_option maxRecDepth 20000 in
theorem gX7_newPiece_Jx4a65c_size_8abf5 : GoodIn wsX7_newPiece (wsV RX7 320 RJx4a65c yJx4a65c_size_8abf5 wsJx4a65c_size_8abf5) := goodIn_app (goodIn_of _ (by decide +kernel)) ggX7_newPiece_Jx4a65c_size_8abf5
set_option maxRecDepth 20000 in
theorem ggX7_newPiece_X0_init : GoodIn wsX7_newPiece wsX0_init := goodIn_r _ [15, 16, 17, 18, 19, 20, 98, 99] (by decide +kernel) (by decide +kernel)
set_option maxRecDepth 20000 in
theorem gX7_newPiece_X0_init_n324 : GoodIn wsX7_newPiece (wsX0_init) := ggX7_newPiece_X0_init
set_option maxRecDepth 20000 in
theorem ggX7_newPiece_Jx4a65c_add_9ea2d : GoodIn wsX7_newPiece wsJx4a65c_add_9ea2d := goodIn_r _ [24, 25, 26, 27, 13, 28, 29, 30, 11, 31, 32, 33, 34, 35, 36, 37, 38, 39, 40, 41, 42, 43, 44, 45, 46, 47, 48, 49, 50, 51, 52, 53, 54, 55, 56, 57, 58, 59, 60, 61, 62, 63, 64, 65, 66, 67, 68, 69, 70, 71, 72, 73, 74, 100, 101, 102] (by decide +kernel) (by decide +kernel)
set_option maxRecDepth 20000 in
theorem gX7_newPiece_Jx4a65c_add_9ea2d : GoodIn wsX7_newPiece (wsV RX7 325 RJx4a65c yJx4a65c_add_9ea2d wsJx4a65c_add_9ea2d) := goodIn_app (goodIn_of _ (by decide +kernel)) ggX7_newPiece_Jx4a65c_add_9ea2d
set_option maxRecDepth 20000 in
theorem ggX7_newPiece_Jx4a65c_get_915e3 : GoodIn wsX7_newPiece wsJx4a65c_get_915e3 := goodIn_r _ [78, 13, 79, 80, 81, 82, 83, 84, 85, 86, 87, 88, 89, 11, 90, 27, 100, 101, 102] (by decide +kernel) (by decide +kernel)
set_option maxRecDepth 20000 in
theorem gX7_newPiece_Jx4a65c_get_915e3 : GoodIn wsX7_newPiece (wsV RX7 162 RJx4a65c yJx4a65c_get_915e3 wsJx4a65c_get_915e3) := goodIn_app (goodIn_of _ (by decide +kernel)) ggX7_newPiece_Jx4a65c_get_915e3
theorem dX7_newPiece_0 : decode cX7_newPiece 0 = .ok (.aload_n 0, 1) := by decide +kernel
theorem dX7_newPiece_1 : decode cX7_newPiece 1 = .ok (.getfield 149, 3) := by decide +kernel
theorem dX7_newPiece_4 : decode cX7_newPiece 4 = .ok (.aload_n 0, 1) := by decide +kernel
theorem dX7_newPiece_5 : decode cX7_newPiece 5 = .ok (.getfield 25, 3) := by decide +kernel
theorem dX7_newPiece_8 : decode cX7_newPiece 8 = .ok (.invokevirtual 320, 3) := by decide +kernel
theorem dX7_newPiece_11 : decode cX7_newPiece 11 = .ok (.if_icmp .ne 18, 3) := by decide +kernel
theorem dX7_newPiece_14 : decode cX7_newPiece 14 = .ok (.aload_n 0, 1) := by decide +kernel
theorem dX7_newPiece_15 : decode cX7_newPiece 15 = .ok (.getfield 25, 3) := by decide +kernel
theorem dX7_newPiece_18 : decode cX7_newPiece 18 = .ok (.new 166, 3) := by decide +kernel
theorem dX7_newPiece_21 : decode cX7_newPiece 21 = .ok (.dup, 1) := by decide +kernel
theorem dX7_newPiece_22 : decode cX7_newPiece 22 = .ok (.invokespecial 324, 3) := by decide +kernel
theorem dX7_newPiece_25 : decode cX7_newPiece 25 = .ok (.invokevirtual 325, 3) := by decide +kernel
theorem dX7_newPiece_28 : decode cX7_newPiece 28 = .ok (.pop, 1) := by decide +kernel
theorem dX7_newPiece_29 : decode cX7_newPiece 29 = .ok (.aload_n 0, 1) := by decide +kernel
theorem dX7_newPiece_30 : decode cX7_newPiece 30 = .ok (.getfield 25, 3) := by decide +kernel
theorem dX7_newPiece_33 : decode cX7_newPiece 33 = .ok (.aload_n 0, 1) := by decide +kernel
theorem dX7_newPiece_34 : decode cX7_newPiece 34 = .ok (.getfield 149, 3) := by decide +kernel
theorem dX7_newPiece_37 : decode cX7_newPiece 37 = .ok (.invokevirtual 162, 3) := by decide +kernel
theorem dX7_newPiece_40 : decode cX7_newPiece 40 = .ok (.checkcast 166, 3) := by decide +kernel
theorem dX7_newPiece_43 : decode cX7_newPiece 43 = .ok (.astore_n 1, 1) := by decide +kernel
theorem dX7_newPiece_44 : decode cX7_newPiece 44 = .ok (.aload_n 1, 1) := by decide +kernel
theorem dX7_newPiece_45 : decode cX7_newPiece 45 = .ok (.iconst 0, 1) := by decide +kernel
theorem dX7_newPiece_46 : decode cX7_newPiece 46 = .ok (.putfield 329, 3) := by decide +kernel
theorem dX7_newPiece_49 : decode cX7_newPiece 49 = .ok (.aload_n 0, 1) := by decide +kernel
theorem dX7_newPiece_50 : decode cX7_newPiece 50 = .ok (.dup, 1) := by decide +kernel
theorem dX7_newPiece_51 : decode cX7_newPiece 51 = .ok (.getfield 149, 3) := by decide +kernel
theorem dX7_newPiece_54 : decode cX7_newPiece 54 = .ok (.iconst 1, 1) := by decide +kernel
theorem dX7_newPiece_55 : decode cX7_newPiece 55 = .ok (.iadd, 1) := by decide +kernel
theorem dX7_newPiece_56 : decode cX7_newPiece 56 = .ok (.putfield 149, 3) := by decide +kernel
theorem dX7_newPiece_59 : decode cX7_newPiece 59 = .ok (.aload_n 1, 1) := by decide +kernel
theorem dX7_newPiece_60 : decode cX7_newPiece 60 = .ok (.areturn, 1) := by decide +kernel
set_option maxRecDepth 20000 in
theorem ggX7_writeFork_X7_newPiece : GoodIn wsX7_writeFork wsX7_newPiece := goodIn_r _ [8, 9, 10, 11, 12, 13, 14, 15, 16, 17, 18, 19, 20, 21, 22, 23, 24, 25, 26, 27, 28, 29, 30, 31, 32, 33, 34, 35, 36, 37, 38, 39, 40, 41, 42, 43, 44, 45, 46, 47, 48, 49, 50, 51, 52, 53, 54, 55, 56, 57, 58, 59, 60, 61, 62, 63, 64, 65, 66, 67, 68, 69, 70, 71, 72, 73, 74, 75, 76, 77, 78, 79, 80, 81, 82, 83, 84, 85, 86, 87, 88, 89, 90, 91, 92, 93, 94, 95, 96, 97, 98, 134, 135, 136, 137, 138, 139, 140, 141, 142, 143, 144, 145] (by decide +kernel) (by decide +kernel)
set_option maxRecDepth 20000 in
theorem gX7_writeFork_X7_newPiece : GoodIn wsX7_writeFork (wsV RX7 332 RX7 yX7_newPiece wsX7_newPiece) := goodIn_app (goodIn_of _ (by decide +kernel)) ggX7_writeFork_X7_newPiece
set_option maxRecDepth 20000 in
theorem ggX7_writeFork_X7_writeLog : GoodIn wsX7_writeFork wsX7_writeLog := goodIn_r _ [101, 102, 3, 103, 104, 105, 106, 107, 108, 109, 110, 13, 111, 112, 28, 113, 114, 7, 115, 116, 117, 118, 119, 120, 126, 127, 128, 129, 130, 131, 132, 133, 146, 147, 148, 149, 150, 141, 142] (by decide +kernel) (by decide +kernel)
set_option maxRecDepth 20000 in
theorem gX7_writeFork_X7_writeLog : GoodIn wsX7_writeFork (va_wsS RX7 336 yX7_writeLog wsX7_writeLog) := goodIn_app (goodIn_of _ (by decide +kernel)) ggX7_writeFork_X7_writeLog
set_option maxRecDepth 20000 in
theorem ggX7_writeFork_X0_append : GoodIn wsX7_writeFork wsX0_append := goodIn_r _ [111, 112, 28, 141, 142] (by decide +kernel) (by decide +kernel)
set_option maxRecDepth 20000 in
theorem gX7_writeFork_X0_append : GoodIn wsX7_writeFork (wsV RX7 340 RX0 yX0_append wsX0_append) := goodIn_app (goodIn_of _ (by decide +kernel)) ggX7_writeFork_X0_append
set_option maxRecDepth 20000 in
theorem ggX7_writeFork_X7_signatureOf : GoodIn wsX7_writeFork wsX7_signatureOf := goodIn_r _ [115, 116, 117, 118, 7, 119, 120] (by decide +kernel) (by decide +kernel)
set_option maxRecDepth 20000 in
theorem gX7_writeFork_X7_signatureOf : GoodIn wsX7_writeFork (va_wsS RX7 248 yX7_signatureOf wsX7_signatureOf) := goodIn_app (goodIn_of _ (by decide +kernel)) ggX7_writeFork_X7_signatureOf
theorem dX7_writeFork_0 : decode cX7_writeFork 0 = .ok (.aload_n 0, 1) := by decide +kernel
theorem dX7_writeFork_1 : decode cX7_writeFork 1 = .ok (.invokevirtual 332, 3) := by decide +kernel
theorem dX7_writeFork_4 : decode cX7_writeFork 4 = .ok (.astore 4, 2) := by decide +kernel
theorem dX7_writeFork_6 : decode cX7_writeFork 6 = .ok (.aload_n 2, 1) := by decide +kernel
theorem dX7_writeFork_7 : decode cX7_writeFork 7 = .ok (.getfield 259, 3) := by decide +kernel
theorem dX7_writeFork_10 : decode cX7_writeFork 10 = .ok (.iload_n 3, 1) := by decide +kernel
theorem dX7_writeFork_11 : decode cX7_writeFork 11 = .ok (.iaload, 1) := by decide +kernel
theorem dX7_writeFork_12 : decode cX7_writeFork 12 = .ok (.istore 5, 2) := by decide +kernel
theorem dX7_writeFork_14 : decode cX7_writeFork 14 = .ok (.aload_n 2, 1) := by decide +kernel
theorem dX7_writeFork_15 : decode cX7_writeFork 15 = .ok (.getfield 262, 3) := by decide +kernel
theorem dX7_writeFork_18 : decode cX7_writeFork 18 = .ok (.iload_n 3, 1) := by decide +kernel
theorem dX7_writeFork_19 : decode cX7_writeFork 19 = .ok (.laload, 1) := by decide +kernel
theorem dX7_writeFork_20 : decode cX7_writeFork 20 = .ok (.lstore 6, 2) := by decide +kernel
theorem dX7_writeFork_22 : decode cX7_writeFork 22 = .ok (.aload 4, 2) := by decide +kernel
theorem dX7_writeFork_24 : decode cX7_writeFork 24 = .ok (.iconst 1, 1) := by decide +kernel
theorem dX7_writeFork_25 : decode cX7_writeFork 25 = .ok (.aload_n 1, 1) := by decide +kernel
theorem dX7_writeFork_26 : decode cX7_writeFork 26 = .ok (.invokestatic 336, 3) := by decide +kernel
theorem dX7_writeFork_29 : decode cX7_writeFork 29 = .ok (.aload 4, 2) := by decide +kernel
theorem dX7_writeFork_31 : decode cX7_writeFork 31 = .ok (.iload 5, 2) := by decide +kernel
theorem dX7_writeFork_33 : decode cX7_writeFork 33 = .ok (.i2l, 1) := by decide +kernel
theorem dX7_writeFork_34 : decode cX7_writeFork 34 = .ok (.iconst 2, 1) := by decide +kernel
theorem dX7_writeFork_35 : decode cX7_writeFork 35 = .ok (.invokevirtual 340, 3) := by decide +kernel
theorem dX7_writeFork_38 : decode cX7_writeFork 38 = .ok (.aload 4, 2) := by decide +kernel
theorem dX7_writeFork_40 : decode cX7_writeFork 40 = .ok (.lload 6, 2) := by decide +kernel
theorem dX7_writeFork_42 : decode cX7_writeFork 42 = .ok (.bipush 8, 2) := by decide +kernel
theorem dX7_writeFork_44 : decode cX7_writeFork 44 = .ok (.invokevirtual 340, 3) := by decide +kernel
theorem dX7_writeFork_47 : decode cX7_writeFork 47 = .ok (.aload 4, 2) := by decide +kernel
theorem dX7_writeFork_49 : decode cX7_writeFork 49 = .ok (.aload_n 1, 1) := by decide +kernel
theorem dX7_writeFork_50 : decode cX7_writeFork 50 = .ok (.getfield 242, 3) := by decide +kernel
theorem dX7_writeFork_53 : decode cX7_writeFork 53 = .ok (.iload 5, 2) := by decide +kernel
theorem dX7_writeFork_55 : decode cX7_writeFork 55 = .ok (.lload 6, 2) := by decide +kernel
theorem dX7_writeFork_57 : decode cX7_writeFork 57 = .ok (.invokestatic 248, 3) := by decide +kernel
theorem dX7_writeFork_60 : decode cX7_writeFork 60 = .ok (.bipush 8, 2) := by decide +kernel
theorem dX7_writeFork_62 : decode cX7_writeFork 62 = .ok (.invokevirtual 340, 3) := by decide +kernel
theorem dX7_writeFork_65 : decode cX7_writeFork 65 = .ok (.return_, 1) := by decide +kernel
set_option maxRecDepth 20000 in
theorem ggX7_writeRun_X7_newPiece : GoodIn wsX7_writeRun wsX7_newPiece := goodIn_r _ [5, 6, 7, 8, 9, 10, 11, 12, 13, 14, 15, 16, 17, 18, 19, 20, 21, 22, 23, 24, 25, 26, 27, 28, 29, 30, 31, 32, 33, 34, 35, 36, 37, 38, 39, 40, 41, 42, 43, 44, 45, 46, 47, 48, 49, 50, 51, 52, 53, 54, 55, 56, 57, 58, 59, 60, 61, 62, 63, 64, 65, 66, 67, 68, 69, 70, 71, 72, 73, 74, 75, 76, 77, 78, 79, 80, 81, 82, 83, 84, 85, 86, 87, 88, 89, 90, 91, 92, 93, 94, 95, 119, 120, 121, 122, 123, 124, 125, 126, 127, 128, 129, 130] (by decide +kernel) (by decide +kernel)
set_option maxRecDepth 20000 in
theorem gX7_writeRun_X7_newPiece : GoodIn wsX7_writeRun (wsV RX7 332 RX7 yX7_newPiece wsX7_newPiece) := goodIn_app (goodIn_of _ (by decide +kernel)) ggX7_writeRun_X7_newPiece
set_option maxRecDepth 20000 in
theorem ggX7_writeRun_X7_writeLog : GoodIn wsX7_writeRun wsX7_writeLog := goodIn_r _ [98, 99, 100, 101, 102, 103, 104, 105, 106, 107, 108, 10, 109, 110, 25, 111, 112, 4, 113, 114, 115, 116, 117, 118, 131, 132, 133, 134, 135, 136, 137, 138, 139, 140, 141, 142, 143, 126, 127] (by decide +kernel) (by decide +kernel)
set_option maxRecDepth 20000 in
theorem gX7_writeRun_X7_writeLog : GoodIn wsX7_writeRun (va_wsS RX7 336 yX7_writeLog wsX7_writeLog) := goodIn_app (goodIn_of _ (by decide +kernel)) ggX7_writeRun_X7_writeLog
set_option maxRecDepth 20000 in
theorem ggX7_writeRun_X0_append : GoodIn wsX7_writeRun wsX0_append := goodIn_r _ [109, 110, 25, 126, 127] (by decide +kernel) (by decide +kernel)
set_option maxRecDepth 20000 in
theorem gX7_writeRun_X0_append : GoodIn wsX7_writeRun (wsV RX7 340 RX0 yX0_append wsX0_append) := goodIn_app (goodIn_of _ (by decide +kernel)) ggX7_writeRun_X0_append
theorem dX7_writeRun_0 : decode cX7_writeRun 0 = .ok (.aload_n 0, 1) := by decide +kernel
theorem dX7_writeRun_1 : decode cX7_writeRun 1 = .ok (.invokevirtual 332, 3) := by decide +kernel
theorem dX7_writeRun_4 : decode cX7_writeRun 4 = .ok (.astore_n 3, 1) := by decide +kernel
theorem dX7_writeRun_5 : decode cX7_writeRun 5 = .ok (.aload_n 3, 1) := by decide +kernel
theorem dX7_writeRun_6 : decode cX7_writeRun 6 = .ok (.iconst 2, 1) := by decide +kernel
theorem dX7_writeRun_7 : decode cX7_writeRun 7 = .ok (.aload_n 1, 1) := by decide +kernel
theorem dX7_writeRun_8 : decode cX7_writeRun 8 = .ok (.invokestatic 336, 3) := by decide +kernel
theorem dX7_writeRun_11 : decode cX7_writeRun 11 = .ok (.aload_n 3, 1) := by decide +kernel
theorem dX7_writeRun_12 : decode cX7_writeRun 12 = .ok (.iload_n 2, 1) := by decide +kernel
theorem dX7_writeRun_13 : decode cX7_writeRun 13 = .ok (.i2l, 1) := by decide +kernel
theorem dX7_writeRun_14 : decode cX7_writeRun 14 = .ok (.iconst 2, 1) := by decide +kernel
theorem dX7_writeRun_15 : decode cX7_writeRun 15 = .ok (.invokevirtual 340, 3) := by decide +kernel
theorem dX7_writeRun_18 : decode cX7_writeRun 18 = .ok (.return_, 1) := by decide +kernel
set_option maxRecDepth 20000 in
theorem ggX7_writeLog_X0_append : GoodIn wsX7_writeLog wsX0_append := goodIn_r _ [12, 13, 14, 37, 38] (by decide +kernel) (by decide +kernel)
set_option maxRecDepth 20000 in
theorem gX7_writeLog_X0_append : GoodIn wsX7_writeLog (wsV RX7 340 RX0 yX0_append wsX0_append) := goodIn_app (goodIn_of _ (by decide +kernel)) ggX7_writeLog_X0_append
set_option maxRecDepth 20000 in
theorem ggX7_writeLog_X7_signatureOf : GoodIn wsX7_writeLog wsX7_signatureOf := goodIn_r _ [18, 19, 20, 21, 17, 22, 23] (by decide +kernel) (by decide +kernel)
set_option maxRecDepth 20000 in
theorem gX7_writeLog_X7_signatureOf : GoodIn wsX7_writeLog (va_wsS RX7 248 yX7_signatureOf wsX7_signatureOf) := goodIn_app (goodIn_of _ (by decide +kernel)) ggX7_writeLog_X7_signatureOf
theorem dX7_writeLog_0 : decode cX7_writeLog 0 = .ok (.aload_n 2, 1) := by decide +kernel
theorem dX7_writeLog_1 : decode cX7_writeLog 1 = .ok (.getfield 57, 3) := by decide +kernel
theorem dX7_writeLog_4 : decode cX7_writeLog 4 = .ok (.astore_n 3, 1) := by decide +kernel
theorem dX7_writeLog_5 : decode cX7_writeLog 5 = .ok (.aload_n 0, 1) := by decide +kernel
theorem dX7_writeLog_6 : decode cX7_writeLog 6 = .ok (.iload_n 1, 1) := by decide +kernel
theorem dX7_writeLog_7 : decode cX7_writeLog 7 = .ok (.i2l, 1) := by decide +kernel
theorem dX7_writeLog_8 : decode cX7_writeLog 8 = .ok (.iconst 1, 1) := by decide +kernel
theorem dX7_writeLog_9 : decode cX7_writeLog 9 = .ok (.invokevirtual 340, 3) := by decide +kernel
theorem dX7_writeLog_12 : decode cX7_writeLog 12 = .ok (.aload_n 0, 1) := by decide +kernel
theorem dX7_writeLog_13 : decode cX7_writeLog 13 = .ok (.aload_n 2, 1) := by decide +kernel
theorem dX7_writeLog_14 : decode cX7_writeLog 14 = .ok (.getfield 242, 3) := by decide +kernel
theorem dX7_writeLog_17 : decode cX7_writeLog 17 = .ok (.i2l, 1) := by decide +kernel
theorem dX7_writeLog_18 : decode cX7_writeLog 18 = .ok (.iconst 1, 1) := by decide +kernel
theorem dX7_writeLog_19 : decode cX7_writeLog 19 = .ok (.invokevirtual 340, 3) := by decide +kernel
theorem dX7_writeLog_22 : decode cX7_writeLog 22 = .ok (.aload_n 0, 1) := by decide +kernel
theorem dX7_writeLog_23 : decode cX7_writeLog 23 = .ok (.aload_n 3, 1) := by decide +kernel
theorem dX7_writeLog_24 : decode cX7_writeLog 24 = .ok (.getfield 81, 3) := by decide +kernel
theorem dX7_writeLog_27 : decode cX7_writeLog 27 = .ok (.i2l, 1) := by decide +kernel
theorem dX7_writeLog_28 : decode cX7_writeLog 28 = .ok (.iconst 2, 1) := by decide +kernel
theorem dX7_writeLog_29 : decode cX7_writeLog 29 = .ok (.invokevirtual 340, 3) := by decide +kernel
theorem dX7_writeLog_32 : decode cX7_writeLog 32 = .ok (.iconst 1, 1) := by decide +kernel
theorem dX7_writeLog_33 : decode cX7_writeLog 33 = .ok (.istore 4, 2) := by decide +kernel
theorem dX7_writeLog_35 : decode cX7_writeLog 35 = .ok (.iload 4, 2) := by decide +kernel
theorem dX7_writeLog_37 : decode cX7_writeLog 37 = .ok (.aload_n 3, 1) := by decide +kernel
theorem dX7_writeLog_38 : decode cX7_writeLog 38 = .ok (.getfield 81, 3) := by decide +kernel
theorem dX7_writeLog_41 : decode cX7_writeLog 41 = .ok (.if_icmp .gt 48, 3) := by decide +kernel
theorem dX7_writeLog_44 : decode cX7_writeLog 44 = .ok (.aload_n 0, 1) := by decide +kernel
theorem dX7_writeLog_45 : decode cX7_writeLog 45 = .ok (.aload_n 3, 1) := by decide +kernel
theorem dX7_writeLog_46 : decode cX7_writeLog 46 = .ok (.getfield 183, 3) := by decide +kernel
theorem dX7_writeLog_49 : decode cX7_writeLog 49 = .ok (.iload 4, 2) := by decide +kernel
theorem dX7_writeLog_51 : decode cX7_writeLog 51 = .ok (.iaload, 1) := by decide +kernel
theorem dX7_writeLog_52 : decode cX7_writeLog 52 = .ok (.i2l, 1) := by decide +kernel
theorem dX7_writeLog_53 : decode cX7_writeLog 53 = .ok (.iconst 1, 1) := by decide +kernel
theorem dX7_writeLog_54 : decode cX7_writeLog 54 = .ok (.invokevirtual 340, 3) := by decide +kernel
theorem dX7_writeLog_57 : decode cX7_writeLog 57 = .ok (.aload_n 0, 1) := by decide +kernel
theorem dX7_writeLog_58 : decode cX7_writeLog 58 = .ok (.aload_n 3, 1) := by decide +kernel
theorem dX7_writeLog_59 : decode cX7_writeLog 59 = .ok (.getfield 186, 3) := by decide +kernel
theorem dX7_writeLog_62 : decode cX7_writeLog 62 = .ok (.iload 4, 2) := by decide +kernel
theorem dX7_writeLog_64 : decode cX7_writeLog 64 = .ok (.iaload, 1) := by decide +kernel
theorem dX7_writeLog_65 : decode cX7_writeLog 65 = .ok (.i2l, 1) := by decide +kernel
theorem dX7_writeLog_66 : decode cX7_writeLog 66 = .ok (.iconst 1, 1) := by decide +kernel
theorem dX7_writeLog_67 : decode cX7_writeLog 67 = .ok (.invokevirtual 340, 3) := by decide +kernel
theorem dX7_writeLog_70 : decode cX7_writeLog 70 = .ok (.aload_n 0, 1) := by decide +kernel
theorem dX7_writeLog_71 : decode cX7_writeLog 71 = .ok (.aload_n 3, 1) := by decide +kernel
theorem dX7_writeLog_72 : decode cX7_writeLog 72 = .ok (.getfield 133, 3) := by decide +kernel
theorem dX7_writeLog_75 : decode cX7_writeLog 75 = .ok (.iload 4, 2) := by decide +kernel
theorem dX7_writeLog_77 : decode cX7_writeLog 77 = .ok (.iaload, 1) := by decide +kernel
theorem dX7_writeLog_78 : decode cX7_writeLog 78 = .ok (.i2l, 1) := by decide +kernel
theorem dX7_writeLog_79 : decode cX7_writeLog 79 = .ok (.iconst 4, 1) := by decide +kernel
theorem dX7_writeLog_80 : decode cX7_writeLog 80 = .ok (.invokevirtual 340, 3) := by decide +kernel
theorem dX7_writeLog_83 : decode cX7_writeLog 83 = .ok (.iinc 4 1, 3) := by decide +kernel
theorem dX7_writeLog_86 : decode cX7_writeLog 86 = .ok (.goto (-51), 3) := by decide +kernel
theorem dX7_writeLog_89 : decode cX7_writeLog 89 = .ok (.aload_n 0, 1) := by decide +kernel
theorem dX7_writeLog_90 : decode cX7_writeLog 90 = .ok (.aload_n 2, 1) := by decide +kernel
theorem dX7_writeLog_91 : decode cX7_writeLog 91 = .ok (.getfield 242, 3) := by decide +kernel
theorem dX7_writeLog_94 : decode cX7_writeLog 94 = .ok (.aload_n 3, 1) := by decide +kernel
theorem dX7_writeLog_95 : decode cX7_writeLog 95 = .ok (.getfield 81, 3) := by decide +kernel
theorem dX7_writeLog_98 : decode cX7_writeLog 98 = .ok (.aload_n 3, 1) := by decide +kernel
theorem dX7_writeLog_99 : decode cX7_writeLog 99 = .ok (.getfield 192, 3) := by decide +kernel
theorem dX7_writeLog_102 : decode cX7_writeLog 102 = .ok (.aload_n 3, 1) := by decide +kernel
theorem dX7_writeLog_103 : decode cX7_writeLog 103 = .ok (.getfield 81, 3) := by decide +kernel
theorem dX7_writeLog_106 : decode cX7_writeLog 106 = .ok (.laload, 1) := by decide +kernel
theorem dX7_writeLog_107 : decode cX7_writeLog 107 = .ok (.invokestatic 248, 3) := by decide +kernel
theorem dX7_writeLog_110 : decode cX7_writeLog 110 = .ok (.bipush 8, 2) := by decide +kernel
theorem dX7_writeLog_112 : decode cX7_writeLog 112 = .ok (.invokevirtual 340, 3) := by decide +kernel
theorem dX7_writeLog_115 : decode cX7_writeLog 115 = .ok (.return_, 1) := by decide +kernel
set_option maxRecDepth 20000 in
theorem ggX7_proves_X0_isWhole : GoodIn wsX7_proves wsX0_isWhole := goodIn_r _ [8, 9, 10, 11, 12, 7, 13, 14, 15, 16, 17, 18, 106, 107] (by decide +kernel) (by decide +kernel)
set_option maxRecDepth 20000 in
theorem gX7_proves_X0_isWhole : GoodIn wsX7_proves (wsV RX7 343 RX0 yX0_isWhole wsX0_isWhole) := goodIn_app (goodIn_of _ (by decide +kernel)) ggX7_proves_X0_isWhole
set_option maxRecDepth 20000 in
theorem ggX7_proves_X0_byteAt : GoodIn wsX7_proves wsX0_byteAt := goodIn_r _ [13, 14, 106, 107] (by decide +kernel) (by decide +kernel)
set_option maxRecDepth 20000 in
theorem gX7_proves_X0_byteAt : GoodIn wsX7_proves (wsV RX7 172 RX0 yX0_byteAt wsX0_byteAt) := goodIn_app (goodIn_of _ (by decide +kernel)) ggX7_proves_X0_byteAt
set_option maxRecDepth 20000 in
theorem ggX7_proves_X7_isNode : GoodIn wsX7_proves wsX7_isNode := goodIn_r _ [24, 25, 94, 95, 96, 97, 98, 99, 100] (by decide +kernel) (by decide +kernel)
set_option maxRecDepth 20000 in
theorem gX7_proves_X7_isNode : GoodIn wsX7_proves (wsV RX7 53 RX7 yX7_isNode wsX7_isNode) := goodIn_app (goodIn_of _ (by decide +kernel)) ggX7_proves_X7_isNode
set_option maxRecDepth 20000 in
theorem ggX7_proves_X7_readEntries : GoodIn wsX7_proves wsX7_readEntries := goodIn_r _ [29, 1, 2, 30, 16, 17, 7, 18, 10, 11, 12, 13, 14, 19, 31, 32, 33, 34, 35, 36, 37, 38, 39, 40, 41, 23, 42, 43, 44, 45, 46, 47, 94, 95, 96, 97, 98, 99, 100, 101, 102, 103, 104, 105, 106, 107] (by decide +kernel) (by decide +kernel)
set_option maxRecDepth 20000 in
theorem gX7_proves_X7_readEntries : GoodIn wsX7_proves (wsV RX7 346 RX7 yX7_readEntries wsX7_readEntries) := goodIn_app (goodIn_of _ (by decide +kernel)) ggX7_proves_X7_readEntries
set_option maxRecDepth 20000 in
theorem ggX7_proves_X0_numberAt : GoodIn wsX7_proves wsX0_numberAt := goodIn_r _ [18, 10, 11, 12, 7, 13, 14, 106, 107] (by decide +kernel) (by decide +kernel)
set_option maxRecDepth 20000 in
theorem gX7_proves_X0_numberAt : GoodIn wsX7_proves (wsV RX7 349 RX0 yX0_numberAt wsX0_numberAt) := goodIn_app (goodIn_of _ (by decide +kernel)) ggX7_proves_X0_numberAt
set_option maxRecDepth 20000 in
theorem ggX7_proves_X7_signatureOf : GoodIn wsX7_proves wsX7_signatureOf := goodIn_r _ [50, 43, 44, 45, 23, 46, 47] (by decide +kernel) (by decide +kernel)
set_option maxRecDepth 20000 in
theorem gX7_proves_X7_signatureOf : GoodIn wsX7_proves (va_wsS RX7 248 yX7_signatureOf wsX7_signatureOf) := goodIn_app (goodIn_of _ (by decide +kernel)) ggX7_proves_X7_signatureOf
set_option maxRecDepth 20000 in
theorem ggX7_proves_X7_provesFork : GoodIn wsX7_proves wsX7_provesFork := goodIn_r _ [54, 1, 2, 3, 30, 16, 17, 7, 18, 10, 11, 12, 13, 14, 48, 49, 23, 50, 43, 44, 45, 46, 47, 94, 95, 96, 97, 98, 99, 100, 101, 102, 103, 104, 105, 106, 107] (by decide +kernel) (by decide +kernel)
set_option maxRecDepth 20000 in
theorem gX7_proves_X7_provesFork : GoodIn wsX7_proves (wsV RX7 353 RX7 yX7_provesFork wsX7_provesFork) := goodIn_app (goodIn_of _ (by decide +kernel)) ggX7_proves_X7_provesFork
set_option maxRecDepth 20000 in
theorem ggX7_proves_X7_provesRun : GoodIn wsX7_proves wsX7_provesRun := goodIn_r _ [58, 1, 59, 60, 61, 23, 62, 63, 25, 2, 64, 65, 66, 67, 68, 69, 70, 71, 72, 73, 74, 75, 76, 77, 78, 79, 80, 81, 82, 83, 84, 85, 86, 87, 88, 89, 20, 21, 22, 24, 90, 91, 92, 93, 30, 16, 17, 7, 18, 10, 11, 12, 13, 14, 94, 95, 96, 97, 98, 99, 100, 101, 102, 103, 104, 105, 108, 109, 110, 111, 112, 113, 114, 106, 107] (by decide +kernel) (by decide +kernel)
set_option maxRecDepth 20000 in
theorem gX7_proves_X7_provesRun : GoodIn wsX7_proves (wsV RX7 357 RX7 yX7_provesRun wsX7_provesRun) := goodIn_app (goodIn_of _ (by decide +kernel)) ggX7_proves_X7_provesRun
theorem dX7_proves_0 : decode cX7_proves 0 = .ok (.aload_n 1, 1) := by decide +kernel
theorem dX7_proves_1 : decode cX7_proves 1 = .ok (.invokevirtual 343, 3) := by decide +kernel
theorem dX7_proves_4 : decode cX7_proves 4 = .ok (.ifCond .eq 23, 3) := by decide +kernel
theorem dX7_proves_7 : decode cX7_proves 7 = .ok (.aload_n 0, 1) := by decide +kernel
theorem dX7_proves_8 : decode cX7_proves 8 = .ok (.aload_n 1, 1) := by decide +kernel
theorem dX7_proves_9 : decode cX7_proves 9 = .ok (.iconst 1, 1) := by decide +kernel
theorem dX7_proves_10 : decode cX7_proves 10 = .ok (.invokevirtual 172, 3) := by decide +kernel
theorem dX7_proves_13 : decode cX7_proves 13 = .ok (.invokevirtual 53, 3) := by decide +kernel
theorem dX7_proves_16 : decode cX7_proves 16 = .ok (.ifCond .eq 11, 3) := by decide +kernel
theorem dX7_proves_19 : decode cX7_proves 19 = .ok (.aload_n 0, 1) := by decide +kernel
theorem dX7_proves_20 : decode cX7_proves 20 = .ok (.aload_n 1, 1) := by decide +kernel
theorem dX7_proves_21 : decode cX7_proves 21 = .ok (.invokevirtual 346, 3) := by decide +kernel
theorem dX7_proves_24 : decode cX7_proves 24 = .ok (.ifCond .ne 5, 3) := by decide +kernel
theorem dX7_proves_27 : decode cX7_proves 27 = .ok (.iconst 0, 1) := by decide +kernel
theorem dX7_proves_28 : decode cX7_proves 28 = .ok (.ireturn, 1) := by decide +kernel
theorem dX7_proves_29 : decode cX7_proves 29 = .ok (.aload_n 1, 1) := by decide +kernel
theorem dX7_proves_30 : decode cX7_proves 30 = .ok (.iconst 1, 1) := by decide +kernel
theorem dX7_proves_31 : decode cX7_proves 31 = .ok (.invokevirtual 172, 3) := by decide +kernel
theorem dX7_proves_34 : decode cX7_proves 34 = .ok (.istore_n 2, 1) := by decide +kernel
theorem dX7_proves_35 : decode cX7_proves 35 = .ok (.iconst 4, 1) := by decide +kernel
theorem dX7_proves_36 : decode cX7_proves 36 = .ok (.aload_n 0, 1) := by decide +kernel
theorem dX7_proves_37 : decode cX7_proves 37 = .ok (.getfield 39, 3) := by decide +kernel
theorem dX7_proves_40 : decode cX7_proves 40 = .ok (.getfield 81, 3) := by decide +kernel
theorem dX7_proves_43 : decode cX7_proves 43 = .ok (.bipush 6, 2) := by decide +kernel
theorem dX7_proves_45 : decode cX7_proves 45 = .ok (.imul, 1) := by decide +kernel
theorem dX7_proves_46 : decode cX7_proves 46 = .ok (.iadd, 1) := by decide +kernel
theorem dX7_proves_47 : decode cX7_proves 47 = .ok (.istore_n 3, 1) := by decide +kernel
theorem dX7_proves_48 : decode cX7_proves 48 = .ok (.aload_n 1, 1) := by decide +kernel
theorem dX7_proves_49 : decode cX7_proves 49 = .ok (.iload_n 3, 1) := by decide +kernel
theorem dX7_proves_50 : decode cX7_proves 50 = .ok (.bipush 8, 2) := by decide +kernel
theorem dX7_proves_52 : decode cX7_proves 52 = .ok (.invokevirtual 349, 3) := by decide +kernel
theorem dX7_proves_55 : decode cX7_proves 55 = .ok (.iload_n 2, 1) := by decide +kernel
theorem dX7_proves_56 : decode cX7_proves 56 = .ok (.aload_n 0, 1) := by decide +kernel
theorem dX7_proves_57 : decode cX7_proves 57 = .ok (.getfield 39, 3) := by decide +kernel
theorem dX7_proves_60 : decode cX7_proves 60 = .ok (.getfield 81, 3) := by decide +kernel
theorem dX7_proves_63 : decode cX7_proves 63 = .ok (.aload_n 0, 1) := by decide +kernel
theorem dX7_proves_64 : decode cX7_proves 64 = .ok (.getfield 39, 3) := by decide +kernel
theorem dX7_proves_67 : decode cX7_proves 67 = .ok (.getfield 192, 3) := by decide +kernel
theorem dX7_proves_70 : decode cX7_proves 70 = .ok (.aload_n 0, 1) := by decide +kernel
theorem dX7_proves_71 : decode cX7_proves 71 = .ok (.getfield 39, 3) := by decide +kernel
theorem dX7_proves_74 : decode cX7_proves 74 = .ok (.getfield 81, 3) := by decide +kernel
theorem dX7_proves_77 : decode cX7_proves 77 = .ok (.laload, 1) := by decide +kernel
theorem dX7_proves_78 : decode cX7_proves 78 = .ok (.invokestatic 248, 3) := by decide +kernel
theorem dX7_proves_81 : decode cX7_proves 81 = .ok (.lcmp, 1) := by decide +kernel
theorem dX7_proves_82 : decode cX7_proves 82 = .ok (.ifCond .eq 5, 3) := by decide +kernel
theorem dX7_proves_85 : decode cX7_proves 85 = .ok (.iconst 0, 1) := by decide +kernel
theorem dX7_proves_86 : decode cX7_proves 86 = .ok (.ireturn, 1) := by decide +kernel
theorem dX7_proves_87 : decode cX7_proves 87 = .ok (.iinc 3 8, 3) := by decide +kernel
theorem dX7_proves_90 : decode cX7_proves 90 = .ok (.aload_n 1, 1) := by decide +kernel
theorem dX7_proves_91 : decode cX7_proves 91 = .ok (.iconst 0, 1) := by decide +kernel
theorem dX7_proves_92 : decode cX7_proves 92 = .ok (.invokevirtual 172, 3) := by decide +kernel
theorem dX7_proves_95 : decode cX7_proves 95 = .ok (.iconst 1, 1) := by decide +kernel
theorem dX7_proves_96 : decode cX7_proves 96 = .ok (.if_icmp .ne 13, 3) := by decide +kernel
theorem dX7_proves_99 : decode cX7_proves 99 = .ok (.aload_n 0, 1) := by decide +kernel
theorem dX7_proves_100 : decode cX7_proves 100 = .ok (.aload_n 1, 1) := by decide +kernel
theorem dX7_proves_101 : decode cX7_proves 101 = .ok (.iload_n 2, 1) := by decide +kernel
theorem dX7_proves_102 : decode cX7_proves 102 = .ok (.iload_n 3, 1) := by decide +kernel
theorem dX7_proves_103 : decode cX7_proves 103 = .ok (.invokevirtual 353, 3) := by decide +kernel
theorem dX7_proves_106 : decode cX7_proves 106 = .ok (.goto 10, 3) := by decide +kernel
theorem dX7_proves_109 : decode cX7_proves 109 = .ok (.aload_n 0, 1) := by decide +kernel
theorem dX7_proves_110 : decode cX7_proves 110 = .ok (.aload_n 1, 1) := by decide +kernel
theorem dX7_proves_111 : decode cX7_proves 111 = .ok (.iload_n 2, 1) := by decide +kernel
theorem dX7_proves_112 : decode cX7_proves 112 = .ok (.iload_n 3, 1) := by decide +kernel
theorem dX7_proves_113 : decode cX7_proves 113 = .ok (.invokevirtual 357, 3) := by decide +kernel
theorem dX7_proves_116 : decode cX7_proves 116 = .ok (.ireturn, 1) := by decide +kernel
set_option maxRecDepth 20000 in
theorem ggX7_readEntries_X0_numberAt : GoodIn wsX7_readEntries wsX0_numberAt := goodIn_r _ [7, 8, 9, 10, 6, 11, 12, 44, 45] (by decide +kernel) (by decide +kernel)
set_option maxRecDepth 20000 in
theorem gX7_readEntries_X0_numberAt : GoodIn wsX7_readEntries (wsV RX7 349 RX0 yX0_numberAt wsX0_numberAt) := goodIn_app (goodIn_of _ (by decide +kernel)) ggX7_readEntries_X0_numberAt
set_option maxRecDepth 20000 in
theorem ggX7_readEntries_X0_byteAt : GoodIn wsX7_readEntries wsX0_byteAt := goodIn_r _ [11, 12, 44, 45] (by decide +kernel) (by decide +kernel)
set_option maxRecDepth 20000 in
theorem gX7_readEntries_X0_byteAt : GoodIn wsX7_readEntries (wsV RX7 172 RX0 yX0_byteAt wsX0_byteAt) := goodIn_app (goodIn_of _ (by decide +kernel)) ggX7_readEntries_X0_byteAt
set_option maxRecDepth 20000 in
theorem ggX7_readEntries_X2_append : GoodIn wsX7_readEntries wsX2_append := goodIn_r _ [18, 19, 20, 21, 22, 23, 24, 25, 26, 27, 28, 29, 30, 31, 39, 40, 41, 42, 43] (by decide +kernel) (by decide +kernel)
set_option maxRecDepth 20000 in
theorem gX7_readEntries_X2_append : GoodIn wsX7_readEntries (wsV RX7 67 RX2 yX2_append wsX2_append) := goodIn_app (goodIn_of _ (by decide +kernel)) ggX7_readEntries_X2_append
theorem dX7_readEntries_0 : decode cX7_readEntries 0 = .ok (.aload_n 1, 1) := by decide +kernel
theorem dX7_readEntries_1 : decode cX7_readEntries 1 = .ok (.iconst 2, 1) := by decide +kernel
theorem dX7_readEntries_2 : decode cX7_readEntries 2 = .ok (.iconst 2, 1) := by decide +kernel
theorem dX7_readEntries_3 : decode cX7_readEntries 3 = .ok (.invokevirtual 349, 3) := by decide +kernel
theorem dX7_readEntries_6 : decode cX7_readEntries 6 = .ok (.l2i, 1) := by decide +kernel
theorem dX7_readEntries_7 : decode cX7_readEntries 7 = .ok (.istore_n 2, 1) := by decide +kernel
theorem dX7_readEntries_8 : decode cX7_readEntries 8 = .ok (.iconst 4, 1) := by decide +kernel
theorem dX7_readEntries_9 : decode cX7_readEntries 9 = .ok (.istore_n 3, 1) := by decide +kernel
theorem dX7_readEntries_10 : decode cX7_readEntries 10 = .ok (.aload_n 0, 1) := by decide +kernel
theorem dX7_readEntries_11 : decode cX7_readEntries 11 = .ok (.getfield 39, 3) := by decide +kernel
theorem dX7_readEntries_14 : decode cX7_readEntries 14 = .ok (.iconst 0, 1) := by decide +kernel
theorem dX7_readEntries_15 : decode cX7_readEntries 15 = .ok (.putfield 81, 3) := by decide +kernel
theorem dX7_readEntries_18 : decode cX7_readEntries 18 = .ok (.iconst 1, 1) := by decide +kernel
theorem dX7_readEntries_19 : decode cX7_readEntries 19 = .ok (.istore 4, 2) := by decide +kernel
theorem dX7_readEntries_21 : decode cX7_readEntries 21 = .ok (.iload 4, 2) := by decide +kernel
theorem dX7_readEntries_23 : decode cX7_readEntries 23 = .ok (.iload_n 2, 1) := by decide +kernel
theorem dX7_readEntries_24 : decode cX7_readEntries 24 = .ok (.if_icmp .gt 58, 3) := by decide +kernel
theorem dX7_readEntries_27 : decode cX7_readEntries 27 = .ok (.aload_n 1, 1) := by decide +kernel
theorem dX7_readEntries_28 : decode cX7_readEntries 28 = .ok (.iload_n 3, 1) := by decide +kernel
theorem dX7_readEntries_29 : decode cX7_readEntries 29 = .ok (.invokevirtual 172, 3) := by decide +kernel
theorem dX7_readEntries_32 : decode cX7_readEntries 32 = .ok (.istore 5, 2) := by decide +kernel
theorem dX7_readEntries_34 : decode cX7_readEntries 34 = .ok (.iload 5, 2) := by decide +kernel
theorem dX7_readEntries_36 : decode cX7_readEntries 36 = .ok (.iconst 1, 1) := by decide +kernel
theorem dX7_readEntries_37 : decode cX7_readEntries 37 = .ok (.if_icmp .lt 9, 3) := by decide +kernel
theorem dX7_readEntries_40 : decode cX7_readEntries 40 = .ok (.iload 5, 2) := by decide +kernel
theorem dX7_readEntries_42 : decode cX7_readEntries 42 = .ok (.iconst 3, 1) := by decide +kernel
theorem dX7_readEntries_43 : decode cX7_readEntries 43 = .ok (.if_icmp .le 5, 3) := by decide +kernel
theorem dX7_readEntries_46 : decode cX7_readEntries 46 = .ok (.iconst 0, 1) := by decide +kernel
theorem dX7_readEntries_47 : decode cX7_readEntries 47 = .ok (.ireturn, 1) := by decide +kernel
theorem dX7_readEntries_48 : decode cX7_readEntries 48 = .ok (.aload_n 0, 1) := by decide +kernel
theorem dX7_readEntries_49 : decode cX7_readEntries 49 = .ok (.getfield 39, 3) := by decide +kernel
theorem dX7_readEntries_52 : decode cX7_readEntries 52 = .ok (.iload 5, 2) := by decide +kernel
theorem dX7_readEntries_54 : decode cX7_readEntries 54 = .ok (.aload_n 1, 1) := by decide +kernel
theorem dX7_readEntries_55 : decode cX7_readEntries 55 = .ok (.iload_n 3, 1) := by decide +kernel
theorem dX7_readEntries_56 : decode cX7_readEntries 56 = .ok (.iconst 1, 1) := by decide +kernel
theorem dX7_readEntries_57 : decode cX7_readEntries 57 = .ok (.iadd, 1) := by decide +kernel
theorem dX7_readEntries_58 : decode cX7_readEntries 58 = .ok (.invokevirtual 172, 3) := by decide +kernel
theorem dX7_readEntries_61 : decode cX7_readEntries 61 = .ok (.aload_n 1, 1) := by decide +kernel
theorem dX7_readEntries_62 : decode cX7_readEntries 62 = .ok (.iload_n 3, 1) := by decide +kernel
theorem dX7_readEntries_63 : decode cX7_readEntries 63 = .ok (.iconst 2, 1) := by decide +kernel
theorem dX7_readEntries_64 : decode cX7_readEntries 64 = .ok (.iadd, 1) := by decide +kernel
theorem dX7_readEntries_65 : decode cX7_readEntries 65 = .ok (.iconst 4, 1) := by decide +kernel
theorem dX7_readEntries_66 : decode cX7_readEntries 66 = .ok (.invokevirtual 349, 3) := by decide +kernel
theorem dX7_readEntries_69 : decode cX7_readEntries 69 = .ok (.l2i, 1) := by decide +kernel
theorem dX7_readEntries_70 : decode cX7_readEntries 70 = .ok (.invokevirtual 67, 3) := by decide +kernel
theorem dX7_readEntries_73 : decode cX7_readEntries 73 = .ok (.iinc 3 6, 3) := by decide +kernel
theorem dX7_readEntries_76 : decode cX7_readEntries 76 = .ok (.iinc 4 1, 3) := by decide +kernel
theorem dX7_readEntries_79 : decode cX7_readEntries 79 = .ok (.goto (-58), 3) := by decide +kernel
theorem dX7_readEntries_82 : decode cX7_readEntries 82 = .ok (.iconst 1, 1) := by decide +kernel
theorem dX7_readEntries_83 : decode cX7_readEntries 83 = .ok (.ireturn, 1) := by decide +kernel
set_option maxRecDepth 20000 in
theorem ggX7_provesFork_X0_numberAt : GoodIn wsX7_provesFork wsX0_numberAt := goodIn_r _ [8, 9, 10, 11, 7, 12, 13, 35, 36] (by decide +kernel) (by decide +kernel)
set_option maxRecDepth 20000 in
theorem gX7_provesFork_X0_numberAt : GoodIn wsX7_provesFork (wsV RX7 349 RX0 yX0_numberAt wsX0_numberAt) := goodIn_app (goodIn_of _ (by decide +kernel)) ggX7_provesFork_X0_numberAt
set_option maxRecDepth 20000 in
theorem ggX7_provesFork_X7_signatureOf : GoodIn wsX7_provesFork wsX7_signatureOf := goodIn_r _ [17, 18, 19, 20, 16, 21, 22] (by decide +kernel) (by decide +kernel)
set_option maxRecDepth 20000 in
theorem gX7_provesFork_X7_signatureOf : GoodIn wsX7_provesFork (va_wsS RX7 248 yX7_signatureOf wsX7_signatureOf) := goodIn_app (goodIn_of _ (by decide +kernel)) ggX7_provesFork_X7_signatureOf
theorem dX7_provesFork_0 : decode cX7_provesFork 0 = .ok (.aload_n 1, 1) := by decide +kernel
theorem dX7_provesFork_1 : decode cX7_provesFork 1 = .ok (.iload_n 3, 1) := by decide +kernel
theorem dX7_provesFork_2 : decode cX7_provesFork 2 = .ok (.iconst 2, 1) := by decide +kernel
theorem dX7_provesFork_3 : decode cX7_provesFork 3 = .ok (.invokevirtual 349, 3) := by decide +kernel
theorem dX7_provesFork_6 : decode cX7_provesFork 6 = .ok (.l2i, 1) := by decide +kernel
theorem dX7_provesFork_7 : decode cX7_provesFork 7 = .ok (.istore 4, 2) := by decide +kernel
theorem dX7_provesFork_9 : decode cX7_provesFork 9 = .ok (.aload_n 1, 1) := by decide +kernel
theorem dX7_provesFork_10 : decode cX7_provesFork 10 = .ok (.iload_n 3, 1) := by decide +kernel
theorem dX7_provesFork_11 : decode cX7_provesFork 11 = .ok (.iconst 2, 1) := by decide +kernel
theorem dX7_provesFork_12 : decode cX7_provesFork 12 = .ok (.iadd, 1) := by decide +kernel
theorem dX7_provesFork_13 : decode cX7_provesFork 13 = .ok (.bipush 8, 2) := by decide +kernel
theorem dX7_provesFork_15 : decode cX7_provesFork 15 = .ok (.invokevirtual 349, 3) := by decide +kernel
theorem dX7_provesFork_18 : decode cX7_provesFork 18 = .ok (.lstore 5, 2) := by decide +kernel
theorem dX7_provesFork_20 : decode cX7_provesFork 20 = .ok (.iload 4, 2) := by decide +kernel
theorem dX7_provesFork_22 : decode cX7_provesFork 22 = .ok (.iconst 1, 1) := by decide +kernel
theorem dX7_provesFork_23 : decode cX7_provesFork 23 = .ok (.if_icmp .lt 57, 3) := by decide +kernel
theorem dX7_provesFork_26 : decode cX7_provesFork 26 = .ok (.iload 4, 2) := by decide +kernel
theorem dX7_provesFork_28 : decode cX7_provesFork 28 = .ok (.aload_n 0, 1) := by decide +kernel
theorem dX7_provesFork_29 : decode cX7_provesFork 29 = .ok (.getfield 39, 3) := by decide +kernel
theorem dX7_provesFork_32 : decode cX7_provesFork 32 = .ok (.getfield 81, 3) := by decide +kernel
theorem dX7_provesFork_35 : decode cX7_provesFork 35 = .ok (.if_icmp .gt 45, 3) := by decide +kernel
theorem dX7_provesFork_38 : decode cX7_provesFork 38 = .ok (.aload_n 1, 1) := by decide +kernel
theorem dX7_provesFork_39 : decode cX7_provesFork 39 = .ok (.iload_n 3, 1) := by decide +kernel
theorem dX7_provesFork_40 : decode cX7_provesFork 40 = .ok (.bipush 10, 2) := by decide +kernel
theorem dX7_provesFork_42 : decode cX7_provesFork 42 = .ok (.iadd, 1) := by decide +kernel
theorem dX7_provesFork_43 : decode cX7_provesFork 43 = .ok (.bipush 8, 2) := by decide +kernel
theorem dX7_provesFork_45 : decode cX7_provesFork 45 = .ok (.invokevirtual 349, 3) := by decide +kernel
theorem dX7_provesFork_48 : decode cX7_provesFork 48 = .ok (.iload_n 2, 1) := by decide +kernel
theorem dX7_provesFork_49 : decode cX7_provesFork 49 = .ok (.iload 4, 2) := by decide +kernel
theorem dX7_provesFork_51 : decode cX7_provesFork 51 = .ok (.lload 5, 2) := by decide +kernel
theorem dX7_provesFork_53 : decode cX7_provesFork 53 = .ok (.invokestatic 248, 3) := by decide +kernel
theorem dX7_provesFork_56 : decode cX7_provesFork 56 = .ok (.lcmp, 1) := by decide +kernel
theorem dX7_provesFork_57 : decode cX7_provesFork 57 = .ok (.ifCond .ne 23, 3) := by decide +kernel
theorem dX7_provesFork_60 : decode cX7_provesFork 60 = .ok (.lload 5, 2) := by decide +kernel
theorem dX7_provesFork_62 : decode cX7_provesFork 62 = .ok (.aload_n 0, 1) := by decide +kernel
theorem dX7_provesFork_63 : decode cX7_provesFork 63 = .ok (.getfield 39, 3) := by decide +kernel
theorem dX7_provesFork_66 : decode cX7_provesFork 66 = .ok (.getfield 192, 3) := by decide +kernel
theorem dX7_provesFork_69 : decode cX7_provesFork 69 = .ok (.iload 4, 2) := by decide +kernel
theorem dX7_provesFork_71 : decode cX7_provesFork 71 = .ok (.laload, 1) := by decide +kernel
theorem dX7_provesFork_72 : decode cX7_provesFork 72 = .ok (.lcmp, 1) := by decide +kernel
theorem dX7_provesFork_73 : decode cX7_provesFork 73 = .ok (.ifCond .eq 7, 3) := by decide +kernel
theorem dX7_provesFork_76 : decode cX7_provesFork 76 = .ok (.iconst 1, 1) := by decide +kernel
theorem dX7_provesFork_77 : decode cX7_provesFork 77 = .ok (.goto 4, 3) := by decide +kernel
theorem dX7_provesFork_80 : decode cX7_provesFork 80 = .ok (.iconst 0, 1) := by decide +kernel
theorem dX7_provesFork_81 : decode cX7_provesFork 81 = .ok (.ireturn, 1) := by decide +kernel
set_option maxRecDepth 20000 in
theorem ggX7_provesRun_X7_firstWrong : GoodIn wsX7_provesRun wsX7_firstWrong := goodIn_r _ [6, 7, 8, 9, 10, 11, 12, 13, 14, 15, 16, 17, 18, 19, 20, 21, 22, 23, 5, 24, 25, 26, 27, 28, 29, 30, 31, 32, 33, 34, 35, 36, 37, 38, 39, 40, 41, 42, 43, 54, 55, 56, 57, 58, 59, 60, 61, 62, 63, 64, 65, 66, 67, 68, 69, 70, 71, 72] (by decide +kernel) (by decide +kernel)
set_option maxRecDepth 20000 in
theorem gX7_provesRun_X7_firstWrong : GoodIn wsX7_provesRun (wsV RX7 304 RX7 yX7_firstWrong wsX7_firstWrong) := goodIn_app (goodIn_of _ (by decide +kernel)) ggX7_provesRun_X7_firstWrong
set_option maxRecDepth 20000 in
theorem ggX7_provesRun_X0_numberAt : GoodIn wsX7_provesRun wsX0_numberAt := goodIn_r _ [48, 49, 50, 51, 47, 52, 53, 73, 74] (by decide +kernel) (by decide +kernel)
set_option maxRecDepth 20000 in
theorem gX7_provesRun_X0_numberAt : GoodIn wsX7_provesRun (wsV RX7 349 RX0 yX0_numberAt wsX0_numberAt) := goodIn_app (goodIn_of _ (by decide +kernel)) ggX7_provesRun_X0_numberAt
theorem dX7_provesRun_0 : decode cX7_provesRun 0 = .ok (.aload_n 0, 1) := by decide +kernel
theorem dX7_provesRun_1 : decode cX7_provesRun 1 = .ok (.iload_n 2, 1) := by decide +kernel
theorem dX7_provesRun_2 : decode cX7_provesRun 2 = .ok (.aload_n 0, 1) := by decide +kernel
theorem dX7_provesRun_3 : decode cX7_provesRun 3 = .ok (.getfield 39, 3) := by decide +kernel
theorem dX7_provesRun_6 : decode cX7_provesRun 6 = .ok (.invokevirtual 304, 3) := by decide +kernel
theorem dX7_provesRun_9 : decode cX7_provesRun 9 = .ok (.istore 4, 2) := by decide +kernel
theorem dX7_provesRun_11 : decode cX7_provesRun 11 = .ok (.iload 4, 2) := by decide +kernel
theorem dX7_provesRun_13 : decode cX7_provesRun 13 = .ok (.iconst (-1), 1) := by decide +kernel
theorem dX7_provesRun_14 : decode cX7_provesRun 14 = .ok (.if_icmp .eq 20, 3) := by decide +kernel
theorem dX7_provesRun_17 : decode cX7_provesRun 17 = .ok (.iload 4, 2) := by decide +kernel
theorem dX7_provesRun_19 : decode cX7_provesRun 19 = .ok (.i2l, 1) := by decide +kernel
theorem dX7_provesRun_20 : decode cX7_provesRun 20 = .ok (.aload_n 1, 1) := by decide +kernel
theorem dX7_provesRun_21 : decode cX7_provesRun 21 = .ok (.iload_n 3, 1) := by decide +kernel
theorem dX7_provesRun_22 : decode cX7_provesRun 22 = .ok (.iconst 2, 1) := by decide +kernel
theorem dX7_provesRun_23 : decode cX7_provesRun 23 = .ok (.invokevirtual 349, 3) := by decide +kernel
theorem dX7_provesRun_26 : decode cX7_provesRun 26 = .ok (.lcmp, 1) := by decide +kernel
theorem dX7_provesRun_27 : decode cX7_provesRun 27 = .ok (.ifCond .ne 7, 3) := by decide +kernel
theorem dX7_provesRun_30 : decode cX7_provesRun 30 = .ok (.iconst 1, 1) := by decide +kernel
theorem dX7_provesRun_31 : decode cX7_provesRun 31 = .ok (.goto 4, 3) := by decide +kernel
theorem dX7_provesRun_34 : decode cX7_provesRun 34 = .ok (.iconst 0, 1) := by decide +kernel
theorem dX7_provesRun_35 : decode cX7_provesRun 35 = .ok (.ireturn, 1) := by decide +kernel
