theorem dX0_init_0 : decode cX0_init 0 = .ok (.aload_n 0, 1) := by decide +kernel
theorem dX0_init_1 : decode cX0_init 1 = .ok (.invokespecial 3, 3) := by decide +kernel
theorem dX0_init_4 : decode cX0_init 4 = .ok (.aload_n 0, 1) := by decide +kernel
theorem dX0_init_5 : decode cX0_init 5 = .ok (.sipush 930, 3) := by decide +kernel
theorem dX0_init_8 : decode cX0_init 8 = .ok (.newarray .byte, 2) := by decide +kernel
theorem dX0_init_10 : decode cX0_init 10 = .ok (.putfield 9, 3) := by decide +kernel
theorem dX0_init_13 : decode cX0_init 13 = .ok (.return_, 1) := by decide +kernel
theorem dX0_hasByte_0 : decode cX0_hasByte 0 = .ok (.iload_n 1, 1) := by decide +kernel
theorem dX0_hasByte_1 : decode cX0_hasByte 1 = .ok (.ifCond .lt 15, 3) := by decide +kernel
theorem dX0_hasByte_4 : decode cX0_hasByte 4 = .ok (.iload_n 1, 1) := by decide +kernel
theorem dX0_hasByte_5 : decode cX0_hasByte 5 = .ok (.aload_n 0, 1) := by decide +kernel
theorem dX0_hasByte_6 : decode cX0_hasByte 6 = .ok (.getfield 15, 3) := by decide +kernel
theorem dX0_hasByte_9 : decode cX0_hasByte 9 = .ok (.if_icmp .ge 7, 3) := by decide +kernel
theorem dX0_hasByte_12 : decode cX0_hasByte 12 = .ok (.iconst 1, 1) := by decide +kernel
theorem dX0_hasByte_13 : decode cX0_hasByte 13 = .ok (.goto 4, 3) := by decide +kernel
theorem dX0_hasByte_16 : decode cX0_hasByte 16 = .ok (.iconst 0, 1) := by decide +kernel
theorem dX0_hasByte_17 : decode cX0_hasByte 17 = .ok (.ireturn, 1) := by decide +kernel
theorem dX0_byteAt_0 : decode cX0_byteAt 0 = .ok (.aload_n 0, 1) := by decide +kernel
theorem dX0_byteAt_1 : decode cX0_byteAt 1 = .ok (.getfield 9, 3) := by decide +kernel
theorem dX0_byteAt_4 : decode cX0_byteAt 4 = .ok (.iload_n 1, 1) := by decide +kernel
theorem dX0_byteAt_5 : decode cX0_byteAt 5 = .ok (.baload, 1) := by decide +kernel
theorem dX0_byteAt_6 : decode cX0_byteAt 6 = .ok (.sipush 255, 3) := by decide +kernel
theorem dX0_byteAt_9 : decode cX0_byteAt 9 = .ok (.iand, 1) := by decide +kernel
theorem dX0_byteAt_10 : decode cX0_byteAt 10 = .ok (.ireturn, 1) := by decide +kernel
theorem dX0_append_0 : decode cX0_append 0 = .ok (.bipush 8, 2) := by decide +kernel
theorem dX0_append_2 : decode cX0_append 2 = .ok (.iload_n 3, 1) := by decide +kernel
theorem dX0_append_3 : decode cX0_append 3 = .ok (.imul, 1) := by decide +kernel
theorem dX0_append_4 : decode cX0_append 4 = .ok (.bipush 8, 2) := by decide +kernel
theorem dX0_append_6 : decode cX0_append 6 = .ok (.isub, 1) := by decide +kernel
theorem dX0_append_7 : decode cX0_append 7 = .ok (.istore 4, 2) := by decide +kernel
theorem dX0_append_9 : decode cX0_append 9 = .ok (.iload 4, 2) := by decide +kernel
theorem dX0_append_11 : decode cX0_append 11 = .ok (.ifCond .lt 44, 3) := by decide +kernel
theorem dX0_append_14 : decode cX0_append 14 = .ok (.aload_n 0, 1) := by decide +kernel
theorem dX0_append_15 : decode cX0_append 15 = .ok (.getfield 15, 3) := by decide +kernel
theorem dX0_append_18 : decode cX0_append 18 = .ok (.sipush 930, 3) := by decide +kernel
theorem dX0_append_21 : decode cX0_append 21 = .ok (.if_icmp .ge 34, 3) := by decide +kernel
theorem dX0_append_24 : decode cX0_append 24 = .ok (.aload_n 0, 1) := by decide +kernel
theorem dX0_append_25 : decode cX0_append 25 = .ok (.getfield 9, 3) := by decide +kernel
theorem dX0_append_28 : decode cX0_append 28 = .ok (.aload_n 0, 1) := by decide +kernel
theorem dX0_append_29 : decode cX0_append 29 = .ok (.getfield 15, 3) := by decide +kernel
theorem dX0_append_32 : decode cX0_append 32 = .ok (.lload_n 1, 1) := by decide +kernel
theorem dX0_append_33 : decode cX0_append 33 = .ok (.iload 4, 2) := by decide +kernel
theorem dX0_append_35 : decode cX0_append 35 = .ok (.lushr, 1) := by decide +kernel
theorem dX0_append_36 : decode cX0_append 36 = .ok (.l2i, 1) := by decide +kernel
theorem dX0_append_37 : decode cX0_append 37 = .ok (.i2b, 1) := by decide +kernel
theorem dX0_append_38 : decode cX0_append 38 = .ok (.bastore, 1) := by decide +kernel
theorem dX0_append_39 : decode cX0_append 39 = .ok (.aload_n 0, 1) := by decide +kernel
theorem dX0_append_40 : decode cX0_append 40 = .ok (.dup, 1) := by decide +kernel
theorem dX0_append_41 : decode cX0_append 41 = .ok (.getfield 15, 3) := by decide +kernel
theorem dX0_append_44 : decode cX0_append 44 = .ok (.iconst 1, 1) := by decide +kernel
theorem dX0_append_45 : decode cX0_append 45 = .ok (.iadd, 1) := by decide +kernel
theorem dX0_append_46 : decode cX0_append 46 = .ok (.putfield 15, 3) := by decide +kernel
theorem dX0_append_49 : decode cX0_append 49 = .ok (.iinc 4 (-8), 3) := by decide +kernel
theorem dX0_append_52 : decode cX0_append 52 = .ok (.goto (-43), 3) := by decide +kernel
theorem dX0_append_55 : decode cX0_append 55 = .ok (.return_, 1) := by decide +kernel
set_option maxRecDepth 20000 in
theorem ggX0_numberAt_X0_byteAt : GoodIn wsX0_numberAt wsX0_byteAt := goodIn_r _ [5, 6, 7, 8] (by decide +kernel) (by decide +kernel)
set_option maxRecDepth 20000 in
theorem gX0_numberAt_X0_byteAt : GoodIn wsX0_numberAt (wsV RX0 19 RX0 yX0_byteAt wsX0_byteAt) := goodIn_app (goodIn_of _ (by decide +kernel)) ggX0_numberAt_X0_byteAt
theorem dX0_numberAt_0 : decode cX0_numberAt 0 = .ok (.lconst 0, 1) := by decide +kernel
theorem dX0_numberAt_1 : decode cX0_numberAt 1 = .ok (.lstore_n 3, 1) := by decide +kernel
theorem dX0_numberAt_2 : decode cX0_numberAt 2 = .ok (.iload_n 1, 1) := by decide +kernel
theorem dX0_numberAt_3 : decode cX0_numberAt 3 = .ok (.istore 5, 2) := by decide +kernel
theorem dX0_numberAt_5 : decode cX0_numberAt 5 = .ok (.iload 5, 2) := by decide +kernel
theorem dX0_numberAt_7 : decode cX0_numberAt 7 = .ok (.iload_n 1, 1) := by decide +kernel
theorem dX0_numberAt_8 : decode cX0_numberAt 8 = .ok (.iload_n 2, 1) := by decide +kernel
theorem dX0_numberAt_9 : decode cX0_numberAt 9 = .ok (.iadd, 1) := by decide +kernel
theorem dX0_numberAt_10 : decode cX0_numberAt 10 = .ok (.if_icmp .ge 22, 3) := by decide +kernel
theorem dX0_numberAt_13 : decode cX0_numberAt 13 = .ok (.lload_n 3, 1) := by decide +kernel
theorem dX0_numberAt_14 : decode cX0_numberAt 14 = .ok (.bipush 8, 2) := by decide +kernel
theorem dX0_numberAt_16 : decode cX0_numberAt 16 = .ok (.lshl, 1) := by decide +kernel
theorem dX0_numberAt_17 : decode cX0_numberAt 17 = .ok (.aload_n 0, 1) := by decide +kernel
theorem dX0_numberAt_18 : decode cX0_numberAt 18 = .ok (.iload 5, 2) := by decide +kernel
theorem dX0_numberAt_20 : decode cX0_numberAt 20 = .ok (.invokevirtual 19, 3) := by decide +kernel
theorem dX0_numberAt_23 : decode cX0_numberAt 23 = .ok (.i2l, 1) := by decide +kernel
theorem dX0_numberAt_24 : decode cX0_numberAt 24 = .ok (.lor, 1) := by decide +kernel
theorem dX0_numberAt_25 : decode cX0_numberAt 25 = .ok (.lstore_n 3, 1) := by decide +kernel
theorem dX0_numberAt_26 : decode cX0_numberAt 26 = .ok (.iinc 5 1, 3) := by decide +kernel
theorem dX0_numberAt_29 : decode cX0_numberAt 29 = .ok (.goto (-24), 3) := by decide +kernel
theorem dX0_numberAt_32 : decode cX0_numberAt 32 = .ok (.lload_n 3, 1) := by decide +kernel
theorem dX0_numberAt_33 : decode cX0_numberAt 33 = .ok (.lreturn, 1) := by decide +kernel
set_option maxRecDepth 20000 in
theorem ggX0_isWhole_X0_byteAt : GoodIn wsX0_isWhole wsX0_byteAt := goodIn_r _ [6, 7, 12, 13] (by decide +kernel) (by decide +kernel)
set_option maxRecDepth 20000 in
theorem gX0_isWhole_X0_byteAt : GoodIn wsX0_isWhole (wsV RX0 19 RX0 yX0_byteAt wsX0_byteAt) := goodIn_app (goodIn_of _ (by decide +kernel)) ggX0_isWhole_X0_byteAt
set_option maxRecDepth 20000 in
theorem ggX0_isWhole_X0_numberAt : GoodIn wsX0_isWhole wsX0_numberAt := goodIn_r _ [11, 2, 3, 4, 5, 6, 7, 12, 13] (by decide +kernel) (by decide +kernel)
set_option maxRecDepth 20000 in
theorem gX0_isWhole_X0_numberAt : GoodIn wsX0_isWhole (wsV RX0 23 RX0 yX0_numberAt wsX0_numberAt) := goodIn_app (goodIn_of _ (by decide +kernel)) ggX0_isWhole_X0_numberAt
theorem dX0_isWhole_0 : decode cX0_isWhole 0 = .ok (.aload_n 0, 1) := by decide +kernel
theorem dX0_isWhole_1 : decode cX0_isWhole 1 = .ok (.getfield 15, 3) := by decide +kernel
theorem dX0_isWhole_4 : decode cX0_isWhole 4 = .ok (.iconst 4, 1) := by decide +kernel
theorem dX0_isWhole_5 : decode cX0_isWhole 5 = .ok (.if_icmp .lt 21, 3) := by decide +kernel
theorem dX0_isWhole_8 : decode cX0_isWhole 8 = .ok (.aload_n 0, 1) := by decide +kernel
theorem dX0_isWhole_9 : decode cX0_isWhole 9 = .ok (.iconst 0, 1) := by decide +kernel
theorem dX0_isWhole_10 : decode cX0_isWhole 10 = .ok (.invokevirtual 19, 3) := by decide +kernel
theorem dX0_isWhole_13 : decode cX0_isWhole 13 = .ok (.iconst 1, 1) := by decide +kernel
theorem dX0_isWhole_14 : decode cX0_isWhole 14 = .ok (.if_icmp .eq 14, 3) := by decide +kernel
theorem dX0_isWhole_17 : decode cX0_isWhole 17 = .ok (.aload_n 0, 1) := by decide +kernel
theorem dX0_isWhole_18 : decode cX0_isWhole 18 = .ok (.iconst 0, 1) := by decide +kernel
theorem dX0_isWhole_19 : decode cX0_isWhole 19 = .ok (.invokevirtual 19, 3) := by decide +kernel
theorem dX0_isWhole_22 : decode cX0_isWhole 22 = .ok (.iconst 2, 1) := by decide +kernel
theorem dX0_isWhole_23 : decode cX0_isWhole 23 = .ok (.if_icmp .eq 5, 3) := by decide +kernel
theorem dX0_isWhole_26 : decode cX0_isWhole 26 = .ok (.iconst 0, 1) := by decide +kernel
theorem dX0_isWhole_27 : decode cX0_isWhole 27 = .ok (.ireturn, 1) := by decide +kernel
theorem dX0_isWhole_28 : decode cX0_isWhole 28 = .ok (.aload_n 0, 1) := by decide +kernel
theorem dX0_isWhole_29 : decode cX0_isWhole 29 = .ok (.iconst 0, 1) := by decide +kernel
theorem dX0_isWhole_30 : decode cX0_isWhole 30 = .ok (.invokevirtual 19, 3) := by decide +kernel
theorem dX0_isWhole_33 : decode cX0_isWhole 33 = .ok (.iconst 1, 1) := by decide +kernel
theorem dX0_isWhole_34 : decode cX0_isWhole 34 = .ok (.if_icmp .ne 8, 3) := by decide +kernel
theorem dX0_isWhole_37 : decode cX0_isWhole 37 = .ok (.bipush 18, 2) := by decide +kernel
theorem dX0_isWhole_39 : decode cX0_isWhole 39 = .ok (.goto 4, 3) := by decide +kernel
theorem dX0_isWhole_42 : decode cX0_isWhole 42 = .ok (.iconst 2, 1) := by decide +kernel
theorem dX0_isWhole_43 : decode cX0_isWhole 43 = .ok (.istore_n 1, 1) := by decide +kernel
theorem dX0_isWhole_44 : decode cX0_isWhole 44 = .ok (.aload_n 0, 1) := by decide +kernel
theorem dX0_isWhole_45 : decode cX0_isWhole 45 = .ok (.iconst 2, 1) := by decide +kernel
theorem dX0_isWhole_46 : decode cX0_isWhole 46 = .ok (.iconst 2, 1) := by decide +kernel
theorem dX0_isWhole_47 : decode cX0_isWhole 47 = .ok (.invokevirtual 23, 3) := by decide +kernel
theorem dX0_isWhole_50 : decode cX0_isWhole 50 = .ok (.l2i, 1) := by decide +kernel
theorem dX0_isWhole_51 : decode cX0_isWhole 51 = .ok (.istore_n 2, 1) := by decide +kernel
theorem dX0_isWhole_52 : decode cX0_isWhole 52 = .ok (.aload_n 0, 1) := by decide +kernel
theorem dX0_isWhole_53 : decode cX0_isWhole 53 = .ok (.getfield 15, 3) := by decide +kernel
theorem dX0_isWhole_56 : decode cX0_isWhole 56 = .ok (.iconst 4, 1) := by decide +kernel
theorem dX0_isWhole_57 : decode cX0_isWhole 57 = .ok (.iload_n 2, 1) := by decide +kernel
theorem dX0_isWhole_58 : decode cX0_isWhole 58 = .ok (.bipush 6, 2) := by decide +kernel
theorem dX0_isWhole_60 : decode cX0_isWhole 60 = .ok (.imul, 1) := by decide +kernel
theorem dX0_isWhole_61 : decode cX0_isWhole 61 = .ok (.iadd, 1) := by decide +kernel
theorem dX0_isWhole_62 : decode cX0_isWhole 62 = .ok (.bipush 8, 2) := by decide +kernel
theorem dX0_isWhole_64 : decode cX0_isWhole 64 = .ok (.iadd, 1) := by decide +kernel
theorem dX0_isWhole_65 : decode cX0_isWhole 65 = .ok (.iload_n 1, 1) := by decide +kernel
theorem dX0_isWhole_66 : decode cX0_isWhole 66 = .ok (.iadd, 1) := by decide +kernel
theorem dX0_isWhole_67 : decode cX0_isWhole 67 = .ok (.if_icmp .ne 7, 3) := by decide +kernel
theorem dX0_isWhole_70 : decode cX0_isWhole 70 = .ok (.iconst 1, 1) := by decide +kernel
theorem dX0_isWhole_71 : decode cX0_isWhole 71 = .ok (.goto 4, 3) := by decide +kernel
theorem dX0_isWhole_74 : decode cX0_isWhole 74 = .ok (.iconst 0, 1) := by decide +kernel
theorem dX0_isWhole_75 : decode cX0_isWhole 75 = .ok (.ireturn, 1) := by decide +kernel
theorem dX1_init_0 : decode cX1_init 0 = .ok (.aload_n 0, 1) := by decide +kernel
theorem dX1_init_1 : decode cX1_init 1 = .ok (.invokespecial 1, 3) := by decide +kernel
theorem dX1_init_4 : decode cX1_init 4 = .ok (.return_, 1) := by decide +kernel
theorem dX1_address_0 : decode cX1_address 0 = .ok (.aload_n 0, 1) := by decide +kernel
theorem dX1_address_1 : decode cX1_address 1 = .ok (.iload_n 1, 1) := by decide +kernel
theorem dX1_address_2 : decode cX1_address 2 = .ok (.putfield 7, 3) := by decide +kernel
theorem dX1_address_5 : decode cX1_address 5 = .ok (.aload_n 0, 1) := by decide +kernel
theorem dX1_address_6 : decode cX1_address 6 = .ok (.iload_n 2, 1) := by decide +kernel
theorem dX1_address_7 : decode cX1_address 7 = .ok (.putfield 13, 3) := by decide +kernel
theorem dX1_address_10 : decode cX1_address 10 = .ok (.aload_n 0, 1) := by decide +kernel
theorem dX1_address_11 : decode cX1_address 11 = .ok (.iload_n 3, 1) := by decide +kernel
theorem dX1_address_12 : decode cX1_address 12 = .ok (.putfield 16, 3) := by decide +kernel
theorem dX1_address_15 : decode cX1_address 15 = .ok (.return_, 1) := by decide +kernel
theorem dX1_seal_0 : decode cX1_seal 0 = .ok (.aload_n 0, 1) := by decide +kernel
theorem dX1_seal_1 : decode cX1_seal 1 = .ok (.iload_n 1, 1) := by decide +kernel
theorem dX1_seal_2 : decode cX1_seal 2 = .ok (.putfield 19, 3) := by decide +kernel
theorem dX1_seal_5 : decode cX1_seal 5 = .ok (.aload_n 0, 1) := by decide +kernel
theorem dX1_seal_6 : decode cX1_seal 6 = .ok (.lload_n 2, 1) := by decide +kernel
theorem dX1_seal_7 : decode cX1_seal 7 = .ok (.putfield 22, 3) := by decide +kernel
theorem dX1_seal_10 : decode cX1_seal 10 = .ok (.aload_n 0, 1) := by decide +kernel
theorem dX1_seal_11 : decode cX1_seal 11 = .ok (.lload 4, 2) := by decide +kernel
theorem dX1_seal_13 : decode cX1_seal 13 = .ok (.putfield 26, 3) := by decide +kernel
theorem dX1_seal_16 : decode cX1_seal 16 = .ok (.return_, 1) := by decide +kernel
set_option maxRecDepth 20000 in
theorem ggX1_becomeLike_X1_address : GoodIn wsX1_becomeLike wsX1_address := goodIn_r _ [12, 1, 2, 3, 17, 18, 19, 20, 21, 22, 23] (by decide +kernel) (by decide +kernel)
set_option maxRecDepth 20000 in
theorem gX1_becomeLike_X1_address : GoodIn wsX1_becomeLike (wsV RX1 29 RX1 yX1_address wsX1_address) := goodIn_app (goodIn_of _ (by decide +kernel)) ggX1_becomeLike_X1_address
set_option maxRecDepth 20000 in
theorem ggX1_becomeLike_X1_seal : GoodIn wsX1_becomeLike wsX1_seal := goodIn_r _ [16, 5, 6, 7, 17, 18, 19, 20, 21, 22, 23] (by decide +kernel) (by decide +kernel)
set_option maxRecDepth 20000 in
theorem gX1_becomeLike_X1_seal : GoodIn wsX1_becomeLike (wsV RX1 36 RX1 yX1_seal wsX1_seal) := goodIn_app (goodIn_of _ (by decide +kernel)) ggX1_becomeLike_X1_seal
theorem dX1_becomeLike_0 : decode cX1_becomeLike 0 = .ok (.aload_n 0, 1) := by decide +kernel
theorem dX1_becomeLike_1 : decode cX1_becomeLike 1 = .ok (.aload_n 1, 1) := by decide +kernel
theorem dX1_becomeLike_2 : decode cX1_becomeLike 2 = .ok (.getfield 7, 3) := by decide +kernel
theorem dX1_becomeLike_5 : decode cX1_becomeLike 5 = .ok (.aload_n 1, 1) := by decide +kernel
theorem dX1_becomeLike_6 : decode cX1_becomeLike 6 = .ok (.getfield 13, 3) := by decide +kernel
theorem dX1_becomeLike_9 : decode cX1_becomeLike 9 = .ok (.aload_n 1, 1) := by decide +kernel
theorem dX1_becomeLike_10 : decode cX1_becomeLike 10 = .ok (.getfield 16, 3) := by decide +kernel
theorem dX1_becomeLike_13 : decode cX1_becomeLike 13 = .ok (.invokevirtual 29, 3) := by decide +kernel
theorem dX1_becomeLike_16 : decode cX1_becomeLike 16 = .ok (.aload_n 0, 1) := by decide +kernel
theorem dX1_becomeLike_17 : decode cX1_becomeLike 17 = .ok (.aload_n 1, 1) := by decide +kernel
theorem dX1_becomeLike_18 : decode cX1_becomeLike 18 = .ok (.getfield 33, 3) := by decide +kernel
theorem dX1_becomeLike_21 : decode cX1_becomeLike 21 = .ok (.putfield 33, 3) := by decide +kernel
theorem dX1_becomeLike_24 : decode cX1_becomeLike 24 = .ok (.aload_n 0, 1) := by decide +kernel
theorem dX1_becomeLike_25 : decode cX1_becomeLike 25 = .ok (.aload_n 1, 1) := by decide +kernel
theorem dX1_becomeLike_26 : decode cX1_becomeLike 26 = .ok (.getfield 19, 3) := by decide +kernel
theorem dX1_becomeLike_29 : decode cX1_becomeLike 29 = .ok (.aload_n 1, 1) := by decide +kernel
theorem dX1_becomeLike_30 : decode cX1_becomeLike 30 = .ok (.getfield 22, 3) := by decide +kernel
theorem dX1_becomeLike_33 : decode cX1_becomeLike 33 = .ok (.aload_n 1, 1) := by decide +kernel
theorem dX1_becomeLike_34 : decode cX1_becomeLike 34 = .ok (.getfield 26, 3) := by decide +kernel
theorem dX1_becomeLike_37 : decode cX1_becomeLike 37 = .ok (.invokevirtual 36, 3) := by decide +kernel
theorem dX1_becomeLike_40 : decode cX1_becomeLike 40 = .ok (.return_, 1) := by decide +kernel
theorem dX2_init_0 : decode cX2_init 0 = .ok (.aload_n 0, 1) := by decide +kernel
theorem dX2_init_1 : decode cX2_init 1 = .ok (.invokespecial 3, 3) := by decide +kernel
theorem dX2_init_4 : decode cX2_init 4 = .ok (.aload_n 0, 1) := by decide +kernel
theorem dX2_init_5 : decode cX2_init 5 = .ok (.sipush 151, 3) := by decide +kernel
theorem dX2_init_8 : decode cX2_init 8 = .ok (.newarray .int, 2) := by decide +kernel
theorem dX2_init_10 : decode cX2_init 10 = .ok (.putfield 9, 3) := by decide +kernel
theorem dX2_init_13 : decode cX2_init 13 = .ok (.aload_n 0, 1) := by decide +kernel
theorem dX2_init_14 : decode cX2_init 14 = .ok (.sipush 151, 3) := by decide +kernel
theorem dX2_init_17 : decode cX2_init 17 = .ok (.newarray .int, 2) := by decide +kernel
theorem dX2_init_19 : decode cX2_init 19 = .ok (.putfield 15, 3) := by decide +kernel
theorem dX2_init_22 : decode cX2_init 22 = .ok (.aload_n 0, 1) := by decide +kernel
theorem dX2_init_23 : decode cX2_init 23 = .ok (.sipush 151, 3) := by decide +kernel
theorem dX2_init_26 : decode cX2_init 26 = .ok (.newarray .int, 2) := by decide +kernel
theorem dX2_init_28 : decode cX2_init 28 = .ok (.putfield 18, 3) := by decide +kernel
theorem dX2_init_31 : decode cX2_init 31 = .ok (.aload_n 0, 1) := by decide +kernel
theorem dX2_init_32 : decode cX2_init 32 = .ok (.sipush 151, 3) := by decide +kernel
theorem dX2_init_35 : decode cX2_init 35 = .ok (.newarray .long, 2) := by decide +kernel
theorem dX2_init_37 : decode cX2_init 37 = .ok (.putfield 21, 3) := by decide +kernel
theorem dX2_init_40 : decode cX2_init 40 = .ok (.return_, 1) := by decide +kernel
theorem dX2_hasTwoPlaces_0 : decode cX2_hasTwoPlaces 0 = .ok (.aload_n 0, 1) := by decide +kernel
theorem dX2_hasTwoPlaces_1 : decode cX2_hasTwoPlaces 1 = .ok (.getfield 25, 3) := by decide +kernel
theorem dX2_hasTwoPlaces_4 : decode cX2_hasTwoPlaces 4 = .ok (.iconst 2, 1) := by decide +kernel
theorem dX2_hasTwoPlaces_5 : decode cX2_hasTwoPlaces 5 = .ok (.iadd, 1) := by decide +kernel
theorem dX2_hasTwoPlaces_6 : decode cX2_hasTwoPlaces 6 = .ok (.sipush 150, 3) := by decide +kernel
theorem dX2_hasTwoPlaces_9 : decode cX2_hasTwoPlaces 9 = .ok (.if_icmp .gt 7, 3) := by decide +kernel
theorem dX2_hasTwoPlaces_12 : decode cX2_hasTwoPlaces 12 = .ok (.iconst 1, 1) := by decide +kernel
theorem dX2_hasTwoPlaces_13 : decode cX2_hasTwoPlaces 13 = .ok (.goto 4, 3) := by decide +kernel
theorem dX2_hasTwoPlaces_16 : decode cX2_hasTwoPlaces 16 = .ok (.iconst 0, 1) := by decide +kernel
theorem dX2_hasTwoPlaces_17 : decode cX2_hasTwoPlaces 17 = .ok (.ireturn, 1) := by decide +kernel
set_option maxRecDepth 20000 in
theorem ggX2_append_X7_headBehind : GoodIn wsX2_append wsX7_headBehind := goodIn_r _ [8, 9, 10, 11, 7, 12, 13] (by decide +kernel) (by decide +kernel)
set_option maxRecDepth 20000 in
theorem gX2_append_X7_headBehind_n29 : GoodIn wsX2_append (wsX7_headBehind) := ggX2_append_X7_headBehind
theorem dX2_append_0 : decode cX2_append 0 = .ok (.aload_n 0, 1) := by decide +kernel
theorem dX2_append_1 : decode cX2_append 1 = .ok (.getfield 25, 3) := by decide +kernel
theorem dX2_append_4 : decode cX2_append 4 = .ok (.sipush 150, 3) := by decide +kernel
theorem dX2_append_7 : decode cX2_append 7 = .ok (.if_icmp .ge 69, 3) := by decide +kernel
theorem dX2_append_10 : decode cX2_append 10 = .ok (.aload_n 0, 1) := by decide +kernel
theorem dX2_append_11 : decode cX2_append 11 = .ok (.dup, 1) := by decide +kernel
theorem dX2_append_12 : decode cX2_append 12 = .ok (.getfield 25, 3) := by decide +kernel
theorem dX2_append_15 : decode cX2_append 15 = .ok (.iconst 1, 1) := by decide +kernel
theorem dX2_append_16 : decode cX2_append 16 = .ok (.iadd, 1) := by decide +kernel
theorem dX2_append_17 : decode cX2_append 17 = .ok (.putfield 25, 3) := by decide +kernel
theorem dX2_append_20 : decode cX2_append 20 = .ok (.aload_n 0, 1) := by decide +kernel
theorem dX2_append_21 : decode cX2_append 21 = .ok (.getfield 9, 3) := by decide +kernel
theorem dX2_append_24 : decode cX2_append 24 = .ok (.aload_n 0, 1) := by decide +kernel
theorem dX2_append_25 : decode cX2_append 25 = .ok (.getfield 25, 3) := by decide +kernel
theorem dX2_append_28 : decode cX2_append 28 = .ok (.iload_n 1, 1) := by decide +kernel
theorem dX2_append_29 : decode cX2_append 29 = .ok (.iastore, 1) := by decide +kernel
theorem dX2_append_30 : decode cX2_append 30 = .ok (.aload_n 0, 1) := by decide +kernel
theorem dX2_append_31 : decode cX2_append 31 = .ok (.getfield 15, 3) := by decide +kernel
theorem dX2_append_34 : decode cX2_append 34 = .ok (.aload_n 0, 1) := by decide +kernel
theorem dX2_append_35 : decode cX2_append 35 = .ok (.getfield 25, 3) := by decide +kernel
theorem dX2_append_38 : decode cX2_append 38 = .ok (.iload_n 2, 1) := by decide +kernel
theorem dX2_append_39 : decode cX2_append 39 = .ok (.iastore, 1) := by decide +kernel
theorem dX2_append_40 : decode cX2_append 40 = .ok (.aload_n 0, 1) := by decide +kernel
theorem dX2_append_41 : decode cX2_append 41 = .ok (.getfield 18, 3) := by decide +kernel
theorem dX2_append_44 : decode cX2_append 44 = .ok (.aload_n 0, 1) := by decide +kernel
theorem dX2_append_45 : decode cX2_append 45 = .ok (.getfield 25, 3) := by decide +kernel
theorem dX2_append_48 : decode cX2_append 48 = .ok (.iload_n 3, 1) := by decide +kernel
theorem dX2_append_49 : decode cX2_append 49 = .ok (.iastore, 1) := by decide +kernel
theorem dX2_append_50 : decode cX2_append 50 = .ok (.aload_n 0, 1) := by decide +kernel
theorem dX2_append_51 : decode cX2_append 51 = .ok (.getfield 21, 3) := by decide +kernel
theorem dX2_append_54 : decode cX2_append 54 = .ok (.aload_n 0, 1) := by decide +kernel
theorem dX2_append_55 : decode cX2_append 55 = .ok (.getfield 25, 3) := by decide +kernel
theorem dX2_append_58 : decode cX2_append 58 = .ok (.aload_n 0, 1) := by decide +kernel
theorem dX2_append_59 : decode cX2_append 59 = .ok (.getfield 21, 3) := by decide +kernel
theorem dX2_append_62 : decode cX2_append 62 = .ok (.aload_n 0, 1) := by decide +kernel
theorem dX2_append_63 : decode cX2_append 63 = .ok (.getfield 25, 3) := by decide +kernel
theorem dX2_append_66 : decode cX2_append 66 = .ok (.iconst 1, 1) := by decide +kernel
theorem dX2_append_67 : decode cX2_append 67 = .ok (.isub, 1) := by decide +kernel
theorem dX2_append_68 : decode cX2_append 68 = .ok (.laload, 1) := by decide +kernel
theorem dX2_append_69 : decode cX2_append 69 = .ok (.iload_n 1, 1) := by decide +kernel
theorem dX2_append_70 : decode cX2_append 70 = .ok (.iload_n 2, 1) := by decide +kernel
theorem dX2_append_71 : decode cX2_append 71 = .ok (.iload_n 3, 1) := by decide +kernel
theorem dX2_append_72 : decode cX2_append 72 = .ok (.invokestatic 29, 3) := by decide +kernel
theorem dX2_append_75 : decode cX2_append 75 = .ok (.lastore, 1) := by decide +kernel
theorem dX2_append_76 : decode cX2_append 76 = .ok (.return_, 1) := by decide +kernel
set_option maxRecDepth 20000 in
theorem ggX2_rewrite_X7_headBehind : GoodIn wsX2_rewrite wsX7_headBehind := goodIn_r _ [8, 9, 10, 11, 7, 12, 13] (by decide +kernel) (by decide +kernel)
set_option maxRecDepth 20000 in
theorem gX2_rewrite_X7_headBehind_n29 : GoodIn wsX2_rewrite (wsX7_headBehind) := ggX2_rewrite_X7_headBehind
theorem dX2_rewrite_0 : decode cX2_rewrite 0 = .ok (.aload_n 0, 1) := by decide +kernel
theorem dX2_rewrite_1 : decode cX2_rewrite 1 = .ok (.getfield 18, 3) := by decide +kernel
theorem dX2_rewrite_4 : decode cX2_rewrite 4 = .ok (.iload_n 1, 1) := by decide +kernel
theorem dX2_rewrite_5 : decode cX2_rewrite 5 = .ok (.iload_n 2, 1) := by decide +kernel
theorem dX2_rewrite_6 : decode cX2_rewrite 6 = .ok (.iastore, 1) := by decide +kernel
theorem dX2_rewrite_7 : decode cX2_rewrite 7 = .ok (.iload_n 1, 1) := by decide +kernel
theorem dX2_rewrite_8 : decode cX2_rewrite 8 = .ok (.istore_n 3, 1) := by decide +kernel
theorem dX2_rewrite_9 : decode cX2_rewrite 9 = .ok (.iload_n 3, 1) := by decide +kernel
theorem dX2_rewrite_10 : decode cX2_rewrite 10 = .ok (.aload_n 0, 1) := by decide +kernel
theorem dX2_rewrite_11 : decode cX2_rewrite 11 = .ok (.getfield 25, 3) := by decide +kernel
theorem dX2_rewrite_14 : decode cX2_rewrite 14 = .ok (.if_icmp .gt 44, 3) := by decide +kernel
theorem dX2_rewrite_17 : decode cX2_rewrite 17 = .ok (.aload_n 0, 1) := by decide +kernel
theorem dX2_rewrite_18 : decode cX2_rewrite 18 = .ok (.getfield 21, 3) := by decide +kernel
theorem dX2_rewrite_21 : decode cX2_rewrite 21 = .ok (.iload_n 3, 1) := by decide +kernel
theorem dX2_rewrite_22 : decode cX2_rewrite 22 = .ok (.aload_n 0, 1) := by decide +kernel
theorem dX2_rewrite_23 : decode cX2_rewrite 23 = .ok (.getfield 21, 3) := by decide +kernel
theorem dX2_rewrite_26 : decode cX2_rewrite 26 = .ok (.iload_n 3, 1) := by decide +kernel
theorem dX2_rewrite_27 : decode cX2_rewrite 27 = .ok (.iconst 1, 1) := by decide +kernel
theorem dX2_rewrite_28 : decode cX2_rewrite 28 = .ok (.isub, 1) := by decide +kernel
theorem dX2_rewrite_29 : decode cX2_rewrite 29 = .ok (.laload, 1) := by decide +kernel
theorem dX2_rewrite_30 : decode cX2_rewrite 30 = .ok (.aload_n 0, 1) := by decide +kernel
theorem dX2_rewrite_31 : decode cX2_rewrite 31 = .ok (.getfield 9, 3) := by decide +kernel
theorem dX2_rewrite_34 : decode cX2_rewrite 34 = .ok (.iload_n 3, 1) := by decide +kernel
theorem dX2_rewrite_35 : decode cX2_rewrite 35 = .ok (.iaload, 1) := by decide +kernel
theorem dX2_rewrite_36 : decode cX2_rewrite 36 = .ok (.aload_n 0, 1) := by decide +kernel
theorem dX2_rewrite_37 : decode cX2_rewrite 37 = .ok (.getfield 15, 3) := by decide +kernel
theorem dX2_rewrite_40 : decode cX2_rewrite 40 = .ok (.iload_n 3, 1) := by decide +kernel
theorem dX2_rewrite_41 : decode cX2_rewrite 41 = .ok (.iaload, 1) := by decide +kernel
theorem dX2_rewrite_42 : decode cX2_rewrite 42 = .ok (.aload_n 0, 1) := by decide +kernel
theorem dX2_rewrite_43 : decode cX2_rewrite 43 = .ok (.getfield 18, 3) := by decide +kernel
theorem dX2_rewrite_46 : decode cX2_rewrite 46 = .ok (.iload_n 3, 1) := by decide +kernel
theorem dX2_rewrite_47 : decode cX2_rewrite 47 = .ok (.iaload, 1) := by decide +kernel
theorem dX2_rewrite_48 : decode cX2_rewrite 48 = .ok (.invokestatic 29, 3) := by decide +kernel
theorem dX2_rewrite_51 : decode cX2_rewrite 51 = .ok (.lastore, 1) := by decide +kernel
theorem dX2_rewrite_52 : decode cX2_rewrite 52 = .ok (.iinc 3 1, 3) := by decide +kernel
theorem dX2_rewrite_55 : decode cX2_rewrite 55 = .ok (.goto (-46), 3) := by decide +kernel
theorem dX2_rewrite_58 : decode cX2_rewrite 58 = .ok (.return_, 1) := by decide +kernel
theorem dX3_init_0 : decode cX3_init 0 = .ok (.aload_n 0, 1) := by decide +kernel
theorem dX3_init_1 : decode cX3_init 1 = .ok (.invokespecial 1, 3) := by decide +kernel
theorem dX3_init_4 : decode cX3_init 4 = .ok (.return_, 1) := by decide +kernel
theorem dX3_restart_0 : decode cX3_restart 0 = .ok (.aload_n 0, 1) := by decide +kernel
theorem dX3_restart_1 : decode cX3_restart 1 = .ok (.iload_n 1, 1) := by decide +kernel
theorem dX3_restart_2 : decode cX3_restart 2 = .ok (.putfield 7, 3) := by decide +kernel
theorem dX3_restart_5 : decode cX3_restart 5 = .ok (.aload_n 0, 1) := by decide +kernel
theorem dX3_restart_6 : decode cX3_restart 6 = .ok (.iload_n 2, 1) := by decide +kernel
theorem dX3_restart_7 : decode cX3_restart 7 = .ok (.putfield 13, 3) := by decide +kernel
theorem dX3_restart_10 : decode cX3_restart 10 = .ok (.aload_n 0, 1) := by decide +kernel
theorem dX3_restart_11 : decode cX3_restart 11 = .ok (.iconst 0, 1) := by decide +kernel
theorem dX3_restart_12 : decode cX3_restart 12 = .ok (.putfield 16, 3) := by decide +kernel
theorem dX3_restart_15 : decode cX3_restart 15 = .ok (.aload_n 0, 1) := by decide +kernel
theorem dX3_restart_16 : decode cX3_restart 16 = .ok (.iconst 0, 1) := by decide +kernel
theorem dX3_restart_17 : decode cX3_restart 17 = .ok (.putfield 19, 3) := by decide +kernel
theorem dX3_restart_20 : decode cX3_restart 20 = .ok (.aload_n 0, 1) := by decide +kernel
theorem dX3_restart_21 : decode cX3_restart 21 = .ok (.iconst 0, 1) := by decide +kernel
theorem dX3_restart_22 : decode cX3_restart 22 = .ok (.putfield 22, 3) := by decide +kernel
theorem dX3_restart_25 : decode cX3_restart 25 = .ok (.return_, 1) := by decide +kernel
theorem dX3_stepInput_0 : decode cX3_stepInput 0 = .ok (.aload_n 0, 1) := by decide +kernel
theorem dX3_stepInput_1 : decode cX3_stepInput 1 = .ok (.bipush 31, 2) := by decide +kernel
theorem dX3_stepInput_3 : decode cX3_stepInput 3 = .ok (.aload_n 0, 1) := by decide +kernel
theorem dX3_stepInput_4 : decode cX3_stepInput 4 = .ok (.getfield 16, 3) := by decide +kernel
theorem dX3_stepInput_7 : decode cX3_stepInput 7 = .ok (.imul, 1) := by decide +kernel
theorem dX3_stepInput_8 : decode cX3_stepInput 8 = .ok (.iload_n 1, 1) := by decide +kernel
theorem dX3_stepInput_9 : decode cX3_stepInput 9 = .ok (.iadd, 1) := by decide +kernel
theorem dX3_stepInput_10 : decode cX3_stepInput 10 = .ok (.putfield 16, 3) := by decide +kernel
theorem dX3_stepInput_13 : decode cX3_stepInput 13 = .ok (.aload_n 0, 1) := by decide +kernel
theorem dX3_stepInput_14 : decode cX3_stepInput 14 = .ok (.aload_n 0, 1) := by decide +kernel
theorem dX3_stepInput_15 : decode cX3_stepInput 15 = .ok (.getfield 16, 3) := by decide +kernel
theorem dX3_stepInput_18 : decode cX3_stepInput 18 = .ok (.iconst 1, 1) := by decide +kernel
theorem dX3_stepInput_19 : decode cX3_stepInput 19 = .ok (.iand, 1) := by decide +kernel
theorem dX3_stepInput_20 : decode cX3_stepInput 20 = .ok (.ifCond .ne 7, 3) := by decide +kernel
theorem dX3_stepInput_23 : decode cX3_stepInput 23 = .ok (.iconst 1, 1) := by decide +kernel
theorem dX3_stepInput_24 : decode cX3_stepInput 24 = .ok (.goto 4, 3) := by decide +kernel
theorem dX3_stepInput_27 : decode cX3_stepInput 27 = .ok (.iconst 0, 1) := by decide +kernel
theorem dX3_stepInput_28 : decode cX3_stepInput 28 = .ok (.putfield 22, 3) := by decide +kernel
theorem dX3_stepInput_31 : decode cX3_stepInput 31 = .ok (.aload_n 0, 1) := by decide +kernel
theorem dX3_stepInput_32 : decode cX3_stepInput 32 = .ok (.aload_n 0, 1) := by decide +kernel
theorem dX3_stepInput_33 : decode cX3_stepInput 33 = .ok (.getfield 7, 3) := by decide +kernel
theorem dX3_stepInput_36 : decode cX3_stepInput 36 = .ok (.iconst 1, 1) := by decide +kernel
theorem dX3_stepInput_37 : decode cX3_stepInput 37 = .ok (.iadd, 1) := by decide +kernel
theorem dX3_stepInput_38 : decode cX3_stepInput 38 = .ok (.aload_n 0, 1) := by decide +kernel
theorem dX3_stepInput_39 : decode cX3_stepInput 39 = .ok (.getfield 16, 3) := by decide +kernel
theorem dX3_stepInput_42 : decode cX3_stepInput 42 = .ok (.bipush 8, 2) := by decide +kernel
theorem dX3_stepInput_44 : decode cX3_stepInput 44 = .ok (.iushr, 1) := by decide +kernel
theorem dX3_stepInput_45 : decode cX3_stepInput 45 = .ok (.bipush 127, 2) := by decide +kernel
theorem dX3_stepInput_47 : decode cX3_stepInput 47 = .ok (.iand, 1) := by decide +kernel
theorem dX3_stepInput_48 : decode cX3_stepInput 48 = .ok (.aload_n 0, 1) := by decide +kernel
theorem dX3_stepInput_49 : decode cX3_stepInput 49 = .ok (.getfield 13, 3) := by decide +kernel
theorem dX3_stepInput_52 : decode cX3_stepInput 52 = .ok (.iconst 1, 1) := by decide +kernel
theorem dX3_stepInput_53 : decode cX3_stepInput 53 = .ok (.isub, 1) := by decide +kernel
theorem dX3_stepInput_54 : decode cX3_stepInput 54 = .ok (.irem, 1) := by decide +kernel
theorem dX3_stepInput_55 : decode cX3_stepInput 55 = .ok (.iadd, 1) := by decide +kernel
theorem dX3_stepInput_56 : decode cX3_stepInput 56 = .ok (.aload_n 0, 1) := by decide +kernel
theorem dX3_stepInput_57 : decode cX3_stepInput 57 = .ok (.getfield 13, 3) := by decide +kernel
theorem dX3_stepInput_60 : decode cX3_stepInput 60 = .ok (.irem, 1) := by decide +kernel
theorem dX3_stepInput_61 : decode cX3_stepInput 61 = .ok (.putfield 26, 3) := by decide +kernel
theorem dX3_stepInput_64 : decode cX3_stepInput 64 = .ok (.aload_n 0, 1) := by decide +kernel
theorem dX3_stepInput_65 : decode cX3_stepInput 65 = .ok (.aload_n 0, 1) := by decide +kernel
theorem dX3_stepInput_66 : decode cX3_stepInput 66 = .ok (.getfield 16, 3) := by decide +kernel
theorem dX3_stepInput_69 : decode cX3_stepInput 69 = .ok (.iconst 1, 1) := by decide +kernel
theorem dX3_stepInput_70 : decode cX3_stepInput 70 = .ok (.iushr, 1) := by decide +kernel
theorem dX3_stepInput_71 : decode cX3_stepInput 71 = .ok (.aload_n 0, 1) := by decide +kernel
theorem dX3_stepInput_72 : decode cX3_stepInput 72 = .ok (.getfield 19, 3) := by decide +kernel
theorem dX3_stepInput_75 : decode cX3_stepInput 75 = .ok (.ixor, 1) := by decide +kernel
theorem dX3_stepInput_76 : decode cX3_stepInput 76 = .ok (.putfield 29, 3) := by decide +kernel
theorem dX3_stepInput_79 : decode cX3_stepInput 79 = .ok (.return_, 1) := by decide +kernel
theorem dX3_stepReceipt_0 : decode cX3_stepReceipt 0 = .ok (.aload_n 0, 1) := by decide +kernel
theorem dX3_stepReceipt_1 : decode cX3_stepReceipt 1 = .ok (.getfield 19, 3) := by decide +kernel
theorem dX3_stepReceipt_4 : decode cX3_stepReceipt 4 = .ok (.iload_n 1, 1) := by decide +kernel
theorem dX3_stepReceipt_5 : decode cX3_stepReceipt 5 = .ok (.iload_n 2, 1) := by decide +kernel
theorem dX3_stepReceipt_6 : decode cX3_stepReceipt 6 = .ok (.iadd, 1) := by decide +kernel
theorem dX3_stepReceipt_7 : decode cX3_stepReceipt 7 = .ok (.ixor, 1) := by decide +kernel
theorem dX3_stepReceipt_8 : decode cX3_stepReceipt 8 = .ok (.istore_n 3, 1) := by decide +kernel
theorem dX3_stepReceipt_9 : decode cX3_stepReceipt 9 = .ok (.aload_n 0, 1) := by decide +kernel
theorem dX3_stepReceipt_10 : decode cX3_stepReceipt 10 = .ok (.iload_n 3, 1) := by decide +kernel
theorem dX3_stepReceipt_11 : decode cX3_stepReceipt 11 = .ok (.iconst 5, 1) := by decide +kernel
theorem dX3_stepReceipt_12 : decode cX3_stepReceipt 12 = .ok (.ishl, 1) := by decide +kernel
theorem dX3_stepReceipt_13 : decode cX3_stepReceipt 13 = .ok (.iload_n 3, 1) := by decide +kernel
theorem dX3_stepReceipt_14 : decode cX3_stepReceipt 14 = .ok (.bipush 27, 2) := by decide +kernel
theorem dX3_stepReceipt_16 : decode cX3_stepReceipt 16 = .ok (.iushr, 1) := by decide +kernel
theorem dX3_stepReceipt_17 : decode cX3_stepReceipt 17 = .ok (.ior, 1) := by decide +kernel
theorem dX3_stepReceipt_18 : decode cX3_stepReceipt 18 = .ok (.putfield 19, 3) := by decide +kernel
theorem dX3_stepReceipt_21 : decode cX3_stepReceipt 21 = .ok (.aload_n 0, 1) := by decide +kernel
theorem dX3_stepReceipt_22 : decode cX3_stepReceipt 22 = .ok (.aload_n 0, 1) := by decide +kernel
theorem dX3_stepReceipt_23 : decode cX3_stepReceipt 23 = .ok (.getfield 19, 3) := by decide +kernel
theorem dX3_stepReceipt_26 : decode cX3_stepReceipt 26 = .ok (.bipush 7, 2) := by decide +kernel
theorem dX3_stepReceipt_28 : decode cX3_stepReceipt 28 = .ok (.iand, 1) := by decide +kernel
theorem dX3_stepReceipt_29 : decode cX3_stepReceipt 29 = .ok (.ifCond .ne 7, 3) := by decide +kernel
theorem dX3_stepReceipt_32 : decode cX3_stepReceipt 32 = .ok (.iconst 1, 1) := by decide +kernel
theorem dX3_stepReceipt_33 : decode cX3_stepReceipt 33 = .ok (.goto 4, 3) := by decide +kernel
theorem dX3_stepReceipt_36 : decode cX3_stepReceipt 36 = .ok (.iconst 0, 1) := by decide +kernel
theorem dX3_stepReceipt_37 : decode cX3_stepReceipt 37 = .ok (.putfield 22, 3) := by decide +kernel
theorem dX3_stepReceipt_40 : decode cX3_stepReceipt 40 = .ok (.aload_n 0, 1) := by decide +kernel
theorem dX3_stepReceipt_41 : decode cX3_stepReceipt 41 = .ok (.iload_n 2, 1) := by decide +kernel
theorem dX3_stepReceipt_42 : decode cX3_stepReceipt 42 = .ok (.putfield 26, 3) := by decide +kernel
theorem dX3_stepReceipt_45 : decode cX3_stepReceipt 45 = .ok (.aload_n 0, 1) := by decide +kernel
theorem dX3_stepReceipt_46 : decode cX3_stepReceipt 46 = .ok (.aload_n 0, 1) := by decide +kernel
theorem dX3_stepReceipt_47 : decode cX3_stepReceipt 47 = .ok (.getfield 19, 3) := by decide +kernel
theorem dX3_stepReceipt_50 : decode cX3_stepReceipt 50 = .ok (.putfield 29, 3) := by decide +kernel
theorem dX3_stepReceipt_53 : decode cX3_stepReceipt 53 = .ok (.return_, 1) := by decide +kernel
set_option maxRecDepth 20000 in
theorem ggX4_init_X3_init : GoodIn wsX4_init wsX3_init := goodIn_r _ [22, 23, 2, 3] (by decide +kernel) (by decide +kernel)
set_option maxRecDepth 20000 in
theorem gX4_init_X3_init_n11 : GoodIn wsX4_init (wsX3_init) := ggX4_init_X3_init
set_option maxRecDepth 20000 in
theorem ggX4_init_X2_init : GoodIn wsX4_init wsX2_init := goodIn_r _ [25, 26, 2, 3, 16, 27, 28, 29, 30, 31, 54, 55, 56, 57, 58] (by decide +kernel) (by decide +kernel)
set_option maxRecDepth 20000 in
theorem gX4_init_X2_init_n20 : GoodIn wsX4_init (wsX2_init) := ggX4_init_X2_init
set_option maxRecDepth 20000 in
theorem ggX4_init_X6_init : GoodIn wsX4_init wsX6_init := goodIn_r _ [33, 34, 2, 3, 16, 35, 36, 30, 37, 18, 38, 59, 60, 61, 62, 63] (by decide +kernel) (by decide +kernel)
set_option maxRecDepth 20000 in
theorem gX4_init_X6_init_n27 : GoodIn wsX4_init (wsX6_init) := ggX4_init_X6_init
theorem dX4_init_0 : decode cX4_init 0 = .ok (.aload_n 0, 1) := by decide +kernel
theorem dX4_init_1 : decode cX4_init 1 = .ok (.invokespecial 3, 3) := by decide +kernel
theorem dX4_init_4 : decode cX4_init 4 = .ok (.aload_n 0, 1) := by decide +kernel
theorem dX4_init_5 : decode cX4_init 5 = .ok (.new 9, 3) := by decide +kernel
theorem dX4_init_8 : decode cX4_init 8 = .ok (.dup, 1) := by decide +kernel
theorem dX4_init_9 : decode cX4_init 9 = .ok (.invokespecial 11, 3) := by decide +kernel
theorem dX4_init_12 : decode cX4_init 12 = .ok (.putfield 12, 3) := by decide +kernel
theorem dX4_init_15 : decode cX4_init 15 = .ok (.aload_n 0, 1) := by decide +kernel
theorem dX4_init_16 : decode cX4_init 16 = .ok (.new 18, 3) := by decide +kernel
theorem dX4_init_19 : decode cX4_init 19 = .ok (.dup, 1) := by decide +kernel
theorem dX4_init_20 : decode cX4_init 20 = .ok (.invokespecial 20, 3) := by decide +kernel
theorem dX4_init_23 : decode cX4_init 23 = .ok (.putfield 21, 3) := by decide +kernel
theorem dX4_init_26 : decode cX4_init 26 = .ok (.aload_n 0, 1) := by decide +kernel
theorem dX4_init_27 : decode cX4_init 27 = .ok (.new 25, 3) := by decide +kernel
theorem dX4_init_30 : decode cX4_init 30 = .ok (.dup, 1) := by decide +kernel
theorem dX4_init_31 : decode cX4_init 31 = .ok (.invokespecial 27, 3) := by decide +kernel
theorem dX4_init_34 : decode cX4_init 34 = .ok (.putfield 28, 3) := by decide +kernel
theorem dX4_init_37 : decode cX4_init 37 = .ok (.aload_n 0, 1) := by decide +kernel
theorem dX4_init_38 : decode cX4_init 38 = .ok (.bipush 6, 2) := by decide +kernel
theorem dX4_init_40 : decode cX4_init 40 = .ok (.newarray .int, 2) := by decide +kernel
theorem dX4_init_42 : decode cX4_init 42 = .ok (.putfield 32, 3) := by decide +kernel
theorem dX4_init_45 : decode cX4_init 45 = .ok (.aload_n 0, 1) := by decide +kernel
theorem dX4_init_46 : decode cX4_init 46 = .ok (.sipush 906, 3) := by decide +kernel
theorem dX4_init_49 : decode cX4_init 49 = .ok (.newarray .boolean, 2) := by decide +kernel
theorem dX4_init_51 : decode cX4_init 51 = .ok (.putfield 36, 3) := by decide +kernel
theorem dX4_init_54 : decode cX4_init 54 = .ok (.aload_n 0, 1) := by decide +kernel
theorem dX4_init_55 : decode cX4_init 55 = .ok (.iload_n 1, 1) := by decide +kernel
theorem dX4_init_56 : decode cX4_init 56 = .ok (.putfield 40, 3) := by decide +kernel
theorem dX4_init_59 : decode cX4_init 59 = .ok (.return_, 1) := by decide +kernel
set_option maxRecDepth 20000 in
theorem ggX4_restart_X3_restart : GoodIn wsX4_restart wsX3_restart := goodIn_r _ [15, 16, 17, 18, 19, 20, 39, 40, 41, 42, 43, 44, 45] (by decide +kernel) (by decide +kernel)
set_option maxRecDepth 20000 in
theorem gX4_restart_X3_restart : GoodIn wsX4_restart (wsV RX4 44 RX3 yX3_restart wsX3_restart) := goodIn_app (goodIn_of _ (by decide +kernel)) ggX4_restart_X3_restart
theorem dX4_restart_0 : decode cX4_restart 0 = .ok (.aload_n 0, 1) := by decide +kernel
theorem dX4_restart_1 : decode cX4_restart 1 = .ok (.getfield 12, 3) := by decide +kernel
theorem dX4_restart_4 : decode cX4_restart 4 = .ok (.aload_n 0, 1) := by decide +kernel
theorem dX4_restart_5 : decode cX4_restart 5 = .ok (.getfield 40, 3) := by decide +kernel
theorem dX4_restart_8 : decode cX4_restart 8 = .ok (.iload_n 1, 1) := by decide +kernel
theorem dX4_restart_9 : decode cX4_restart 9 = .ok (.invokevirtual 44, 3) := by decide +kernel
theorem dX4_restart_12 : decode cX4_restart 12 = .ok (.aload_n 0, 1) := by decide +kernel
theorem dX4_restart_13 : decode cX4_restart 13 = .ok (.getfield 21, 3) := by decide +kernel
theorem dX4_restart_16 : decode cX4_restart 16 = .ok (.iconst 0, 1) := by decide +kernel
theorem dX4_restart_17 : decode cX4_restart 17 = .ok (.putfield 48, 3) := by decide +kernel
theorem dX4_restart_20 : decode cX4_restart 20 = .ok (.aload_n 0, 1) := by decide +kernel
theorem dX4_restart_21 : decode cX4_restart 21 = .ok (.getfield 28, 3) := by decide +kernel
theorem dX4_restart_24 : decode cX4_restart 24 = .ok (.iconst 0, 1) := by decide +kernel
theorem dX4_restart_25 : decode cX4_restart 25 = .ok (.putfield 51, 3) := by decide +kernel
theorem dX4_restart_28 : decode cX4_restart 28 = .ok (.aload_n 0, 1) := by decide +kernel
theorem dX4_restart_29 : decode cX4_restart 29 = .ok (.iconst 0, 1) := by decide +kernel
theorem dX4_restart_30 : decode cX4_restart 30 = .ok (.putfield 52, 3) := by decide +kernel
theorem dX4_restart_33 : decode cX4_restart 33 = .ok (.aload_n 0, 1) := by decide +kernel
theorem dX4_restart_34 : decode cX4_restart 34 = .ok (.iconst 0, 1) := by decide +kernel
theorem dX4_restart_35 : decode cX4_restart 35 = .ok (.putfield 55, 3) := by decide +kernel
theorem dX4_restart_38 : decode cX4_restart 38 = .ok (.iconst 0, 1) := by decide +kernel
theorem dX4_restart_39 : decode cX4_restart 39 = .ok (.istore_n 2, 1) := by decide +kernel
theorem dX4_restart_40 : decode cX4_restart 40 = .ok (.iload_n 2, 1) := by decide +kernel
theorem dX4_restart_41 : decode cX4_restart 41 = .ok (.aload_n 0, 1) := by decide +kernel
theorem dX4_restart_42 : decode cX4_restart 42 = .ok (.getfield 32, 3) := by decide +kernel
theorem dX4_restart_45 : decode cX4_restart 45 = .ok (.arraylength, 1) := by decide +kernel
theorem dX4_restart_46 : decode cX4_restart 46 = .ok (.if_icmp .ge 16, 3) := by decide +kernel
theorem dX4_restart_49 : decode cX4_restart 49 = .ok (.aload_n 0, 1) := by decide +kernel
theorem dX4_restart_50 : decode cX4_restart 50 = .ok (.getfield 32, 3) := by decide +kernel
theorem dX4_restart_53 : decode cX4_restart 53 = .ok (.iload_n 2, 1) := by decide +kernel
theorem dX4_restart_54 : decode cX4_restart 54 = .ok (.iconst 0, 1) := by decide +kernel
theorem dX4_restart_55 : decode cX4_restart 55 = .ok (.iastore, 1) := by decide +kernel
theorem dX4_restart_56 : decode cX4_restart 56 = .ok (.iinc 2 1, 3) := by decide +kernel
theorem dX4_restart_59 : decode cX4_restart 59 = .ok (.goto (-19), 3) := by decide +kernel
theorem dX4_restart_62 : decode cX4_restart 62 = .ok (.iconst 0, 1) := by decide +kernel
theorem dX4_restart_63 : decode cX4_restart 63 = .ok (.istore_n 2, 1) := by decide +kernel
theorem dX4_restart_64 : decode cX4_restart 64 = .ok (.iload_n 2, 1) := by decide +kernel
theorem dX4_restart_65 : decode cX4_restart 65 = .ok (.aload_n 0, 1) := by decide +kernel
theorem dX4_restart_66 : decode cX4_restart 66 = .ok (.getfield 36, 3) := by decide +kernel
theorem dX4_restart_69 : decode cX4_restart 69 = .ok (.arraylength, 1) := by decide +kernel
theorem dX4_restart_70 : decode cX4_restart 70 = .ok (.if_icmp .ge 16, 3) := by decide +kernel
theorem dX4_restart_73 : decode cX4_restart 73 = .ok (.aload_n 0, 1) := by decide +kernel
theorem dX4_restart_74 : decode cX4_restart 74 = .ok (.getfield 36, 3) := by decide +kernel
theorem dX4_restart_77 : decode cX4_restart 77 = .ok (.iload_n 2, 1) := by decide +kernel
theorem dX4_restart_78 : decode cX4_restart 78 = .ok (.iconst 0, 1) := by decide +kernel
theorem dX4_restart_79 : decode cX4_restart 79 = .ok (.bastore, 1) := by decide +kernel
theorem dX4_restart_80 : decode cX4_restart 80 = .ok (.iinc 2 1, 3) := by decide +kernel
theorem dX4_restart_83 : decode cX4_restart 83 = .ok (.goto (-19), 3) := by decide +kernel
theorem dX4_restart_86 : decode cX4_restart 86 = .ok (.return_, 1) := by decide +kernel
theorem dX4_hasTaken_0 : decode cX4_hasTaken 0 = .ok (.aload_n 0, 1) := by decide +kernel
theorem dX4_hasTaken_1 : decode cX4_hasTaken 1 = .ok (.getfield 36, 3) := by decide +kernel
theorem dX4_hasTaken_4 : decode cX4_hasTaken 4 = .ok (.iload_n 1, 1) := by decide +kernel
theorem dX4_hasTaken_5 : decode cX4_hasTaken 5 = .ok (.sipush 151, 3) := by decide +kernel
theorem dX4_hasTaken_8 : decode cX4_hasTaken 8 = .ok (.imul, 1) := by decide +kernel
theorem dX4_hasTaken_9 : decode cX4_hasTaken 9 = .ok (.iload_n 2, 1) := by decide +kernel
theorem dX4_hasTaken_10 : decode cX4_hasTaken 10 = .ok (.iadd, 1) := by decide +kernel
theorem dX4_hasTaken_11 : decode cX4_hasTaken 11 = .ok (.baload, 1) := by decide +kernel
theorem dX4_hasTaken_12 : decode cX4_hasTaken 12 = .ok (.ireturn, 1) := by decide +kernel
theorem dX4_noteTaken_0 : decode cX4_noteTaken 0 = .ok (.aload_n 0, 1) := by decide +kernel
theorem dX4_noteTaken_1 : decode cX4_noteTaken 1 = .ok (.getfield 36, 3) := by decide +kernel
theorem dX4_noteTaken_4 : decode cX4_noteTaken 4 = .ok (.iload_n 1, 1) := by decide +kernel
theorem dX4_noteTaken_5 : decode cX4_noteTaken 5 = .ok (.sipush 151, 3) := by decide +kernel
theorem dX4_noteTaken_8 : decode cX4_noteTaken 8 = .ok (.imul, 1) := by decide +kernel
theorem dX4_noteTaken_9 : decode cX4_noteTaken 9 = .ok (.iload_n 2, 1) := by decide +kernel
theorem dX4_noteTaken_10 : decode cX4_noteTaken 10 = .ok (.iadd, 1) := by decide +kernel
theorem dX4_noteTaken_11 : decode cX4_noteTaken 11 = .ok (.iconst 1, 1) := by decide +kernel
theorem dX4_noteTaken_12 : decode cX4_noteTaken 12 = .ok (.bastore, 1) := by decide +kernel
theorem dX4_noteTaken_13 : decode cX4_noteTaken 13 = .ok (.aload_n 0, 1) := by decide +kernel
theorem dX4_noteTaken_14 : decode cX4_noteTaken 14 = .ok (.dup, 1) := by decide +kernel
theorem dX4_noteTaken_15 : decode cX4_noteTaken 15 = .ok (.getfield 52, 3) := by decide +kernel
theorem dX4_noteTaken_18 : decode cX4_noteTaken 18 = .ok (.iconst 1, 1) := by decide +kernel
theorem dX4_noteTaken_19 : decode cX4_noteTaken 19 = .ok (.iadd, 1) := by decide +kernel
theorem dX4_noteTaken_20 : decode cX4_noteTaken 20 = .ok (.putfield 52, 3) := by decide +kernel
theorem dX4_noteTaken_23 : decode cX4_noteTaken 23 = .ok (.return_, 1) := by decide +kernel
set_option maxRecDepth 20000 in
theorem ggX5_init_X1_init : GoodIn wsX5_init wsX1_init := goodIn_r _ [10, 11, 2, 3] (by decide +kernel) (by decide +kernel)
set_option maxRecDepth 20000 in
theorem gX5_init_X1_init_n17 : GoodIn wsX5_init (wsX1_init) := ggX5_init_X1_init
theorem dX5_init_0 : decode cX5_init 0 = .ok (.aload_n 0, 1) := by decide +kernel
theorem dX5_init_1 : decode cX5_init 1 = .ok (.invokespecial 3, 3) := by decide +kernel
theorem dX5_init_4 : decode cX5_init 4 = .ok (.aload_n 0, 1) := by decide +kernel
theorem dX5_init_5 : decode cX5_init 5 = .ok (.sipush 200, 3) := by decide +kernel
theorem dX5_init_8 : decode cX5_init 8 = .ok (.anewarray 9, 3) := by decide +kernel
theorem dX5_init_11 : decode cX5_init 11 = .ok (.putfield 11, 3) := by decide +kernel
theorem dX5_init_14 : decode cX5_init 14 = .ok (.aload_n 0, 1) := by decide +kernel
theorem dX5_init_15 : decode cX5_init 15 = .ok (.new 9, 3) := by decide +kernel
theorem dX5_init_18 : decode cX5_init 18 = .ok (.dup, 1) := by decide +kernel
theorem dX5_init_19 : decode cX5_init 19 = .ok (.invokespecial 17, 3) := by decide +kernel
theorem dX5_init_22 : decode cX5_init 22 = .ok (.putfield 18, 3) := by decide +kernel
theorem dX5_init_25 : decode cX5_init 25 = .ok (.iconst 0, 1) := by decide +kernel
theorem dX5_init_26 : decode cX5_init 26 = .ok (.istore_n 1, 1) := by decide +kernel
theorem dX5_init_27 : decode cX5_init 27 = .ok (.iload_n 1, 1) := by decide +kernel
theorem dX5_init_28 : decode cX5_init 28 = .ok (.sipush 200, 3) := by decide +kernel
theorem dX5_init_31 : decode cX5_init 31 = .ok (.if_icmp .ge 22, 3) := by decide +kernel
theorem dX5_init_34 : decode cX5_init 34 = .ok (.aload_n 0, 1) := by decide +kernel
theorem dX5_init_35 : decode cX5_init 35 = .ok (.getfield 11, 3) := by decide +kernel
theorem dX5_init_38 : decode cX5_init 38 = .ok (.iload_n 1, 1) := by decide +kernel
theorem dX5_init_39 : decode cX5_init 39 = .ok (.new 9, 3) := by decide +kernel
theorem dX5_init_42 : decode cX5_init 42 = .ok (.dup, 1) := by decide +kernel
theorem dX5_init_43 : decode cX5_init 43 = .ok (.invokespecial 17, 3) := by decide +kernel
theorem dX5_init_46 : decode cX5_init 46 = .ok (.aastore, 1) := by decide +kernel
theorem dX5_init_47 : decode cX5_init 47 = .ok (.iinc 1 1, 3) := by decide +kernel
theorem dX5_init_50 : decode cX5_init 50 = .ok (.goto (-23), 3) := by decide +kernel
theorem dX5_init_53 : decode cX5_init 53 = .ok (.return_, 1) := by decide +kernel
theorem dX5_hasRoom_0 : decode cX5_hasRoom 0 = .ok (.aload_n 0, 1) := by decide +kernel
theorem dX5_hasRoom_1 : decode cX5_hasRoom 1 = .ok (.getfield 22, 3) := by decide +kernel
theorem dX5_hasRoom_4 : decode cX5_hasRoom 4 = .ok (.sipush 200, 3) := by decide +kernel
theorem dX5_hasRoom_7 : decode cX5_hasRoom 7 = .ok (.if_icmp .ge 7, 3) := by decide +kernel
theorem dX5_hasRoom_10 : decode cX5_hasRoom 10 = .ok (.iconst 1, 1) := by decide +kernel
theorem dX5_hasRoom_11 : decode cX5_hasRoom 11 = .ok (.goto 4, 3) := by decide +kernel
theorem dX5_hasRoom_14 : decode cX5_hasRoom 14 = .ok (.iconst 0, 1) := by decide +kernel
theorem dX5_hasRoom_15 : decode cX5_hasRoom 15 = .ok (.ireturn, 1) := by decide +kernel
theorem dX5_addLast_0 : decode cX5_addLast 0 = .ok (.aload_n 0, 1) := by decide +kernel
theorem dX5_addLast_1 : decode cX5_addLast 1 = .ok (.dup, 1) := by decide +kernel
theorem dX5_addLast_2 : decode cX5_addLast 2 = .ok (.getfield 22, 3) := by decide +kernel
theorem dX5_addLast_5 : decode cX5_addLast 5 = .ok (.iconst 1, 1) := by decide +kernel
theorem dX5_addLast_6 : decode cX5_addLast 6 = .ok (.iadd, 1) := by decide +kernel
theorem dX5_addLast_7 : decode cX5_addLast 7 = .ok (.putfield 22, 3) := by decide +kernel
theorem dX5_addLast_10 : decode cX5_addLast 10 = .ok (.aload_n 0, 1) := by decide +kernel
theorem dX5_addLast_11 : decode cX5_addLast 11 = .ok (.getfield 11, 3) := by decide +kernel
theorem dX5_addLast_14 : decode cX5_addLast 14 = .ok (.aload_n 0, 1) := by decide +kernel
theorem dX5_addLast_15 : decode cX5_addLast 15 = .ok (.getfield 22, 3) := by decide +kernel
theorem dX5_addLast_18 : decode cX5_addLast 18 = .ok (.iconst 1, 1) := by decide +kernel
theorem dX5_addLast_19 : decode cX5_addLast 19 = .ok (.isub, 1) := by decide +kernel
theorem dX5_addLast_20 : decode cX5_addLast 20 = .ok (.aaload, 1) := by decide +kernel
theorem dX5_addLast_21 : decode cX5_addLast 21 = .ok (.areturn, 1) := by decide +kernel
theorem dX5_takeOut_0 : decode cX5_takeOut 0 = .ok (.aload_n 0, 1) := by decide +kernel
theorem dX5_takeOut_1 : decode cX5_takeOut 1 = .ok (.getfield 11, 3) := by decide +kernel
theorem dX5_takeOut_4 : decode cX5_takeOut 4 = .ok (.iload_n 1, 1) := by decide +kernel
theorem dX5_takeOut_5 : decode cX5_takeOut 5 = .ok (.aaload, 1) := by decide +kernel
theorem dX5_takeOut_6 : decode cX5_takeOut 6 = .ok (.astore_n 2, 1) := by decide +kernel
theorem dX5_takeOut_7 : decode cX5_takeOut 7 = .ok (.aload_n 0, 1) := by decide +kernel
theorem dX5_takeOut_8 : decode cX5_takeOut 8 = .ok (.dup, 1) := by decide +kernel
theorem dX5_takeOut_9 : decode cX5_takeOut 9 = .ok (.getfield 22, 3) := by decide +kernel
theorem dX5_takeOut_12 : decode cX5_takeOut 12 = .ok (.iconst 1, 1) := by decide +kernel
theorem dX5_takeOut_13 : decode cX5_takeOut 13 = .ok (.isub, 1) := by decide +kernel
theorem dX5_takeOut_14 : decode cX5_takeOut 14 = .ok (.putfield 22, 3) := by decide +kernel
theorem dX5_takeOut_17 : decode cX5_takeOut 17 = .ok (.iload_n 1, 1) := by decide +kernel
theorem dX5_takeOut_18 : decode cX5_takeOut 18 = .ok (.istore_n 3, 1) := by decide +kernel
theorem dX5_takeOut_19 : decode cX5_takeOut 19 = .ok (.iload_n 3, 1) := by decide +kernel
theorem dX5_takeOut_20 : decode cX5_takeOut 20 = .ok (.aload_n 0, 1) := by decide +kernel
theorem dX5_takeOut_21 : decode cX5_takeOut 21 = .ok (.getfield 22, 3) := by decide +kernel
theorem dX5_takeOut_24 : decode cX5_takeOut 24 = .ok (.if_icmp .ge 23, 3) := by decide +kernel
theorem dX5_takeOut_27 : decode cX5_takeOut 27 = .ok (.aload_n 0, 1) := by decide +kernel
theorem dX5_takeOut_28 : decode cX5_takeOut 28 = .ok (.getfield 11, 3) := by decide +kernel
theorem dX5_takeOut_31 : decode cX5_takeOut 31 = .ok (.iload_n 3, 1) := by decide +kernel
theorem dX5_takeOut_32 : decode cX5_takeOut 32 = .ok (.aload_n 0, 1) := by decide +kernel
theorem dX5_takeOut_33 : decode cX5_takeOut 33 = .ok (.getfield 11, 3) := by decide +kernel
theorem dX5_takeOut_36 : decode cX5_takeOut 36 = .ok (.iload_n 3, 1) := by decide +kernel
theorem dX5_takeOut_37 : decode cX5_takeOut 37 = .ok (.iconst 1, 1) := by decide +kernel
theorem dX5_takeOut_38 : decode cX5_takeOut 38 = .ok (.iadd, 1) := by decide +kernel
theorem dX5_takeOut_39 : decode cX5_takeOut 39 = .ok (.aaload, 1) := by decide +kernel
theorem dX5_takeOut_40 : decode cX5_takeOut 40 = .ok (.aastore, 1) := by decide +kernel
theorem dX5_takeOut_41 : decode cX5_takeOut 41 = .ok (.iinc 3 1, 3) := by decide +kernel
theorem dX5_takeOut_44 : decode cX5_takeOut 44 = .ok (.goto (-25), 3) := by decide +kernel
theorem dX5_takeOut_47 : decode cX5_takeOut 47 = .ok (.aload_n 0, 1) := by decide +kernel
theorem dX5_takeOut_48 : decode cX5_takeOut 48 = .ok (.getfield 11, 3) := by decide +kernel
theorem dX5_takeOut_51 : decode cX5_takeOut 51 = .ok (.aload_n 0, 1) := by decide +kernel
theorem dX5_takeOut_52 : decode cX5_takeOut 52 = .ok (.getfield 22, 3) := by decide +kernel
theorem dX5_takeOut_55 : decode cX5_takeOut 55 = .ok (.aload_n 0, 1) := by decide +kernel
theorem dX5_takeOut_56 : decode cX5_takeOut 56 = .ok (.getfield 18, 3) := by decide +kernel
theorem dX5_takeOut_59 : decode cX5_takeOut 59 = .ok (.aastore, 1) := by decide +kernel
theorem dX5_takeOut_60 : decode cX5_takeOut 60 = .ok (.aload_n 0, 1) := by decide +kernel
theorem dX5_takeOut_61 : decode cX5_takeOut 61 = .ok (.aload_n 2, 1) := by decide +kernel
theorem dX5_takeOut_62 : decode cX5_takeOut 62 = .ok (.putfield 18, 3) := by decide +kernel
theorem dX5_takeOut_65 : decode cX5_takeOut 65 = .ok (.aload_n 2, 1) := by decide +kernel
theorem dX5_takeOut_66 : decode cX5_takeOut 66 = .ok (.areturn, 1) := by decide +kernel
set_option maxRecDepth 20000 in
theorem ggX5_repeat_X5_hasRoom : GoodIn wsX5_repeat wsX5_hasRoom := goodIn_r _ [6, 7, 32, 33, 34, 35] (by decide +kernel) (by decide +kernel)
set_option maxRecDepth 20000 in
theorem gX5_repeat_X5_hasRoom : GoodIn wsX5_repeat (wsV RX5 26 RX5 yX5_hasRoom wsX5_hasRoom) := goodIn_app (goodIn_of _ (by decide +kernel)) ggX5_repeat_X5_hasRoom
set_option maxRecDepth 20000 in
theorem ggX5_repeat_X5_addLast : GoodIn wsX5_repeat wsX5_addLast := goodIn_r _ [11, 7, 1, 32, 33, 34, 35] (by decide +kernel) (by decide +kernel)
set_option maxRecDepth 20000 in
theorem gX5_repeat_X5_addLast : GoodIn wsX5_repeat (wsV RX5 30 RX5 yX5_addLast wsX5_addLast) := goodIn_app (goodIn_of _ (by decide +kernel)) ggX5_repeat_X5_addLast
set_option maxRecDepth 20000 in
theorem ggX5_repeat_X1_becomeLike : GoodIn wsX5_repeat wsX1_becomeLike := goodIn_r _ [16, 17, 18, 19, 20, 21, 22, 23, 24, 25, 26, 15, 27, 28, 29, 30, 31, 36, 37, 38, 39, 40, 41, 42] (by decide +kernel) (by decide +kernel)
set_option maxRecDepth 20000 in
theorem gX5_repeat_X1_becomeLike : GoodIn wsX5_repeat (wsV RX5 34 RX1 yX1_becomeLike wsX1_becomeLike) := goodIn_app (goodIn_of _ (by decide +kernel)) ggX5_repeat_X1_becomeLike
theorem dX5_repeat_0 : decode cX5_repeat 0 = .ok (.aload_n 0, 1) := by decide +kernel
theorem dX5_repeat_1 : decode cX5_repeat 1 = .ok (.invokevirtual 26, 3) := by decide +kernel
theorem dX5_repeat_4 : decode cX5_repeat 4 = .ok (.istore_n 2, 1) := by decide +kernel
theorem dX5_repeat_5 : decode cX5_repeat 5 = .ok (.iload_n 2, 1) := by decide +kernel
theorem dX5_repeat_6 : decode cX5_repeat 6 = .ok (.ifCond .eq 16, 3) := by decide +kernel
theorem dX5_repeat_9 : decode cX5_repeat 9 = .ok (.aload_n 0, 1) := by decide +kernel
theorem dX5_repeat_10 : decode cX5_repeat 10 = .ok (.invokevirtual 30, 3) := by decide +kernel
theorem dX5_repeat_13 : decode cX5_repeat 13 = .ok (.aload_n 0, 1) := by decide +kernel
theorem dX5_repeat_14 : decode cX5_repeat 14 = .ok (.getfield 11, 3) := by decide +kernel
theorem dX5_repeat_17 : decode cX5_repeat 17 = .ok (.iload_n 1, 1) := by decide +kernel
theorem dX5_repeat_18 : decode cX5_repeat 18 = .ok (.aaload, 1) := by decide +kernel
theorem dX5_repeat_19 : decode cX5_repeat 19 = .ok (.invokevirtual 34, 3) := by decide +kernel
theorem dX5_repeat_22 : decode cX5_repeat 22 = .ok (.iload_n 2, 1) := by decide +kernel
theorem dX5_repeat_23 : decode cX5_repeat 23 = .ok (.ireturn, 1) := by decide +kernel
theorem dX6_init_0 : decode cX6_init 0 = .ok (.aload_n 0, 1) := by decide +kernel
theorem dX6_init_1 : decode cX6_init 1 = .ok (.invokespecial 3, 3) := by decide +kernel
theorem dX6_init_4 : decode cX6_init 4 = .ok (.aload_n 0, 1) := by decide +kernel
theorem dX6_init_5 : decode cX6_init 5 = .ok (.sipush 300, 3) := by decide +kernel
theorem dX6_init_8 : decode cX6_init 8 = .ok (.newarray .int, 2) := by decide +kernel
theorem dX6_init_10 : decode cX6_init 10 = .ok (.putfield 9, 3) := by decide +kernel
theorem dX6_init_13 : decode cX6_init 13 = .ok (.aload_n 0, 1) := by decide +kernel
theorem dX6_init_14 : decode cX6_init 14 = .ok (.sipush 300, 3) := by decide +kernel
theorem dX6_init_17 : decode cX6_init 17 = .ok (.newarray .int, 2) := by decide +kernel
theorem dX6_init_19 : decode cX6_init 19 = .ok (.putfield 15, 3) := by decide +kernel
theorem dX6_init_22 : decode cX6_init 22 = .ok (.aload_n 0, 1) := by decide +kernel
theorem dX6_init_23 : decode cX6_init 23 = .ok (.sipush 300, 3) := by decide +kernel
theorem dX6_init_26 : decode cX6_init 26 = .ok (.newarray .long, 2) := by decide +kernel
theorem dX6_init_28 : decode cX6_init 28 = .ok (.putfield 18, 3) := by decide +kernel
theorem dX6_init_31 : decode cX6_init 31 = .ok (.aload_n 0, 1) := by decide +kernel
theorem dX6_init_32 : decode cX6_init 32 = .ok (.sipush 300, 3) := by decide +kernel
theorem dX6_init_35 : decode cX6_init 35 = .ok (.newarray .boolean, 2) := by decide +kernel
theorem dX6_init_37 : decode cX6_init 37 = .ok (.putfield 22, 3) := by decide +kernel
theorem dX6_init_40 : decode cX6_init 40 = .ok (.return_, 1) := by decide +kernel
set_option maxRecDepth 20000 in
theorem ggX6_keep_X6_keeps : GoodIn wsX6_keep wsX6_keeps := goodIn_r _ [10, 1, 2, 3, 4, 11, 12, 13, 14, 15] (by decide +kernel) (by decide +kernel)
set_option maxRecDepth 20000 in
theorem gX6_keep_X6_keeps : GoodIn wsX6_keep (wsV RX6 30 RX6 yX6_keeps wsX6_keeps) := goodIn_app (goodIn_of _ (by decide +kernel)) ggX6_keep_X6_keeps
theorem dX6_keep_0 : decode cX6_keep 0 = .ok (.aload_n 0, 1) := by decide +kernel
theorem dX6_keep_1 : decode cX6_keep 1 = .ok (.getfield 26, 3) := by decide +kernel
theorem dX6_keep_4 : decode cX6_keep 4 = .ok (.sipush 300, 3) := by decide +kernel
theorem dX6_keep_7 : decode cX6_keep 7 = .ok (.if_icmp .ge 13, 3) := by decide +kernel
theorem dX6_keep_10 : decode cX6_keep 10 = .ok (.aload_n 0, 1) := by decide +kernel
theorem dX6_keep_11 : decode cX6_keep 11 = .ok (.iload_n 1, 1) := by decide +kernel
theorem dX6_keep_12 : decode cX6_keep 12 = .ok (.iload_n 2, 1) := by decide +kernel
theorem dX6_keep_13 : decode cX6_keep 13 = .ok (.lload_n 3, 1) := by decide +kernel
theorem dX6_keep_14 : decode cX6_keep 14 = .ok (.invokevirtual 30, 3) := by decide +kernel
theorem dX6_keep_17 : decode cX6_keep 17 = .ok (.ifCond .eq 5, 3) := by decide +kernel
theorem dX6_keep_20 : decode cX6_keep 20 = .ok (.iconst 0, 1) := by decide +kernel
theorem dX6_keep_21 : decode cX6_keep 21 = .ok (.ireturn, 1) := by decide +kernel
theorem dX6_keep_22 : decode cX6_keep 22 = .ok (.aload_n 0, 1) := by decide +kernel
theorem dX6_keep_23 : decode cX6_keep 23 = .ok (.getfield 9, 3) := by decide +kernel
theorem dX6_keep_26 : decode cX6_keep 26 = .ok (.aload_n 0, 1) := by decide +kernel
theorem dX6_keep_27 : decode cX6_keep 27 = .ok (.getfield 26, 3) := by decide +kernel
theorem dX6_keep_30 : decode cX6_keep 30 = .ok (.iload_n 1, 1) := by decide +kernel
theorem dX6_keep_31 : decode cX6_keep 31 = .ok (.iastore, 1) := by decide +kernel
theorem dX6_keep_32 : decode cX6_keep 32 = .ok (.aload_n 0, 1) := by decide +kernel
theorem dX6_keep_33 : decode cX6_keep 33 = .ok (.getfield 15, 3) := by decide +kernel
theorem dX6_keep_36 : decode cX6_keep 36 = .ok (.aload_n 0, 1) := by decide +kernel
theorem dX6_keep_37 : decode cX6_keep 37 = .ok (.getfield 26, 3) := by decide +kernel
theorem dX6_keep_40 : decode cX6_keep 40 = .ok (.iload_n 2, 1) := by decide +kernel
theorem dX6_keep_41 : decode cX6_keep 41 = .ok (.iastore, 1) := by decide +kernel
theorem dX6_keep_42 : decode cX6_keep 42 = .ok (.aload_n 0, 1) := by decide +kernel
theorem dX6_keep_43 : decode cX6_keep 43 = .ok (.getfield 18, 3) := by decide +kernel
theorem dX6_keep_46 : decode cX6_keep 46 = .ok (.aload_n 0, 1) := by decide +kernel
theorem dX6_keep_47 : decode cX6_keep 47 = .ok (.getfield 26, 3) := by decide +kernel
theorem dX6_keep_50 : decode cX6_keep 50 = .ok (.lload_n 3, 1) := by decide +kernel
theorem dX6_keep_51 : decode cX6_keep 51 = .ok (.lastore, 1) := by decide +kernel
theorem dX6_keep_52 : decode cX6_keep 52 = .ok (.aload_n 0, 1) := by decide +kernel
theorem dX6_keep_53 : decode cX6_keep 53 = .ok (.getfield 22, 3) := by decide +kernel
theorem dX6_keep_56 : decode cX6_keep 56 = .ok (.aload_n 0, 1) := by decide +kernel
theorem dX6_keep_57 : decode cX6_keep 57 = .ok (.getfield 26, 3) := by decide +kernel
theorem dX6_keep_60 : decode cX6_keep 60 = .ok (.iload 5, 2) := by decide +kernel
theorem dX6_keep_62 : decode cX6_keep 62 = .ok (.bastore, 1) := by decide +kernel
theorem dX6_keep_63 : decode cX6_keep 63 = .ok (.aload_n 0, 1) := by decide +kernel
theorem dX6_keep_64 : decode cX6_keep 64 = .ok (.dup, 1) := by decide +kernel
theorem dX6_keep_65 : decode cX6_keep 65 = .ok (.getfield 26, 3) := by decide +kernel
theorem dX6_keep_68 : decode cX6_keep 68 = .ok (.iconst 1, 1) := by decide +kernel
theorem dX6_keep_69 : decode cX6_keep 69 = .ok (.iadd, 1) := by decide +kernel
theorem dX6_keep_70 : decode cX6_keep 70 = .ok (.putfield 26, 3) := by decide +kernel
theorem dX6_keep_73 : decode cX6_keep 73 = .ok (.iconst 1, 1) := by decide +kernel
theorem dX6_keep_74 : decode cX6_keep 74 = .ok (.ireturn, 1) := by decide +kernel
theorem dX6_keeps_0 : decode cX6_keeps 0 = .ok (.iconst 0, 1) := by decide +kernel
theorem dX6_keeps_1 : decode cX6_keeps 1 = .ok (.istore 5, 2) := by decide +kernel
theorem dX6_keeps_3 : decode cX6_keeps 3 = .ok (.iload 5, 2) := by decide +kernel
theorem dX6_keeps_5 : decode cX6_keeps 5 = .ok (.aload_n 0, 1) := by decide +kernel
theorem dX6_keeps_6 : decode cX6_keeps 6 = .ok (.getfield 26, 3) := by decide +kernel
theorem dX6_keeps_9 : decode cX6_keeps 9 = .ok (.if_icmp .ge 45, 3) := by decide +kernel
theorem dX6_keeps_12 : decode cX6_keeps 12 = .ok (.aload_n 0, 1) := by decide +kernel
theorem dX6_keeps_13 : decode cX6_keeps 13 = .ok (.getfield 9, 3) := by decide +kernel
theorem dX6_keeps_16 : decode cX6_keeps 16 = .ok (.iload 5, 2) := by decide +kernel
theorem dX6_keeps_18 : decode cX6_keeps 18 = .ok (.iaload, 1) := by decide +kernel
theorem dX6_keeps_19 : decode cX6_keeps 19 = .ok (.iload_n 1, 1) := by decide +kernel
theorem dX6_keeps_20 : decode cX6_keeps 20 = .ok (.if_icmp .ne 28, 3) := by decide +kernel
theorem dX6_keeps_23 : decode cX6_keeps 23 = .ok (.aload_n 0, 1) := by decide +kernel
theorem dX6_keeps_24 : decode cX6_keeps 24 = .ok (.getfield 15, 3) := by decide +kernel
theorem dX6_keeps_27 : decode cX6_keeps 27 = .ok (.iload 5, 2) := by decide +kernel
theorem dX6_keeps_29 : decode cX6_keeps 29 = .ok (.iaload, 1) := by decide +kernel
theorem dX6_keeps_30 : decode cX6_keeps 30 = .ok (.iload_n 2, 1) := by decide +kernel
theorem dX6_keeps_31 : decode cX6_keeps 31 = .ok (.if_icmp .ne 17, 3) := by decide +kernel
theorem dX6_keeps_34 : decode cX6_keeps 34 = .ok (.aload_n 0, 1) := by decide +kernel
theorem dX6_keeps_35 : decode cX6_keeps 35 = .ok (.getfield 18, 3) := by decide +kernel
theorem dX6_keeps_38 : decode cX6_keeps 38 = .ok (.iload 5, 2) := by decide +kernel
theorem dX6_keeps_40 : decode cX6_keeps 40 = .ok (.laload, 1) := by decide +kernel
theorem dX6_keeps_41 : decode cX6_keeps 41 = .ok (.lload_n 3, 1) := by decide +kernel
theorem dX6_keeps_42 : decode cX6_keeps 42 = .ok (.lcmp, 1) := by decide +kernel
theorem dX6_keeps_43 : decode cX6_keeps 43 = .ok (.ifCond .ne 5, 3) := by decide +kernel
theorem dX6_keeps_46 : decode cX6_keeps 46 = .ok (.iconst 1, 1) := by decide +kernel
theorem dX6_keeps_47 : decode cX6_keeps 47 = .ok (.ireturn, 1) := by decide +kernel
theorem dX6_keeps_48 : decode cX6_keeps 48 = .ok (.iinc 5 1, 3) := by decide +kernel
theorem dX6_keeps_51 : decode cX6_keeps 51 = .ok (.goto (-48), 3) := by decide +kernel
theorem dX6_keeps_54 : decode cX6_keeps 54 = .ok (.iconst 0, 1) := by decide +kernel
theorem dX6_keeps_55 : decode cX6_keeps 55 = .ok (.ireturn, 1) := by decide +kernel
theorem dX6_leastFork_0 : decode cX6_leastFork 0 = .ok (.iconst (-1), 1) := by decide +kernel
theorem dX6_leastFork_1 : decode cX6_leastFork 1 = .ok (.istore_n 3, 1) := by decide +kernel
theorem dX6_leastFork_2 : decode cX6_leastFork 2 = .ok (.iconst 0, 1) := by decide +kernel
theorem dX6_leastFork_3 : decode cX6_leastFork 3 = .ok (.istore 4, 2) := by decide +kernel
theorem dX6_leastFork_5 : decode cX6_leastFork 5 = .ok (.iload 4, 2) := by decide +kernel
theorem dX6_leastFork_7 : decode cX6_leastFork 7 = .ok (.aload_n 0, 1) := by decide +kernel
theorem dX6_leastFork_8 : decode cX6_leastFork 8 = .ok (.getfield 26, 3) := by decide +kernel
theorem dX6_leastFork_11 : decode cX6_leastFork 11 = .ok (.if_icmp .ge 81, 3) := by decide +kernel
theorem dX6_leastFork_14 : decode cX6_leastFork 14 = .ok (.aload_n 0, 1) := by decide +kernel
theorem dX6_leastFork_15 : decode cX6_leastFork 15 = .ok (.getfield 9, 3) := by decide +kernel
theorem dX6_leastFork_18 : decode cX6_leastFork 18 = .ok (.iload 4, 2) := by decide +kernel
theorem dX6_leastFork_20 : decode cX6_leastFork 20 = .ok (.iaload, 1) := by decide +kernel
theorem dX6_leastFork_21 : decode cX6_leastFork 21 = .ok (.iload_n 1, 1) := by decide +kernel
theorem dX6_leastFork_22 : decode cX6_leastFork 22 = .ok (.if_icmp .ne 64, 3) := by decide +kernel
theorem dX6_leastFork_25 : decode cX6_leastFork 25 = .ok (.aload_n 0, 1) := by decide +kernel
theorem dX6_leastFork_26 : decode cX6_leastFork 26 = .ok (.getfield 15, 3) := by decide +kernel
theorem dX6_leastFork_29 : decode cX6_leastFork 29 = .ok (.iload 4, 2) := by decide +kernel
theorem dX6_leastFork_31 : decode cX6_leastFork 31 = .ok (.iaload, 1) := by decide +kernel
theorem dX6_leastFork_32 : decode cX6_leastFork 32 = .ok (.aload_n 2, 1) := by decide +kernel
theorem dX6_leastFork_33 : decode cX6_leastFork 33 = .ok (.getfield 34, 3) := by decide +kernel
theorem dX6_leastFork_36 : decode cX6_leastFork 36 = .ok (.if_icmp .gt 50, 3) := by decide +kernel
theorem dX6_leastFork_39 : decode cX6_leastFork 39 = .ok (.aload_n 0, 1) := by decide +kernel
theorem dX6_leastFork_40 : decode cX6_leastFork 40 = .ok (.getfield 18, 3) := by decide +kernel
theorem dX6_leastFork_43 : decode cX6_leastFork 43 = .ok (.iload 4, 2) := by decide +kernel
theorem dX6_leastFork_45 : decode cX6_leastFork 45 = .ok (.laload, 1) := by decide +kernel
theorem dX6_leastFork_46 : decode cX6_leastFork 46 = .ok (.aload_n 2, 1) := by decide +kernel
theorem dX6_leastFork_47 : decode cX6_leastFork 47 = .ok (.getfield 37, 3) := by decide +kernel
theorem dX6_leastFork_50 : decode cX6_leastFork 50 = .ok (.aload_n 0, 1) := by decide +kernel
theorem dX6_leastFork_51 : decode cX6_leastFork 51 = .ok (.getfield 15, 3) := by decide +kernel
theorem dX6_leastFork_54 : decode cX6_leastFork 54 = .ok (.iload 4, 2) := by decide +kernel
theorem dX6_leastFork_56 : decode cX6_leastFork 56 = .ok (.iaload, 1) := by decide +kernel
theorem dX6_leastFork_57 : decode cX6_leastFork 57 = .ok (.laload, 1) := by decide +kernel
theorem dX6_leastFork_58 : decode cX6_leastFork 58 = .ok (.lcmp, 1) := by decide +kernel
theorem dX6_leastFork_59 : decode cX6_leastFork 59 = .ok (.ifCond .eq 27, 3) := by decide +kernel
theorem dX6_leastFork_62 : decode cX6_leastFork 62 = .ok (.iload_n 3, 1) := by decide +kernel
theorem dX6_leastFork_63 : decode cX6_leastFork 63 = .ok (.iconst (-1), 1) := by decide +kernel
theorem dX6_leastFork_64 : decode cX6_leastFork 64 = .ok (.if_icmp .eq 19, 3) := by decide +kernel
theorem dX6_leastFork_67 : decode cX6_leastFork 67 = .ok (.aload_n 0, 1) := by decide +kernel
theorem dX6_leastFork_68 : decode cX6_leastFork 68 = .ok (.getfield 15, 3) := by decide +kernel
theorem dX6_leastFork_71 : decode cX6_leastFork 71 = .ok (.iload 4, 2) := by decide +kernel
theorem dX6_leastFork_73 : decode cX6_leastFork 73 = .ok (.iaload, 1) := by decide +kernel
theorem dX6_leastFork_74 : decode cX6_leastFork 74 = .ok (.aload_n 0, 1) := by decide +kernel
theorem dX6_leastFork_75 : decode cX6_leastFork 75 = .ok (.getfield 15, 3) := by decide +kernel
theorem dX6_leastFork_78 : decode cX6_leastFork 78 = .ok (.iload_n 3, 1) := by decide +kernel
theorem dX6_leastFork_79 : decode cX6_leastFork 79 = .ok (.iaload, 1) := by decide +kernel
theorem dX6_leastFork_80 : decode cX6_leastFork 80 = .ok (.if_icmp .ge 6, 3) := by decide +kernel
theorem dX6_leastFork_83 : decode cX6_leastFork 83 = .ok (.iload 4, 2) := by decide +kernel
theorem dX6_leastFork_85 : decode cX6_leastFork 85 = .ok (.istore_n 3, 1) := by decide +kernel
theorem dX6_leastFork_86 : decode cX6_leastFork 86 = .ok (.iinc 4 1, 3) := by decide +kernel
theorem dX6_leastFork_89 : decode cX6_leastFork 89 = .ok (.goto (-84), 3) := by decide +kernel
theorem dX6_leastFork_92 : decode cX6_leastFork 92 = .ok (.iload_n 3, 1) := by decide +kernel
theorem dX6_leastFork_93 : decode cX6_leastFork 93 = .ok (.ireturn, 1) := by decide +kernel
theorem dX6_keepsBeyond_0 : decode cX6_keepsBeyond 0 = .ok (.iconst 0, 1) := by decide +kernel
theorem dX6_keepsBeyond_1 : decode cX6_keepsBeyond 1 = .ok (.istore_n 3, 1) := by decide +kernel
theorem dX6_keepsBeyond_2 : decode cX6_keepsBeyond 2 = .ok (.iload_n 3, 1) := by decide +kernel
theorem dX6_keepsBeyond_3 : decode cX6_keepsBeyond 3 = .ok (.aload_n 0, 1) := by decide +kernel
theorem dX6_keepsBeyond_4 : decode cX6_keepsBeyond 4 = .ok (.getfield 26, 3) := by decide +kernel
theorem dX6_keepsBeyond_7 : decode cX6_keepsBeyond 7 = .ok (.if_icmp .ge 31, 3) := by decide +kernel
theorem dX6_keepsBeyond_10 : decode cX6_keepsBeyond 10 = .ok (.aload_n 0, 1) := by decide +kernel
theorem dX6_keepsBeyond_11 : decode cX6_keepsBeyond 11 = .ok (.getfield 9, 3) := by decide +kernel
theorem dX6_keepsBeyond_14 : decode cX6_keepsBeyond 14 = .ok (.iload_n 3, 1) := by decide +kernel
theorem dX6_keepsBeyond_15 : decode cX6_keepsBeyond 15 = .ok (.iaload, 1) := by decide +kernel
theorem dX6_keepsBeyond_16 : decode cX6_keepsBeyond 16 = .ok (.iload_n 1, 1) := by decide +kernel
theorem dX6_keepsBeyond_17 : decode cX6_keepsBeyond 17 = .ok (.if_icmp .ne 15, 3) := by decide +kernel
theorem dX6_keepsBeyond_20 : decode cX6_keepsBeyond 20 = .ok (.aload_n 0, 1) := by decide +kernel
theorem dX6_keepsBeyond_21 : decode cX6_keepsBeyond 21 = .ok (.getfield 15, 3) := by decide +kernel
theorem dX6_keepsBeyond_24 : decode cX6_keepsBeyond 24 = .ok (.iload_n 3, 1) := by decide +kernel
theorem dX6_keepsBeyond_25 : decode cX6_keepsBeyond 25 = .ok (.iaload, 1) := by decide +kernel
theorem dX6_keepsBeyond_26 : decode cX6_keepsBeyond 26 = .ok (.iload_n 2, 1) := by decide +kernel
theorem dX6_keepsBeyond_27 : decode cX6_keepsBeyond 27 = .ok (.if_icmp .le 5, 3) := by decide +kernel
theorem dX6_keepsBeyond_30 : decode cX6_keepsBeyond 30 = .ok (.iconst 1, 1) := by decide +kernel
theorem dX6_keepsBeyond_31 : decode cX6_keepsBeyond 31 = .ok (.ireturn, 1) := by decide +kernel
theorem dX6_keepsBeyond_32 : decode cX6_keepsBeyond 32 = .ok (.iinc 3 1, 3) := by decide +kernel
theorem dX6_keepsBeyond_35 : decode cX6_keepsBeyond 35 = .ok (.goto (-33), 3) := by decide +kernel
theorem dX6_keepsBeyond_38 : decode cX6_keepsBeyond 38 = .ok (.iconst 0, 1) := by decide +kernel
theorem dX6_keepsBeyond_39 : decode cX6_keepsBeyond 39 = .ok (.ireturn, 1) := by decide +kernel
set_option maxRecDepth 20000 in
theorem ggX7_init_X5_init : GoodIn wsX7_init wsX5_init := goodIn_r _ [26, 27, 2, 3, 28, 29, 30, 31, 32, 33, 34, 35, 119, 120, 121, 122, 146, 147, 148, 149, 150, 151, 152] (by decide +kernel) (by decide +kernel)
set_option maxRecDepth 20000 in
theorem gX7_init_X5_init : GoodIn wsX7_init (wsX5_init) := ggX7_init_X5_init
set_option maxRecDepth 20000 in
theorem ggX7_init_Jx4a65c_init_da8c8 : GoodIn wsX7_init wsJx4a65c_init_da8c8 := goodIn_r _ [38, 39, 40, 41, 42, 43, 44, 45, 46, 47, 48, 49, 50, 2, 3, 123, 124, 125] (by decide +kernel) (by decide +kernel)
set_option maxRecDepth 20000 in
theorem gX7_init_Jx4a65c_init_da8c8 : GoodIn wsX7_init (wsJx4a65c_init_da8c8) := ggX7_init_Jx4a65c_init_da8c8
set_option maxRecDepth 20000 in
theorem ggX7_init_X3_init : GoodIn wsX7_init wsX3_init := goodIn_r _ [52, 53, 2, 3] (by decide +kernel) (by decide +kernel)
set_option maxRecDepth 20000 in
theorem gX7_init_X3_init_n31 : GoodIn wsX7_init (wsX3_init) := ggX7_init_X3_init
set_option maxRecDepth 20000 in
theorem ggX7_init_X2_init : GoodIn wsX7_init wsX2_init := goodIn_r _ [55, 56, 2, 3, 57, 58, 59, 60, 61, 62, 133, 134, 135, 136, 137] (by decide +kernel) (by decide +kernel)
set_option maxRecDepth 20000 in
theorem gX7_init_X2_init_n38 : GoodIn wsX7_init (wsX2_init) := ggX7_init_X2_init
set_option maxRecDepth 20000 in
theorem ggX7_init_X4_init : GoodIn wsX7_init wsX4_init := goodIn_r _ [65, 66, 2, 3, 67, 15, 16, 68, 69, 19, 20, 70, 71, 72, 73, 74, 57, 75, 76, 77, 78, 51, 52, 53, 54, 55, 56, 58, 59, 60, 61, 62, 79, 80, 81, 82, 83, 84, 85, 126, 127, 128, 129, 130, 131, 132, 138, 139, 140, 141, 142, 143, 144, 145, 133, 134, 135, 136, 137, 153, 154, 155, 156, 157] (by decide +kernel) (by decide +kernel)
set_option maxRecDepth 20000 in
theorem gX7_init_X4_init : GoodIn wsX7_init (wsX4_init) := ggX7_init_X4_init
set_option maxRecDepth 20000 in
theorem ggX7_init_X7_startWith : GoodIn wsX7_init wsX7_startWith := goodIn_r _ [90, 91, 5, 9, 92, 93, 94, 95, 96, 97, 23, 98, 68, 78, 70, 99, 74, 100, 101, 102, 75, 77, 103, 104, 105, 16, 106, 107, 108, 109, 110, 111, 112, 113, 114, 115, 116, 117, 118, 119, 120, 121, 122, 138, 139, 140, 141, 142, 143, 144, 145, 133, 134, 135, 136, 137, 153, 154, 155, 156, 157, 126, 127, 128, 129, 130, 131, 132] (by decide +kernel) (by decide +kernel)
set_option maxRecDepth 20000 in
theorem gX7_init_X7_startWith : GoodIn wsX7_init (wsV RX7 46 RX7 yX7_startWith wsX7_startWith) := goodIn_app (goodIn_of _ (by decide +kernel)) ggX7_init_X7_startWith
theorem dX7_init_0 : decode cX7_init 0 = .ok (.aload_n 0, 1) := by decide +kernel
theorem dX7_init_1 : decode cX7_init 1 = .ok (.invokespecial 3, 3) := by decide +kernel
theorem dX7_init_4 : decode cX7_init 4 = .ok (.aload_n 0, 1) := by decide +kernel
theorem dX7_init_5 : decode cX7_init 5 = .ok (.bipush 6, 2) := by decide +kernel
theorem dX7_init_7 : decode cX7_init 7 = .ok (.anewarray 9, 3) := by decide +kernel
theorem dX7_init_10 : decode cX7_init 10 = .ok (.putfield 11, 3) := by decide +kernel
theorem dX7_init_13 : decode cX7_init 13 = .ok (.aload_n 0, 1) := by decide +kernel
theorem dX7_init_14 : decode cX7_init 14 = .ok (.new 15, 3) := by decide +kernel
theorem dX7_init_17 : decode cX7_init 17 = .ok (.dup, 1) := by decide +kernel
theorem dX7_init_18 : decode cX7_init 18 = .ok (.invokespecial 17, 3) := by decide +kernel
theorem dX7_init_21 : decode cX7_init 21 = .ok (.putfield 18, 3) := by decide +kernel
theorem dX7_init_24 : decode cX7_init 24 = .ok (.aload_n 0, 1) := by decide +kernel
theorem dX7_init_25 : decode cX7_init 25 = .ok (.new 22, 3) := by decide +kernel
theorem dX7_init_28 : decode cX7_init 28 = .ok (.dup, 1) := by decide +kernel
theorem dX7_init_29 : decode cX7_init 29 = .ok (.invokespecial 24, 3) := by decide +kernel
theorem dX7_init_32 : decode cX7_init 32 = .ok (.putfield 25, 3) := by decide +kernel
theorem dX7_init_35 : decode cX7_init 35 = .ok (.aload_n 0, 1) := by decide +kernel
theorem dX7_init_36 : decode cX7_init 36 = .ok (.new 29, 3) := by decide +kernel
theorem dX7_init_39 : decode cX7_init 39 = .ok (.dup, 1) := by decide +kernel
theorem dX7_init_40 : decode cX7_init 40 = .ok (.invokespecial 31, 3) := by decide +kernel
theorem dX7_init_43 : decode cX7_init 43 = .ok (.putfield 32, 3) := by decide +kernel
theorem dX7_init_46 : decode cX7_init 46 = .ok (.aload_n 0, 1) := by decide +kernel
theorem dX7_init_47 : decode cX7_init 47 = .ok (.new 36, 3) := by decide +kernel
theorem dX7_init_50 : decode cX7_init 50 = .ok (.dup, 1) := by decide +kernel
theorem dX7_init_51 : decode cX7_init 51 = .ok (.invokespecial 38, 3) := by decide +kernel
theorem dX7_init_54 : decode cX7_init 54 = .ok (.putfield 39, 3) := by decide +kernel
theorem dX7_init_57 : decode cX7_init 57 = .ok (.iconst 0, 1) := by decide +kernel
theorem dX7_init_58 : decode cX7_init 58 = .ok (.istore_n 1, 1) := by decide +kernel
theorem dX7_init_59 : decode cX7_init 59 = .ok (.iload_n 1, 1) := by decide +kernel
theorem dX7_init_60 : decode cX7_init 60 = .ok (.bipush 6, 2) := by decide +kernel
theorem dX7_init_62 : decode cX7_init 62 = .ok (.if_icmp .ge 23, 3) := by decide +kernel
theorem dX7_init_65 : decode cX7_init 65 = .ok (.aload_n 0, 1) := by decide +kernel
theorem dX7_init_66 : decode cX7_init 66 = .ok (.getfield 11, 3) := by decide +kernel
theorem dX7_init_69 : decode cX7_init 69 = .ok (.iload_n 1, 1) := by decide +kernel
theorem dX7_init_70 : decode cX7_init 70 = .ok (.new 9, 3) := by decide +kernel
theorem dX7_init_73 : decode cX7_init 73 = .ok (.dup, 1) := by decide +kernel
theorem dX7_init_74 : decode cX7_init 74 = .ok (.iload_n 1, 1) := by decide +kernel
theorem dX7_init_75 : decode cX7_init 75 = .ok (.invokespecial 43, 3) := by decide +kernel
theorem dX7_init_78 : decode cX7_init 78 = .ok (.aastore, 1) := by decide +kernel
theorem dX7_init_79 : decode cX7_init 79 = .ok (.iinc 1 1, 3) := by decide +kernel
theorem dX7_init_82 : decode cX7_init 82 = .ok (.goto (-23), 3) := by decide +kernel
theorem dX7_init_85 : decode cX7_init 85 = .ok (.aload_n 0, 1) := by decide +kernel
theorem dX7_init_86 : decode cX7_init 86 = .ok (.iconst 3, 1) := by decide +kernel
theorem dX7_init_87 : decode cX7_init 87 = .ok (.invokevirtual 46, 3) := by decide +kernel
theorem dX7_init_90 : decode cX7_init 90 = .ok (.return_, 1) := by decide +kernel
set_option maxRecDepth 20000 in
theorem ggX7_open_X7_need : GoodIn wsX7_open wsX7_need := goodIn_ca (goodIn_r _ [4, 5, 6] (by decide +kernel) (by decide +kernel)) (goodIn_sub (fun _ h => List.mem_cons_of_mem _ (List.mem_append_right _ h)) (by decide +kernel))
set_option maxRecDepth 20000 in
theorem gX7_open_X7_need : GoodIn wsX7_open (va_wsS RX7 49 yX7_need wsX7_need) := goodIn_app (goodIn_of _ (by decide +kernel)) ggX7_open_X7_need
set_option maxRecDepth 20000 in
theorem ggX7_open_X7_startWith : GoodIn wsX7_open wsX7_startWith := goodIn_r _ [10, 11, 12, 13, 14, 15, 16, 17, 18, 19, 20, 21, 22, 23, 24, 25, 26, 27, 28, 29, 30, 31, 32, 33, 34, 35, 36, 37, 38, 39, 40, 41, 42, 43, 44, 45, 46, 47, 48, 49, 50, 51, 52, 53, 54, 55, 56, 57, 58, 59, 60, 61, 62, 63, 64, 65, 66, 67, 68, 69, 70, 71, 72, 73, 74, 75, 76, 77] (by decide +kernel) (by decide +kernel)
set_option maxRecDepth 20000 in
theorem gX7_open_X7_startWith : GoodIn wsX7_open (wsV RX7 46 RX7 yX7_startWith wsX7_startWith) := goodIn_app (goodIn_of _ (by decide +kernel)) ggX7_open_X7_startWith
theorem dX7_open_0 : decode cX7_open 0 = .ok (.iload_n 1, 1) := by decide +kernel
theorem dX7_open_1 : decode cX7_open 1 = .ok (.iconst 3, 1) := by decide +kernel
theorem dX7_open_2 : decode cX7_open 2 = .ok (.if_icmp .lt 13, 3) := by decide +kernel
theorem dX7_open_5 : decode cX7_open 5 = .ok (.iload_n 1, 1) := by decide +kernel
theorem dX7_open_6 : decode cX7_open 6 = .ok (.bipush 6, 2) := by decide +kernel
theorem dX7_open_8 : decode cX7_open 8 = .ok (.if_icmp .gt 7, 3) := by decide +kernel
theorem dX7_open_11 : decode cX7_open 11 = .ok (.iconst 1, 1) := by decide +kernel
theorem dX7_open_12 : decode cX7_open 12 = .ok (.goto 4, 3) := by decide +kernel
theorem dX7_open_15 : decode cX7_open 15 = .ok (.iconst 0, 1) := by decide +kernel
theorem dX7_open_16 : decode cX7_open 16 = .ok (.invokestatic 49, 3) := by decide +kernel
theorem dX7_open_19 : decode cX7_open 19 = .ok (.aload_n 0, 1) := by decide +kernel
theorem dX7_open_20 : decode cX7_open 20 = .ok (.iload_n 1, 1) := by decide +kernel
theorem dX7_open_21 : decode cX7_open 21 = .ok (.invokevirtual 46, 3) := by decide +kernel
theorem dX7_open_24 : decode cX7_open 24 = .ok (.return_, 1) := by decide +kernel
set_option maxRecDepth 20000 in
theorem ggX7_input_X7_isNode : GoodIn wsX7_input wsX7_isNode := goodIn_r _ [9, 10, 99, 100, 101, 102, 103, 104, 105] (by decide +kernel) (by decide +kernel)
set_option maxRecDepth 20000 in
theorem gX7_input_X7_isNode : GoodIn wsX7_input (wsV RX7 53 RX7 yX7_isNode wsX7_isNode) := goodIn_app (goodIn_of _ (by decide +kernel)) ggX7_input_X7_isNode
set_option maxRecDepth 20000 in
theorem ggX7_input_X7_need : GoodIn wsX7_input wsX7_need := goodIn_ca (goodIn_r _ [13, 14, 15] (by decide +kernel) (by decide +kernel)) (goodIn_sub (fun _ h => List.mem_cons_of_mem _ (List.mem_append_left _ (List.mem_append_right _ h))) (by decide +kernel))
set_option maxRecDepth 20000 in
theorem gX7_input_X7_need : GoodIn wsX7_input (va_wsS RX7 49 yX7_need wsX7_need) := goodIn_app (goodIn_of _ (by decide +kernel)) ggX7_input_X7_need
set_option maxRecDepth 20000 in
theorem ggX7_input_X2_hasTwoPlaces : GoodIn wsX7_input wsX2_hasTwoPlaces := goodIn_r _ [20, 21, 114, 115, 116, 117, 118] (by decide +kernel) (by decide +kernel)
set_option maxRecDepth 20000 in
theorem gX7_input_X2_hasTwoPlaces : GoodIn wsX7_input (wsV RX7 60 RX2 yX2_hasTwoPlaces wsX2_hasTwoPlaces) := goodIn_app (goodIn_of _ (by decide +kernel)) ggX7_input_X2_hasTwoPlaces
set_option maxRecDepth 20000 in
theorem ggX7_input_X7_needState : GoodIn wsX7_input wsX7_needState := goodIn_ca (goodIn_r _ [24, 25, 26] (by decide +kernel) (by decide +kernel)) (goodIn_sub (fun _ h => List.mem_cons_of_mem _ (List.mem_append_right _ h)) (by decide +kernel))
set_option maxRecDepth 20000 in
theorem gX7_input_X7_needState : GoodIn wsX7_input (va_wsS RX7 64 yX7_needState wsX7_needState) := goodIn_app (goodIn_of _ (by decide +kernel)) ggX7_input_X7_needState
set_option maxRecDepth 20000 in
theorem ggX7_input_X2_append : GoodIn wsX7_input wsX2_append := goodIn_r _ [30, 21, 31, 32, 33, 34, 35, 8, 36, 37, 38, 39, 40, 41, 114, 115, 116, 117, 118] (by decide +kernel) (by decide +kernel)
set_option maxRecDepth 20000 in
theorem gX7_input_X2_append : GoodIn wsX7_input (wsV RX7 67 RX2 yX2_append wsX2_append) := goodIn_app (goodIn_of _ (by decide +kernel)) ggX7_input_X2_append
set_option maxRecDepth 20000 in
theorem ggX7_input_X3_stepInput : GoodIn wsX7_input wsX3_stepInput := goodIn_r _ [46, 47, 48, 49, 50, 51, 52, 53, 119, 120, 121, 122, 123, 124, 125] (by decide +kernel) (by decide +kernel)
set_option maxRecDepth 20000 in
theorem gX7_input_X3_stepInput : GoodIn wsX7_input (wsV RX7 74 RX3 yX3_stepInput wsX3_stepInput) := goodIn_app (goodIn_of _ (by decide +kernel)) ggX7_input_X3_stepInput
set_option maxRecDepth 20000 in
theorem ggX7_input_X7_sendWhatIsDue : GoodIn wsX7_input wsX7_sendWhatIsDue := goodIn_r _ [57, 3, 58, 59, 60, 61, 62, 63, 8, 64, 2, 65, 4, 66, 67, 68, 69, 27, 28, 29, 19, 30, 21, 31, 32, 33, 34, 35, 36, 37, 38, 39, 40, 41, 70, 71, 72, 73, 74, 75, 76, 77, 78, 79, 80, 81, 82, 83, 84, 85, 86, 87, 88, 89, 90, 91, 92, 93, 94, 95, 96, 97, 98, 106, 107, 108, 109, 110, 111, 112, 113, 119, 120, 121, 122, 123, 124, 125, 114, 115, 116, 117, 118, 99, 100, 101, 102, 103, 104, 105, 126, 127, 128, 129, 130, 131, 132, 133, 134, 135, 136] (by decide +kernel) (by decide +kernel)
set_option maxRecDepth 20000 in
theorem gX7_input_X7_sendWhatIsDue : GoodIn wsX7_input (wsV RX7 77 RX7 yX7_sendWhatIsDue wsX7_sendWhatIsDue) := goodIn_app (goodIn_of _ (by decide +kernel)) ggX7_input_X7_sendWhatIsDue
theorem dX7_input_0 : decode cX7_input 0 = .ok (.aload_n 0, 1) := by decide +kernel
theorem dX7_input_1 : decode cX7_input 1 = .ok (.iload_n 1, 1) := by decide +kernel
theorem dX7_input_2 : decode cX7_input 2 = .ok (.invokevirtual 53, 3) := by decide +kernel
theorem dX7_input_5 : decode cX7_input 5 = .ok (.invokestatic 49, 3) := by decide +kernel
theorem dX7_input_8 : decode cX7_input 8 = .ok (.aload_n 0, 1) := by decide +kernel
theorem dX7_input_9 : decode cX7_input 9 = .ok (.getfield 11, 3) := by decide +kernel
theorem dX7_input_12 : decode cX7_input 12 = .ok (.iload_n 1, 1) := by decide +kernel
theorem dX7_input_13 : decode cX7_input 13 = .ok (.aaload, 1) := by decide +kernel
theorem dX7_input_14 : decode cX7_input 14 = .ok (.getfield 57, 3) := by decide +kernel
theorem dX7_input_17 : decode cX7_input 17 = .ok (.invokevirtual 60, 3) := by decide +kernel
theorem dX7_input_20 : decode cX7_input 20 = .ok (.invokestatic 64, 3) := by decide +kernel
theorem dX7_input_23 : decode cX7_input 23 = .ok (.aload_n 0, 1) := by decide +kernel
theorem dX7_input_24 : decode cX7_input 24 = .ok (.getfield 11, 3) := by decide +kernel
theorem dX7_input_27 : decode cX7_input 27 = .ok (.iload_n 1, 1) := by decide +kernel
theorem dX7_input_28 : decode cX7_input 28 = .ok (.aaload, 1) := by decide +kernel
theorem dX7_input_29 : decode cX7_input 29 = .ok (.getfield 57, 3) := by decide +kernel
theorem dX7_input_32 : decode cX7_input 32 = .ok (.iconst 1, 1) := by decide +kernel
theorem dX7_input_33 : decode cX7_input 33 = .ok (.iconst 0, 1) := by decide +kernel
theorem dX7_input_34 : decode cX7_input 34 = .ok (.iload_n 2, 1) := by decide +kernel
theorem dX7_input_35 : decode cX7_input 35 = .ok (.invokevirtual 67, 3) := by decide +kernel
theorem dX7_input_38 : decode cX7_input 38 = .ok (.aload_n 0, 1) := by decide +kernel
theorem dX7_input_39 : decode cX7_input 39 = .ok (.getfield 11, 3) := by decide +kernel
theorem dX7_input_42 : decode cX7_input 42 = .ok (.iload_n 1, 1) := by decide +kernel
theorem dX7_input_43 : decode cX7_input 43 = .ok (.aaload, 1) := by decide +kernel
theorem dX7_input_44 : decode cX7_input 44 = .ok (.getfield 71, 3) := by decide +kernel
theorem dX7_input_47 : decode cX7_input 47 = .ok (.iload_n 2, 1) := by decide +kernel
theorem dX7_input_48 : decode cX7_input 48 = .ok (.invokevirtual 74, 3) := by decide +kernel
theorem dX7_input_51 : decode cX7_input 51 = .ok (.aload_n 0, 1) := by decide +kernel
theorem dX7_input_52 : decode cX7_input 52 = .ok (.aload_n 0, 1) := by decide +kernel
theorem dX7_input_53 : decode cX7_input 53 = .ok (.getfield 11, 3) := by decide +kernel
theorem dX7_input_56 : decode cX7_input 56 = .ok (.iload_n 1, 1) := by decide +kernel
theorem dX7_input_57 : decode cX7_input 57 = .ok (.aaload, 1) := by decide +kernel
theorem dX7_input_58 : decode cX7_input 58 = .ok (.invokevirtual 77, 3) := by decide +kernel
theorem dX7_input_61 : decode cX7_input 61 = .ok (.aload_n 0, 1) := by decide +kernel
theorem dX7_input_62 : decode cX7_input 62 = .ok (.getfield 11, 3) := by decide +kernel
theorem dX7_input_65 : decode cX7_input 65 = .ok (.iload_n 1, 1) := by decide +kernel
theorem dX7_input_66 : decode cX7_input 66 = .ok (.aaload, 1) := by decide +kernel
theorem dX7_input_67 : decode cX7_input 67 = .ok (.getfield 57, 3) := by decide +kernel
theorem dX7_input_70 : decode cX7_input 70 = .ok (.getfield 81, 3) := by decide +kernel
theorem dX7_input_73 : decode cX7_input 73 = .ok (.ireturn, 1) := by decide +kernel
set_option maxRecDepth 20000 in
theorem ggX7_deliver_X7_isLetter : GoodIn wsX7_deliver wsX7_isLetter := goodIn_r _ [7, 1, 8, 137, 138, 139, 140, 141, 142, 143, 151, 152, 153, 154] (by decide +kernel) (by decide +kernel)
set_option maxRecDepth 20000 in
theorem gX7_deliver_X7_isLetter : GoodIn wsX7_deliver (wsV RX7 85 RX7 yX7_isLetter wsX7_isLetter) := goodIn_app (goodIn_of _ (by decide +kernel)) ggX7_deliver_X7_isLetter
set_option maxRecDepth 20000 in
theorem ggX7_deliver_X7_need : GoodIn wsX7_deliver wsX7_need := goodIn_ca (goodIn_r _ [11, 12, 13] (by decide +kernel) (by decide +kernel)) (goodIn_sub (fun _ h => List.mem_cons_of_mem _ (List.mem_append_right _ h)) (by decide +kernel))
set_option maxRecDepth 20000 in
theorem gX7_deliver_X7_need : GoodIn wsX7_deliver (va_wsS RX7 49 yX7_need wsX7_need) := goodIn_app (goodIn_of _ (by decide +kernel)) ggX7_deliver_X7_need
set_option maxRecDepth 20000 in
theorem ggX7_deliver_X5_takeOut : GoodIn wsX7_deliver wsX5_takeOut := goodIn_r _ [18, 19, 20, 21, 151, 152, 153, 154] (by decide +kernel) (by decide +kernel)
set_option maxRecDepth 20000 in
theorem gX7_deliver_X5_takeOut : GoodIn wsX7_deliver (wsV RX7 88 RX5 yX5_takeOut wsX5_takeOut) := goodIn_app (goodIn_of _ (by decide +kernel)) ggX7_deliver_X5_takeOut
set_option maxRecDepth 20000 in
theorem ggX7_deliver_X7_takeMessage : GoodIn wsX7_deliver wsX7_takeMessage := goodIn_r _ [25, 26, 27, 28, 29, 30, 31, 32, 33, 34, 35, 36, 37, 6, 38, 39, 40, 41, 42, 43, 44, 45, 46, 47, 48, 49, 50, 51, 52, 53, 54, 55, 56, 57, 58, 59, 60, 61, 62, 63, 64, 65, 66, 67, 68, 69, 70, 71, 72, 73, 74, 75, 76, 77, 78, 79, 80, 81, 82, 83, 84, 85, 86, 87, 88, 89, 90, 91, 92, 93, 94, 95, 96, 97, 98, 99, 100, 101, 102, 103, 104, 105, 106, 107, 1, 108, 109, 110, 111, 112, 17, 113, 20, 114, 115, 116, 117, 19, 118, 119, 120, 121, 122, 123, 124, 125, 126, 127, 128, 129, 130, 131, 132, 137, 138, 139, 140, 141, 142, 143, 144, 145, 146, 147, 148, 149, 150, 155, 156, 157, 158, 159, 160, 161, 162, 163, 164, 165, 166, 167, 168, 169, 170, 171, 172, 173, 174, 175, 176, 177, 178, 179, 151, 152, 153, 154] (by decide +kernel) (by decide +kernel)
set_option maxRecDepth 20000 in
theorem gX7_deliver_X7_takeMessage : GoodIn wsX7_deliver (wsV RX7 97 RX7 yX7_takeMessage wsX7_takeMessage) := goodIn_app (goodIn_of _ (by decide +kernel)) ggX7_deliver_X7_takeMessage
set_option maxRecDepth 20000 in
theorem ggX7_deliver_X7_takeNote : GoodIn wsX7_deliver wsX7_takeNote := goodIn_r _ [136, 30, 31, 32, 28, 26, 27, 34, 44, 45, 6, 46, 39, 40, 41, 42, 43, 72, 73, 74, 75, 76, 77, 78, 79, 80, 81, 82, 83, 84, 85, 144, 145, 146, 147, 148, 149, 150, 137, 138, 139, 140, 141, 142, 143, 155, 156, 157, 158, 159, 160, 161, 162, 168, 169, 170, 171, 172] (by decide +kernel) (by decide +kernel)
set_option maxRecDepth 20000 in
theorem gX7_deliver_X7_takeNote : GoodIn wsX7_deliver (wsV RX7 101 RX7 yX7_takeNote wsX7_takeNote) := goodIn_app (goodIn_of _ (by decide +kernel)) ggX7_deliver_X7_takeNote
theorem dX7_deliver_0 : decode cX7_deliver 0 = .ok (.aload_n 0, 1) := by decide +kernel
theorem dX7_deliver_1 : decode cX7_deliver 1 = .ok (.iload_n 1, 1) := by decide +kernel
theorem dX7_deliver_2 : decode cX7_deliver 2 = .ok (.invokevirtual 85, 3) := by decide +kernel
theorem dX7_deliver_5 : decode cX7_deliver 5 = .ok (.invokestatic 49, 3) := by decide +kernel
theorem dX7_deliver_8 : decode cX7_deliver 8 = .ok (.aload_n 0, 1) := by decide +kernel
theorem dX7_deliver_9 : decode cX7_deliver 9 = .ok (.getfield 18, 3) := by decide +kernel
theorem dX7_deliver_12 : decode cX7_deliver 12 = .ok (.iload_n 1, 1) := by decide +kernel
theorem dX7_deliver_13 : decode cX7_deliver 13 = .ok (.invokevirtual 88, 3) := by decide +kernel
theorem dX7_deliver_16 : decode cX7_deliver 16 = .ok (.astore_n 2, 1) := by decide +kernel
theorem dX7_deliver_17 : decode cX7_deliver 17 = .ok (.aload_n 2, 1) := by decide +kernel
theorem dX7_deliver_18 : decode cX7_deliver 18 = .ok (.getfield 92, 3) := by decide +kernel
theorem dX7_deliver_21 : decode cX7_deliver 21 = .ok (.iconst 1, 1) := by decide +kernel
theorem dX7_deliver_22 : decode cX7_deliver 22 = .ok (.if_icmp .ne 11, 3) := by decide +kernel
theorem dX7_deliver_25 : decode cX7_deliver 25 = .ok (.aload_n 0, 1) := by decide +kernel
theorem dX7_deliver_26 : decode cX7_deliver 26 = .ok (.aload_n 2, 1) := by decide +kernel
theorem dX7_deliver_27 : decode cX7_deliver 27 = .ok (.invokevirtual 97, 3) := by decide +kernel
theorem dX7_deliver_30 : decode cX7_deliver 30 = .ok (.goto 8, 3) := by decide +kernel
theorem dX7_deliver_33 : decode cX7_deliver 33 = .ok (.aload_n 0, 1) := by decide +kernel
theorem dX7_deliver_34 : decode cX7_deliver 34 = .ok (.aload_n 2, 1) := by decide +kernel
theorem dX7_deliver_35 : decode cX7_deliver 35 = .ok (.invokevirtual 101, 3) := by decide +kernel
theorem dX7_deliver_38 : decode cX7_deliver 38 = .ok (.ireturn, 1) := by decide +kernel
set_option maxRecDepth 20000 in
theorem ggX7_drop_X7_isLetter : GoodIn wsX7_drop wsX7_isLetter := goodIn_r _ [7, 1, 8, 22, 23, 24, 25, 26, 27, 28, 36, 37, 38, 39] (by decide +kernel) (by decide +kernel)
set_option maxRecDepth 20000 in
theorem gX7_drop_X7_isLetter : GoodIn wsX7_drop (wsV RX7 85 RX7 yX7_isLetter wsX7_isLetter) := goodIn_app (goodIn_of _ (by decide +kernel)) ggX7_drop_X7_isLetter
set_option maxRecDepth 20000 in
theorem ggX7_drop_X7_need : GoodIn wsX7_drop wsX7_need := goodIn_ca (goodIn_r _ [11, 12, 13] (by decide +kernel) (by decide +kernel)) (goodIn_sub (fun _ h => List.mem_cons_of_mem _ (List.mem_append_right _ h)) (by decide +kernel))
set_option maxRecDepth 20000 in
theorem gX7_drop_X7_need : GoodIn wsX7_drop (va_wsS RX7 49 yX7_need wsX7_need) := goodIn_app (goodIn_of _ (by decide +kernel)) ggX7_drop_X7_need
set_option maxRecDepth 20000 in
theorem ggX7_drop_X5_takeOut : GoodIn wsX7_drop wsX5_takeOut := goodIn_r _ [18, 19, 20, 21, 36, 37, 38, 39] (by decide +kernel) (by decide +kernel)
set_option maxRecDepth 20000 in
theorem gX7_drop_X5_takeOut : GoodIn wsX7_drop (wsV RX7 88 RX5 yX5_takeOut wsX5_takeOut) := goodIn_app (goodIn_of _ (by decide +kernel)) ggX7_drop_X5_takeOut
theorem dX7_drop_0 : decode cX7_drop 0 = .ok (.aload_n 0, 1) := by decide +kernel
theorem dX7_drop_1 : decode cX7_drop 1 = .ok (.iload_n 1, 1) := by decide +kernel
theorem dX7_drop_2 : decode cX7_drop 2 = .ok (.invokevirtual 85, 3) := by decide +kernel
theorem dX7_drop_5 : decode cX7_drop 5 = .ok (.invokestatic 49, 3) := by decide +kernel
theorem dX7_drop_8 : decode cX7_drop 8 = .ok (.aload_n 0, 1) := by decide +kernel
theorem dX7_drop_9 : decode cX7_drop 9 = .ok (.getfield 18, 3) := by decide +kernel
theorem dX7_drop_12 : decode cX7_drop 12 = .ok (.iload_n 1, 1) := by decide +kernel
theorem dX7_drop_13 : decode cX7_drop 13 = .ok (.invokevirtual 88, 3) := by decide +kernel
theorem dX7_drop_16 : decode cX7_drop 16 = .ok (.getfield 92, 3) := by decide +kernel
theorem dX7_drop_19 : decode cX7_drop 19 = .ok (.ireturn, 1) := by decide +kernel
set_option maxRecDepth 20000 in
theorem ggX7_copy_X7_isLetter : GoodIn wsX7_copy wsX7_isLetter := goodIn_r _ [6, 1, 7, 48, 49, 50, 51, 52, 53, 54, 55, 56, 57, 58] (by decide +kernel) (by decide +kernel)
set_option maxRecDepth 20000 in
theorem gX7_copy_X7_isLetter : GoodIn wsX7_copy (wsV RX7 85 RX7 yX7_isLetter wsX7_isLetter) := goodIn_app (goodIn_of _ (by decide +kernel)) ggX7_copy_X7_isLetter
set_option maxRecDepth 20000 in
theorem ggX7_copy_X7_need : GoodIn wsX7_copy wsX7_need := goodIn_ca (goodIn_r _ [10, 11, 12] (by decide +kernel) (by decide +kernel)) (goodIn_sub (fun _ h => List.mem_cons_of_mem _ (List.mem_append_right _ h)) (by decide +kernel))
set_option maxRecDepth 20000 in
theorem gX7_copy_X7_need : GoodIn wsX7_copy (va_wsS RX7 49 yX7_need wsX7_need) := goodIn_app (goodIn_of _ (by decide +kernel)) ggX7_copy_X7_need
set_option maxRecDepth 20000 in
theorem ggX7_copy_X5_repeat : GoodIn wsX7_copy wsX5_repeat := goodIn_r _ [17, 18, 19, 20, 21, 16, 22, 23, 24, 25, 26, 27, 28, 29, 30, 31, 32, 33, 34, 35, 36, 37, 38, 39, 40, 41, 42, 43, 44, 45, 46, 47, 55, 56, 57, 58, 59, 60, 61, 62, 63, 64, 65] (by decide +kernel) (by decide +kernel)
set_option maxRecDepth 20000 in
theorem gX7_copy_X5_repeat : GoodIn wsX7_copy (wsV RX7 104 RX5 yX5_repeat wsX5_repeat) := goodIn_app (goodIn_of _ (by decide +kernel)) ggX7_copy_X5_repeat
theorem dX7_copy_0 : decode cX7_copy 0 = .ok (.aload_n 0, 1) := by decide +kernel
theorem dX7_copy_1 : decode cX7_copy 1 = .ok (.iload_n 1, 1) := by decide +kernel
theorem dX7_copy_2 : decode cX7_copy 2 = .ok (.invokevirtual 85, 3) := by decide +kernel
theorem dX7_copy_5 : decode cX7_copy 5 = .ok (.invokestatic 49, 3) := by decide +kernel
theorem dX7_copy_8 : decode cX7_copy 8 = .ok (.aload_n 0, 1) := by decide +kernel
theorem dX7_copy_9 : decode cX7_copy 9 = .ok (.getfield 18, 3) := by decide +kernel
theorem dX7_copy_12 : decode cX7_copy 12 = .ok (.iload_n 1, 1) := by decide +kernel
theorem dX7_copy_13 : decode cX7_copy 13 = .ok (.invokevirtual 104, 3) := by decide +kernel
theorem dX7_copy_16 : decode cX7_copy 16 = .ok (.ireturn, 1) := by decide +kernel
set_option maxRecDepth 20000 in
theorem ggX7_spoil_X7_isLetter : GoodIn wsX7_spoil wsX7_isLetter := goodIn_r _ [9, 1, 10, 16, 17, 18, 19, 20, 21, 22, 23, 24, 25, 26] (by decide +kernel) (by decide +kernel)
set_option maxRecDepth 20000 in
theorem gX7_spoil_X7_isLetter : GoodIn wsX7_spoil (wsV RX7 85 RX7 yX7_isLetter wsX7_isLetter) := goodIn_app (goodIn_of _ (by decide +kernel)) ggX7_spoil_X7_isLetter
set_option maxRecDepth 20000 in
theorem ggX7_spoil_X7_need : GoodIn wsX7_spoil wsX7_need := goodIn_ca (goodIn_r _ [13, 14, 15] (by decide +kernel) (by decide +kernel)) (goodIn_sub (fun _ h => List.mem_cons_of_mem _ (List.mem_append_right _ h)) (by decide +kernel))
set_option maxRecDepth 20000 in
theorem gX7_spoil_X7_need : GoodIn wsX7_spoil (va_wsS RX7 49 yX7_need wsX7_need) := goodIn_app (goodIn_of _ (by decide +kernel)) ggX7_spoil_X7_need
theorem dX7_spoil_0 : decode cX7_spoil 0 = .ok (.aload_n 0, 1) := by decide +kernel
theorem dX7_spoil_1 : decode cX7_spoil 1 = .ok (.iload_n 1, 1) := by decide +kernel
theorem dX7_spoil_2 : decode cX7_spoil 2 = .ok (.invokevirtual 85, 3) := by decide +kernel
theorem dX7_spoil_5 : decode cX7_spoil 5 = .ok (.ifCond .eq 23, 3) := by decide +kernel
theorem dX7_spoil_8 : decode cX7_spoil 8 = .ok (.aload_n 0, 1) := by decide +kernel
theorem dX7_spoil_9 : decode cX7_spoil 9 = .ok (.getfield 18, 3) := by decide +kernel
theorem dX7_spoil_12 : decode cX7_spoil 12 = .ok (.getfield 107, 3) := by decide +kernel
theorem dX7_spoil_15 : decode cX7_spoil 15 = .ok (.iload_n 1, 1) := by decide +kernel
theorem dX7_spoil_16 : decode cX7_spoil 16 = .ok (.aaload, 1) := by decide +kernel
theorem dX7_spoil_17 : decode cX7_spoil 17 = .ok (.getfield 92, 3) := by decide +kernel
theorem dX7_spoil_20 : decode cX7_spoil 20 = .ok (.iconst 1, 1) := by decide +kernel
theorem dX7_spoil_21 : decode cX7_spoil 21 = .ok (.if_icmp .ne 7, 3) := by decide +kernel
theorem dX7_spoil_24 : decode cX7_spoil 24 = .ok (.iconst 1, 1) := by decide +kernel
theorem dX7_spoil_25 : decode cX7_spoil 25 = .ok (.goto 4, 3) := by decide +kernel
theorem dX7_spoil_28 : decode cX7_spoil 28 = .ok (.iconst 0, 1) := by decide +kernel
theorem dX7_spoil_29 : decode cX7_spoil 29 = .ok (.invokestatic 49, 3) := by decide +kernel
theorem dX7_spoil_32 : decode cX7_spoil 32 = .ok (.aload_n 0, 1) := by decide +kernel
theorem dX7_spoil_33 : decode cX7_spoil 33 = .ok (.getfield 18, 3) := by decide +kernel
theorem dX7_spoil_36 : decode cX7_spoil 36 = .ok (.getfield 107, 3) := by decide +kernel
theorem dX7_spoil_39 : decode cX7_spoil 39 = .ok (.iload_n 1, 1) := by decide +kernel
theorem dX7_spoil_40 : decode cX7_spoil 40 = .ok (.aaload, 1) := by decide +kernel
theorem dX7_spoil_41 : decode cX7_spoil 41 = .ok (.getfield 111, 3) := by decide +kernel
theorem dX7_spoil_44 : decode cX7_spoil 44 = .ok (.istore_n 3, 1) := by decide +kernel
theorem dX7_spoil_45 : decode cX7_spoil 45 = .ok (.aload_n 0, 1) := by decide +kernel
theorem dX7_spoil_46 : decode cX7_spoil 46 = .ok (.getfield 18, 3) := by decide +kernel
theorem dX7_spoil_49 : decode cX7_spoil 49 = .ok (.getfield 107, 3) := by decide +kernel
theorem dX7_spoil_52 : decode cX7_spoil 52 = .ok (.iload_n 1, 1) := by decide +kernel
theorem dX7_spoil_53 : decode cX7_spoil 53 = .ok (.aaload, 1) := by decide +kernel
theorem dX7_spoil_54 : decode cX7_spoil 54 = .ok (.iload_n 2, 1) := by decide +kernel
theorem dX7_spoil_55 : decode cX7_spoil 55 = .ok (.putfield 111, 3) := by decide +kernel
theorem dX7_spoil_58 : decode cX7_spoil 58 = .ok (.iload_n 3, 1) := by decide +kernel
theorem dX7_spoil_59 : decode cX7_spoil 59 = .ok (.ireturn, 1) := by decide +kernel
set_option maxRecDepth 20000 in
theorem ggX7_forward_X7_isNode : GoodIn wsX7_forward wsX7_isNode := goodIn_r _ [9, 10, 59, 60, 61, 62, 63, 64, 65] (by decide +kernel) (by decide +kernel)
set_option maxRecDepth 20000 in
theorem gX7_forward_X7_isNode : GoodIn wsX7_forward (wsV RX7 53 RX7 yX7_isNode wsX7_isNode) := goodIn_app (goodIn_of _ (by decide +kernel)) ggX7_forward_X7_isNode
set_option maxRecDepth 20000 in
theorem ggX7_forward_X7_need : GoodIn wsX7_forward wsX7_need := goodIn_ca (goodIn_r _ [13, 14, 15] (by decide +kernel) (by decide +kernel)) (goodIn_sub (fun _ h => List.mem_cons_of_mem _ (List.mem_append_right _ h)) (by decide +kernel))
set_option maxRecDepth 20000 in
theorem gX7_forward_X7_need : GoodIn wsX7_forward (va_wsS RX7 49 yX7_need wsX7_need) := goodIn_app (goodIn_of _ (by decide +kernel)) ggX7_forward_X7_need
set_option maxRecDepth 20000 in
theorem ggX7_forward_X7_sendNote : GoodIn wsX7_forward wsX7_sendNote := goodIn_r _ [19, 20, 10, 21, 22, 23, 24, 25, 26, 27, 28, 29, 30, 31, 32, 33, 34, 35, 36, 37, 38, 39, 40, 41, 42, 43, 44, 45, 8, 46, 47, 48, 49, 50, 51, 52, 53, 54, 55, 56, 57, 58, 74, 75, 76, 77, 78, 59, 60, 61, 62, 63, 64, 65, 79, 80, 81, 82, 83, 84, 85, 86, 87, 88, 89] (by decide +kernel) (by decide +kernel)
set_option maxRecDepth 20000 in
theorem gX7_forward_X7_sendNote : GoodIn wsX7_forward (wsV RX7 125 RX7 yX7_sendNote wsX7_sendNote) := goodIn_app (goodIn_of _ (by decide +kernel)) ggX7_forward_X7_sendNote
theorem dX7_forward_0 : decode cX7_forward 0 = .ok (.aload_n 0, 1) := by decide +kernel
theorem dX7_forward_1 : decode cX7_forward 1 = .ok (.iload_n 1, 1) := by decide +kernel
theorem dX7_forward_2 : decode cX7_forward 2 = .ok (.invokevirtual 53, 3) := by decide +kernel
theorem dX7_forward_5 : decode cX7_forward 5 = .ok (.invokestatic 49, 3) := by decide +kernel
theorem dX7_forward_8 : decode cX7_forward 8 = .ok (.aload_n 0, 1) := by decide +kernel
theorem dX7_forward_9 : decode cX7_forward 9 = .ok (.getfield 11, 3) := by decide +kernel
theorem dX7_forward_12 : decode cX7_forward 12 = .ok (.iload_n 1, 1) := by decide +kernel
theorem dX7_forward_13 : decode cX7_forward 13 = .ok (.aaload, 1) := by decide +kernel
theorem dX7_forward_14 : decode cX7_forward 14 = .ok (.getfield 114, 3) := by decide +kernel
theorem dX7_forward_17 : decode cX7_forward 17 = .ok (.astore_n 2, 1) := by decide +kernel
theorem dX7_forward_18 : decode cX7_forward 18 = .ok (.iconst 0, 1) := by decide +kernel
theorem dX7_forward_19 : decode cX7_forward 19 = .ok (.istore_n 3, 1) := by decide +kernel
theorem dX7_forward_20 : decode cX7_forward 20 = .ok (.iconst 0, 1) := by decide +kernel
theorem dX7_forward_21 : decode cX7_forward 21 = .ok (.istore 4, 2) := by decide +kernel
theorem dX7_forward_23 : decode cX7_forward 23 = .ok (.iload 4, 2) := by decide +kernel
theorem dX7_forward_25 : decode cX7_forward 25 = .ok (.aload_n 2, 1) := by decide +kernel
theorem dX7_forward_26 : decode cX7_forward 26 = .ok (.getfield 118, 3) := by decide +kernel
theorem dX7_forward_29 : decode cX7_forward 29 = .ok (.if_icmp .ge 49, 3) := by decide +kernel
theorem dX7_forward_32 : decode cX7_forward 32 = .ok (.aload_n 2, 1) := by decide +kernel
theorem dX7_forward_33 : decode cX7_forward 33 = .ok (.getfield 121, 3) := by decide +kernel
theorem dX7_forward_36 : decode cX7_forward 36 = .ok (.iload 4, 2) := by decide +kernel
theorem dX7_forward_38 : decode cX7_forward 38 = .ok (.baload, 1) := by decide +kernel
theorem dX7_forward_39 : decode cX7_forward 39 = .ok (.ifCond .ne 33, 3) := by decide +kernel
theorem dX7_forward_42 : decode cX7_forward 42 = .ok (.aload_n 2, 1) := by decide +kernel
theorem dX7_forward_43 : decode cX7_forward 43 = .ok (.getfield 121, 3) := by decide +kernel
theorem dX7_forward_46 : decode cX7_forward 46 = .ok (.iload 4, 2) := by decide +kernel
theorem dX7_forward_48 : decode cX7_forward 48 = .ok (.iconst 1, 1) := by decide +kernel
theorem dX7_forward_49 : decode cX7_forward 49 = .ok (.bastore, 1) := by decide +kernel
theorem dX7_forward_50 : decode cX7_forward 50 = .ok (.iload_n 3, 1) := by decide +kernel
theorem dX7_forward_51 : decode cX7_forward 51 = .ok (.aload_n 0, 1) := by decide +kernel
theorem dX7_forward_52 : decode cX7_forward 52 = .ok (.iload_n 1, 1) := by decide +kernel
theorem dX7_forward_53 : decode cX7_forward 53 = .ok (.aload_n 2, 1) := by decide +kernel
theorem dX7_forward_54 : decode cX7_forward 54 = .ok (.iload 4, 2) := by decide +kernel
theorem dX7_forward_56 : decode cX7_forward 56 = .ok (.iconst 1, 1) := by decide +kernel
theorem dX7_forward_57 : decode cX7_forward 57 = .ok (.invokevirtual 125, 3) := by decide +kernel
theorem dX7_forward_60 : decode cX7_forward 60 = .ok (.aload_n 0, 1) := by decide +kernel
theorem dX7_forward_61 : decode cX7_forward 61 = .ok (.iload_n 1, 1) := by decide +kernel
theorem dX7_forward_62 : decode cX7_forward 62 = .ok (.aload_n 2, 1) := by decide +kernel
theorem dX7_forward_63 : decode cX7_forward 63 = .ok (.iload 4, 2) := by decide +kernel
theorem dX7_forward_65 : decode cX7_forward 65 = .ok (.iconst 2, 1) := by decide +kernel
theorem dX7_forward_66 : decode cX7_forward 66 = .ok (.invokevirtual 125, 3) := by decide +kernel
theorem dX7_forward_69 : decode cX7_forward 69 = .ok (.iadd, 1) := by decide +kernel
theorem dX7_forward_70 : decode cX7_forward 70 = .ok (.iadd, 1) := by decide +kernel
theorem dX7_forward_71 : decode cX7_forward 71 = .ok (.istore_n 3, 1) := by decide +kernel
theorem dX7_forward_72 : decode cX7_forward 72 = .ok (.iinc 4 1, 3) := by decide +kernel
theorem dX7_forward_75 : decode cX7_forward 75 = .ok (.goto (-52), 3) := by decide +kernel
theorem dX7_forward_78 : decode cX7_forward 78 = .ok (.iload_n 3, 1) := by decide +kernel
theorem dX7_forward_79 : decode cX7_forward 79 = .ok (.ireturn, 1) := by decide +kernel
set_option maxRecDepth 20000 in
theorem ggX7_lie_X7_isNode : GoodIn wsX7_lie wsX7_isNode := goodIn_r _ [8, 9, 79, 80, 81, 82, 83, 84, 85] (by decide +kernel) (by decide +kernel)
set_option maxRecDepth 20000 in
theorem gX7_lie_X7_isNode : GoodIn wsX7_lie (wsV RX7 53 RX7 yX7_isNode wsX7_isNode) := goodIn_app (goodIn_of _ (by decide +kernel)) ggX7_lie_X7_isNode
set_option maxRecDepth 20000 in
theorem ggX7_lie_X7_need : GoodIn wsX7_lie wsX7_need := goodIn_ca (goodIn_r _ [12, 13, 14] (by decide +kernel) (by decide +kernel)) (goodIn_sub (fun _ h => List.mem_cons_of_mem _ (List.mem_append_left _ (List.mem_append_right _ h))) (by decide +kernel))
set_option maxRecDepth 20000 in
theorem gX7_lie_X7_need : GoodIn wsX7_lie (va_wsS RX7 49 yX7_need wsX7_need) := goodIn_app (goodIn_of _ (by decide +kernel)) ggX7_lie_X7_need
set_option maxRecDepth 20000 in
theorem ggX7_lie_X2_hasTwoPlaces : GoodIn wsX7_lie wsX2_hasTwoPlaces := goodIn_r _ [19, 20, 94, 95, 96, 97, 98] (by decide +kernel) (by decide +kernel)
set_option maxRecDepth 20000 in
theorem gX7_lie_X2_hasTwoPlaces : GoodIn wsX7_lie (wsV RX7 60 RX2 yX2_hasTwoPlaces wsX2_hasTwoPlaces) := goodIn_app (goodIn_of _ (by decide +kernel)) ggX7_lie_X2_hasTwoPlaces
set_option maxRecDepth 20000 in
theorem ggX7_lie_X7_needState : GoodIn wsX7_lie wsX7_needState := goodIn_ca (goodIn_r _ [23, 24, 25] (by decide +kernel) (by decide +kernel)) (goodIn_sub (fun _ h => List.mem_cons_of_mem _ (List.mem_append_right _ h)) (by decide +kernel))
set_option maxRecDepth 20000 in
theorem gX7_lie_X7_needState : GoodIn wsX7_lie (va_wsS RX7 64 yX7_needState wsX7_needState) := goodIn_app (goodIn_of _ (by decide +kernel)) ggX7_lie_X7_needState
set_option maxRecDepth 20000 in
theorem ggX7_lie_X7_sendMessage : GoodIn wsX7_lie wsX7_sendMessage := goodIn_r _ [29, 2, 30, 3, 31, 32, 33, 34, 35, 36, 37, 18, 38, 20, 39, 40, 41, 42, 43, 7, 44, 45, 46, 47, 48, 49, 50, 51, 52, 53, 54, 55, 56, 57, 58, 59, 60, 61, 62, 63, 64, 65, 66, 67, 68, 69, 70, 71, 72, 73, 74, 75, 76, 77, 78, 86, 87, 88, 89, 90, 91, 92, 93, 94, 95, 96, 97, 98, 79, 80, 81, 82, 83, 84, 85, 99, 100, 101, 102, 103, 104, 105, 106, 107, 108, 109] (by decide +kernel) (by decide +kernel)
set_option maxRecDepth 20000 in
theorem gX7_lie_X7_sendMessage : GoodIn wsX7_lie (wsV RX7 129 RX7 yX7_sendMessage wsX7_sendMessage) := goodIn_app (goodIn_of _ (by decide +kernel)) ggX7_lie_X7_sendMessage
theorem dX7_lie_0 : decode cX7_lie 0 = .ok (.aload_n 0, 1) := by decide +kernel
theorem dX7_lie_1 : decode cX7_lie 1 = .ok (.iload_n 1, 1) := by decide +kernel
theorem dX7_lie_2 : decode cX7_lie 2 = .ok (.invokevirtual 53, 3) := by decide +kernel
theorem dX7_lie_5 : decode cX7_lie 5 = .ok (.ifCond .eq 20, 3) := by decide +kernel
theorem dX7_lie_8 : decode cX7_lie 8 = .ok (.aload_n 0, 1) := by decide +kernel
theorem dX7_lie_9 : decode cX7_lie 9 = .ok (.iload_n 2, 1) := by decide +kernel
theorem dX7_lie_10 : decode cX7_lie 10 = .ok (.invokevirtual 53, 3) := by decide +kernel
theorem dX7_lie_13 : decode cX7_lie 13 = .ok (.ifCond .eq 12, 3) := by decide +kernel
theorem dX7_lie_16 : decode cX7_lie 16 = .ok (.iload_n 2, 1) := by decide +kernel
theorem dX7_lie_17 : decode cX7_lie 17 = .ok (.iload_n 1, 1) := by decide +kernel
theorem dX7_lie_18 : decode cX7_lie 18 = .ok (.if_icmp .eq 7, 3) := by decide +kernel
theorem dX7_lie_21 : decode cX7_lie 21 = .ok (.iconst 1, 1) := by decide +kernel
theorem dX7_lie_22 : decode cX7_lie 22 = .ok (.goto 4, 3) := by decide +kernel
theorem dX7_lie_25 : decode cX7_lie 25 = .ok (.iconst 0, 1) := by decide +kernel
theorem dX7_lie_26 : decode cX7_lie 26 = .ok (.invokestatic 49, 3) := by decide +kernel
theorem dX7_lie_29 : decode cX7_lie 29 = .ok (.aload_n 0, 1) := by decide +kernel
theorem dX7_lie_30 : decode cX7_lie 30 = .ok (.getfield 11, 3) := by decide +kernel
theorem dX7_lie_33 : decode cX7_lie 33 = .ok (.iload_n 1, 1) := by decide +kernel
theorem dX7_lie_34 : decode cX7_lie 34 = .ok (.aaload, 1) := by decide +kernel
theorem dX7_lie_35 : decode cX7_lie 35 = .ok (.getfield 57, 3) := by decide +kernel
theorem dX7_lie_38 : decode cX7_lie 38 = .ok (.invokevirtual 60, 3) := by decide +kernel
theorem dX7_lie_41 : decode cX7_lie 41 = .ok (.invokestatic 64, 3) := by decide +kernel
theorem dX7_lie_44 : decode cX7_lie 44 = .ok (.aload_n 0, 1) := by decide +kernel
theorem dX7_lie_45 : decode cX7_lie 45 = .ok (.aload_n 0, 1) := by decide +kernel
theorem dX7_lie_46 : decode cX7_lie 46 = .ok (.getfield 11, 3) := by decide +kernel
theorem dX7_lie_49 : decode cX7_lie 49 = .ok (.iload_n 1, 1) := by decide +kernel
theorem dX7_lie_50 : decode cX7_lie 50 = .ok (.aaload, 1) := by decide +kernel
theorem dX7_lie_51 : decode cX7_lie 51 = .ok (.iload_n 2, 1) := by decide +kernel
theorem dX7_lie_52 : decode cX7_lie 52 = .ok (.iload_n 3, 1) := by decide +kernel
theorem dX7_lie_53 : decode cX7_lie 53 = .ok (.invokevirtual 129, 3) := by decide +kernel
theorem dX7_lie_56 : decode cX7_lie 56 = .ok (.aload_n 0, 1) := by decide +kernel
theorem dX7_lie_57 : decode cX7_lie 57 = .ok (.getfield 11, 3) := by decide +kernel
theorem dX7_lie_60 : decode cX7_lie 60 = .ok (.iload_n 1, 1) := by decide +kernel
theorem dX7_lie_61 : decode cX7_lie 61 = .ok (.aaload, 1) := by decide +kernel
theorem dX7_lie_62 : decode cX7_lie 62 = .ok (.getfield 57, 3) := by decide +kernel
theorem dX7_lie_65 : decode cX7_lie 65 = .ok (.getfield 81, 3) := by decide +kernel
theorem dX7_lie_68 : decode cX7_lie 68 = .ok (.ireturn, 1) := by decide +kernel
set_option maxRecDepth 20000 in
theorem ggX7_bend_X7_isNode : GoodIn wsX7_bend wsX7_isNode := goodIn_r _ [9, 10, 33, 34, 35, 36, 37, 38, 39] (by decide +kernel) (by decide +kernel)
set_option maxRecDepth 20000 in
theorem gX7_bend_X7_isNode : GoodIn wsX7_bend (wsV RX7 53 RX7 yX7_isNode wsX7_isNode) := goodIn_app (goodIn_of _ (by decide +kernel)) ggX7_bend_X7_isNode
set_option maxRecDepth 20000 in
theorem ggX7_bend_X7_need : GoodIn wsX7_bend wsX7_need := goodIn_ca (goodIn_r _ [13, 14, 15] (by decide +kernel) (by decide +kernel)) (goodIn_sub (fun _ h => List.mem_cons_of_mem _ (List.mem_append_right _ h)) (by decide +kernel))
set_option maxRecDepth 20000 in
theorem gX7_bend_X7_need : GoodIn wsX7_bend (va_wsS RX7 49 yX7_need wsX7_need) := goodIn_app (goodIn_of _ (by decide +kernel)) ggX7_bend_X7_need
set_option maxRecDepth 20000 in
theorem ggX7_bend_X2_rewrite : GoodIn wsX7_bend wsX2_rewrite := goodIn_r _ [20, 21, 22, 23, 24, 25, 26, 8, 27, 28, 29, 30, 31, 32, 48, 49, 50, 51, 52] (by decide +kernel) (by decide +kernel)
set_option maxRecDepth 20000 in
theorem gX7_bend_X2_rewrite : GoodIn wsX7_bend (wsV RX7 137 RX2 yX2_rewrite wsX2_rewrite) := goodIn_app (goodIn_of _ (by decide +kernel)) ggX7_bend_X2_rewrite
theorem dX7_bend_0 : decode cX7_bend 0 = .ok (.aload_n 0, 1) := by decide +kernel
theorem dX7_bend_1 : decode cX7_bend 1 = .ok (.iload_n 1, 1) := by decide +kernel
theorem dX7_bend_2 : decode cX7_bend 2 = .ok (.invokevirtual 53, 3) := by decide +kernel
theorem dX7_bend_5 : decode cX7_bend 5 = .ok (.ifCond .eq 28, 3) := by decide +kernel
theorem dX7_bend_8 : decode cX7_bend 8 = .ok (.iload_n 2, 1) := by decide +kernel
theorem dX7_bend_9 : decode cX7_bend 9 = .ok (.iconst 1, 1) := by decide +kernel
theorem dX7_bend_10 : decode cX7_bend 10 = .ok (.if_icmp .lt 23, 3) := by decide +kernel
theorem dX7_bend_13 : decode cX7_bend 13 = .ok (.iload_n 2, 1) := by decide +kernel
theorem dX7_bend_14 : decode cX7_bend 14 = .ok (.aload_n 0, 1) := by decide +kernel
theorem dX7_bend_15 : decode cX7_bend 15 = .ok (.getfield 11, 3) := by decide +kernel
theorem dX7_bend_18 : decode cX7_bend 18 = .ok (.iload_n 1, 1) := by decide +kernel
theorem dX7_bend_19 : decode cX7_bend 19 = .ok (.aaload, 1) := by decide +kernel
theorem dX7_bend_20 : decode cX7_bend 20 = .ok (.getfield 57, 3) := by decide +kernel
theorem dX7_bend_23 : decode cX7_bend 23 = .ok (.getfield 81, 3) := by decide +kernel
theorem dX7_bend_26 : decode cX7_bend 26 = .ok (.if_icmp .gt 7, 3) := by decide +kernel
theorem dX7_bend_29 : decode cX7_bend 29 = .ok (.iconst 1, 1) := by decide +kernel
theorem dX7_bend_30 : decode cX7_bend 30 = .ok (.goto 4, 3) := by decide +kernel
theorem dX7_bend_33 : decode cX7_bend 33 = .ok (.iconst 0, 1) := by decide +kernel
theorem dX7_bend_34 : decode cX7_bend 34 = .ok (.invokestatic 49, 3) := by decide +kernel
theorem dX7_bend_37 : decode cX7_bend 37 = .ok (.aload_n 0, 1) := by decide +kernel
theorem dX7_bend_38 : decode cX7_bend 38 = .ok (.getfield 11, 3) := by decide +kernel
theorem dX7_bend_41 : decode cX7_bend 41 = .ok (.iload_n 1, 1) := by decide +kernel
theorem dX7_bend_42 : decode cX7_bend 42 = .ok (.aaload, 1) := by decide +kernel
theorem dX7_bend_43 : decode cX7_bend 43 = .ok (.getfield 57, 3) := by decide +kernel
theorem dX7_bend_46 : decode cX7_bend 46 = .ok (.getfield 133, 3) := by decide +kernel
theorem dX7_bend_49 : decode cX7_bend 49 = .ok (.iload_n 2, 1) := by decide +kernel
theorem dX7_bend_50 : decode cX7_bend 50 = .ok (.iaload, 1) := by decide +kernel
theorem dX7_bend_51 : decode cX7_bend 51 = .ok (.istore 4, 2) := by decide +kernel
theorem dX7_bend_53 : decode cX7_bend 53 = .ok (.aload_n 0, 1) := by decide +kernel
theorem dX7_bend_54 : decode cX7_bend 54 = .ok (.getfield 11, 3) := by decide +kernel
theorem dX7_bend_57 : decode cX7_bend 57 = .ok (.iload_n 1, 1) := by decide +kernel
theorem dX7_bend_58 : decode cX7_bend 58 = .ok (.aaload, 1) := by decide +kernel
theorem dX7_bend_59 : decode cX7_bend 59 = .ok (.getfield 57, 3) := by decide +kernel
theorem dX7_bend_62 : decode cX7_bend 62 = .ok (.iload_n 2, 1) := by decide +kernel
theorem dX7_bend_63 : decode cX7_bend 63 = .ok (.iload_n 3, 1) := by decide +kernel
theorem dX7_bend_64 : decode cX7_bend 64 = .ok (.invokevirtual 137, 3) := by decide +kernel
theorem dX7_bend_67 : decode cX7_bend 67 = .ok (.iload 4, 2) := by decide +kernel
theorem dX7_bend_69 : decode cX7_bend 69 = .ok (.ireturn, 1) := by decide +kernel
set_option maxRecDepth 20000 in
theorem ggX7_cut_X7_isNode : GoodIn wsX7_cut wsX7_isNode := goodIn_r _ [8, 9, 15, 16, 17, 18, 19, 20, 21] (by decide +kernel) (by decide +kernel)
set_option maxRecDepth 20000 in
theorem gX7_cut_X7_isNode : GoodIn wsX7_cut (wsV RX7 53 RX7 yX7_isNode wsX7_isNode) := goodIn_app (goodIn_of _ (by decide +kernel)) ggX7_cut_X7_isNode
set_option maxRecDepth 20000 in
theorem ggX7_cut_X7_need : GoodIn wsX7_cut wsX7_need := goodIn_ca (goodIn_r _ [12, 13, 14] (by decide +kernel) (by decide +kernel)) (goodIn_sub (fun _ h => List.mem_cons_of_mem _ (List.mem_append_right _ h)) (by decide +kernel))
set_option maxRecDepth 20000 in
theorem gX7_cut_X7_need : GoodIn wsX7_cut (va_wsS RX7 49 yX7_need wsX7_need) := goodIn_app (goodIn_of _ (by decide +kernel)) ggX7_cut_X7_need
theorem dX7_cut_0 : decode cX7_cut 0 = .ok (.aload_n 0, 1) := by decide +kernel
theorem dX7_cut_1 : decode cX7_cut 1 = .ok (.iload_n 1, 1) := by decide +kernel
theorem dX7_cut_2 : decode cX7_cut 2 = .ok (.invokevirtual 53, 3) := by decide +kernel
theorem dX7_cut_5 : decode cX7_cut 5 = .ok (.ifCond .eq 27, 3) := by decide +kernel
theorem dX7_cut_8 : decode cX7_cut 8 = .ok (.iload_n 2, 1) := by decide +kernel
theorem dX7_cut_9 : decode cX7_cut 9 = .ok (.ifCond .lt 23, 3) := by decide +kernel
theorem dX7_cut_12 : decode cX7_cut 12 = .ok (.iload_n 2, 1) := by decide +kernel
theorem dX7_cut_13 : decode cX7_cut 13 = .ok (.aload_n 0, 1) := by decide +kernel
theorem dX7_cut_14 : decode cX7_cut 14 = .ok (.getfield 11, 3) := by decide +kernel
theorem dX7_cut_17 : decode cX7_cut 17 = .ok (.iload_n 1, 1) := by decide +kernel
theorem dX7_cut_18 : decode cX7_cut 18 = .ok (.aaload, 1) := by decide +kernel
theorem dX7_cut_19 : decode cX7_cut 19 = .ok (.getfield 57, 3) := by decide +kernel
theorem dX7_cut_22 : decode cX7_cut 22 = .ok (.getfield 81, 3) := by decide +kernel
theorem dX7_cut_25 : decode cX7_cut 25 = .ok (.if_icmp .gt 7, 3) := by decide +kernel
theorem dX7_cut_28 : decode cX7_cut 28 = .ok (.iconst 1, 1) := by decide +kernel
theorem dX7_cut_29 : decode cX7_cut 29 = .ok (.goto 4, 3) := by decide +kernel
theorem dX7_cut_32 : decode cX7_cut 32 = .ok (.iconst 0, 1) := by decide +kernel
theorem dX7_cut_33 : decode cX7_cut 33 = .ok (.invokestatic 49, 3) := by decide +kernel
theorem dX7_cut_36 : decode cX7_cut 36 = .ok (.aload_n 0, 1) := by decide +kernel
theorem dX7_cut_37 : decode cX7_cut 37 = .ok (.getfield 11, 3) := by decide +kernel
theorem dX7_cut_40 : decode cX7_cut 40 = .ok (.iload_n 1, 1) := by decide +kernel
theorem dX7_cut_41 : decode cX7_cut 41 = .ok (.aaload, 1) := by decide +kernel
theorem dX7_cut_42 : decode cX7_cut 42 = .ok (.getfield 57, 3) := by decide +kernel
theorem dX7_cut_45 : decode cX7_cut 45 = .ok (.getfield 81, 3) := by decide +kernel
theorem dX7_cut_48 : decode cX7_cut 48 = .ok (.iload_n 2, 1) := by decide +kernel
theorem dX7_cut_49 : decode cX7_cut 49 = .ok (.isub, 1) := by decide +kernel
theorem dX7_cut_50 : decode cX7_cut 50 = .ok (.istore_n 3, 1) := by decide +kernel
theorem dX7_cut_51 : decode cX7_cut 51 = .ok (.aload_n 0, 1) := by decide +kernel
theorem dX7_cut_52 : decode cX7_cut 52 = .ok (.getfield 11, 3) := by decide +kernel
theorem dX7_cut_55 : decode cX7_cut 55 = .ok (.iload_n 1, 1) := by decide +kernel
theorem dX7_cut_56 : decode cX7_cut 56 = .ok (.aaload, 1) := by decide +kernel
theorem dX7_cut_57 : decode cX7_cut 57 = .ok (.getfield 57, 3) := by decide +kernel
theorem dX7_cut_60 : decode cX7_cut 60 = .ok (.iload_n 2, 1) := by decide +kernel
theorem dX7_cut_61 : decode cX7_cut 61 = .ok (.putfield 81, 3) := by decide +kernel
theorem dX7_cut_64 : decode cX7_cut 64 = .ok (.iload_n 3, 1) := by decide +kernel
theorem dX7_cut_65 : decode cX7_cut 65 = .ok (.ireturn, 1) := by decide +kernel
set_option maxRecDepth 20000 in
theorem ggX7_hide_X7_isNode : GoodIn wsX7_hide wsX7_isNode := goodIn_r _ [7, 8, 14, 15, 16, 17, 18, 19, 20] (by decide +kernel) (by decide +kernel)
set_option maxRecDepth 20000 in
theorem gX7_hide_X7_isNode : GoodIn wsX7_hide (wsV RX7 53 RX7 yX7_isNode wsX7_isNode) := goodIn_app (goodIn_of _ (by decide +kernel)) ggX7_hide_X7_isNode
set_option maxRecDepth 20000 in
theorem ggX7_hide_X7_need : GoodIn wsX7_hide wsX7_need := goodIn_ca (goodIn_r _ [11, 12, 13] (by decide +kernel) (by decide +kernel)) (goodIn_sub (fun _ h => List.mem_cons_of_mem _ (List.mem_append_right _ h)) (by decide +kernel))
set_option maxRecDepth 20000 in
theorem gX7_hide_X7_need : GoodIn wsX7_hide (va_wsS RX7 49 yX7_need wsX7_need) := goodIn_app (goodIn_of _ (by decide +kernel)) ggX7_hide_X7_need
theorem dX7_hide_0 : decode cX7_hide 0 = .ok (.aload_n 0, 1) := by decide +kernel
theorem dX7_hide_1 : decode cX7_hide 1 = .ok (.iload_n 1, 1) := by decide +kernel
theorem dX7_hide_2 : decode cX7_hide 2 = .ok (.invokevirtual 53, 3) := by decide +kernel
theorem dX7_hide_5 : decode cX7_hide 5 = .ok (.invokestatic 49, 3) := by decide +kernel
theorem dX7_hide_8 : decode cX7_hide 8 = .ok (.aload_n 0, 1) := by decide +kernel
theorem dX7_hide_9 : decode cX7_hide 9 = .ok (.getfield 11, 3) := by decide +kernel
theorem dX7_hide_12 : decode cX7_hide 12 = .ok (.iload_n 1, 1) := by decide +kernel
theorem dX7_hide_13 : decode cX7_hide 13 = .ok (.aaload, 1) := by decide +kernel
theorem dX7_hide_14 : decode cX7_hide 14 = .ok (.getfield 141, 3) := by decide +kernel
theorem dX7_hide_17 : decode cX7_hide 17 = .ok (.istore_n 3, 1) := by decide +kernel
theorem dX7_hide_18 : decode cX7_hide 18 = .ok (.aload_n 0, 1) := by decide +kernel
theorem dX7_hide_19 : decode cX7_hide 19 = .ok (.getfield 11, 3) := by decide +kernel
theorem dX7_hide_22 : decode cX7_hide 22 = .ok (.iload_n 1, 1) := by decide +kernel
theorem dX7_hide_23 : decode cX7_hide 23 = .ok (.aaload, 1) := by decide +kernel
theorem dX7_hide_24 : decode cX7_hide 24 = .ok (.iload_n 2, 1) := by decide +kernel
theorem dX7_hide_25 : decode cX7_hide 25 = .ok (.putfield 141, 3) := by decide +kernel
theorem dX7_hide_28 : decode cX7_hide 28 = .ok (.iload_n 3, 1) := by decide +kernel
theorem dX7_hide_29 : decode cX7_hide 29 = .ok (.ireturn, 1) := by decide +kernel
set_option maxRecDepth 20000 in
theorem ggX7_audit_X7_isNode : GoodIn wsX7_audit wsX7_isNode := goodIn_r _ [9, 10, 212, 213, 214, 215, 216, 217, 218] (by decide +kernel) (by decide +kernel)
set_option maxRecDepth 20000 in
theorem gX7_audit_X7_isNode : GoodIn wsX7_audit (wsV RX7 53 RX7 yX7_isNode wsX7_isNode) := goodIn_app (goodIn_of _ (by decide +kernel)) ggX7_audit_X7_isNode
set_option maxRecDepth 20000 in
theorem ggX7_audit_X7_isWitness : GoodIn wsX7_audit wsX7_isWitness := goodIn_r _ [14, 10, 212, 213, 214, 215, 216, 217, 218] (by decide +kernel) (by decide +kernel)
set_option maxRecDepth 20000 in
theorem gX7_audit_X7_isWitness : GoodIn wsX7_audit (wsV RX7 145 RX7 yX7_isWitness wsX7_isWitness) := goodIn_app (goodIn_of _ (by decide +kernel)) ggX7_audit_X7_isWitness
set_option maxRecDepth 20000 in
theorem ggX7_audit_X7_need : GoodIn wsX7_audit wsX7_need := goodIn_ca (goodIn_r _ [17, 18, 19] (by decide +kernel) (by decide +kernel)) (goodIn_sub (fun _ h => List.mem_cons_of_mem _ (List.mem_append_left _ (List.mem_append_right _ h))) (by decide +kernel))
set_option maxRecDepth 20000 in
theorem gX7_audit_X7_need : GoodIn wsX7_audit (va_wsS RX7 49 yX7_need wsX7_need) := goodIn_app (goodIn_of _ (by decide +kernel)) ggX7_audit_X7_need
set_option maxRecDepth 20000 in
theorem ggX7_audit_X7_needState : GoodIn wsX7_audit wsX7_needState := goodIn_ca (goodIn_r _ [22, 23, 24] (by decide +kernel) (by decide +kernel)) (goodIn_sub (fun _ h => List.mem_cons_of_mem _ (List.mem_append_right _ h)) (by decide +kernel))
set_option maxRecDepth 20000 in
theorem gX7_audit_X7_needState : GoodIn wsX7_audit (va_wsS RX7 64 yX7_needState wsX7_needState) := goodIn_app (goodIn_of _ (by decide +kernel)) ggX7_audit_X7_needState
set_option maxRecDepth 20000 in
theorem ggX7_audit_X7_examine : GoodIn wsX7_audit wsX7_examine := goodIn_r _ [28, 29, 30, 31, 32, 33, 34, 35, 36, 37, 38, 39, 40, 41, 42, 43, 44, 45, 46, 47, 8, 48, 49, 50, 51, 52, 53, 54, 1, 55, 56, 57, 58, 59, 60, 61, 62, 63, 64, 65, 66, 67, 68, 69, 70, 71, 72, 73, 74, 75, 76, 77, 78, 79, 80, 81, 82, 83, 84, 85, 86, 87, 88, 89, 90, 91, 92, 93, 94, 95, 96, 97, 98, 99, 100, 101, 102, 103, 104, 105, 106, 107, 108, 109, 110, 111, 112, 113, 114, 115, 116, 117, 118, 119, 120, 121, 122, 123, 124, 125, 126, 127, 128, 129, 130, 131, 132, 133, 134, 135, 136, 137, 138, 139, 140, 141, 142, 143, 144, 145, 146, 147, 148, 149, 150, 151, 152, 153, 154, 155, 156, 157, 158, 159, 160, 161, 162, 163, 164, 165, 166, 167, 10, 168, 169, 170, 171, 172, 173, 174, 175, 176, 177, 178, 179, 180, 181, 182, 183, 184, 185, 186, 187, 188, 189, 190, 5, 6, 7, 9, 191, 192, 193, 194, 195, 196, 197, 198, 199, 200, 201, 202, 203, 204, 205, 206, 207, 208, 209, 210, 211, 219, 220, 221, 222, 223, 224, 225, 226, 227, 228, 229, 230, 231, 232, 233, 234, 235, 236, 212, 213, 214, 215, 216, 217, 218, 237, 238, 239, 240, 241, 242, 243, 244, 245, 246, 247, 248] (by decide +kernel) (by decide +kernel)
set_option maxRecDepth 20000 in
theorem gX7_audit_X7_examine : GoodIn wsX7_audit (wsV RX7 155 RX7 yX7_examine wsX7_examine) := goodIn_app (goodIn_of _ (by decide +kernel)) ggX7_audit_X7_examine
theorem dX7_audit_0 : decode cX7_audit 0 = .ok (.aload_n 0, 1) := by decide +kernel
theorem dX7_audit_1 : decode cX7_audit 1 = .ok (.iload_n 1, 1) := by decide +kernel
theorem dX7_audit_2 : decode cX7_audit 2 = .ok (.invokevirtual 53, 3) := by decide +kernel
theorem dX7_audit_5 : decode cX7_audit 5 = .ok (.ifCond .eq 24, 3) := by decide +kernel
theorem dX7_audit_8 : decode cX7_audit 8 = .ok (.aload_n 0, 1) := by decide +kernel
theorem dX7_audit_9 : decode cX7_audit 9 = .ok (.iload_n 2, 1) := by decide +kernel
theorem dX7_audit_10 : decode cX7_audit 10 = .ok (.invokevirtual 53, 3) := by decide +kernel
theorem dX7_audit_13 : decode cX7_audit 13 = .ok (.ifCond .eq 16, 3) := by decide +kernel
theorem dX7_audit_16 : decode cX7_audit 16 = .ok (.aload_n 0, 1) := by decide +kernel
theorem dX7_audit_17 : decode cX7_audit 17 = .ok (.iload_n 1, 1) := by decide +kernel
theorem dX7_audit_18 : decode cX7_audit 18 = .ok (.iload_n 2, 1) := by decide +kernel
theorem dX7_audit_19 : decode cX7_audit 19 = .ok (.invokevirtual 145, 3) := by decide +kernel
theorem dX7_audit_22 : decode cX7_audit 22 = .ok (.ifCond .eq 7, 3) := by decide +kernel
theorem dX7_audit_25 : decode cX7_audit 25 = .ok (.iconst 1, 1) := by decide +kernel
theorem dX7_audit_26 : decode cX7_audit 26 = .ok (.goto 4, 3) := by decide +kernel
theorem dX7_audit_29 : decode cX7_audit 29 = .ok (.iconst 0, 1) := by decide +kernel
theorem dX7_audit_30 : decode cX7_audit 30 = .ok (.invokestatic 49, 3) := by decide +kernel
theorem dX7_audit_33 : decode cX7_audit 33 = .ok (.aload_n 0, 1) := by decide +kernel
theorem dX7_audit_34 : decode cX7_audit 34 = .ok (.getfield 149, 3) := by decide +kernel
theorem dX7_audit_37 : decode cX7_audit 37 = .ok (.bipush 40, 2) := by decide +kernel
theorem dX7_audit_39 : decode cX7_audit 39 = .ok (.if_icmp .ge 7, 3) := by decide +kernel
theorem dX7_audit_42 : decode cX7_audit 42 = .ok (.iconst 1, 1) := by decide +kernel
theorem dX7_audit_43 : decode cX7_audit 43 = .ok (.goto 4, 3) := by decide +kernel
theorem dX7_audit_46 : decode cX7_audit 46 = .ok (.iconst 0, 1) := by decide +kernel
theorem dX7_audit_47 : decode cX7_audit 47 = .ok (.invokestatic 64, 3) := by decide +kernel
theorem dX7_audit_50 : decode cX7_audit 50 = .ok (.aload_n 0, 1) := by decide +kernel
theorem dX7_audit_51 : decode cX7_audit 51 = .ok (.getfield 11, 3) := by decide +kernel
theorem dX7_audit_54 : decode cX7_audit 54 = .ok (.iload_n 1, 1) := by decide +kernel
theorem dX7_audit_55 : decode cX7_audit 55 = .ok (.aaload, 1) := by decide +kernel
theorem dX7_audit_56 : decode cX7_audit 56 = .ok (.getfield 152, 3) := by decide +kernel
theorem dX7_audit_59 : decode cX7_audit 59 = .ok (.astore_n 3, 1) := by decide +kernel
theorem dX7_audit_60 : decode cX7_audit 60 = .ok (.aload_n 3, 1) := by decide +kernel
theorem dX7_audit_61 : decode cX7_audit 61 = .ok (.iload_n 2, 1) := by decide +kernel
theorem dX7_audit_62 : decode cX7_audit 62 = .ok (.iaload, 1) := by decide +kernel
theorem dX7_audit_63 : decode cX7_audit 63 = .ok (.iconst 2, 1) := by decide +kernel
theorem dX7_audit_64 : decode cX7_audit 64 = .ok (.if_icmp .eq 25, 3) := by decide +kernel
theorem dX7_audit_67 : decode cX7_audit 67 = .ok (.aload_n 3, 1) := by decide +kernel
theorem dX7_audit_68 : decode cX7_audit 68 = .ok (.iload_n 2, 1) := by decide +kernel
theorem dX7_audit_69 : decode cX7_audit 69 = .ok (.aload_n 0, 1) := by decide +kernel
theorem dX7_audit_70 : decode cX7_audit 70 = .ok (.aload_n 0, 1) := by decide +kernel
theorem dX7_audit_71 : decode cX7_audit 71 = .ok (.getfield 11, 3) := by decide +kernel
theorem dX7_audit_74 : decode cX7_audit 74 = .ok (.iload_n 1, 1) := by decide +kernel
theorem dX7_audit_75 : decode cX7_audit 75 = .ok (.aaload, 1) := by decide +kernel
theorem dX7_audit_76 : decode cX7_audit 76 = .ok (.getfield 114, 3) := by decide +kernel
theorem dX7_audit_79 : decode cX7_audit 79 = .ok (.aload_n 0, 1) := by decide +kernel
theorem dX7_audit_80 : decode cX7_audit 80 = .ok (.getfield 11, 3) := by decide +kernel
theorem dX7_audit_83 : decode cX7_audit 83 = .ok (.iload_n 2, 1) := by decide +kernel
theorem dX7_audit_84 : decode cX7_audit 84 = .ok (.aaload, 1) := by decide +kernel
theorem dX7_audit_85 : decode cX7_audit 85 = .ok (.invokevirtual 155, 3) := by decide +kernel
theorem dX7_audit_88 : decode cX7_audit 88 = .ok (.iastore, 1) := by decide +kernel
theorem dX7_audit_89 : decode cX7_audit 89 = .ok (.aload_n 3, 1) := by decide +kernel
theorem dX7_audit_90 : decode cX7_audit 90 = .ok (.iload_n 2, 1) := by decide +kernel
theorem dX7_audit_91 : decode cX7_audit 91 = .ok (.iaload, 1) := by decide +kernel
theorem dX7_audit_92 : decode cX7_audit 92 = .ok (.ireturn, 1) := by decide +kernel
set_option maxRecDepth 20000 in
theorem ggX7_judge_X7_isNode : GoodIn wsX7_judge wsX7_isNode := goodIn_r _ [9, 10, 131, 132, 133, 134, 135, 136, 137] (by decide +kernel) (by decide +kernel)
set_option maxRecDepth 20000 in
theorem gX7_judge_X7_isNode : GoodIn wsX7_judge (wsV RX7 53 RX7 yX7_isNode wsX7_isNode) := goodIn_app (goodIn_of _ (by decide +kernel)) ggX7_judge_X7_isNode
set_option maxRecDepth 20000 in
theorem ggX7_judge_X7_isEvidence : GoodIn wsX7_judge wsX7_isEvidence := goodIn_r _ [14, 15, 131, 132, 133, 134, 135, 136, 137] (by decide +kernel) (by decide +kernel)
set_option maxRecDepth 20000 in
theorem gX7_judge_X7_isEvidence : GoodIn wsX7_judge (wsV RX7 159 RX7 yX7_isEvidence wsX7_isEvidence) := goodIn_app (goodIn_of _ (by decide +kernel)) ggX7_judge_X7_isEvidence
set_option maxRecDepth 20000 in
theorem ggX7_judge_X7_need : GoodIn wsX7_judge wsX7_need := goodIn_ca (goodIn_r _ [18, 19, 20] (by decide +kernel) (by decide +kernel)) (goodIn_sub (fun _ h => List.mem_cons_of_mem _ (List.mem_append_right _ h)) (by decide +kernel))
set_option maxRecDepth 20000 in
theorem gX7_judge_X7_need : GoodIn wsX7_judge (va_wsS RX7 49 yX7_need wsX7_need) := goodIn_app (goodIn_of _ (by decide +kernel)) ggX7_judge_X7_need
set_option maxRecDepth 20000 in
theorem ggX7_judge_Jx4a65c_get_915e3 : GoodIn wsX7_judge wsJx4a65c_get_915e3 := goodIn_r _ [25, 26, 27, 28, 29, 30, 31, 32, 33, 34, 35, 36, 37, 24, 38, 39, 146, 147, 148] (by decide +kernel) (by decide +kernel)
set_option maxRecDepth 20000 in
theorem gX7_judge_Jx4a65c_get_915e3 : GoodIn wsX7_judge (wsV RX7 162 RJx4a65c yJx4a65c_get_915e3 wsJx4a65c_get_915e3) := goodIn_app (goodIn_of _ (by decide +kernel)) ggX7_judge_Jx4a65c_get_915e3
set_option maxRecDepth 20000 in
theorem ggX7_judge_X7_proves : GoodIn wsX7_judge wsX7_proves := goodIn_r _ [43, 44, 45, 46, 47, 48, 49, 50, 51, 52, 53, 54, 55, 56, 57, 58, 59, 60, 61, 62, 5, 6, 7, 8, 9, 10, 63, 64, 65, 66, 67, 68, 69, 70, 71, 72, 73, 74, 75, 76, 77, 78, 79, 80, 81, 82, 83, 84, 85, 86, 87, 88, 89, 90, 91, 92, 93, 94, 95, 96, 97, 98, 99, 100, 101, 102, 103, 104, 105, 106, 107, 108, 109, 110, 111, 112, 113, 114, 115, 116, 117, 118, 119, 120, 121, 122, 123, 124, 125, 126, 127, 128, 129, 130, 131, 132, 133, 134, 135, 136, 137, 149, 150, 151, 152, 153, 154, 155, 156, 157, 158, 159, 160, 161, 162] (by decide +kernel) (by decide +kernel)
set_option maxRecDepth 20000 in
theorem gX7_judge_X7_proves : GoodIn wsX7_judge (wsV RX7 168 RX7 yX7_proves wsX7_proves) := goodIn_app (goodIn_of _ (by decide +kernel)) ggX7_judge_X7_proves
set_option maxRecDepth 20000 in
theorem ggX7_judge_X0_byteAt : GoodIn wsX7_judge wsX0_byteAt := goodIn_r _ [56, 57, 154, 155] (by decide +kernel) (by decide +kernel)
set_option maxRecDepth 20000 in
theorem gX7_judge_X0_byteAt : GoodIn wsX7_judge (wsV RX7 172 RX0 yX0_byteAt wsX0_byteAt) := goodIn_app (goodIn_of _ (by decide +kernel)) ggX7_judge_X0_byteAt
theorem dX7_judge_0 : decode cX7_judge 0 = .ok (.aload_n 0, 1) := by decide +kernel
theorem dX7_judge_1 : decode cX7_judge 1 = .ok (.iload_n 1, 1) := by decide +kernel
theorem dX7_judge_2 : decode cX7_judge 2 = .ok (.invokevirtual 53, 3) := by decide +kernel
theorem dX7_judge_5 : decode cX7_judge 5 = .ok (.ifCond .eq 15, 3) := by decide +kernel
theorem dX7_judge_8 : decode cX7_judge 8 = .ok (.aload_n 0, 1) := by decide +kernel
theorem dX7_judge_9 : decode cX7_judge 9 = .ok (.iload_n 2, 1) := by decide +kernel
theorem dX7_judge_10 : decode cX7_judge 10 = .ok (.invokevirtual 159, 3) := by decide +kernel
theorem dX7_judge_13 : decode cX7_judge 13 = .ok (.ifCond .eq 7, 3) := by decide +kernel
theorem dX7_judge_16 : decode cX7_judge 16 = .ok (.iconst 1, 1) := by decide +kernel
theorem dX7_judge_17 : decode cX7_judge 17 = .ok (.goto 4, 3) := by decide +kernel
theorem dX7_judge_20 : decode cX7_judge 20 = .ok (.iconst 0, 1) := by decide +kernel
theorem dX7_judge_21 : decode cX7_judge 21 = .ok (.invokestatic 49, 3) := by decide +kernel
theorem dX7_judge_24 : decode cX7_judge 24 = .ok (.aload_n 0, 1) := by decide +kernel
theorem dX7_judge_25 : decode cX7_judge 25 = .ok (.getfield 25, 3) := by decide +kernel
theorem dX7_judge_28 : decode cX7_judge 28 = .ok (.iload_n 2, 1) := by decide +kernel
theorem dX7_judge_29 : decode cX7_judge 29 = .ok (.invokevirtual 162, 3) := by decide +kernel
theorem dX7_judge_32 : decode cX7_judge 32 = .ok (.checkcast 166, 3) := by decide +kernel
theorem dX7_judge_35 : decode cX7_judge 35 = .ok (.astore_n 3, 1) := by decide +kernel
theorem dX7_judge_36 : decode cX7_judge 36 = .ok (.aload_n 0, 1) := by decide +kernel
theorem dX7_judge_37 : decode cX7_judge 37 = .ok (.aload_n 3, 1) := by decide +kernel
theorem dX7_judge_38 : decode cX7_judge 38 = .ok (.invokevirtual 168, 3) := by decide +kernel
theorem dX7_judge_41 : decode cX7_judge 41 = .ok (.istore 4, 2) := by decide +kernel
theorem dX7_judge_43 : decode cX7_judge 43 = .ok (.iload 4, 2) := by decide +kernel
theorem dX7_judge_45 : decode cX7_judge 45 = .ok (.ifCond .eq 19, 3) := by decide +kernel
theorem dX7_judge_48 : decode cX7_judge 48 = .ok (.aload_n 0, 1) := by decide +kernel
theorem dX7_judge_49 : decode cX7_judge 49 = .ok (.getfield 11, 3) := by decide +kernel
theorem dX7_judge_52 : decode cX7_judge 52 = .ok (.iload_n 1, 1) := by decide +kernel
theorem dX7_judge_53 : decode cX7_judge 53 = .ok (.aaload, 1) := by decide +kernel
theorem dX7_judge_54 : decode cX7_judge 54 = .ok (.getfield 152, 3) := by decide +kernel
theorem dX7_judge_57 : decode cX7_judge 57 = .ok (.aload_n 3, 1) := by decide +kernel
theorem dX7_judge_58 : decode cX7_judge 58 = .ok (.iconst 1, 1) := by decide +kernel
theorem dX7_judge_59 : decode cX7_judge 59 = .ok (.invokevirtual 172, 3) := by decide +kernel
theorem dX7_judge_62 : decode cX7_judge 62 = .ok (.iconst 2, 1) := by decide +kernel
theorem dX7_judge_63 : decode cX7_judge 63 = .ok (.iastore, 1) := by decide +kernel
theorem dX7_judge_64 : decode cX7_judge 64 = .ok (.iload 4, 2) := by decide +kernel
theorem dX7_judge_66 : decode cX7_judge 66 = .ok (.ireturn, 1) := by decide +kernel
set_option maxRecDepth 20000 in
theorem ggX7_holds_X7_isEvidence : GoodIn wsX7_holds wsX7_isEvidence := goodIn_r _ [7, 8, 129, 130, 131, 132, 133, 134, 135] (by decide +kernel) (by decide +kernel)
set_option maxRecDepth 20000 in
theorem gX7_holds_X7_isEvidence : GoodIn wsX7_holds (wsV RX7 159 RX7 yX7_isEvidence wsX7_isEvidence) := goodIn_app (goodIn_of _ (by decide +kernel)) ggX7_holds_X7_isEvidence
set_option maxRecDepth 20000 in
theorem ggX7_holds_X7_need : GoodIn wsX7_holds wsX7_need := goodIn_ca (goodIn_r _ [11, 12, 13] (by decide +kernel) (by decide +kernel)) (goodIn_sub (fun _ h => List.mem_cons_of_mem _ (List.mem_append_right _ h)) (by decide +kernel))
set_option maxRecDepth 20000 in
theorem gX7_holds_X7_need : GoodIn wsX7_holds (va_wsS RX7 49 yX7_need wsX7_need) := goodIn_app (goodIn_of _ (by decide +kernel)) ggX7_holds_X7_need
set_option maxRecDepth 20000 in
theorem ggX7_holds_Jx4a65c_get_915e3 : GoodIn wsX7_holds wsJx4a65c_get_915e3 := goodIn_r _ [18, 19, 20, 21, 22, 23, 24, 25, 26, 27, 28, 29, 30, 17, 31, 32, 136, 137, 138] (by decide +kernel) (by decide +kernel)
set_option maxRecDepth 20000 in
theorem gX7_holds_Jx4a65c_get_915e3 : GoodIn wsX7_holds (wsV RX7 162 RJx4a65c yJx4a65c_get_915e3 wsJx4a65c_get_915e3) := goodIn_app (goodIn_of _ (by decide +kernel)) ggX7_holds_Jx4a65c_get_915e3
set_option maxRecDepth 20000 in
theorem ggX7_holds_X7_proves : GoodIn wsX7_holds wsX7_proves := goodIn_r _ [36, 37, 38, 39, 40, 41, 42, 43, 44, 45, 46, 47, 48, 49, 50, 51, 52, 53, 54, 55, 56, 57, 58, 6, 59, 60, 61, 62, 63, 64, 65, 66, 67, 68, 69, 70, 71, 72, 73, 74, 75, 76, 77, 78, 79, 80, 81, 82, 83, 84, 85, 86, 87, 88, 89, 90, 91, 92, 93, 94, 95, 96, 97, 98, 99, 100, 101, 102, 103, 104, 105, 106, 107, 108, 109, 110, 111, 112, 113, 114, 115, 116, 117, 118, 119, 120, 121, 122, 123, 124, 125, 126, 127, 128, 129, 130, 131, 132, 133, 134, 135, 139, 140, 141, 142, 143, 144, 145, 146, 147, 148, 149, 150, 151, 152] (by decide +kernel) (by decide +kernel)
set_option maxRecDepth 20000 in
theorem gX7_holds_X7_proves : GoodIn wsX7_holds (wsV RX7 168 RX7 yX7_proves wsX7_proves) := goodIn_app (goodIn_of _ (by decide +kernel)) ggX7_holds_X7_proves
theorem dX7_holds_0 : decode cX7_holds 0 = .ok (.aload_n 0, 1) := by decide +kernel
theorem dX7_holds_1 : decode cX7_holds 1 = .ok (.iload_n 1, 1) := by decide +kernel
theorem dX7_holds_2 : decode cX7_holds 2 = .ok (.invokevirtual 159, 3) := by decide +kernel
theorem dX7_holds_5 : decode cX7_holds 5 = .ok (.invokestatic 49, 3) := by decide +kernel
theorem dX7_holds_8 : decode cX7_holds 8 = .ok (.aload_n 0, 1) := by decide +kernel
theorem dX7_holds_9 : decode cX7_holds 9 = .ok (.aload_n 0, 1) := by decide +kernel
theorem dX7_holds_10 : decode cX7_holds 10 = .ok (.getfield 25, 3) := by decide +kernel
theorem dX7_holds_13 : decode cX7_holds 13 = .ok (.iload_n 1, 1) := by decide +kernel
theorem dX7_holds_14 : decode cX7_holds 14 = .ok (.invokevirtual 162, 3) := by decide +kernel
theorem dX7_holds_17 : decode cX7_holds 17 = .ok (.checkcast 166, 3) := by decide +kernel
theorem dX7_holds_20 : decode cX7_holds 20 = .ok (.invokevirtual 168, 3) := by decide +kernel
theorem dX7_holds_23 : decode cX7_holds 23 = .ok (.ireturn, 1) := by decide +kernel
set_option maxRecDepth 20000 in
theorem ggX7_byteOf_X7_isEvidence : GoodIn wsX7_byteOf wsX7_isEvidence := goodIn_r _ [7, 8, 44, 45, 46, 47, 48, 49, 50] (by decide +kernel) (by decide +kernel)
set_option maxRecDepth 20000 in
theorem gX7_byteOf_X7_isEvidence : GoodIn wsX7_byteOf (wsV RX7 159 RX7 yX7_isEvidence wsX7_isEvidence) := goodIn_app (goodIn_of _ (by decide +kernel)) ggX7_byteOf_X7_isEvidence
set_option maxRecDepth 20000 in
theorem ggX7_byteOf_X7_need : GoodIn wsX7_byteOf wsX7_need := goodIn_ca (goodIn_r _ [11, 12, 13] (by decide +kernel) (by decide +kernel)) (goodIn_sub (fun _ h => List.mem_cons_of_mem _ (List.mem_append_right _ h)) (by decide +kernel))
set_option maxRecDepth 20000 in
theorem gX7_byteOf_X7_need : GoodIn wsX7_byteOf (va_wsS RX7 49 yX7_need wsX7_need) := goodIn_app (goodIn_of _ (by decide +kernel)) ggX7_byteOf_X7_need
set_option maxRecDepth 20000 in
theorem ggX7_byteOf_Jx4a65c_get_915e3 : GoodIn wsX7_byteOf wsJx4a65c_get_915e3 := goodIn_r _ [18, 19, 20, 21, 22, 23, 24, 25, 26, 27, 28, 29, 30, 17, 31, 32, 51, 52, 53] (by decide +kernel) (by decide +kernel)
set_option maxRecDepth 20000 in
theorem gX7_byteOf_Jx4a65c_get_915e3 : GoodIn wsX7_byteOf (wsV RX7 162 RJx4a65c yJx4a65c_get_915e3 wsJx4a65c_get_915e3) := goodIn_app (goodIn_of _ (by decide +kernel)) ggX7_byteOf_Jx4a65c_get_915e3
set_option maxRecDepth 20000 in
theorem ggX7_byteOf_X0_hasByte : GoodIn wsX7_byteOf wsX0_hasByte := goodIn_r _ [37, 38, 54, 55] (by decide +kernel) (by decide +kernel)
set_option maxRecDepth 20000 in
theorem gX7_byteOf_X0_hasByte : GoodIn wsX7_byteOf (wsV RX7 176 RX0 yX0_hasByte wsX0_hasByte) := goodIn_app (goodIn_of _ (by decide +kernel)) ggX7_byteOf_X0_hasByte
set_option maxRecDepth 20000 in
theorem ggX7_byteOf_X0_byteAt : GoodIn wsX7_byteOf wsX0_byteAt := goodIn_r _ [42, 43, 54, 55] (by decide +kernel) (by decide +kernel)
set_option maxRecDepth 20000 in
theorem gX7_byteOf_X0_byteAt : GoodIn wsX7_byteOf (wsV RX7 172 RX0 yX0_byteAt wsX0_byteAt) := goodIn_app (goodIn_of _ (by decide +kernel)) ggX7_byteOf_X0_byteAt
theorem dX7_byteOf_0 : decode cX7_byteOf 0 = .ok (.aload_n 0, 1) := by decide +kernel
theorem dX7_byteOf_1 : decode cX7_byteOf 1 = .ok (.iload_n 1, 1) := by decide +kernel
theorem dX7_byteOf_2 : decode cX7_byteOf 2 = .ok (.invokevirtual 159, 3) := by decide +kernel
theorem dX7_byteOf_5 : decode cX7_byteOf 5 = .ok (.invokestatic 49, 3) := by decide +kernel
theorem dX7_byteOf_8 : decode cX7_byteOf 8 = .ok (.aload_n 0, 1) := by decide +kernel
theorem dX7_byteOf_9 : decode cX7_byteOf 9 = .ok (.getfield 25, 3) := by decide +kernel
theorem dX7_byteOf_12 : decode cX7_byteOf 12 = .ok (.iload_n 1, 1) := by decide +kernel
theorem dX7_byteOf_13 : decode cX7_byteOf 13 = .ok (.invokevirtual 162, 3) := by decide +kernel
theorem dX7_byteOf_16 : decode cX7_byteOf 16 = .ok (.checkcast 166, 3) := by decide +kernel
theorem dX7_byteOf_19 : decode cX7_byteOf 19 = .ok (.astore_n 3, 1) := by decide +kernel
theorem dX7_byteOf_20 : decode cX7_byteOf 20 = .ok (.aload_n 3, 1) := by decide +kernel
theorem dX7_byteOf_21 : decode cX7_byteOf 21 = .ok (.iload_n 2, 1) := by decide +kernel
theorem dX7_byteOf_22 : decode cX7_byteOf 22 = .ok (.invokevirtual 176, 3) := by decide +kernel
theorem dX7_byteOf_25 : decode cX7_byteOf 25 = .ok (.ifCond .eq 11, 3) := by decide +kernel
theorem dX7_byteOf_28 : decode cX7_byteOf 28 = .ok (.aload_n 3, 1) := by decide +kernel
theorem dX7_byteOf_29 : decode cX7_byteOf 29 = .ok (.iload_n 2, 1) := by decide +kernel
theorem dX7_byteOf_30 : decode cX7_byteOf 30 = .ok (.invokevirtual 172, 3) := by decide +kernel
theorem dX7_byteOf_33 : decode cX7_byteOf 33 = .ok (.goto 4, 3) := by decide +kernel
theorem dX7_byteOf_36 : decode cX7_byteOf 36 = .ok (.iconst (-1), 1) := by decide +kernel
theorem dX7_byteOf_37 : decode cX7_byteOf 37 = .ok (.ireturn, 1) := by decide +kernel
set_option maxRecDepth 20000 in
theorem ggX7_smudge_X7_isEvidence : GoodIn wsX7_smudge wsX7_isEvidence := goodIn_r _ [8, 9, 45, 46, 47, 48, 49, 50, 51] (by decide +kernel) (by decide +kernel)
set_option maxRecDepth 20000 in
theorem gX7_smudge_X7_isEvidence : GoodIn wsX7_smudge (wsV RX7 159 RX7 yX7_isEvidence wsX7_isEvidence) := goodIn_app (goodIn_of _ (by decide +kernel)) ggX7_smudge_X7_isEvidence
set_option maxRecDepth 20000 in
theorem ggX7_smudge_Jx4a65c_get_915e3 : GoodIn wsX7_smudge wsJx4a65c_get_915e3 := goodIn_r _ [14, 15, 16, 17, 18, 19, 20, 21, 22, 23, 24, 25, 26, 13, 27, 28, 54, 55, 56] (by decide +kernel) (by decide +kernel)
set_option maxRecDepth 20000 in
theorem gX7_smudge_Jx4a65c_get_915e3 : GoodIn wsX7_smudge (wsV RX7 162 RJx4a65c yJx4a65c_get_915e3 wsJx4a65c_get_915e3) := goodIn_app (goodIn_of _ (by decide +kernel)) ggX7_smudge_Jx4a65c_get_915e3
set_option maxRecDepth 20000 in
theorem ggX7_smudge_X0_hasByte : GoodIn wsX7_smudge wsX0_hasByte := goodIn_r _ [33, 34, 52, 53] (by decide +kernel) (by decide +kernel)
set_option maxRecDepth 20000 in
theorem gX7_smudge_X0_hasByte : GoodIn wsX7_smudge (wsV RX7 176 RX0 yX0_hasByte wsX0_hasByte) := goodIn_app (goodIn_of _ (by decide +kernel)) ggX7_smudge_X0_hasByte
set_option maxRecDepth 20000 in
theorem ggX7_smudge_X7_need : GoodIn wsX7_smudge wsX7_need := goodIn_ca (goodIn_r _ [37, 38, 39] (by decide +kernel) (by decide +kernel)) (goodIn_sub (fun _ h => List.mem_cons_of_mem _ (List.mem_append_right _ h)) (by decide +kernel))
set_option maxRecDepth 20000 in
theorem gX7_smudge_X7_need : GoodIn wsX7_smudge (va_wsS RX7 49 yX7_need wsX7_need) := goodIn_app (goodIn_of _ (by decide +kernel)) ggX7_smudge_X7_need
set_option maxRecDepth 20000 in
theorem ggX7_smudge_X0_byteAt : GoodIn wsX7_smudge wsX0_byteAt := goodIn_r _ [43, 44, 52, 53] (by decide +kernel) (by decide +kernel)
set_option maxRecDepth 20000 in
theorem gX7_smudge_X0_byteAt : GoodIn wsX7_smudge (wsV RX7 172 RX0 yX0_byteAt wsX0_byteAt) := goodIn_app (goodIn_of _ (by decide +kernel)) ggX7_smudge_X0_byteAt
theorem dX7_smudge_0 : decode cX7_smudge 0 = .ok (.aload_n 0, 1) := by decide +kernel
theorem dX7_smudge_1 : decode cX7_smudge 1 = .ok (.iload_n 1, 1) := by decide +kernel
theorem dX7_smudge_2 : decode cX7_smudge 2 = .ok (.invokevirtual 159, 3) := by decide +kernel
theorem dX7_smudge_5 : decode cX7_smudge 5 = .ok (.ifCond .eq 36, 3) := by decide +kernel
theorem dX7_smudge_8 : decode cX7_smudge 8 = .ok (.aload_n 0, 1) := by decide +kernel
theorem dX7_smudge_9 : decode cX7_smudge 9 = .ok (.getfield 25, 3) := by decide +kernel
theorem dX7_smudge_12 : decode cX7_smudge 12 = .ok (.iload_n 1, 1) := by decide +kernel
theorem dX7_smudge_13 : decode cX7_smudge 13 = .ok (.invokevirtual 162, 3) := by decide +kernel
theorem dX7_smudge_16 : decode cX7_smudge 16 = .ok (.checkcast 166, 3) := by decide +kernel
theorem dX7_smudge_19 : decode cX7_smudge 19 = .ok (.iload_n 2, 1) := by decide +kernel
theorem dX7_smudge_20 : decode cX7_smudge 20 = .ok (.invokevirtual 176, 3) := by decide +kernel
theorem dX7_smudge_23 : decode cX7_smudge 23 = .ok (.ifCond .eq 18, 3) := by decide +kernel
theorem dX7_smudge_26 : decode cX7_smudge 26 = .ok (.iload_n 3, 1) := by decide +kernel
theorem dX7_smudge_27 : decode cX7_smudge 27 = .ok (.ifCond .lt 14, 3) := by decide +kernel
theorem dX7_smudge_30 : decode cX7_smudge 30 = .ok (.iload_n 3, 1) := by decide +kernel
theorem dX7_smudge_31 : decode cX7_smudge 31 = .ok (.sipush 255, 3) := by decide +kernel
theorem dX7_smudge_34 : decode cX7_smudge 34 = .ok (.if_icmp .gt 7, 3) := by decide +kernel
theorem dX7_smudge_37 : decode cX7_smudge 37 = .ok (.iconst 1, 1) := by decide +kernel
theorem dX7_smudge_38 : decode cX7_smudge 38 = .ok (.goto 4, 3) := by decide +kernel
theorem dX7_smudge_41 : decode cX7_smudge 41 = .ok (.iconst 0, 1) := by decide +kernel
theorem dX7_smudge_42 : decode cX7_smudge 42 = .ok (.invokestatic 49, 3) := by decide +kernel
theorem dX7_smudge_45 : decode cX7_smudge 45 = .ok (.aload_n 0, 1) := by decide +kernel
theorem dX7_smudge_46 : decode cX7_smudge 46 = .ok (.getfield 25, 3) := by decide +kernel
theorem dX7_smudge_49 : decode cX7_smudge 49 = .ok (.iload_n 1, 1) := by decide +kernel
theorem dX7_smudge_50 : decode cX7_smudge 50 = .ok (.invokevirtual 162, 3) := by decide +kernel
theorem dX7_smudge_53 : decode cX7_smudge 53 = .ok (.checkcast 166, 3) := by decide +kernel
theorem dX7_smudge_56 : decode cX7_smudge 56 = .ok (.astore 4, 2) := by decide +kernel
theorem dX7_smudge_58 : decode cX7_smudge 58 = .ok (.aload 4, 2) := by decide +kernel
theorem dX7_smudge_60 : decode cX7_smudge 60 = .ok (.iload_n 2, 1) := by decide +kernel
theorem dX7_smudge_61 : decode cX7_smudge 61 = .ok (.invokevirtual 172, 3) := by decide +kernel
theorem dX7_smudge_64 : decode cX7_smudge 64 = .ok (.istore 5, 2) := by decide +kernel
theorem dX7_smudge_66 : decode cX7_smudge 66 = .ok (.aload 4, 2) := by decide +kernel
theorem dX7_smudge_68 : decode cX7_smudge 68 = .ok (.getfield 179, 3) := by decide +kernel
theorem dX7_smudge_71 : decode cX7_smudge 71 = .ok (.iload_n 2, 1) := by decide +kernel
theorem dX7_smudge_72 : decode cX7_smudge 72 = .ok (.iload_n 3, 1) := by decide +kernel
theorem dX7_smudge_73 : decode cX7_smudge 73 = .ok (.i2b, 1) := by decide +kernel
theorem dX7_smudge_74 : decode cX7_smudge 74 = .ok (.bastore, 1) := by decide +kernel
theorem dX7_smudge_75 : decode cX7_smudge 75 = .ok (.iload 5, 2) := by decide +kernel
theorem dX7_smudge_77 : decode cX7_smudge 77 = .ok (.ireturn, 1) := by decide +kernel
set_option maxRecDepth 20000 in
theorem ggX7_verdict_X7_isNode : GoodIn wsX7_verdict wsX7_isNode := goodIn_r _ [7, 8, 14, 15, 16, 17, 18, 19, 20] (by decide +kernel) (by decide +kernel)
set_option maxRecDepth 20000 in
theorem gX7_verdict_X7_isNode : GoodIn wsX7_verdict (wsV RX7 53 RX7 yX7_isNode wsX7_isNode) := goodIn_app (goodIn_of _ (by decide +kernel)) ggX7_verdict_X7_isNode
set_option maxRecDepth 20000 in
theorem ggX7_verdict_X7_need : GoodIn wsX7_verdict wsX7_need := goodIn_ca (goodIn_r _ [11, 12, 13] (by decide +kernel) (by decide +kernel)) (goodIn_sub (fun _ h => List.mem_cons_of_mem _ (List.mem_append_right _ h)) (by decide +kernel))
set_option maxRecDepth 20000 in
theorem gX7_verdict_X7_need : GoodIn wsX7_verdict (va_wsS RX7 49 yX7_need wsX7_need) := goodIn_app (goodIn_of _ (by decide +kernel)) ggX7_verdict_X7_need
theorem dX7_verdict_0 : decode cX7_verdict 0 = .ok (.aload_n 0, 1) := by decide +kernel
theorem dX7_verdict_1 : decode cX7_verdict 1 = .ok (.iload_n 1, 1) := by decide +kernel
theorem dX7_verdict_2 : decode cX7_verdict 2 = .ok (.invokevirtual 53, 3) := by decide +kernel
theorem dX7_verdict_5 : decode cX7_verdict 5 = .ok (.ifCond .eq 20, 3) := by decide +kernel
theorem dX7_verdict_8 : decode cX7_verdict 8 = .ok (.aload_n 0, 1) := by decide +kernel
theorem dX7_verdict_9 : decode cX7_verdict 9 = .ok (.iload_n 2, 1) := by decide +kernel
theorem dX7_verdict_10 : decode cX7_verdict 10 = .ok (.invokevirtual 53, 3) := by decide +kernel
theorem dX7_verdict_13 : decode cX7_verdict 13 = .ok (.ifCond .eq 12, 3) := by decide +kernel
theorem dX7_verdict_16 : decode cX7_verdict 16 = .ok (.iload_n 1, 1) := by decide +kernel
theorem dX7_verdict_17 : decode cX7_verdict 17 = .ok (.iload_n 2, 1) := by decide +kernel
theorem dX7_verdict_18 : decode cX7_verdict 18 = .ok (.if_icmp .eq 7, 3) := by decide +kernel
theorem dX7_verdict_21 : decode cX7_verdict 21 = .ok (.iconst 1, 1) := by decide +kernel
theorem dX7_verdict_22 : decode cX7_verdict 22 = .ok (.goto 4, 3) := by decide +kernel
theorem dX7_verdict_25 : decode cX7_verdict 25 = .ok (.iconst 0, 1) := by decide +kernel
theorem dX7_verdict_26 : decode cX7_verdict 26 = .ok (.invokestatic 49, 3) := by decide +kernel
theorem dX7_verdict_29 : decode cX7_verdict 29 = .ok (.aload_n 0, 1) := by decide +kernel
theorem dX7_verdict_30 : decode cX7_verdict 30 = .ok (.getfield 11, 3) := by decide +kernel
theorem dX7_verdict_33 : decode cX7_verdict 33 = .ok (.iload_n 1, 1) := by decide +kernel
theorem dX7_verdict_34 : decode cX7_verdict 34 = .ok (.aaload, 1) := by decide +kernel
theorem dX7_verdict_35 : decode cX7_verdict 35 = .ok (.getfield 152, 3) := by decide +kernel
theorem dX7_verdict_38 : decode cX7_verdict 38 = .ok (.iload_n 2, 1) := by decide +kernel
theorem dX7_verdict_39 : decode cX7_verdict 39 = .ok (.iaload, 1) := by decide +kernel
theorem dX7_verdict_40 : decode cX7_verdict 40 = .ok (.ireturn, 1) := by decide +kernel
set_option maxRecDepth 20000 in
theorem ggX7_entry_X7_isNode : GoodIn wsX7_entry wsX7_isNode := goodIn_r _ [13, 14, 18, 19, 20, 21, 22, 23, 24] (by decide +kernel) (by decide +kernel)
set_option maxRecDepth 20000 in
theorem gX7_entry_X7_isNode : GoodIn wsX7_entry (wsV RX7 53 RX7 yX7_isNode wsX7_isNode) := goodIn_app (goodIn_of _ (by decide +kernel)) ggX7_entry_X7_isNode
set_option maxRecDepth 20000 in
theorem ggX7_entry_X7_need : GoodIn wsX7_entry wsX7_need := goodIn_ca (goodIn_r _ [17, 1, 2] (by decide +kernel) (by decide +kernel)) (goodIn_sub (fun _ h => List.mem_cons_of_mem _ (List.mem_append_right _ h)) (by decide +kernel))
set_option maxRecDepth 20000 in
theorem gX7_entry_X7_need : GoodIn wsX7_entry (va_wsS RX7 49 yX7_need wsX7_need) := goodIn_app (goodIn_of _ (by decide +kernel)) ggX7_entry_X7_need
theorem dX7_entry_0 : decode cX7_entry 0 = .ok (.aload_n 0, 1) := by decide +kernel
theorem dX7_entry_1 : decode cX7_entry 1 = .ok (.iload_n 1, 1) := by decide +kernel
theorem dX7_entry_2 : decode cX7_entry 2 = .ok (.invokevirtual 53, 3) := by decide +kernel
theorem dX7_entry_5 : decode cX7_entry 5 = .ok (.ifCond .eq 28, 3) := by decide +kernel
theorem dX7_entry_8 : decode cX7_entry 8 = .ok (.iload_n 2, 1) := by decide +kernel
theorem dX7_entry_9 : decode cX7_entry 9 = .ok (.iconst 1, 1) := by decide +kernel
theorem dX7_entry_10 : decode cX7_entry 10 = .ok (.if_icmp .lt 23, 3) := by decide +kernel
theorem dX7_entry_13 : decode cX7_entry 13 = .ok (.iload_n 2, 1) := by decide +kernel
theorem dX7_entry_14 : decode cX7_entry 14 = .ok (.aload_n 0, 1) := by decide +kernel
theorem dX7_entry_15 : decode cX7_entry 15 = .ok (.getfield 11, 3) := by decide +kernel
theorem dX7_entry_18 : decode cX7_entry 18 = .ok (.iload_n 1, 1) := by decide +kernel
theorem dX7_entry_19 : decode cX7_entry 19 = .ok (.aaload, 1) := by decide +kernel
theorem dX7_entry_20 : decode cX7_entry 20 = .ok (.getfield 57, 3) := by decide +kernel
theorem dX7_entry_23 : decode cX7_entry 23 = .ok (.getfield 81, 3) := by decide +kernel
theorem dX7_entry_26 : decode cX7_entry 26 = .ok (.if_icmp .gt 7, 3) := by decide +kernel
theorem dX7_entry_29 : decode cX7_entry 29 = .ok (.iconst 1, 1) := by decide +kernel
theorem dX7_entry_30 : decode cX7_entry 30 = .ok (.goto 4, 3) := by decide +kernel
theorem dX7_entry_33 : decode cX7_entry 33 = .ok (.iconst 0, 1) := by decide +kernel
theorem dX7_entry_34 : decode cX7_entry 34 = .ok (.invokestatic 49, 3) := by decide +kernel
theorem dX7_entry_37 : decode cX7_entry 37 = .ok (.iload_n 3, 1) := by decide +kernel
theorem dX7_entry_38 : decode cX7_entry 38 = .ok (.tableswitch 71 0 2 #[26, 41, 56], 26) := by decide +kernel
theorem dX7_entry_64 : decode cX7_entry 64 = .ok (.aload_n 0, 1) := by decide +kernel
theorem dX7_entry_65 : decode cX7_entry 65 = .ok (.getfield 11, 3) := by decide +kernel
theorem dX7_entry_68 : decode cX7_entry 68 = .ok (.iload_n 1, 1) := by decide +kernel
theorem dX7_entry_69 : decode cX7_entry 69 = .ok (.aaload, 1) := by decide +kernel
theorem dX7_entry_70 : decode cX7_entry 70 = .ok (.getfield 57, 3) := by decide +kernel
theorem dX7_entry_73 : decode cX7_entry 73 = .ok (.getfield 183, 3) := by decide +kernel
theorem dX7_entry_76 : decode cX7_entry 76 = .ok (.iload_n 2, 1) := by decide +kernel
theorem dX7_entry_77 : decode cX7_entry 77 = .ok (.iaload, 1) := by decide +kernel
theorem dX7_entry_78 : decode cX7_entry 78 = .ok (.ireturn, 1) := by decide +kernel
theorem dX7_entry_79 : decode cX7_entry 79 = .ok (.aload_n 0, 1) := by decide +kernel
theorem dX7_entry_80 : decode cX7_entry 80 = .ok (.getfield 11, 3) := by decide +kernel
theorem dX7_entry_83 : decode cX7_entry 83 = .ok (.iload_n 1, 1) := by decide +kernel
theorem dX7_entry_84 : decode cX7_entry 84 = .ok (.aaload, 1) := by decide +kernel
theorem dX7_entry_85 : decode cX7_entry 85 = .ok (.getfield 57, 3) := by decide +kernel
theorem dX7_entry_88 : decode cX7_entry 88 = .ok (.getfield 186, 3) := by decide +kernel
theorem dX7_entry_91 : decode cX7_entry 91 = .ok (.iload_n 2, 1) := by decide +kernel
theorem dX7_entry_92 : decode cX7_entry 92 = .ok (.iaload, 1) := by decide +kernel
theorem dX7_entry_93 : decode cX7_entry 93 = .ok (.ireturn, 1) := by decide +kernel
theorem dX7_entry_94 : decode cX7_entry 94 = .ok (.aload_n 0, 1) := by decide +kernel
theorem dX7_entry_95 : decode cX7_entry 95 = .ok (.getfield 11, 3) := by decide +kernel
theorem dX7_entry_98 : decode cX7_entry 98 = .ok (.iload_n 1, 1) := by decide +kernel
theorem dX7_entry_99 : decode cX7_entry 99 = .ok (.aaload, 1) := by decide +kernel
theorem dX7_entry_100 : decode cX7_entry 100 = .ok (.getfield 57, 3) := by decide +kernel
theorem dX7_entry_103 : decode cX7_entry 103 = .ok (.getfield 133, 3) := by decide +kernel
theorem dX7_entry_106 : decode cX7_entry 106 = .ok (.iload_n 2, 1) := by decide +kernel
theorem dX7_entry_107 : decode cX7_entry 107 = .ok (.iaload, 1) := by decide +kernel
theorem dX7_entry_108 : decode cX7_entry 108 = .ok (.ireturn, 1) := by decide +kernel
theorem dX7_entry_109 : decode cX7_entry 109 = .ok (.new 189, 3) := by decide +kernel
theorem dX7_entry_112 : decode cX7_entry 112 = .ok (.dup, 1) := by decide +kernel
theorem dX7_entry_113 : decode cX7_entry 113 = .ok (.invokespecial 191, 3) := by decide +kernel
theorem dX7_entry_116 : decode cX7_entry 116 = .ok (.athrow, 1) := by decide +kernel
set_option maxRecDepth 20000 in
theorem ggX7_head_X7_isNode : GoodIn wsX7_head wsX7_isNode := goodIn_r _ [9, 10, 16, 17, 18, 19, 20, 21, 22] (by decide +kernel) (by decide +kernel)
set_option maxRecDepth 20000 in
theorem gX7_head_X7_isNode : GoodIn wsX7_head (wsV RX7 53 RX7 yX7_isNode wsX7_isNode) := goodIn_app (goodIn_of _ (by decide +kernel)) ggX7_head_X7_isNode
set_option maxRecDepth 20000 in
theorem ggX7_head_X7_need : GoodIn wsX7_head wsX7_need := goodIn_ca (goodIn_r _ [13, 14, 15] (by decide +kernel) (by decide +kernel)) (goodIn_sub (fun _ h => List.mem_cons_of_mem _ (List.mem_append_right _ h)) (by decide +kernel))
set_option maxRecDepth 20000 in
theorem gX7_head_X7_need : GoodIn wsX7_head (va_wsS RX7 49 yX7_need wsX7_need) := goodIn_app (goodIn_of _ (by decide +kernel)) ggX7_head_X7_need
theorem dX7_head_0 : decode cX7_head 0 = .ok (.aload_n 0, 1) := by decide +kernel
theorem dX7_head_1 : decode cX7_head 1 = .ok (.iload_n 1, 1) := by decide +kernel
theorem dX7_head_2 : decode cX7_head 2 = .ok (.invokevirtual 53, 3) := by decide +kernel
theorem dX7_head_5 : decode cX7_head 5 = .ok (.ifCond .eq 27, 3) := by decide +kernel
theorem dX7_head_8 : decode cX7_head 8 = .ok (.iload_n 2, 1) := by decide +kernel
theorem dX7_head_9 : decode cX7_head 9 = .ok (.ifCond .lt 23, 3) := by decide +kernel
theorem dX7_head_12 : decode cX7_head 12 = .ok (.iload_n 2, 1) := by decide +kernel
theorem dX7_head_13 : decode cX7_head 13 = .ok (.aload_n 0, 1) := by decide +kernel
theorem dX7_head_14 : decode cX7_head 14 = .ok (.getfield 11, 3) := by decide +kernel
theorem dX7_head_17 : decode cX7_head 17 = .ok (.iload_n 1, 1) := by decide +kernel
theorem dX7_head_18 : decode cX7_head 18 = .ok (.aaload, 1) := by decide +kernel
theorem dX7_head_19 : decode cX7_head 19 = .ok (.getfield 57, 3) := by decide +kernel
theorem dX7_head_22 : decode cX7_head 22 = .ok (.getfield 81, 3) := by decide +kernel
theorem dX7_head_25 : decode cX7_head 25 = .ok (.if_icmp .gt 7, 3) := by decide +kernel
theorem dX7_head_28 : decode cX7_head 28 = .ok (.iconst 1, 1) := by decide +kernel
theorem dX7_head_29 : decode cX7_head 29 = .ok (.goto 4, 3) := by decide +kernel
theorem dX7_head_32 : decode cX7_head 32 = .ok (.iconst 0, 1) := by decide +kernel
theorem dX7_head_33 : decode cX7_head 33 = .ok (.invokestatic 49, 3) := by decide +kernel
theorem dX7_head_36 : decode cX7_head 36 = .ok (.aload_n 0, 1) := by decide +kernel
theorem dX7_head_37 : decode cX7_head 37 = .ok (.getfield 11, 3) := by decide +kernel
theorem dX7_head_40 : decode cX7_head 40 = .ok (.iload_n 1, 1) := by decide +kernel
theorem dX7_head_41 : decode cX7_head 41 = .ok (.aaload, 1) := by decide +kernel
theorem dX7_head_42 : decode cX7_head 42 = .ok (.getfield 57, 3) := by decide +kernel
theorem dX7_head_45 : decode cX7_head 45 = .ok (.getfield 192, 3) := by decide +kernel
theorem dX7_head_48 : decode cX7_head 48 = .ok (.iload_n 2, 1) := by decide +kernel
theorem dX7_head_49 : decode cX7_head 49 = .ok (.laload, 1) := by decide +kernel
theorem dX7_head_50 : decode cX7_head 50 = .ok (.lreturn, 1) := by decide +kernel
set_option maxRecDepth 20000 in
theorem ggX7_about_X7_isNode : GoodIn wsX7_about wsX7_isNode := goodIn_r _ [16, 17, 21, 22, 23, 24, 25, 26, 27] (by decide +kernel) (by decide +kernel)
set_option maxRecDepth 20000 in
theorem gX7_about_X7_isNode : GoodIn wsX7_about (wsV RX7 53 RX7 yX7_isNode wsX7_isNode) := goodIn_app (goodIn_of _ (by decide +kernel)) ggX7_about_X7_isNode
set_option maxRecDepth 20000 in
theorem ggX7_about_X7_need : GoodIn wsX7_about wsX7_need := goodIn_ca (goodIn_r _ [20, 1, 2] (by decide +kernel) (by decide +kernel)) (goodIn_sub (fun _ h => List.mem_cons_of_mem _ (List.mem_append_right _ h)) (by decide +kernel))
set_option maxRecDepth 20000 in
theorem gX7_about_X7_need : GoodIn wsX7_about (va_wsS RX7 49 yX7_need wsX7_need) := goodIn_app (goodIn_of _ (by decide +kernel)) ggX7_about_X7_need
theorem dX7_about_0 : decode cX7_about 0 = .ok (.aload_n 0, 1) := by decide +kernel
theorem dX7_about_1 : decode cX7_about 1 = .ok (.iload_n 1, 1) := by decide +kernel
theorem dX7_about_2 : decode cX7_about 2 = .ok (.invokevirtual 53, 3) := by decide +kernel
theorem dX7_about_5 : decode cX7_about 5 = .ok (.invokestatic 49, 3) := by decide +kernel
theorem dX7_about_8 : decode cX7_about 8 = .ok (.iload_n 2, 1) := by decide +kernel
theorem dX7_about_9 : decode cX7_about 9 = .ok (.tableswitch 97 0 4 #[35, 48, 61, 74, 87], 35) := by decide +kernel
theorem dX7_about_44 : decode cX7_about 44 = .ok (.aload_n 0, 1) := by decide +kernel
theorem dX7_about_45 : decode cX7_about 45 = .ok (.getfield 11, 3) := by decide +kernel
theorem dX7_about_48 : decode cX7_about 48 = .ok (.iload_n 1, 1) := by decide +kernel
theorem dX7_about_49 : decode cX7_about 49 = .ok (.aaload, 1) := by decide +kernel
theorem dX7_about_50 : decode cX7_about 50 = .ok (.getfield 57, 3) := by decide +kernel
theorem dX7_about_53 : decode cX7_about 53 = .ok (.getfield 81, 3) := by decide +kernel
theorem dX7_about_56 : decode cX7_about 56 = .ok (.ireturn, 1) := by decide +kernel
theorem dX7_about_57 : decode cX7_about 57 = .ok (.aload_n 0, 1) := by decide +kernel
theorem dX7_about_58 : decode cX7_about 58 = .ok (.getfield 11, 3) := by decide +kernel
theorem dX7_about_61 : decode cX7_about 61 = .ok (.iload_n 1, 1) := by decide +kernel
theorem dX7_about_62 : decode cX7_about 62 = .ok (.aaload, 1) := by decide +kernel
theorem dX7_about_63 : decode cX7_about 63 = .ok (.getfield 71, 3) := by decide +kernel
theorem dX7_about_66 : decode cX7_about 66 = .ok (.getfield 196, 3) := by decide +kernel
theorem dX7_about_69 : decode cX7_about 69 = .ok (.ireturn, 1) := by decide +kernel
theorem dX7_about_70 : decode cX7_about 70 = .ok (.aload_n 0, 1) := by decide +kernel
theorem dX7_about_71 : decode cX7_about 71 = .ok (.getfield 11, 3) := by decide +kernel
theorem dX7_about_74 : decode cX7_about 74 = .ok (.iload_n 1, 1) := by decide +kernel
theorem dX7_about_75 : decode cX7_about 75 = .ok (.aaload, 1) := by decide +kernel
theorem dX7_about_76 : decode cX7_about 76 = .ok (.getfield 71, 3) := by decide +kernel
theorem dX7_about_79 : decode cX7_about 79 = .ok (.getfield 199, 3) := by decide +kernel
theorem dX7_about_82 : decode cX7_about 82 = .ok (.ireturn, 1) := by decide +kernel
theorem dX7_about_83 : decode cX7_about 83 = .ok (.aload_n 0, 1) := by decide +kernel
theorem dX7_about_84 : decode cX7_about 84 = .ok (.getfield 11, 3) := by decide +kernel
theorem dX7_about_87 : decode cX7_about 87 = .ok (.iload_n 1, 1) := by decide +kernel
theorem dX7_about_88 : decode cX7_about 88 = .ok (.aaload, 1) := by decide +kernel
theorem dX7_about_89 : decode cX7_about 89 = .ok (.getfield 114, 3) := by decide +kernel
theorem dX7_about_92 : decode cX7_about 92 = .ok (.getfield 118, 3) := by decide +kernel
theorem dX7_about_95 : decode cX7_about 95 = .ok (.ireturn, 1) := by decide +kernel
theorem dX7_about_96 : decode cX7_about 96 = .ok (.aload_n 0, 1) := by decide +kernel
theorem dX7_about_97 : decode cX7_about 97 = .ok (.getfield 11, 3) := by decide +kernel
theorem dX7_about_100 : decode cX7_about 100 = .ok (.iload_n 1, 1) := by decide +kernel
theorem dX7_about_101 : decode cX7_about 101 = .ok (.aaload, 1) := by decide +kernel
theorem dX7_about_102 : decode cX7_about 102 = .ok (.getfield 202, 3) := by decide +kernel
theorem dX7_about_105 : decode cX7_about 105 = .ok (.ireturn, 1) := by decide +kernel
theorem dX7_about_106 : decode cX7_about 106 = .ok (.new 189, 3) := by decide +kernel
theorem dX7_about_109 : decode cX7_about 109 = .ok (.dup, 1) := by decide +kernel
theorem dX7_about_110 : decode cX7_about 110 = .ok (.invokespecial 191, 3) := by decide +kernel
theorem dX7_about_113 : decode cX7_about 113 = .ok (.athrow, 1) := by decide +kernel
theorem dX7_total_0 : decode cX7_total 0 = .ok (.iload_n 1, 1) := by decide +kernel
theorem dX7_total_1 : decode cX7_total 1 = .ok (.tableswitch 57 0 3 #[31, 39, 47, 52], 31) := by decide +kernel
theorem dX7_total_32 : decode cX7_total 32 = .ok (.aload_n 0, 1) := by decide +kernel
theorem dX7_total_33 : decode cX7_total 33 = .ok (.getfield 18, 3) := by decide +kernel
theorem dX7_total_36 : decode cX7_total 36 = .ok (.getfield 205, 3) := by decide +kernel
theorem dX7_total_39 : decode cX7_total 39 = .ok (.ireturn, 1) := by decide +kernel
theorem dX7_total_40 : decode cX7_total 40 = .ok (.aload_n 0, 1) := by decide +kernel
theorem dX7_total_41 : decode cX7_total 41 = .ok (.getfield 18, 3) := by decide +kernel
theorem dX7_total_44 : decode cX7_total 44 = .ok (.getfield 206, 3) := by decide +kernel
theorem dX7_total_47 : decode cX7_total 47 = .ok (.ireturn, 1) := by decide +kernel
theorem dX7_total_48 : decode cX7_total 48 = .ok (.aload_n 0, 1) := by decide +kernel
theorem dX7_total_49 : decode cX7_total 49 = .ok (.getfield 149, 3) := by decide +kernel
theorem dX7_total_52 : decode cX7_total 52 = .ok (.ireturn, 1) := by decide +kernel
theorem dX7_total_53 : decode cX7_total 53 = .ok (.aload_n 0, 1) := by decide +kernel
theorem dX7_total_54 : decode cX7_total 54 = .ok (.getfield 209, 3) := by decide +kernel
theorem dX7_total_57 : decode cX7_total 57 = .ok (.ireturn, 1) := by decide +kernel
theorem dX7_total_58 : decode cX7_total 58 = .ok (.new 189, 3) := by decide +kernel
theorem dX7_total_61 : decode cX7_total 61 = .ok (.dup, 1) := by decide +kernel
theorem dX7_total_62 : decode cX7_total 62 = .ok (.invokespecial 191, 3) := by decide +kernel
theorem dX7_total_65 : decode cX7_total 65 = .ok (.athrow, 1) := by decide +kernel
set_option maxRecDepth 20000 in
theorem ggX7_startWith_X4_restart : GoodIn wsX7_startWith wsX4_restart := goodIn_r _ [11, 12, 13, 14, 15, 16, 17, 18, 19, 20, 21, 22, 23, 24, 25, 26, 27, 28, 29, 30, 31, 43, 44, 45, 46, 47, 48, 49, 50, 51, 52, 53, 54, 55, 56, 57, 58, 59, 60, 61, 62, 63, 64, 65, 66, 67] (by decide +kernel) (by decide +kernel)
set_option maxRecDepth 20000 in
theorem gX7_startWith_X4_restart : GoodIn wsX7_startWith (wsV RX7 212 RX4 yX4_restart wsX4_restart) := goodIn_app (goodIn_of _ (by decide +kernel)) ggX7_startWith_X4_restart
theorem dX7_startWith_0 : decode cX7_startWith 0 = .ok (.aload_n 0, 1) := by decide +kernel
theorem dX7_startWith_1 : decode cX7_startWith 1 = .ok (.iload_n 1, 1) := by decide +kernel
theorem dX7_startWith_2 : decode cX7_startWith 2 = .ok (.putfield 209, 3) := by decide +kernel
theorem dX7_startWith_5 : decode cX7_startWith 5 = .ok (.iconst 0, 1) := by decide +kernel
theorem dX7_startWith_6 : decode cX7_startWith 6 = .ok (.istore_n 2, 1) := by decide +kernel
theorem dX7_startWith_7 : decode cX7_startWith 7 = .ok (.iload_n 2, 1) := by decide +kernel
theorem dX7_startWith_8 : decode cX7_startWith 8 = .ok (.bipush 6, 2) := by decide +kernel
theorem dX7_startWith_10 : decode cX7_startWith 10 = .ok (.if_icmp .ge 19, 3) := by decide +kernel
theorem dX7_startWith_13 : decode cX7_startWith 13 = .ok (.aload_n 0, 1) := by decide +kernel
theorem dX7_startWith_14 : decode cX7_startWith 14 = .ok (.getfield 11, 3) := by decide +kernel
theorem dX7_startWith_17 : decode cX7_startWith 17 = .ok (.iload_n 2, 1) := by decide +kernel
theorem dX7_startWith_18 : decode cX7_startWith 18 = .ok (.aaload, 1) := by decide +kernel
theorem dX7_startWith_19 : decode cX7_startWith 19 = .ok (.iload_n 1, 1) := by decide +kernel
theorem dX7_startWith_20 : decode cX7_startWith 20 = .ok (.invokevirtual 212, 3) := by decide +kernel
theorem dX7_startWith_23 : decode cX7_startWith 23 = .ok (.iinc 2 1, 3) := by decide +kernel
theorem dX7_startWith_26 : decode cX7_startWith 26 = .ok (.goto (-19), 3) := by decide +kernel
theorem dX7_startWith_29 : decode cX7_startWith 29 = .ok (.aload_n 0, 1) := by decide +kernel
theorem dX7_startWith_30 : decode cX7_startWith 30 = .ok (.getfield 18, 3) := by decide +kernel
theorem dX7_startWith_33 : decode cX7_startWith 33 = .ok (.iconst 0, 1) := by decide +kernel
theorem dX7_startWith_34 : decode cX7_startWith 34 = .ok (.putfield 205, 3) := by decide +kernel
theorem dX7_startWith_37 : decode cX7_startWith 37 = .ok (.aload_n 0, 1) := by decide +kernel
theorem dX7_startWith_38 : decode cX7_startWith 38 = .ok (.getfield 18, 3) := by decide +kernel
theorem dX7_startWith_41 : decode cX7_startWith 41 = .ok (.iconst 0, 1) := by decide +kernel
theorem dX7_startWith_42 : decode cX7_startWith 42 = .ok (.putfield 206, 3) := by decide +kernel
theorem dX7_startWith_45 : decode cX7_startWith 45 = .ok (.aload_n 0, 1) := by decide +kernel
theorem dX7_startWith_46 : decode cX7_startWith 46 = .ok (.iconst 0, 1) := by decide +kernel
theorem dX7_startWith_47 : decode cX7_startWith 47 = .ok (.putfield 149, 3) := by decide +kernel
theorem dX7_startWith_50 : decode cX7_startWith 50 = .ok (.return_, 1) := by decide +kernel
theorem dX7_need_0 : decode cX7_need 0 = .ok (.iload_n 0, 1) := by decide +kernel
theorem dX7_need_1 : decode cX7_need 1 = .ok (.ifCond .ne 11, 3) := by decide +kernel
theorem dX7_need_4 : decode cX7_need 4 = .ok (.new 189, 3) := by decide +kernel
theorem dX7_need_7 : decode cX7_need 7 = .ok (.dup, 1) := by decide +kernel
theorem dX7_need_8 : decode cX7_need 8 = .ok (.invokespecial 191, 3) := by decide +kernel
theorem dX7_need_11 : decode cX7_need 11 = .ok (.athrow, 1) := by decide +kernel
theorem dX7_need_12 : decode cX7_need 12 = .ok (.return_, 1) := by decide +kernel
theorem dX7_needState_0 : decode cX7_needState 0 = .ok (.iload_n 0, 1) := by decide +kernel
theorem dX7_needState_1 : decode cX7_needState 1 = .ok (.ifCond .ne 11, 3) := by decide +kernel
theorem dX7_needState_4 : decode cX7_needState 4 = .ok (.new 215, 3) := by decide +kernel
theorem dX7_needState_7 : decode cX7_needState 7 = .ok (.dup, 1) := by decide +kernel
theorem dX7_needState_8 : decode cX7_needState 8 = .ok (.invokespecial 217, 3) := by decide +kernel
theorem dX7_needState_11 : decode cX7_needState 11 = .ok (.athrow, 1) := by decide +kernel
theorem dX7_needState_12 : decode cX7_needState 12 = .ok (.return_, 1) := by decide +kernel
theorem dX7_isNode_0 : decode cX7_isNode 0 = .ok (.iload_n 1, 1) := by decide +kernel
theorem dX7_isNode_1 : decode cX7_isNode 1 = .ok (.ifCond .lt 15, 3) := by decide +kernel
theorem dX7_isNode_4 : decode cX7_isNode 4 = .ok (.iload_n 1, 1) := by decide +kernel
theorem dX7_isNode_5 : decode cX7_isNode 5 = .ok (.aload_n 0, 1) := by decide +kernel
theorem dX7_isNode_6 : decode cX7_isNode 6 = .ok (.getfield 209, 3) := by decide +kernel
theorem dX7_isNode_9 : decode cX7_isNode 9 = .ok (.if_icmp .ge 7, 3) := by decide +kernel
theorem dX7_isNode_12 : decode cX7_isNode 12 = .ok (.iconst 1, 1) := by decide +kernel
theorem dX7_isNode_13 : decode cX7_isNode 13 = .ok (.goto 4, 3) := by decide +kernel
theorem dX7_isNode_16 : decode cX7_isNode 16 = .ok (.iconst 0, 1) := by decide +kernel
theorem dX7_isNode_17 : decode cX7_isNode 17 = .ok (.ireturn, 1) := by decide +kernel
theorem dX7_isLetter_0 : decode cX7_isLetter 0 = .ok (.iload_n 1, 1) := by decide +kernel
theorem dX7_isLetter_1 : decode cX7_isLetter 1 = .ok (.ifCond .lt 18, 3) := by decide +kernel
theorem dX7_isLetter_4 : decode cX7_isLetter 4 = .ok (.iload_n 1, 1) := by decide +kernel
theorem dX7_isLetter_5 : decode cX7_isLetter 5 = .ok (.aload_n 0, 1) := by decide +kernel
theorem dX7_isLetter_6 : decode cX7_isLetter 6 = .ok (.getfield 18, 3) := by decide +kernel
theorem dX7_isLetter_9 : decode cX7_isLetter 9 = .ok (.getfield 205, 3) := by decide +kernel
theorem dX7_isLetter_12 : decode cX7_isLetter 12 = .ok (.if_icmp .ge 7, 3) := by decide +kernel
theorem dX7_isLetter_15 : decode cX7_isLetter 15 = .ok (.iconst 1, 1) := by decide +kernel
theorem dX7_isLetter_16 : decode cX7_isLetter 16 = .ok (.goto 4, 3) := by decide +kernel
theorem dX7_isLetter_19 : decode cX7_isLetter 19 = .ok (.iconst 0, 1) := by decide +kernel
theorem dX7_isLetter_20 : decode cX7_isLetter 20 = .ok (.ireturn, 1) := by decide +kernel
theorem dX7_isEvidence_0 : decode cX7_isEvidence 0 = .ok (.iload_n 1, 1) := by decide +kernel
theorem dX7_isEvidence_1 : decode cX7_isEvidence 1 = .ok (.ifCond .lt 15, 3) := by decide +kernel
theorem dX7_isEvidence_4 : decode cX7_isEvidence 4 = .ok (.iload_n 1, 1) := by decide +kernel
theorem dX7_isEvidence_5 : decode cX7_isEvidence 5 = .ok (.aload_n 0, 1) := by decide +kernel
theorem dX7_isEvidence_6 : decode cX7_isEvidence 6 = .ok (.getfield 149, 3) := by decide +kernel
theorem dX7_isEvidence_9 : decode cX7_isEvidence 9 = .ok (.if_icmp .ge 7, 3) := by decide +kernel
theorem dX7_isEvidence_12 : decode cX7_isEvidence 12 = .ok (.iconst 1, 1) := by decide +kernel
theorem dX7_isEvidence_13 : decode cX7_isEvidence 13 = .ok (.goto 4, 3) := by decide +kernel
theorem dX7_isEvidence_16 : decode cX7_isEvidence 16 = .ok (.iconst 0, 1) := by decide +kernel
theorem dX7_isEvidence_17 : decode cX7_isEvidence 17 = .ok (.ireturn, 1) := by decide +kernel
theorem dX7_isWitness_0 : decode cX7_isWitness 0 = .ok (.iload_n 1, 1) := by decide +kernel
theorem dX7_isWitness_1 : decode cX7_isWitness 1 = .ok (.iload_n 2, 1) := by decide +kernel
theorem dX7_isWitness_2 : decode cX7_isWitness 2 = .ok (.iconst 1, 1) := by decide +kernel
theorem dX7_isWitness_3 : decode cX7_isWitness 3 = .ok (.iadd, 1) := by decide +kernel
theorem dX7_isWitness_4 : decode cX7_isWitness 4 = .ok (.aload_n 0, 1) := by decide +kernel
theorem dX7_isWitness_5 : decode cX7_isWitness 5 = .ok (.getfield 209, 3) := by decide +kernel
theorem dX7_isWitness_8 : decode cX7_isWitness 8 = .ok (.irem, 1) := by decide +kernel
theorem dX7_isWitness_9 : decode cX7_isWitness 9 = .ok (.if_icmp .eq 15, 3) := by decide +kernel
theorem dX7_isWitness_12 : decode cX7_isWitness 12 = .ok (.iload_n 1, 1) := by decide +kernel
theorem dX7_isWitness_13 : decode cX7_isWitness 13 = .ok (.iload_n 2, 1) := by decide +kernel
theorem dX7_isWitness_14 : decode cX7_isWitness 14 = .ok (.iconst 2, 1) := by decide +kernel
theorem dX7_isWitness_15 : decode cX7_isWitness 15 = .ok (.iadd, 1) := by decide +kernel
theorem dX7_isWitness_16 : decode cX7_isWitness 16 = .ok (.aload_n 0, 1) := by decide +kernel
theorem dX7_isWitness_17 : decode cX7_isWitness 17 = .ok (.getfield 209, 3) := by decide +kernel
theorem dX7_isWitness_20 : decode cX7_isWitness 20 = .ok (.irem, 1) := by decide +kernel
theorem dX7_isWitness_21 : decode cX7_isWitness 21 = .ok (.if_icmp .ne 7, 3) := by decide +kernel
theorem dX7_isWitness_24 : decode cX7_isWitness 24 = .ok (.iconst 1, 1) := by decide +kernel
theorem dX7_isWitness_25 : decode cX7_isWitness 25 = .ok (.goto 4, 3) := by decide +kernel
theorem dX7_isWitness_28 : decode cX7_isWitness 28 = .ok (.iconst 0, 1) := by decide +kernel
theorem dX7_isWitness_29 : decode cX7_isWitness 29 = .ok (.ireturn, 1) := by decide +kernel
theorem dX7_mix_0 : decode cX7_mix 0 = .ok (.lload_n 0, 1) := by decide +kernel
theorem dX7_mix_1 : decode cX7_mix 1 = .ok (.lload_n 2, 1) := by decide +kernel
theorem dX7_mix_2 : decode cX7_mix 2 = .ok (.lxor, 1) := by decide +kernel
theorem dX7_mix_3 : decode cX7_mix 3 = .ok (.ldc2_w 218, 3) := by decide +kernel
theorem dX7_mix_6 : decode cX7_mix 6 = .ok (.lmul, 1) := by decide +kernel
theorem dX7_mix_7 : decode cX7_mix 7 = .ok (.lstore 4, 2) := by decide +kernel
theorem dX7_mix_9 : decode cX7_mix 9 = .ok (.lload 4, 2) := by decide +kernel
theorem dX7_mix_11 : decode cX7_mix 11 = .ok (.lload 4, 2) := by decide +kernel
theorem dX7_mix_13 : decode cX7_mix 13 = .ok (.bipush 29, 2) := by decide +kernel
theorem dX7_mix_15 : decode cX7_mix 15 = .ok (.lushr, 1) := by decide +kernel
theorem dX7_mix_16 : decode cX7_mix 16 = .ok (.lxor, 1) := by decide +kernel
theorem dX7_mix_17 : decode cX7_mix 17 = .ok (.lreturn, 1) := by decide +kernel
set_option maxRecDepth 20000 in
theorem ggX7_headBehind_X7_mix : GoodIn wsX7_headBehind wsX7_mix := goodIn_r _ [5, 6] (by decide +kernel) (by decide +kernel)
set_option maxRecDepth 20000 in
theorem gX7_headBehind_X7_mix : GoodIn wsX7_headBehind (va_wsS RX7 222 yX7_mix wsX7_mix) := goodIn_app (goodIn_of _ (by decide +kernel)) ggX7_headBehind_X7_mix
theorem dX7_headBehind_0 : decode cX7_headBehind 0 = .ok (.ldc2_w 220, 3) := by decide +kernel
theorem dX7_headBehind_3 : decode cX7_headBehind 3 = .ok (.lload_n 0, 1) := by decide +kernel
theorem dX7_headBehind_4 : decode cX7_headBehind 4 = .ok (.invokestatic 222, 3) := by decide +kernel
theorem dX7_headBehind_7 : decode cX7_headBehind 7 = .ok (.iload_n 2, 1) := by decide +kernel
theorem dX7_headBehind_8 : decode cX7_headBehind 8 = .ok (.i2l, 1) := by decide +kernel
theorem dX7_headBehind_9 : decode cX7_headBehind 9 = .ok (.invokestatic 222, 3) := by decide +kernel
theorem dX7_headBehind_12 : decode cX7_headBehind 12 = .ok (.iload_n 3, 1) := by decide +kernel
theorem dX7_headBehind_13 : decode cX7_headBehind 13 = .ok (.i2l, 1) := by decide +kernel
theorem dX7_headBehind_14 : decode cX7_headBehind 14 = .ok (.invokestatic 222, 3) := by decide +kernel
theorem dX7_headBehind_17 : decode cX7_headBehind 17 = .ok (.iload 4, 2) := by decide +kernel
theorem dX7_headBehind_19 : decode cX7_headBehind 19 = .ok (.i2l, 1) := by decide +kernel
theorem dX7_headBehind_20 : decode cX7_headBehind 20 = .ok (.invokestatic 222, 3) := by decide +kernel
theorem dX7_headBehind_23 : decode cX7_headBehind 23 = .ok (.lreturn, 1) := by decide +kernel
set_option maxRecDepth 20000 in
theorem ggX7_signatureOf_X7_mix : GoodIn wsX7_signatureOf wsX7_mix := goodIn_r _ [5, 6] (by decide +kernel) (by decide +kernel)
set_option maxRecDepth 20000 in
theorem gX7_signatureOf_X7_mix : GoodIn wsX7_signatureOf (va_wsS RX7 222 yX7_mix wsX7_mix) := goodIn_app (goodIn_of _ (by decide +kernel)) ggX7_signatureOf_X7_mix
theorem dX7_signatureOf_0 : decode cX7_signatureOf 0 = .ok (.ldc2_w 220, 3) := by decide +kernel
theorem dX7_signatureOf_3 : decode cX7_signatureOf 3 = .ok (.iconst (-1), 1) := by decide +kernel
theorem dX7_signatureOf_4 : decode cX7_signatureOf 4 = .ok (.iload_n 0, 1) := by decide +kernel
theorem dX7_signatureOf_5 : decode cX7_signatureOf 5 = .ok (.isub, 1) := by decide +kernel
theorem dX7_signatureOf_6 : decode cX7_signatureOf 6 = .ok (.i2l, 1) := by decide +kernel
theorem dX7_signatureOf_7 : decode cX7_signatureOf 7 = .ok (.invokestatic 222, 3) := by decide +kernel
theorem dX7_signatureOf_10 : decode cX7_signatureOf 10 = .ok (.iload_n 1, 1) := by decide +kernel
theorem dX7_signatureOf_11 : decode cX7_signatureOf 11 = .ok (.i2l, 1) := by decide +kernel
theorem dX7_signatureOf_12 : decode cX7_signatureOf 12 = .ok (.invokestatic 222, 3) := by decide +kernel
theorem dX7_signatureOf_15 : decode cX7_signatureOf 15 = .ok (.lload_n 2, 1) := by decide +kernel
theorem dX7_signatureOf_16 : decode cX7_signatureOf 16 = .ok (.invokestatic 222, 3) := by decide +kernel
theorem dX7_signatureOf_19 : decode cX7_signatureOf 19 = .ok (.lreturn, 1) := by decide +kernel
set_option maxRecDepth 20000 in
theorem ggX7_sendWhatIsDue_X7_sendMessage : GoodIn wsX7_sendWhatIsDue wsX7_sendMessage := goodIn_r _ [9, 10, 11, 12, 13, 14, 15, 16, 17, 18, 19, 20, 21, 22, 23, 24, 25, 26, 27, 8, 28, 29, 30, 31, 32, 33, 34, 35, 36, 37, 38, 39, 40, 41, 42, 43, 44, 45, 46, 47, 48, 49, 50, 51, 52, 53, 54, 55, 56, 57, 58, 59, 60, 61, 62, 63, 64, 65, 66, 67, 68, 69, 70, 78, 79, 80, 81, 82, 83, 84, 85, 86, 87, 88, 89, 90, 91, 92, 93, 94, 95, 96, 97, 98, 99, 100] (by decide +kernel) (by decide +kernel)
set_option maxRecDepth 20000 in
theorem gX7_sendWhatIsDue_X7_sendMessage : GoodIn wsX7_sendWhatIsDue (wsV RX7 129 RX7 yX7_sendMessage wsX7_sendMessage) := goodIn_app (goodIn_of _ (by decide +kernel)) ggX7_sendWhatIsDue_X7_sendMessage
