set_option maxRecDepth 20000 in
theorem ggX0_init_X1_init : GoodIn wsX0_init wsX1_init := goodIn_r _ [13, 14, 2, 3, 4, 15, 16, 22, 23, 24] (by decide +kernel) (by decide +kernel)
set_option maxRecDepth 20000 in
theorem gX0_init_X1_init : GoodIn wsX0_init (wsX1_init) := ggX0_init_X1_init
theorem dX0_init_0 : decode cX0_init 0 = .ok (.aload_n 0, 1) := by decide +kernel
theorem dX0_init_1 : decode cX0_init 1 = .ok (.invokespecial 3, 3) := by decide +kernel
theorem dX0_init_4 : decode cX0_init 4 = .ok (.aload_n 0, 1) := by decide +kernel
theorem dX0_init_5 : decode cX0_init 5 = .ok (.bipush 60, 2) := by decide +kernel
theorem dX0_init_7 : decode cX0_init 7 = .ok (.newarray .int, 2) := by decide +kernel
theorem dX0_init_9 : decode cX0_init 9 = .ok (.putfield 9, 3) := by decide +kernel
theorem dX0_init_12 : decode cX0_init 12 = .ok (.aload_n 0, 1) := by decide +kernel
theorem dX0_init_13 : decode cX0_init 13 = .ok (.new 15, 3) := by decide +kernel
theorem dX0_init_16 : decode cX0_init 16 = .ok (.dup, 1) := by decide +kernel
theorem dX0_init_17 : decode cX0_init 17 = .ok (.invokespecial 17, 3) := by decide +kernel
theorem dX0_init_20 : decode cX0_init 20 = .ok (.putfield 18, 3) := by decide +kernel
theorem dX0_init_23 : decode cX0_init 23 = .ok (.aload_n 0, 1) := by decide +kernel
theorem dX0_init_24 : decode cX0_init 24 = .ok (.iconst (-1), 1) := by decide +kernel
theorem dX0_init_25 : decode cX0_init 25 = .ok (.putfield 22, 3) := by decide +kernel
theorem dX0_init_28 : decode cX0_init 28 = .ok (.return_, 1) := by decide +kernel
theorem dX0_isOff_0 : decode cX0_isOff 0 = .ok (.aload_n 0, 1) := by decide +kernel
theorem dX0_isOff_1 : decode cX0_isOff 1 = .ok (.getfield 22, 3) := by decide +kernel
theorem dX0_isOff_4 : decode cX0_isOff 4 = .ok (.iconst (-1), 1) := by decide +kernel
theorem dX0_isOff_5 : decode cX0_isOff 5 = .ok (.if_icmp .ne 7, 3) := by decide +kernel
theorem dX0_isOff_8 : decode cX0_isOff 8 = .ok (.iconst 1, 1) := by decide +kernel
theorem dX0_isOff_9 : decode cX0_isOff 9 = .ok (.goto 4, 3) := by decide +kernel
theorem dX0_isOff_12 : decode cX0_isOff 12 = .ok (.iconst 0, 1) := by decide +kernel
theorem dX0_isOff_13 : decode cX0_isOff 13 = .ok (.ireturn, 1) := by decide +kernel
theorem dX0_hasCell_0 : decode cX0_hasCell 0 = .ok (.iload_n 1, 1) := by decide +kernel
theorem dX0_hasCell_1 : decode cX0_hasCell 1 = .ok (.ifCond .lt 15, 3) := by decide +kernel
theorem dX0_hasCell_4 : decode cX0_hasCell 4 = .ok (.iload_n 1, 1) := by decide +kernel
theorem dX0_hasCell_5 : decode cX0_hasCell 5 = .ok (.aload_n 0, 1) := by decide +kernel
theorem dX0_hasCell_6 : decode cX0_hasCell 6 = .ok (.getfield 22, 3) := by decide +kernel
theorem dX0_hasCell_9 : decode cX0_hasCell 9 = .ok (.if_icmp .ge 7, 3) := by decide +kernel
theorem dX0_hasCell_12 : decode cX0_hasCell 12 = .ok (.iconst 1, 1) := by decide +kernel
theorem dX0_hasCell_13 : decode cX0_hasCell 13 = .ok (.goto 4, 3) := by decide +kernel
theorem dX0_hasCell_16 : decode cX0_hasCell 16 = .ok (.iconst 0, 1) := by decide +kernel
theorem dX0_hasCell_17 : decode cX0_hasCell 17 = .ok (.ireturn, 1) := by decide +kernel
theorem dX0_renew_0 : decode cX0_renew 0 = .ok (.iconst 0, 1) := by decide +kernel
theorem dX0_renew_1 : decode cX0_renew 1 = .ok (.istore_n 2, 1) := by decide +kernel
theorem dX0_renew_2 : decode cX0_renew 2 = .ok (.iload_n 2, 1) := by decide +kernel
theorem dX0_renew_3 : decode cX0_renew 3 = .ok (.iload_n 1, 1) := by decide +kernel
theorem dX0_renew_4 : decode cX0_renew 4 = .ok (.if_icmp .ge 16, 3) := by decide +kernel
theorem dX0_renew_7 : decode cX0_renew 7 = .ok (.aload_n 0, 1) := by decide +kernel
theorem dX0_renew_8 : decode cX0_renew 8 = .ok (.getfield 9, 3) := by decide +kernel
theorem dX0_renew_11 : decode cX0_renew 11 = .ok (.iload_n 2, 1) := by decide +kernel
theorem dX0_renew_12 : decode cX0_renew 12 = .ok (.iconst 0, 1) := by decide +kernel
theorem dX0_renew_13 : decode cX0_renew 13 = .ok (.iastore, 1) := by decide +kernel
theorem dX0_renew_14 : decode cX0_renew 14 = .ok (.iinc 2 1, 3) := by decide +kernel
theorem dX0_renew_17 : decode cX0_renew 17 = .ok (.goto (-15), 3) := by decide +kernel
theorem dX0_renew_20 : decode cX0_renew 20 = .ok (.aload_n 0, 1) := by decide +kernel
theorem dX0_renew_21 : decode cX0_renew 21 = .ok (.iload_n 1, 1) := by decide +kernel
theorem dX0_renew_22 : decode cX0_renew 22 = .ok (.putfield 22, 3) := by decide +kernel
theorem dX0_renew_25 : decode cX0_renew 25 = .ok (.return_, 1) := by decide +kernel
theorem dX0_turnOff_0 : decode cX0_turnOff 0 = .ok (.aload_n 0, 1) := by decide +kernel
theorem dX0_turnOff_1 : decode cX0_turnOff 1 = .ok (.iconst (-1), 1) := by decide +kernel
theorem dX0_turnOff_2 : decode cX0_turnOff 2 = .ok (.putfield 22, 3) := by decide +kernel
theorem dX0_turnOff_5 : decode cX0_turnOff 5 = .ok (.return_, 1) := by decide +kernel
theorem dX0_refuseOff_0 : decode cX0_refuseOff 0 = .ok (.aload_n 0, 1) := by decide +kernel
theorem dX0_refuseOff_1 : decode cX0_refuseOff 1 = .ok (.dup, 1) := by decide +kernel
theorem dX0_refuseOff_2 : decode cX0_refuseOff 2 = .ok (.getfield 26, 3) := by decide +kernel
theorem dX0_refuseOff_5 : decode cX0_refuseOff 5 = .ok (.iconst 1, 1) := by decide +kernel
theorem dX0_refuseOff_6 : decode cX0_refuseOff 6 = .ok (.iadd, 1) := by decide +kernel
theorem dX0_refuseOff_7 : decode cX0_refuseOff 7 = .ok (.putfield 26, 3) := by decide +kernel
theorem dX0_refuseOff_10 : decode cX0_refuseOff 10 = .ok (.ldc 29, 2) := by decide +kernel
theorem dX0_refuseOff_12 : decode cX0_refuseOff 12 = .ok (.ireturn, 1) := by decide +kernel
theorem dX0_refuseOut_0 : decode cX0_refuseOut 0 = .ok (.aload_n 0, 1) := by decide +kernel
theorem dX0_refuseOut_1 : decode cX0_refuseOut 1 = .ok (.dup, 1) := by decide +kernel
theorem dX0_refuseOut_2 : decode cX0_refuseOut 2 = .ok (.getfield 30, 3) := by decide +kernel
theorem dX0_refuseOut_5 : decode cX0_refuseOut 5 = .ok (.iconst 1, 1) := by decide +kernel
theorem dX0_refuseOut_6 : decode cX0_refuseOut 6 = .ok (.iadd, 1) := by decide +kernel
theorem dX0_refuseOut_7 : decode cX0_refuseOut 7 = .ok (.putfield 30, 3) := by decide +kernel
theorem dX0_refuseOut_10 : decode cX0_refuseOut 10 = .ok (.ldc 33, 2) := by decide +kernel
theorem dX0_refuseOut_12 : decode cX0_refuseOut 12 = .ok (.ireturn, 1) := by decide +kernel
set_option maxRecDepth 20000 in
theorem ggX0_layInto_X1_write : GoodIn wsX0_layInto wsX1_write := goodIn_r _ [13, 14, 15, 16, 12, 17, 23, 24, 25] (by decide +kernel) (by decide +kernel)
set_option maxRecDepth 20000 in
theorem gX0_layInto_X1_write : GoodIn wsX0_layInto (wsV RX0 43 RX1 yX1_write wsX1_write) := goodIn_app (goodIn_of _ (by decide +kernel)) ggX0_layInto_X1_write
theorem dX0_layInto_0 : decode cX0_layInto 0 = .ok (.aload_n 0, 1) := by decide +kernel
theorem dX0_layInto_1 : decode cX0_layInto 1 = .ok (.getfield 22, 3) := by decide +kernel
theorem dX0_layInto_4 : decode cX0_layInto 4 = .ok (.iload_n 2, 1) := by decide +kernel
theorem dX0_layInto_5 : decode cX0_layInto 5 = .ok (.isub, 1) := by decide +kernel
theorem dX0_layInto_6 : decode cX0_layInto 6 = .ok (.aload_n 0, 1) := by decide +kernel
theorem dX0_layInto_7 : decode cX0_layInto 7 = .ok (.getfield 18, 3) := by decide +kernel
theorem dX0_layInto_10 : decode cX0_layInto 10 = .ok (.getfield 34, 3) := by decide +kernel
theorem dX0_layInto_13 : decode cX0_layInto 13 = .ok (.invokestatic 37, 3) := by decide +kernel
theorem dX0_layInto_16 : decode cX0_layInto 16 = .ok (.istore_n 3, 1) := by decide +kernel
theorem dX0_layInto_17 : decode cX0_layInto 17 = .ok (.iconst 0, 1) := by decide +kernel
theorem dX0_layInto_18 : decode cX0_layInto 18 = .ok (.istore 4, 2) := by decide +kernel
theorem dX0_layInto_20 : decode cX0_layInto 20 = .ok (.iload 4, 2) := by decide +kernel
theorem dX0_layInto_22 : decode cX0_layInto 22 = .ok (.iload_n 3, 1) := by decide +kernel
theorem dX0_layInto_23 : decode cX0_layInto 23 = .ok (.if_icmp .ge 28, 3) := by decide +kernel
theorem dX0_layInto_26 : decode cX0_layInto 26 = .ok (.aload_n 0, 1) := by decide +kernel
theorem dX0_layInto_27 : decode cX0_layInto 27 = .ok (.getfield 18, 3) := by decide +kernel
theorem dX0_layInto_30 : decode cX0_layInto 30 = .ok (.iload_n 1, 1) := by decide +kernel
theorem dX0_layInto_31 : decode cX0_layInto 31 = .ok (.iload 4, 2) := by decide +kernel
theorem dX0_layInto_33 : decode cX0_layInto 33 = .ok (.aload_n 0, 1) := by decide +kernel
theorem dX0_layInto_34 : decode cX0_layInto 34 = .ok (.getfield 9, 3) := by decide +kernel
theorem dX0_layInto_37 : decode cX0_layInto 37 = .ok (.iload_n 2, 1) := by decide +kernel
theorem dX0_layInto_38 : decode cX0_layInto 38 = .ok (.iload 4, 2) := by decide +kernel
theorem dX0_layInto_40 : decode cX0_layInto 40 = .ok (.iadd, 1) := by decide +kernel
theorem dX0_layInto_41 : decode cX0_layInto 41 = .ok (.iaload, 1) := by decide +kernel
theorem dX0_layInto_42 : decode cX0_layInto 42 = .ok (.invokevirtual 43, 3) := by decide +kernel
theorem dX0_layInto_45 : decode cX0_layInto 45 = .ok (.iinc 4 1, 3) := by decide +kernel
theorem dX0_layInto_48 : decode cX0_layInto 48 = .ok (.goto (-28), 3) := by decide +kernel
theorem dX0_layInto_51 : decode cX0_layInto 51 = .ok (.iload_n 3, 1) := by decide +kernel
theorem dX0_layInto_52 : decode cX0_layInto 52 = .ok (.ireturn, 1) := by decide +kernel
theorem dX1_init_0 : decode cX1_init 0 = .ok (.aload_n 0, 1) := by decide +kernel
theorem dX1_init_1 : decode cX1_init 1 = .ok (.invokespecial 3, 3) := by decide +kernel
theorem dX1_init_4 : decode cX1_init 4 = .ok (.aload_n 0, 1) := by decide +kernel
theorem dX1_init_5 : decode cX1_init 5 = .ok (.sipush 256, 3) := by decide +kernel
theorem dX1_init_8 : decode cX1_init 8 = .ok (.newarray .int, 2) := by decide +kernel
theorem dX1_init_10 : decode cX1_init 10 = .ok (.putfield 9, 3) := by decide +kernel
theorem dX1_init_13 : decode cX1_init 13 = .ok (.aload_n 0, 1) := by decide +kernel
theorem dX1_init_14 : decode cX1_init 14 = .ok (.iconst (-1), 1) := by decide +kernel
theorem dX1_init_15 : decode cX1_init 15 = .ok (.putfield 15, 3) := by decide +kernel
theorem dX1_init_18 : decode cX1_init 18 = .ok (.return_, 1) := by decide +kernel
theorem dX1_isNone_0 : decode cX1_isNone 0 = .ok (.aload_n 0, 1) := by decide +kernel
theorem dX1_isNone_1 : decode cX1_isNone 1 = .ok (.getfield 15, 3) := by decide +kernel
theorem dX1_isNone_4 : decode cX1_isNone 4 = .ok (.iconst (-1), 1) := by decide +kernel
theorem dX1_isNone_5 : decode cX1_isNone 5 = .ok (.if_icmp .ne 7, 3) := by decide +kernel
theorem dX1_isNone_8 : decode cX1_isNone 8 = .ok (.iconst 1, 1) := by decide +kernel
theorem dX1_isNone_9 : decode cX1_isNone 9 = .ok (.goto 4, 3) := by decide +kernel
theorem dX1_isNone_12 : decode cX1_isNone 12 = .ok (.iconst 0, 1) := by decide +kernel
theorem dX1_isNone_13 : decode cX1_isNone 13 = .ok (.ireturn, 1) := by decide +kernel
theorem dX1_hasRow_0 : decode cX1_hasRow 0 = .ok (.iload_n 1, 1) := by decide +kernel
theorem dX1_hasRow_1 : decode cX1_hasRow 1 = .ok (.ifCond .lt 15, 3) := by decide +kernel
theorem dX1_hasRow_4 : decode cX1_hasRow 4 = .ok (.iload_n 1, 1) := by decide +kernel
theorem dX1_hasRow_5 : decode cX1_hasRow 5 = .ok (.aload_n 0, 1) := by decide +kernel
theorem dX1_hasRow_6 : decode cX1_hasRow 6 = .ok (.getfield 15, 3) := by decide +kernel
theorem dX1_hasRow_9 : decode cX1_hasRow 9 = .ok (.if_icmp .ge 7, 3) := by decide +kernel
theorem dX1_hasRow_12 : decode cX1_hasRow 12 = .ok (.iconst 1, 1) := by decide +kernel
theorem dX1_hasRow_13 : decode cX1_hasRow 13 = .ok (.goto 4, 3) := by decide +kernel
theorem dX1_hasRow_16 : decode cX1_hasRow 16 = .ok (.iconst 0, 1) := by decide +kernel
theorem dX1_hasRow_17 : decode cX1_hasRow 17 = .ok (.ireturn, 1) := by decide +kernel
theorem dX1_hasColumn_0 : decode cX1_hasColumn 0 = .ok (.iload_n 1, 1) := by decide +kernel
theorem dX1_hasColumn_1 : decode cX1_hasColumn 1 = .ok (.ifCond .lt 15, 3) := by decide +kernel
theorem dX1_hasColumn_4 : decode cX1_hasColumn 4 = .ok (.iload_n 1, 1) := by decide +kernel
theorem dX1_hasColumn_5 : decode cX1_hasColumn 5 = .ok (.aload_n 0, 1) := by decide +kernel
theorem dX1_hasColumn_6 : decode cX1_hasColumn 6 = .ok (.getfield 19, 3) := by decide +kernel
theorem dX1_hasColumn_9 : decode cX1_hasColumn 9 = .ok (.if_icmp .ge 7, 3) := by decide +kernel
theorem dX1_hasColumn_12 : decode cX1_hasColumn 12 = .ok (.iconst 1, 1) := by decide +kernel
theorem dX1_hasColumn_13 : decode cX1_hasColumn 13 = .ok (.goto 4, 3) := by decide +kernel
theorem dX1_hasColumn_16 : decode cX1_hasColumn 16 = .ok (.iconst 0, 1) := by decide +kernel
theorem dX1_hasColumn_17 : decode cX1_hasColumn 17 = .ok (.ireturn, 1) := by decide +kernel
set_option maxRecDepth 20000 in
theorem ggX1_numberIn_X1_placeOf : GoodIn wsX1_numberIn wsX1_placeOf := goodIn_r _ [5] (by decide +kernel) (by decide +kernel)
set_option maxRecDepth 20000 in
theorem gX1_numberIn_X1_placeOf : GoodIn wsX1_numberIn (va_wsS RX1 22 yX1_placeOf wsX1_placeOf) := goodIn_app (goodIn_of _ (by decide +kernel)) ggX1_numberIn_X1_placeOf
theorem dX1_numberIn_0 : decode cX1_numberIn 0 = .ok (.aload_n 0, 1) := by decide +kernel
theorem dX1_numberIn_1 : decode cX1_numberIn 1 = .ok (.getfield 9, 3) := by decide +kernel
theorem dX1_numberIn_4 : decode cX1_numberIn 4 = .ok (.iload_n 1, 1) := by decide +kernel
theorem dX1_numberIn_5 : decode cX1_numberIn 5 = .ok (.iload_n 2, 1) := by decide +kernel
theorem dX1_numberIn_6 : decode cX1_numberIn 6 = .ok (.invokestatic 22, 3) := by decide +kernel
theorem dX1_numberIn_9 : decode cX1_numberIn 9 = .ok (.iaload, 1) := by decide +kernel
theorem dX1_numberIn_10 : decode cX1_numberIn 10 = .ok (.ireturn, 1) := by decide +kernel
set_option maxRecDepth 20000 in
theorem ggX1_write_X1_placeOf : GoodIn wsX1_write wsX1_placeOf := goodIn_r _ [5] (by decide +kernel) (by decide +kernel)
set_option maxRecDepth 20000 in
theorem gX1_write_X1_placeOf : GoodIn wsX1_write (va_wsS RX1 22 yX1_placeOf wsX1_placeOf) := goodIn_app (goodIn_of _ (by decide +kernel)) ggX1_write_X1_placeOf
theorem dX1_write_0 : decode cX1_write 0 = .ok (.aload_n 0, 1) := by decide +kernel
theorem dX1_write_1 : decode cX1_write 1 = .ok (.getfield 9, 3) := by decide +kernel
theorem dX1_write_4 : decode cX1_write 4 = .ok (.iload_n 1, 1) := by decide +kernel
theorem dX1_write_5 : decode cX1_write 5 = .ok (.iload_n 2, 1) := by decide +kernel
theorem dX1_write_6 : decode cX1_write 6 = .ok (.invokestatic 22, 3) := by decide +kernel
theorem dX1_write_9 : decode cX1_write 9 = .ok (.iload_n 3, 1) := by decide +kernel
theorem dX1_write_10 : decode cX1_write 10 = .ok (.iastore, 1) := by decide +kernel
theorem dX1_write_11 : decode cX1_write 11 = .ok (.return_, 1) := by decide +kernel
theorem dX1_renew_0 : decode cX1_renew 0 = .ok (.iconst 0, 1) := by decide +kernel
theorem dX1_renew_1 : decode cX1_renew 1 = .ok (.istore_n 3, 1) := by decide +kernel
theorem dX1_renew_2 : decode cX1_renew 2 = .ok (.iload_n 3, 1) := by decide +kernel
theorem dX1_renew_3 : decode cX1_renew 3 = .ok (.aload_n 0, 1) := by decide +kernel
theorem dX1_renew_4 : decode cX1_renew 4 = .ok (.getfield 9, 3) := by decide +kernel
theorem dX1_renew_7 : decode cX1_renew 7 = .ok (.arraylength, 1) := by decide +kernel
theorem dX1_renew_8 : decode cX1_renew 8 = .ok (.if_icmp .ge 16, 3) := by decide +kernel
theorem dX1_renew_11 : decode cX1_renew 11 = .ok (.aload_n 0, 1) := by decide +kernel
theorem dX1_renew_12 : decode cX1_renew 12 = .ok (.getfield 9, 3) := by decide +kernel
theorem dX1_renew_15 : decode cX1_renew 15 = .ok (.iload_n 3, 1) := by decide +kernel
theorem dX1_renew_16 : decode cX1_renew 16 = .ok (.iconst 0, 1) := by decide +kernel
theorem dX1_renew_17 : decode cX1_renew 17 = .ok (.iastore, 1) := by decide +kernel
theorem dX1_renew_18 : decode cX1_renew 18 = .ok (.iinc 3 1, 3) := by decide +kernel
theorem dX1_renew_21 : decode cX1_renew 21 = .ok (.goto (-19), 3) := by decide +kernel
theorem dX1_renew_24 : decode cX1_renew 24 = .ok (.aload_n 0, 1) := by decide +kernel
theorem dX1_renew_25 : decode cX1_renew 25 = .ok (.iload_n 1, 1) := by decide +kernel
theorem dX1_renew_26 : decode cX1_renew 26 = .ok (.putfield 15, 3) := by decide +kernel
theorem dX1_renew_29 : decode cX1_renew 29 = .ok (.aload_n 0, 1) := by decide +kernel
theorem dX1_renew_30 : decode cX1_renew 30 = .ok (.iload_n 2, 1) := by decide +kernel
theorem dX1_renew_31 : decode cX1_renew 31 = .ok (.putfield 19, 3) := by decide +kernel
theorem dX1_renew_34 : decode cX1_renew 34 = .ok (.return_, 1) := by decide +kernel
theorem dX1_placeOf_0 : decode cX1_placeOf 0 = .ok (.iload_n 0, 1) := by decide +kernel
theorem dX1_placeOf_1 : decode cX1_placeOf 1 = .ok (.bipush 16, 2) := by decide +kernel
theorem dX1_placeOf_3 : decode cX1_placeOf 3 = .ok (.imul, 1) := by decide +kernel
theorem dX1_placeOf_4 : decode cX1_placeOf 4 = .ok (.iload_n 1, 1) := by decide +kernel
theorem dX1_placeOf_5 : decode cX1_placeOf 5 = .ok (.iadd, 1) := by decide +kernel
theorem dX1_placeOf_6 : decode cX1_placeOf 6 = .ok (.ireturn, 1) := by decide +kernel
set_option maxRecDepth 20000 in
theorem ggX2_init_X0_init : GoodIn wsX2_init wsX0_init := goodIn_r _ [10, 11, 2, 3, 12, 13, 14, 15, 16, 17, 18, 19, 20, 21, 22, 23, 24, 33, 34, 35, 36, 37, 38, 39, 40] (by decide +kernel) (by decide +kernel)
set_option maxRecDepth 20000 in
theorem gX2_init_X0_init : GoodIn wsX2_init (wsX0_init) := ggX2_init_X0_init
theorem dX2_init_0 : decode cX2_init 0 = .ok (.aload_n 0, 1) := by decide +kernel
theorem dX2_init_1 : decode cX2_init 1 = .ok (.invokespecial 1, 3) := by decide +kernel
theorem dX2_init_4 : decode cX2_init 4 = .ok (.aload_n 0, 1) := by decide +kernel
theorem dX2_init_5 : decode cX2_init 5 = .ok (.iconst 5, 1) := by decide +kernel
theorem dX2_init_6 : decode cX2_init 6 = .ok (.anewarray 9, 3) := by decide +kernel
theorem dX2_init_9 : decode cX2_init 9 = .ok (.putfield 11, 3) := by decide +kernel
theorem dX2_init_12 : decode cX2_init 12 = .ok (.iconst 0, 1) := by decide +kernel
theorem dX2_init_13 : decode cX2_init 13 = .ok (.istore_n 1, 1) := by decide +kernel
theorem dX2_init_14 : decode cX2_init 14 = .ok (.iload_n 1, 1) := by decide +kernel
theorem dX2_init_15 : decode cX2_init 15 = .ok (.iconst 5, 1) := by decide +kernel
theorem dX2_init_16 : decode cX2_init 16 = .ok (.if_icmp .ge 22, 3) := by decide +kernel
theorem dX2_init_19 : decode cX2_init 19 = .ok (.aload_n 0, 1) := by decide +kernel
theorem dX2_init_20 : decode cX2_init 20 = .ok (.getfield 11, 3) := by decide +kernel
theorem dX2_init_23 : decode cX2_init 23 = .ok (.iload_n 1, 1) := by decide +kernel
theorem dX2_init_24 : decode cX2_init 24 = .ok (.new 9, 3) := by decide +kernel
theorem dX2_init_27 : decode cX2_init 27 = .ok (.dup, 1) := by decide +kernel
theorem dX2_init_28 : decode cX2_init 28 = .ok (.invokespecial 15, 3) := by decide +kernel
theorem dX2_init_31 : decode cX2_init 31 = .ok (.aastore, 1) := by decide +kernel
theorem dX2_init_32 : decode cX2_init 32 = .ok (.iinc 1 1, 3) := by decide +kernel
theorem dX2_init_35 : decode cX2_init 35 = .ok (.goto (-21), 3) := by decide +kernel
theorem dX2_init_38 : decode cX2_init 38 = .ok (.return_, 1) := by decide +kernel
set_option maxRecDepth 20000 in
theorem ggX2_mount_X2_isLane : GoodIn wsX2_mount wsX2_isLane := goodIn_r _ [8] (by decide +kernel) (by decide +kernel)
set_option maxRecDepth 20000 in
theorem gX2_mount_X2_isLane : GoodIn wsX2_mount (va_wsS RX2 16 yX2_isLane wsX2_isLane) := goodIn_app (goodIn_of _ (by decide +kernel)) ggX2_mount_X2_isLane
set_option maxRecDepth 20000 in
theorem ggX2_mount_X0_renew : GoodIn wsX2_mount wsX0_renew := goodIn_r _ [13, 14, 15, 24, 25, 26, 27, 28] (by decide +kernel) (by decide +kernel)
set_option maxRecDepth 20000 in
theorem gX2_mount_X0_renew : GoodIn wsX2_mount (wsV RX2 23 RX0 yX0_renew wsX0_renew) := goodIn_app (goodIn_of _ (by decide +kernel)) ggX2_mount_X0_renew
theorem dX2_mount_0 : decode cX2_mount 0 = .ok (.iload_n 1, 1) := by decide +kernel
theorem dX2_mount_1 : decode cX2_mount 1 = .ok (.invokestatic 16, 3) := by decide +kernel
theorem dX2_mount_4 : decode cX2_mount 4 = .ok (.ifCond .ne 6, 3) := by decide +kernel
theorem dX2_mount_7 : decode cX2_mount 7 = .ok (.ldc 20, 2) := by decide +kernel
theorem dX2_mount_9 : decode cX2_mount 9 = .ok (.ireturn, 1) := by decide +kernel
theorem dX2_mount_10 : decode cX2_mount 10 = .ok (.iload_n 2, 1) := by decide +kernel
theorem dX2_mount_11 : decode cX2_mount 11 = .ok (.bipush 60, 2) := by decide +kernel
theorem dX2_mount_13 : decode cX2_mount 13 = .ok (.if_icmp .le 6, 3) := by decide +kernel
theorem dX2_mount_16 : decode cX2_mount 16 = .ok (.ldc 21, 2) := by decide +kernel
theorem dX2_mount_18 : decode cX2_mount 18 = .ok (.ireturn, 1) := by decide +kernel
theorem dX2_mount_19 : decode cX2_mount 19 = .ok (.iload_n 2, 1) := by decide +kernel
theorem dX2_mount_20 : decode cX2_mount 20 = .ok (.ifCond .ge 6, 3) := by decide +kernel
theorem dX2_mount_23 : decode cX2_mount 23 = .ok (.ldc 22, 2) := by decide +kernel
theorem dX2_mount_25 : decode cX2_mount 25 = .ok (.ireturn, 1) := by decide +kernel
theorem dX2_mount_26 : decode cX2_mount 26 = .ok (.aload_n 0, 1) := by decide +kernel
theorem dX2_mount_27 : decode cX2_mount 27 = .ok (.getfield 11, 3) := by decide +kernel
theorem dX2_mount_30 : decode cX2_mount 30 = .ok (.iload_n 1, 1) := by decide +kernel
theorem dX2_mount_31 : decode cX2_mount 31 = .ok (.aaload, 1) := by decide +kernel
theorem dX2_mount_32 : decode cX2_mount 32 = .ok (.iload_n 2, 1) := by decide +kernel
theorem dX2_mount_33 : decode cX2_mount 33 = .ok (.invokevirtual 23, 3) := by decide +kernel
theorem dX2_mount_36 : decode cX2_mount 36 = .ok (.iload_n 2, 1) := by decide +kernel
theorem dX2_mount_37 : decode cX2_mount 37 = .ok (.ireturn, 1) := by decide +kernel
set_option maxRecDepth 20000 in
theorem ggX2_strip_X2_isLane : GoodIn wsX2_strip wsX2_isLane := goodIn_r _ [7] (by decide +kernel) (by decide +kernel)
set_option maxRecDepth 20000 in
theorem gX2_strip_X2_isLane : GoodIn wsX2_strip (va_wsS RX2 16 yX2_isLane wsX2_isLane) := goodIn_app (goodIn_of _ (by decide +kernel)) ggX2_strip_X2_isLane
set_option maxRecDepth 20000 in
theorem ggX2_strip_X0_isOff : GoodIn wsX2_strip wsX0_isOff := goodIn_r _ [12, 13, 32, 33, 34, 35, 36] (by decide +kernel) (by decide +kernel)
set_option maxRecDepth 20000 in
theorem gX2_strip_X0_isOff : GoodIn wsX2_strip (wsV RX2 27 RX0 yX0_isOff wsX0_isOff) := goodIn_app (goodIn_of _ (by decide +kernel)) ggX2_strip_X0_isOff
set_option maxRecDepth 20000 in
theorem ggX2_strip_X0_refuseOff : GoodIn wsX2_strip wsX0_refuseOff := goodIn_r _ [17, 18, 19, 32, 33, 34, 35, 36] (by decide +kernel) (by decide +kernel)
set_option maxRecDepth 20000 in
theorem gX2_strip_X0_refuseOff : GoodIn wsX2_strip (wsV RX2 31 RX0 yX0_refuseOff wsX0_refuseOff) := goodIn_app (goodIn_of _ (by decide +kernel)) ggX2_strip_X0_refuseOff
set_option maxRecDepth 20000 in
theorem ggX2_strip_X0_turnOff : GoodIn wsX2_strip wsX0_turnOff := goodIn_r _ [23, 13, 32, 33, 34, 35, 36] (by decide +kernel) (by decide +kernel)
set_option maxRecDepth 20000 in
theorem gX2_strip_X0_turnOff : GoodIn wsX2_strip (wsV RX2 39 RX0 yX0_turnOff wsX0_turnOff) := goodIn_app (goodIn_of _ (by decide +kernel)) ggX2_strip_X0_turnOff
theorem dX2_strip_0 : decode cX2_strip 0 = .ok (.iload_n 1, 1) := by decide +kernel
theorem dX2_strip_1 : decode cX2_strip 1 = .ok (.invokestatic 16, 3) := by decide +kernel
theorem dX2_strip_4 : decode cX2_strip 4 = .ok (.ifCond .ne 6, 3) := by decide +kernel
theorem dX2_strip_7 : decode cX2_strip 7 = .ok (.ldc 20, 2) := by decide +kernel
theorem dX2_strip_9 : decode cX2_strip 9 = .ok (.ireturn, 1) := by decide +kernel
theorem dX2_strip_10 : decode cX2_strip 10 = .ok (.aload_n 0, 1) := by decide +kernel
theorem dX2_strip_11 : decode cX2_strip 11 = .ok (.getfield 11, 3) := by decide +kernel
theorem dX2_strip_14 : decode cX2_strip 14 = .ok (.iload_n 1, 1) := by decide +kernel
theorem dX2_strip_15 : decode cX2_strip 15 = .ok (.aaload, 1) := by decide +kernel
theorem dX2_strip_16 : decode cX2_strip 16 = .ok (.astore_n 2, 1) := by decide +kernel
theorem dX2_strip_17 : decode cX2_strip 17 = .ok (.aload_n 2, 1) := by decide +kernel
theorem dX2_strip_18 : decode cX2_strip 18 = .ok (.invokevirtual 27, 3) := by decide +kernel
theorem dX2_strip_21 : decode cX2_strip 21 = .ok (.ifCond .eq 8, 3) := by decide +kernel
theorem dX2_strip_24 : decode cX2_strip 24 = .ok (.aload_n 2, 1) := by decide +kernel
theorem dX2_strip_25 : decode cX2_strip 25 = .ok (.invokevirtual 31, 3) := by decide +kernel
theorem dX2_strip_28 : decode cX2_strip 28 = .ok (.ireturn, 1) := by decide +kernel
theorem dX2_strip_29 : decode cX2_strip 29 = .ok (.aload_n 2, 1) := by decide +kernel
theorem dX2_strip_30 : decode cX2_strip 30 = .ok (.getfield 35, 3) := by decide +kernel
theorem dX2_strip_33 : decode cX2_strip 33 = .ok (.istore_n 3, 1) := by decide +kernel
theorem dX2_strip_34 : decode cX2_strip 34 = .ok (.aload_n 2, 1) := by decide +kernel
theorem dX2_strip_35 : decode cX2_strip 35 = .ok (.invokevirtual 39, 3) := by decide +kernel
theorem dX2_strip_38 : decode cX2_strip 38 = .ok (.iload_n 3, 1) := by decide +kernel
theorem dX2_strip_39 : decode cX2_strip 39 = .ok (.ireturn, 1) := by decide +kernel
set_option maxRecDepth 20000 in
theorem ggX2_size_X2_isLane : GoodIn wsX2_size wsX2_isLane := goodIn_r _ [7] (by decide +kernel) (by decide +kernel)
set_option maxRecDepth 20000 in
theorem gX2_size_X2_isLane : GoodIn wsX2_size (va_wsS RX2 16 yX2_isLane wsX2_isLane) := goodIn_app (goodIn_of _ (by decide +kernel)) ggX2_size_X2_isLane
set_option maxRecDepth 20000 in
theorem ggX2_size_X0_isOff : GoodIn wsX2_size wsX0_isOff := goodIn_r _ [12, 13, 28, 29, 30, 31, 32] (by decide +kernel) (by decide +kernel)
set_option maxRecDepth 20000 in
theorem gX2_size_X0_isOff : GoodIn wsX2_size (wsV RX2 27 RX0 yX0_isOff wsX0_isOff) := goodIn_app (goodIn_of _ (by decide +kernel)) ggX2_size_X0_isOff
set_option maxRecDepth 20000 in
theorem ggX2_size_X0_refuseOff : GoodIn wsX2_size wsX0_refuseOff := goodIn_r _ [17, 18, 19, 28, 29, 30, 31, 32] (by decide +kernel) (by decide +kernel)
set_option maxRecDepth 20000 in
theorem gX2_size_X0_refuseOff : GoodIn wsX2_size (wsV RX2 31 RX0 yX0_refuseOff wsX0_refuseOff) := goodIn_app (goodIn_of _ (by decide +kernel)) ggX2_size_X0_refuseOff
theorem dX2_size_0 : decode cX2_size 0 = .ok (.iload_n 1, 1) := by decide +kernel
theorem dX2_size_1 : decode cX2_size 1 = .ok (.invokestatic 16, 3) := by decide +kernel
theorem dX2_size_4 : decode cX2_size 4 = .ok (.ifCond .ne 6, 3) := by decide +kernel
theorem dX2_size_7 : decode cX2_size 7 = .ok (.ldc 20, 2) := by decide +kernel
theorem dX2_size_9 : decode cX2_size 9 = .ok (.ireturn, 1) := by decide +kernel
theorem dX2_size_10 : decode cX2_size 10 = .ok (.aload_n 0, 1) := by decide +kernel
theorem dX2_size_11 : decode cX2_size 11 = .ok (.getfield 11, 3) := by decide +kernel
theorem dX2_size_14 : decode cX2_size 14 = .ok (.iload_n 1, 1) := by decide +kernel
theorem dX2_size_15 : decode cX2_size 15 = .ok (.aaload, 1) := by decide +kernel
theorem dX2_size_16 : decode cX2_size 16 = .ok (.astore_n 2, 1) := by decide +kernel
theorem dX2_size_17 : decode cX2_size 17 = .ok (.aload_n 2, 1) := by decide +kernel
theorem dX2_size_18 : decode cX2_size 18 = .ok (.invokevirtual 27, 3) := by decide +kernel
theorem dX2_size_21 : decode cX2_size 21 = .ok (.ifCond .eq 8, 3) := by decide +kernel
theorem dX2_size_24 : decode cX2_size 24 = .ok (.aload_n 2, 1) := by decide +kernel
theorem dX2_size_25 : decode cX2_size 25 = .ok (.invokevirtual 31, 3) := by decide +kernel
theorem dX2_size_28 : decode cX2_size 28 = .ok (.ireturn, 1) := by decide +kernel
theorem dX2_size_29 : decode cX2_size 29 = .ok (.aload_n 2, 1) := by decide +kernel
theorem dX2_size_30 : decode cX2_size 30 = .ok (.getfield 35, 3) := by decide +kernel
theorem dX2_size_33 : decode cX2_size 33 = .ok (.ireturn, 1) := by decide +kernel
set_option maxRecDepth 20000 in
theorem ggX2_cell_X2_isLane : GoodIn wsX2_cell wsX2_isLane := goodIn_r _ [7] (by decide +kernel) (by decide +kernel)
set_option maxRecDepth 20000 in
theorem gX2_cell_X2_isLane : GoodIn wsX2_cell (va_wsS RX2 16 yX2_isLane wsX2_isLane) := goodIn_app (goodIn_of _ (by decide +kernel)) ggX2_cell_X2_isLane
set_option maxRecDepth 20000 in
theorem ggX2_cell_X0_isOff : GoodIn wsX2_cell wsX0_isOff := goodIn_r _ [12, 13, 38, 39, 40, 41, 42] (by decide +kernel) (by decide +kernel)
set_option maxRecDepth 20000 in
theorem gX2_cell_X0_isOff : GoodIn wsX2_cell (wsV RX2 27 RX0 yX0_isOff wsX0_isOff) := goodIn_app (goodIn_of _ (by decide +kernel)) ggX2_cell_X0_isOff
set_option maxRecDepth 20000 in
theorem ggX2_cell_X0_refuseOff : GoodIn wsX2_cell wsX0_refuseOff := goodIn_r _ [17, 18, 19, 38, 39, 40, 41, 42] (by decide +kernel) (by decide +kernel)
set_option maxRecDepth 20000 in
theorem gX2_cell_X0_refuseOff : GoodIn wsX2_cell (wsV RX2 31 RX0 yX0_refuseOff wsX0_refuseOff) := goodIn_app (goodIn_of _ (by decide +kernel)) ggX2_cell_X0_refuseOff
set_option maxRecDepth 20000 in
theorem ggX2_cell_X0_hasCell : GoodIn wsX2_cell wsX0_hasCell := goodIn_r _ [23, 13, 38, 39, 40, 41, 42] (by decide +kernel) (by decide +kernel)
set_option maxRecDepth 20000 in
theorem gX2_cell_X0_hasCell : GoodIn wsX2_cell (wsV RX2 42 RX0 yX0_hasCell wsX0_hasCell) := goodIn_app (goodIn_of _ (by decide +kernel)) ggX2_cell_X0_hasCell
set_option maxRecDepth 20000 in
theorem ggX2_cell_X0_refuseOut : GoodIn wsX2_cell wsX0_refuseOut := goodIn_r _ [27, 28, 29, 38, 39, 40, 41, 42] (by decide +kernel) (by decide +kernel)
set_option maxRecDepth 20000 in
theorem gX2_cell_X0_refuseOut : GoodIn wsX2_cell (wsV RX2 45 RX0 yX0_refuseOut wsX0_refuseOut) := goodIn_app (goodIn_of _ (by decide +kernel)) ggX2_cell_X0_refuseOut
theorem dX2_cell_0 : decode cX2_cell 0 = .ok (.iload_n 1, 1) := by decide +kernel
theorem dX2_cell_1 : decode cX2_cell 1 = .ok (.invokestatic 16, 3) := by decide +kernel
theorem dX2_cell_4 : decode cX2_cell 4 = .ok (.ifCond .ne 6, 3) := by decide +kernel
theorem dX2_cell_7 : decode cX2_cell 7 = .ok (.ldc 20, 2) := by decide +kernel
theorem dX2_cell_9 : decode cX2_cell 9 = .ok (.ireturn, 1) := by decide +kernel
theorem dX2_cell_10 : decode cX2_cell 10 = .ok (.aload_n 0, 1) := by decide +kernel
theorem dX2_cell_11 : decode cX2_cell 11 = .ok (.getfield 11, 3) := by decide +kernel
theorem dX2_cell_14 : decode cX2_cell 14 = .ok (.iload_n 1, 1) := by decide +kernel
theorem dX2_cell_15 : decode cX2_cell 15 = .ok (.aaload, 1) := by decide +kernel
theorem dX2_cell_16 : decode cX2_cell 16 = .ok (.astore_n 3, 1) := by decide +kernel
theorem dX2_cell_17 : decode cX2_cell 17 = .ok (.aload_n 3, 1) := by decide +kernel
theorem dX2_cell_18 : decode cX2_cell 18 = .ok (.invokevirtual 27, 3) := by decide +kernel
theorem dX2_cell_21 : decode cX2_cell 21 = .ok (.ifCond .eq 8, 3) := by decide +kernel
theorem dX2_cell_24 : decode cX2_cell 24 = .ok (.aload_n 3, 1) := by decide +kernel
theorem dX2_cell_25 : decode cX2_cell 25 = .ok (.invokevirtual 31, 3) := by decide +kernel
theorem dX2_cell_28 : decode cX2_cell 28 = .ok (.ireturn, 1) := by decide +kernel
theorem dX2_cell_29 : decode cX2_cell 29 = .ok (.aload_n 3, 1) := by decide +kernel
theorem dX2_cell_30 : decode cX2_cell 30 = .ok (.iload_n 2, 1) := by decide +kernel
theorem dX2_cell_31 : decode cX2_cell 31 = .ok (.invokevirtual 42, 3) := by decide +kernel
theorem dX2_cell_34 : decode cX2_cell 34 = .ok (.ifCond .ne 8, 3) := by decide +kernel
theorem dX2_cell_37 : decode cX2_cell 37 = .ok (.aload_n 3, 1) := by decide +kernel
theorem dX2_cell_38 : decode cX2_cell 38 = .ok (.invokevirtual 45, 3) := by decide +kernel
theorem dX2_cell_41 : decode cX2_cell 41 = .ok (.ireturn, 1) := by decide +kernel
theorem dX2_cell_42 : decode cX2_cell 42 = .ok (.aload_n 3, 1) := by decide +kernel
theorem dX2_cell_43 : decode cX2_cell 43 = .ok (.getfield 48, 3) := by decide +kernel
theorem dX2_cell_46 : decode cX2_cell 46 = .ok (.iload_n 2, 1) := by decide +kernel
theorem dX2_cell_47 : decode cX2_cell 47 = .ok (.iaload, 1) := by decide +kernel
theorem dX2_cell_48 : decode cX2_cell 48 = .ok (.ireturn, 1) := by decide +kernel
set_option maxRecDepth 20000 in
theorem ggX2_put_X2_isLane : GoodIn wsX2_put wsX2_isLane := goodIn_r _ [7] (by decide +kernel) (by decide +kernel)
set_option maxRecDepth 20000 in
theorem gX2_put_X2_isLane : GoodIn wsX2_put (va_wsS RX2 16 yX2_isLane wsX2_isLane) := goodIn_app (goodIn_of _ (by decide +kernel)) ggX2_put_X2_isLane
set_option maxRecDepth 20000 in
theorem ggX2_put_X0_isOff : GoodIn wsX2_put wsX0_isOff := goodIn_r _ [12, 13, 51, 52, 53, 54, 55] (by decide +kernel) (by decide +kernel)
set_option maxRecDepth 20000 in
theorem gX2_put_X0_isOff : GoodIn wsX2_put (wsV RX2 27 RX0 yX0_isOff wsX0_isOff) := goodIn_app (goodIn_of _ (by decide +kernel)) ggX2_put_X0_isOff
set_option maxRecDepth 20000 in
theorem ggX2_put_X0_refuseOff : GoodIn wsX2_put wsX0_refuseOff := goodIn_r _ [17, 18, 19, 51, 52, 53, 54, 55] (by decide +kernel) (by decide +kernel)
set_option maxRecDepth 20000 in
theorem gX2_put_X0_refuseOff : GoodIn wsX2_put (wsV RX2 31 RX0 yX0_refuseOff wsX0_refuseOff) := goodIn_app (goodIn_of _ (by decide +kernel)) ggX2_put_X0_refuseOff
set_option maxRecDepth 20000 in
theorem ggX2_put_X0_hasCell : GoodIn wsX2_put wsX0_hasCell := goodIn_r _ [23, 13, 51, 52, 53, 54, 55] (by decide +kernel) (by decide +kernel)
set_option maxRecDepth 20000 in
theorem gX2_put_X0_hasCell : GoodIn wsX2_put (wsV RX2 42 RX0 yX0_hasCell wsX0_hasCell) := goodIn_app (goodIn_of _ (by decide +kernel)) ggX2_put_X0_hasCell
set_option maxRecDepth 20000 in
theorem ggX2_put_X0_refuseOut : GoodIn wsX2_put wsX0_refuseOut := goodIn_r _ [27, 28, 29, 51, 52, 53, 54, 55] (by decide +kernel) (by decide +kernel)
set_option maxRecDepth 20000 in
theorem gX2_put_X0_refuseOut : GoodIn wsX2_put (wsV RX2 45 RX0 yX0_refuseOut wsX0_refuseOut) := goodIn_app (goodIn_of _ (by decide +kernel)) ggX2_put_X0_refuseOut
set_option maxRecDepth 20000 in
theorem ggX2_put_X2_stored : GoodIn wsX2_put wsX2_stored := goodIn_r _ [32, 33, 34, 35, 36, 37, 38, 39, 40, 41, 42] (by decide +kernel) (by decide +kernel)
set_option maxRecDepth 20000 in
theorem gX2_put_X2_stored : GoodIn wsX2_put (va_wsS RX2 52 yX2_stored wsX2_stored) := goodIn_app (goodIn_of _ (by decide +kernel)) ggX2_put_X2_stored
theorem dX2_put_0 : decode cX2_put 0 = .ok (.iload_n 1, 1) := by decide +kernel
theorem dX2_put_1 : decode cX2_put 1 = .ok (.invokestatic 16, 3) := by decide +kernel
theorem dX2_put_4 : decode cX2_put 4 = .ok (.ifCond .ne 6, 3) := by decide +kernel
theorem dX2_put_7 : decode cX2_put 7 = .ok (.ldc 20, 2) := by decide +kernel
theorem dX2_put_9 : decode cX2_put 9 = .ok (.ireturn, 1) := by decide +kernel
theorem dX2_put_10 : decode cX2_put 10 = .ok (.aload_n 0, 1) := by decide +kernel
theorem dX2_put_11 : decode cX2_put 11 = .ok (.getfield 11, 3) := by decide +kernel
theorem dX2_put_14 : decode cX2_put 14 = .ok (.iload_n 1, 1) := by decide +kernel
theorem dX2_put_15 : decode cX2_put 15 = .ok (.aaload, 1) := by decide +kernel
theorem dX2_put_16 : decode cX2_put 16 = .ok (.astore 4, 2) := by decide +kernel
theorem dX2_put_18 : decode cX2_put 18 = .ok (.aload 4, 2) := by decide +kernel
theorem dX2_put_20 : decode cX2_put 20 = .ok (.invokevirtual 27, 3) := by decide +kernel
theorem dX2_put_23 : decode cX2_put 23 = .ok (.ifCond .eq 9, 3) := by decide +kernel
theorem dX2_put_26 : decode cX2_put 26 = .ok (.aload 4, 2) := by decide +kernel
theorem dX2_put_28 : decode cX2_put 28 = .ok (.invokevirtual 31, 3) := by decide +kernel
theorem dX2_put_31 : decode cX2_put 31 = .ok (.ireturn, 1) := by decide +kernel
theorem dX2_put_32 : decode cX2_put 32 = .ok (.aload 4, 2) := by decide +kernel
theorem dX2_put_34 : decode cX2_put 34 = .ok (.iload_n 2, 1) := by decide +kernel
theorem dX2_put_35 : decode cX2_put 35 = .ok (.invokevirtual 42, 3) := by decide +kernel
theorem dX2_put_38 : decode cX2_put 38 = .ok (.ifCond .ne 9, 3) := by decide +kernel
theorem dX2_put_41 : decode cX2_put 41 = .ok (.aload 4, 2) := by decide +kernel
theorem dX2_put_43 : decode cX2_put 43 = .ok (.invokevirtual 45, 3) := by decide +kernel
theorem dX2_put_46 : decode cX2_put 46 = .ok (.ireturn, 1) := by decide +kernel
theorem dX2_put_47 : decode cX2_put 47 = .ok (.aload 4, 2) := by decide +kernel
theorem dX2_put_49 : decode cX2_put 49 = .ok (.getfield 48, 3) := by decide +kernel
theorem dX2_put_52 : decode cX2_put 52 = .ok (.iload_n 2, 1) := by decide +kernel
theorem dX2_put_53 : decode cX2_put 53 = .ok (.iload_n 1, 1) := by decide +kernel
theorem dX2_put_54 : decode cX2_put 54 = .ok (.iload_n 3, 1) := by decide +kernel
theorem dX2_put_55 : decode cX2_put 55 = .ok (.i2l, 1) := by decide +kernel
theorem dX2_put_56 : decode cX2_put 56 = .ok (.invokestatic 52, 3) := by decide +kernel
theorem dX2_put_59 : decode cX2_put 59 = .ok (.iastore, 1) := by decide +kernel
theorem dX2_put_60 : decode cX2_put 60 = .ok (.aload 4, 2) := by decide +kernel
theorem dX2_put_62 : decode cX2_put 62 = .ok (.getfield 48, 3) := by decide +kernel
theorem dX2_put_65 : decode cX2_put 65 = .ok (.iload_n 2, 1) := by decide +kernel
theorem dX2_put_66 : decode cX2_put 66 = .ok (.iaload, 1) := by decide +kernel
theorem dX2_put_67 : decode cX2_put 67 = .ok (.ireturn, 1) := by decide +kernel
set_option maxRecDepth 20000 in
theorem ggX2_change_X2_isLane : GoodIn wsX2_change wsX2_isLane := goodIn_r _ [8] (by decide +kernel) (by decide +kernel)
set_option maxRecDepth 20000 in
theorem gX2_change_X2_isLane : GoodIn wsX2_change (va_wsS RX2 16 yX2_isLane wsX2_isLane) := goodIn_app (goodIn_of _ (by decide +kernel)) ggX2_change_X2_isLane
set_option maxRecDepth 20000 in
theorem ggX2_change_X0_isOff : GoodIn wsX2_change wsX0_isOff := goodIn_r _ [13, 14, 61, 62, 63, 64, 65] (by decide +kernel) (by decide +kernel)
set_option maxRecDepth 20000 in
theorem gX2_change_X0_isOff : GoodIn wsX2_change (wsV RX2 27 RX0 yX0_isOff wsX0_isOff) := goodIn_app (goodIn_of _ (by decide +kernel)) ggX2_change_X0_isOff
set_option maxRecDepth 20000 in
theorem ggX2_change_X0_refuseOff : GoodIn wsX2_change wsX0_refuseOff := goodIn_r _ [18, 19, 20, 61, 62, 63, 64, 65] (by decide +kernel) (by decide +kernel)
set_option maxRecDepth 20000 in
theorem gX2_change_X0_refuseOff : GoodIn wsX2_change (wsV RX2 31 RX0 yX0_refuseOff wsX0_refuseOff) := goodIn_app (goodIn_of _ (by decide +kernel)) ggX2_change_X0_refuseOff
set_option maxRecDepth 20000 in
theorem ggX2_change_X0_hasCell : GoodIn wsX2_change wsX0_hasCell := goodIn_r _ [24, 14, 61, 62, 63, 64, 65] (by decide +kernel) (by decide +kernel)
set_option maxRecDepth 20000 in
theorem gX2_change_X0_hasCell : GoodIn wsX2_change (wsV RX2 42 RX0 yX0_hasCell wsX0_hasCell) := goodIn_app (goodIn_of _ (by decide +kernel)) ggX2_change_X0_hasCell
set_option maxRecDepth 20000 in
theorem ggX2_change_X0_refuseOut : GoodIn wsX2_change wsX0_refuseOut := goodIn_r _ [28, 29, 30, 61, 62, 63, 64, 65] (by decide +kernel) (by decide +kernel)
set_option maxRecDepth 20000 in
theorem gX2_change_X0_refuseOut : GoodIn wsX2_change (wsV RX2 45 RX0 yX0_refuseOut wsX0_refuseOut) := goodIn_app (goodIn_of _ (by decide +kernel)) ggX2_change_X0_refuseOut
set_option maxRecDepth 20000 in
theorem ggX2_change_X2_changed : GoodIn wsX2_change wsX2_changed := goodIn_r _ [33, 34, 35, 7, 36, 37, 38, 39, 40, 41, 42, 43, 44, 45, 46, 47, 48, 49, 50, 51, 52] (by decide +kernel) (by decide +kernel)
set_option maxRecDepth 20000 in
theorem gX2_change_X2_changed : GoodIn wsX2_change (va_wsS RX2 57 yX2_changed wsX2_changed) := goodIn_app (goodIn_of _ (by decide +kernel)) ggX2_change_X2_changed
theorem dX2_change_0 : decode cX2_change 0 = .ok (.iload_n 1, 1) := by decide +kernel
theorem dX2_change_1 : decode cX2_change 1 = .ok (.invokestatic 16, 3) := by decide +kernel
theorem dX2_change_4 : decode cX2_change 4 = .ok (.ifCond .ne 6, 3) := by decide +kernel
theorem dX2_change_7 : decode cX2_change 7 = .ok (.ldc 20, 2) := by decide +kernel
theorem dX2_change_9 : decode cX2_change 9 = .ok (.ireturn, 1) := by decide +kernel
theorem dX2_change_10 : decode cX2_change 10 = .ok (.iload_n 2, 1) := by decide +kernel
theorem dX2_change_11 : decode cX2_change 11 = .ok (.ifCond .lt 8, 3) := by decide +kernel
theorem dX2_change_14 : decode cX2_change 14 = .ok (.iload_n 2, 1) := by decide +kernel
theorem dX2_change_15 : decode cX2_change 15 = .ok (.iconst 4, 1) := by decide +kernel
theorem dX2_change_16 : decode cX2_change 16 = .ok (.if_icmp .lt 6, 3) := by decide +kernel
theorem dX2_change_19 : decode cX2_change 19 = .ok (.ldc 56, 2) := by decide +kernel
theorem dX2_change_21 : decode cX2_change 21 = .ok (.ireturn, 1) := by decide +kernel
theorem dX2_change_22 : decode cX2_change 22 = .ok (.aload_n 0, 1) := by decide +kernel
theorem dX2_change_23 : decode cX2_change 23 = .ok (.getfield 11, 3) := by decide +kernel
theorem dX2_change_26 : decode cX2_change 26 = .ok (.iload_n 1, 1) := by decide +kernel
theorem dX2_change_27 : decode cX2_change 27 = .ok (.aaload, 1) := by decide +kernel
theorem dX2_change_28 : decode cX2_change 28 = .ok (.astore 5, 2) := by decide +kernel
theorem dX2_change_30 : decode cX2_change 30 = .ok (.aload 5, 2) := by decide +kernel
theorem dX2_change_32 : decode cX2_change 32 = .ok (.invokevirtual 27, 3) := by decide +kernel
theorem dX2_change_35 : decode cX2_change 35 = .ok (.ifCond .eq 9, 3) := by decide +kernel
theorem dX2_change_38 : decode cX2_change 38 = .ok (.aload 5, 2) := by decide +kernel
theorem dX2_change_40 : decode cX2_change 40 = .ok (.invokevirtual 31, 3) := by decide +kernel
theorem dX2_change_43 : decode cX2_change 43 = .ok (.ireturn, 1) := by decide +kernel
theorem dX2_change_44 : decode cX2_change 44 = .ok (.aload 5, 2) := by decide +kernel
theorem dX2_change_46 : decode cX2_change 46 = .ok (.iload_n 3, 1) := by decide +kernel
theorem dX2_change_47 : decode cX2_change 47 = .ok (.invokevirtual 42, 3) := by decide +kernel
theorem dX2_change_50 : decode cX2_change 50 = .ok (.ifCond .ne 9, 3) := by decide +kernel
theorem dX2_change_53 : decode cX2_change 53 = .ok (.aload 5, 2) := by decide +kernel
theorem dX2_change_55 : decode cX2_change 55 = .ok (.invokevirtual 45, 3) := by decide +kernel
theorem dX2_change_58 : decode cX2_change 58 = .ok (.ireturn, 1) := by decide +kernel
theorem dX2_change_59 : decode cX2_change 59 = .ok (.aload 5, 2) := by decide +kernel
theorem dX2_change_61 : decode cX2_change 61 = .ok (.getfield 48, 3) := by decide +kernel
theorem dX2_change_64 : decode cX2_change 64 = .ok (.iload_n 3, 1) := by decide +kernel
theorem dX2_change_65 : decode cX2_change 65 = .ok (.iload_n 1, 1) := by decide +kernel
theorem dX2_change_66 : decode cX2_change 66 = .ok (.iload_n 2, 1) := by decide +kernel
theorem dX2_change_67 : decode cX2_change 67 = .ok (.aload 5, 2) := by decide +kernel
theorem dX2_change_69 : decode cX2_change 69 = .ok (.getfield 48, 3) := by decide +kernel
theorem dX2_change_72 : decode cX2_change 72 = .ok (.iload_n 3, 1) := by decide +kernel
theorem dX2_change_73 : decode cX2_change 73 = .ok (.iaload, 1) := by decide +kernel
theorem dX2_change_74 : decode cX2_change 74 = .ok (.iload 4, 2) := by decide +kernel
theorem dX2_change_76 : decode cX2_change 76 = .ok (.invokestatic 57, 3) := by decide +kernel
theorem dX2_change_79 : decode cX2_change 79 = .ok (.iastore, 1) := by decide +kernel
theorem dX2_change_80 : decode cX2_change 80 = .ok (.aload 5, 2) := by decide +kernel
theorem dX2_change_82 : decode cX2_change 82 = .ok (.getfield 48, 3) := by decide +kernel
theorem dX2_change_85 : decode cX2_change 85 = .ok (.iload_n 3, 1) := by decide +kernel
theorem dX2_change_86 : decode cX2_change 86 = .ok (.iaload, 1) := by decide +kernel
theorem dX2_change_87 : decode cX2_change 87 = .ok (.ireturn, 1) := by decide +kernel
set_option maxRecDepth 20000 in
theorem ggX2_rule_X2_isLane : GoodIn wsX2_rule wsX2_isLane := goodIn_r _ [9] (by decide +kernel) (by decide +kernel)
set_option maxRecDepth 20000 in
theorem gX2_rule_X2_isLane : GoodIn wsX2_rule (va_wsS RX2 16 yX2_isLane wsX2_isLane) := goodIn_app (goodIn_of _ (by decide +kernel)) ggX2_rule_X2_isLane
set_option maxRecDepth 20000 in
theorem ggX2_rule_X1_renew : GoodIn wsX2_rule wsX1_renew := goodIn_r _ [14, 15, 16, 17, 31, 32, 33] (by decide +kernel) (by decide +kernel)
set_option maxRecDepth 20000 in
theorem gX2_rule_X1_renew : GoodIn wsX2_rule (wsV RX2 65 RX1 yX1_renew wsX1_renew) := goodIn_app (goodIn_of _ (by decide +kernel)) ggX2_rule_X1_renew
theorem dX2_rule_0 : decode cX2_rule 0 = .ok (.iload_n 1, 1) := by decide +kernel
theorem dX2_rule_1 : decode cX2_rule 1 = .ok (.invokestatic 16, 3) := by decide +kernel
theorem dX2_rule_4 : decode cX2_rule 4 = .ok (.ifCond .ne 6, 3) := by decide +kernel
theorem dX2_rule_7 : decode cX2_rule 7 = .ok (.ldc 20, 2) := by decide +kernel
theorem dX2_rule_9 : decode cX2_rule 9 = .ok (.ireturn, 1) := by decide +kernel
theorem dX2_rule_10 : decode cX2_rule 10 = .ok (.iload_n 2, 1) := by decide +kernel
theorem dX2_rule_11 : decode cX2_rule 11 = .ok (.bipush 16, 2) := by decide +kernel
theorem dX2_rule_13 : decode cX2_rule 13 = .ok (.if_icmp .gt 9, 3) := by decide +kernel
theorem dX2_rule_16 : decode cX2_rule 16 = .ok (.iload_n 3, 1) := by decide +kernel
theorem dX2_rule_17 : decode cX2_rule 17 = .ok (.bipush 16, 2) := by decide +kernel
theorem dX2_rule_19 : decode cX2_rule 19 = .ok (.if_icmp .le 6, 3) := by decide +kernel
theorem dX2_rule_22 : decode cX2_rule 22 = .ok (.ldc 21, 2) := by decide +kernel
theorem dX2_rule_24 : decode cX2_rule 24 = .ok (.ireturn, 1) := by decide +kernel
theorem dX2_rule_25 : decode cX2_rule 25 = .ok (.iload_n 2, 1) := by decide +kernel
theorem dX2_rule_26 : decode cX2_rule 26 = .ok (.ifCond .lt 7, 3) := by decide +kernel
theorem dX2_rule_29 : decode cX2_rule 29 = .ok (.iload_n 3, 1) := by decide +kernel
theorem dX2_rule_30 : decode cX2_rule 30 = .ok (.ifCond .ge 6, 3) := by decide +kernel
theorem dX2_rule_33 : decode cX2_rule 33 = .ok (.ldc 22, 2) := by decide +kernel
theorem dX2_rule_35 : decode cX2_rule 35 = .ok (.ireturn, 1) := by decide +kernel
theorem dX2_rule_36 : decode cX2_rule 36 = .ok (.aload_n 0, 1) := by decide +kernel
theorem dX2_rule_37 : decode cX2_rule 37 = .ok (.getfield 11, 3) := by decide +kernel
theorem dX2_rule_40 : decode cX2_rule 40 = .ok (.iload_n 1, 1) := by decide +kernel
theorem dX2_rule_41 : decode cX2_rule 41 = .ok (.aaload, 1) := by decide +kernel
theorem dX2_rule_42 : decode cX2_rule 42 = .ok (.getfield 61, 3) := by decide +kernel
theorem dX2_rule_45 : decode cX2_rule 45 = .ok (.iload_n 2, 1) := by decide +kernel
theorem dX2_rule_46 : decode cX2_rule 46 = .ok (.iload_n 3, 1) := by decide +kernel
theorem dX2_rule_47 : decode cX2_rule 47 = .ok (.invokevirtual 65, 3) := by decide +kernel
theorem dX2_rule_50 : decode cX2_rule 50 = .ok (.iload_n 2, 1) := by decide +kernel
theorem dX2_rule_51 : decode cX2_rule 51 = .ok (.iload_n 3, 1) := by decide +kernel
theorem dX2_rule_52 : decode cX2_rule 52 = .ok (.imul, 1) := by decide +kernel
theorem dX2_rule_53 : decode cX2_rule 53 = .ok (.ireturn, 1) := by decide +kernel
set_option maxRecDepth 20000 in
theorem ggX2_lay_X2_isLane : GoodIn wsX2_lay wsX2_isLane := goodIn_r _ [10] (by decide +kernel) (by decide +kernel)
set_option maxRecDepth 20000 in
theorem gX2_lay_X2_isLane : GoodIn wsX2_lay (va_wsS RX2 16 yX2_isLane wsX2_isLane) := goodIn_app (goodIn_of _ (by decide +kernel)) ggX2_lay_X2_isLane
set_option maxRecDepth 20000 in
theorem ggX2_lay_X1_isNone : GoodIn wsX2_lay wsX1_isNone := goodIn_r _ [15, 16, 71, 72, 73] (by decide +kernel) (by decide +kernel)
set_option maxRecDepth 20000 in
theorem gX2_lay_X1_isNone : GoodIn wsX2_lay (wsV RX2 70 RX1 yX1_isNone wsX1_isNone) := goodIn_app (goodIn_of _ (by decide +kernel)) ggX2_lay_X1_isNone
set_option maxRecDepth 20000 in
theorem ggX2_lay_X1_hasRow : GoodIn wsX2_lay wsX1_hasRow := goodIn_r _ [20, 16, 71, 72, 73] (by decide +kernel) (by decide +kernel)
set_option maxRecDepth 20000 in
theorem gX2_lay_X1_hasRow : GoodIn wsX2_lay (wsV RX2 74 RX1 yX1_hasRow wsX1_hasRow) := goodIn_app (goodIn_of _ (by decide +kernel)) ggX2_lay_X1_hasRow
set_option maxRecDepth 20000 in
theorem ggX2_lay_X0_isOff : GoodIn wsX2_lay wsX0_isOff := goodIn_r _ [25, 26, 66, 67, 68, 69, 70] (by decide +kernel) (by decide +kernel)
set_option maxRecDepth 20000 in
theorem gX2_lay_X0_isOff : GoodIn wsX2_lay (wsV RX2 27 RX0 yX0_isOff wsX0_isOff) := goodIn_app (goodIn_of _ (by decide +kernel)) ggX2_lay_X0_isOff
set_option maxRecDepth 20000 in
theorem ggX2_lay_X0_refuseOff : GoodIn wsX2_lay wsX0_refuseOff := goodIn_r _ [30, 31, 32, 66, 67, 68, 69, 70] (by decide +kernel) (by decide +kernel)
set_option maxRecDepth 20000 in
theorem gX2_lay_X0_refuseOff : GoodIn wsX2_lay (wsV RX2 31 RX0 yX0_refuseOff wsX0_refuseOff) := goodIn_app (goodIn_of _ (by decide +kernel)) ggX2_lay_X0_refuseOff
set_option maxRecDepth 20000 in
theorem ggX2_lay_X0_refuseOut : GoodIn wsX2_lay wsX0_refuseOut := goodIn_r _ [36, 37, 38, 66, 67, 68, 69, 70] (by decide +kernel) (by decide +kernel)
set_option maxRecDepth 20000 in
theorem gX2_lay_X0_refuseOut : GoodIn wsX2_lay (wsV RX2 45 RX0 yX0_refuseOut wsX0_refuseOut) := goodIn_app (goodIn_of _ (by decide +kernel)) ggX2_lay_X0_refuseOut
set_option maxRecDepth 20000 in
theorem ggX2_lay_X0_layInto : GoodIn wsX2_lay wsX0_layInto := goodIn_r _ [42, 26, 43, 44, 45, 46, 47, 48, 49, 50, 51, 52, 14, 53, 54, 55, 56, 57, 66, 67, 68, 69, 70, 71, 72, 73] (by decide +kernel) (by decide +kernel)
set_option maxRecDepth 20000 in
theorem gX2_lay_X0_layInto : GoodIn wsX2_lay (wsV RX2 78 RX0 yX0_layInto wsX0_layInto) := goodIn_app (goodIn_of _ (by decide +kernel)) ggX2_lay_X0_layInto
theorem dX2_lay_0 : decode cX2_lay 0 = .ok (.iload_n 1, 1) := by decide +kernel
theorem dX2_lay_1 : decode cX2_lay 1 = .ok (.invokestatic 16, 3) := by decide +kernel
theorem dX2_lay_4 : decode cX2_lay 4 = .ok (.ifCond .ne 6, 3) := by decide +kernel
theorem dX2_lay_7 : decode cX2_lay 7 = .ok (.ldc 20, 2) := by decide +kernel
theorem dX2_lay_9 : decode cX2_lay 9 = .ok (.ireturn, 1) := by decide +kernel
theorem dX2_lay_10 : decode cX2_lay 10 = .ok (.aload_n 0, 1) := by decide +kernel
theorem dX2_lay_11 : decode cX2_lay 11 = .ok (.getfield 11, 3) := by decide +kernel
theorem dX2_lay_14 : decode cX2_lay 14 = .ok (.iload_n 1, 1) := by decide +kernel
theorem dX2_lay_15 : decode cX2_lay 15 = .ok (.aaload, 1) := by decide +kernel
theorem dX2_lay_16 : decode cX2_lay 16 = .ok (.astore 4, 2) := by decide +kernel
theorem dX2_lay_18 : decode cX2_lay 18 = .ok (.aload 4, 2) := by decide +kernel
theorem dX2_lay_20 : decode cX2_lay 20 = .ok (.getfield 61, 3) := by decide +kernel
theorem dX2_lay_23 : decode cX2_lay 23 = .ok (.invokevirtual 70, 3) := by decide +kernel
theorem dX2_lay_26 : decode cX2_lay 26 = .ok (.ifCond .eq 6, 3) := by decide +kernel
theorem dX2_lay_29 : decode cX2_lay 29 = .ok (.ldc 73, 2) := by decide +kernel
theorem dX2_lay_31 : decode cX2_lay 31 = .ok (.ireturn, 1) := by decide +kernel
theorem dX2_lay_32 : decode cX2_lay 32 = .ok (.aload 4, 2) := by decide +kernel
theorem dX2_lay_34 : decode cX2_lay 34 = .ok (.getfield 61, 3) := by decide +kernel
theorem dX2_lay_37 : decode cX2_lay 37 = .ok (.iload_n 2, 1) := by decide +kernel
theorem dX2_lay_38 : decode cX2_lay 38 = .ok (.invokevirtual 74, 3) := by decide +kernel
theorem dX2_lay_41 : decode cX2_lay 41 = .ok (.ifCond .ne 6, 3) := by decide +kernel
theorem dX2_lay_44 : decode cX2_lay 44 = .ok (.ldc 77, 2) := by decide +kernel
theorem dX2_lay_46 : decode cX2_lay 46 = .ok (.ireturn, 1) := by decide +kernel
theorem dX2_lay_47 : decode cX2_lay 47 = .ok (.aload 4, 2) := by decide +kernel
theorem dX2_lay_49 : decode cX2_lay 49 = .ok (.invokevirtual 27, 3) := by decide +kernel
theorem dX2_lay_52 : decode cX2_lay 52 = .ok (.ifCond .eq 9, 3) := by decide +kernel
theorem dX2_lay_55 : decode cX2_lay 55 = .ok (.aload 4, 2) := by decide +kernel
theorem dX2_lay_57 : decode cX2_lay 57 = .ok (.invokevirtual 31, 3) := by decide +kernel
theorem dX2_lay_60 : decode cX2_lay 60 = .ok (.ireturn, 1) := by decide +kernel
theorem dX2_lay_61 : decode cX2_lay 61 = .ok (.iload_n 3, 1) := by decide +kernel
theorem dX2_lay_62 : decode cX2_lay 62 = .ok (.ifCond .lt 12, 3) := by decide +kernel
theorem dX2_lay_65 : decode cX2_lay 65 = .ok (.iload_n 3, 1) := by decide +kernel
theorem dX2_lay_66 : decode cX2_lay 66 = .ok (.aload 4, 2) := by decide +kernel
theorem dX2_lay_68 : decode cX2_lay 68 = .ok (.getfield 35, 3) := by decide +kernel
theorem dX2_lay_71 : decode cX2_lay 71 = .ok (.if_icmp .le 9, 3) := by decide +kernel
theorem dX2_lay_74 : decode cX2_lay 74 = .ok (.aload 4, 2) := by decide +kernel
theorem dX2_lay_76 : decode cX2_lay 76 = .ok (.invokevirtual 45, 3) := by decide +kernel
theorem dX2_lay_79 : decode cX2_lay 79 = .ok (.ireturn, 1) := by decide +kernel
theorem dX2_lay_80 : decode cX2_lay 80 = .ok (.aload 4, 2) := by decide +kernel
theorem dX2_lay_82 : decode cX2_lay 82 = .ok (.iload_n 2, 1) := by decide +kernel
theorem dX2_lay_83 : decode cX2_lay 83 = .ok (.iload_n 3, 1) := by decide +kernel
theorem dX2_lay_84 : decode cX2_lay 84 = .ok (.invokevirtual 78, 3) := by decide +kernel
theorem dX2_lay_87 : decode cX2_lay 87 = .ok (.ireturn, 1) := by decide +kernel
set_option maxRecDepth 20000 in
theorem ggX2_at_X2_isLane : GoodIn wsX2_at wsX2_isLane := goodIn_r _ [10] (by decide +kernel) (by decide +kernel)
set_option maxRecDepth 20000 in
theorem gX2_at_X2_isLane : GoodIn wsX2_at (va_wsS RX2 16 yX2_isLane wsX2_isLane) := goodIn_app (goodIn_of _ (by decide +kernel)) ggX2_at_X2_isLane
set_option maxRecDepth 20000 in
theorem ggX2_at_X1_isNone : GoodIn wsX2_at wsX1_isNone := goodIn_r _ [15, 16, 47, 48, 49] (by decide +kernel) (by decide +kernel)
set_option maxRecDepth 20000 in
theorem gX2_at_X1_isNone : GoodIn wsX2_at (wsV RX2 70 RX1 yX1_isNone wsX1_isNone) := goodIn_app (goodIn_of _ (by decide +kernel)) ggX2_at_X1_isNone
set_option maxRecDepth 20000 in
theorem ggX2_at_X1_hasRow : GoodIn wsX2_at wsX1_hasRow := goodIn_r _ [20, 16, 47, 48, 49] (by decide +kernel) (by decide +kernel)
set_option maxRecDepth 20000 in
theorem gX2_at_X1_hasRow : GoodIn wsX2_at (wsV RX2 74 RX1 yX1_hasRow wsX1_hasRow) := goodIn_app (goodIn_of _ (by decide +kernel)) ggX2_at_X1_hasRow
set_option maxRecDepth 20000 in
theorem ggX2_at_X1_hasColumn : GoodIn wsX2_at wsX1_hasColumn := goodIn_r _ [24, 25, 47, 48, 49] (by decide +kernel) (by decide +kernel)
set_option maxRecDepth 20000 in
theorem gX2_at_X1_hasColumn : GoodIn wsX2_at (wsV RX2 82 RX1 yX1_hasColumn wsX1_hasColumn) := goodIn_app (goodIn_of _ (by decide +kernel)) ggX2_at_X1_hasColumn
set_option maxRecDepth 20000 in
theorem ggX2_at_X1_numberIn : GoodIn wsX2_at wsX1_numberIn := goodIn_r _ [29, 30, 31, 32, 14, 33, 47, 48, 49] (by decide +kernel) (by decide +kernel)
set_option maxRecDepth 20000 in
theorem gX2_at_X1_numberIn : GoodIn wsX2_at (wsV RX2 86 RX1 yX1_numberIn wsX1_numberIn) := goodIn_app (goodIn_of _ (by decide +kernel)) ggX2_at_X1_numberIn
theorem dX2_at_0 : decode cX2_at 0 = .ok (.iload_n 1, 1) := by decide +kernel
theorem dX2_at_1 : decode cX2_at 1 = .ok (.invokestatic 16, 3) := by decide +kernel
theorem dX2_at_4 : decode cX2_at 4 = .ok (.ifCond .ne 6, 3) := by decide +kernel
theorem dX2_at_7 : decode cX2_at 7 = .ok (.ldc 20, 2) := by decide +kernel
theorem dX2_at_9 : decode cX2_at 9 = .ok (.ireturn, 1) := by decide +kernel
theorem dX2_at_10 : decode cX2_at 10 = .ok (.aload_n 0, 1) := by decide +kernel
theorem dX2_at_11 : decode cX2_at 11 = .ok (.getfield 11, 3) := by decide +kernel
theorem dX2_at_14 : decode cX2_at 14 = .ok (.iload_n 1, 1) := by decide +kernel
theorem dX2_at_15 : decode cX2_at 15 = .ok (.aaload, 1) := by decide +kernel
theorem dX2_at_16 : decode cX2_at 16 = .ok (.getfield 61, 3) := by decide +kernel
theorem dX2_at_19 : decode cX2_at 19 = .ok (.astore 4, 2) := by decide +kernel
theorem dX2_at_21 : decode cX2_at 21 = .ok (.aload 4, 2) := by decide +kernel
theorem dX2_at_23 : decode cX2_at 23 = .ok (.invokevirtual 70, 3) := by decide +kernel
theorem dX2_at_26 : decode cX2_at 26 = .ok (.ifCond .eq 6, 3) := by decide +kernel
theorem dX2_at_29 : decode cX2_at 29 = .ok (.ldc 73, 2) := by decide +kernel
theorem dX2_at_31 : decode cX2_at 31 = .ok (.ireturn, 1) := by decide +kernel
theorem dX2_at_32 : decode cX2_at 32 = .ok (.aload 4, 2) := by decide +kernel
theorem dX2_at_34 : decode cX2_at 34 = .ok (.iload_n 2, 1) := by decide +kernel
theorem dX2_at_35 : decode cX2_at 35 = .ok (.invokevirtual 74, 3) := by decide +kernel
theorem dX2_at_38 : decode cX2_at 38 = .ok (.ifCond .ne 6, 3) := by decide +kernel
theorem dX2_at_41 : decode cX2_at 41 = .ok (.ldc 77, 2) := by decide +kernel
theorem dX2_at_43 : decode cX2_at 43 = .ok (.ireturn, 1) := by decide +kernel
theorem dX2_at_44 : decode cX2_at 44 = .ok (.aload 4, 2) := by decide +kernel
theorem dX2_at_46 : decode cX2_at 46 = .ok (.iload_n 3, 1) := by decide +kernel
theorem dX2_at_47 : decode cX2_at 47 = .ok (.invokevirtual 82, 3) := by decide +kernel
theorem dX2_at_50 : decode cX2_at 50 = .ok (.ifCond .ne 6, 3) := by decide +kernel
theorem dX2_at_53 : decode cX2_at 53 = .ok (.ldc 85, 2) := by decide +kernel
theorem dX2_at_55 : decode cX2_at 55 = .ok (.ireturn, 1) := by decide +kernel
theorem dX2_at_56 : decode cX2_at 56 = .ok (.aload 4, 2) := by decide +kernel
theorem dX2_at_58 : decode cX2_at 58 = .ok (.iload_n 2, 1) := by decide +kernel
theorem dX2_at_59 : decode cX2_at 59 = .ok (.iload_n 3, 1) := by decide +kernel
theorem dX2_at_60 : decode cX2_at 60 = .ok (.invokevirtual 86, 3) := by decide +kernel
theorem dX2_at_63 : decode cX2_at 63 = .ok (.ireturn, 1) := by decide +kernel
theorem dX2_head_0 : decode cX2_head 0 = .ok (.iload_n 1, 1) := by decide +kernel
theorem dX2_head_1 : decode cX2_head 1 = .ok (.bipush 60, 2) := by decide +kernel
theorem dX2_head_3 : decode cX2_head 3 = .ok (.if_icmp .le 6, 3) := by decide +kernel
theorem dX2_head_6 : decode cX2_head 6 = .ok (.ldc 21, 2) := by decide +kernel
theorem dX2_head_8 : decode cX2_head 8 = .ok (.ireturn, 1) := by decide +kernel
theorem dX2_head_9 : decode cX2_head 9 = .ok (.iload_n 1, 1) := by decide +kernel
theorem dX2_head_10 : decode cX2_head 10 = .ok (.ifCond .ge 6, 3) := by decide +kernel
theorem dX2_head_13 : decode cX2_head 13 = .ok (.ldc 22, 2) := by decide +kernel
theorem dX2_head_15 : decode cX2_head 15 = .ok (.ireturn, 1) := by decide +kernel
theorem dX2_head_16 : decode cX2_head 16 = .ok (.aload_n 0, 1) := by decide +kernel
theorem dX2_head_17 : decode cX2_head 17 = .ok (.getfield 89, 3) := by decide +kernel
theorem dX2_head_20 : decode cX2_head 20 = .ok (.istore_n 2, 1) := by decide +kernel
theorem dX2_head_21 : decode cX2_head 21 = .ok (.aload_n 0, 1) := by decide +kernel
theorem dX2_head_22 : decode cX2_head 22 = .ok (.iload_n 1, 1) := by decide +kernel
theorem dX2_head_23 : decode cX2_head 23 = .ok (.putfield 89, 3) := by decide +kernel
theorem dX2_head_26 : decode cX2_head 26 = .ok (.iload_n 2, 1) := by decide +kernel
theorem dX2_head_27 : decode cX2_head 27 = .ok (.ireturn, 1) := by decide +kernel
set_option maxRecDepth 20000 in
theorem ggX2_play_X0_hasCell : GoodIn wsX2_play wsX0_hasCell := goodIn_r _ [10, 11, 43, 44, 45, 46, 47] (by decide +kernel) (by decide +kernel)
set_option maxRecDepth 20000 in
theorem gX2_play_X0_hasCell : GoodIn wsX2_play (wsV RX2 42 RX0 yX0_hasCell wsX0_hasCell) := goodIn_app (goodIn_of _ (by decide +kernel)) ggX2_play_X0_hasCell
set_option maxRecDepth 20000 in
theorem ggX2_play_X2_step : GoodIn wsX2_play wsX2_step := goodIn_r _ [16, 17, 18, 4, 19, 20, 21, 22, 23, 15, 24, 3, 5, 6, 7, 8, 9, 10, 11, 25, 26, 27, 28, 29, 30, 31, 32, 33, 34, 35, 36, 37, 38, 39, 40, 41, 42, 43, 44, 45, 46, 47] (by decide +kernel) (by decide +kernel)
set_option maxRecDepth 20000 in
theorem gX2_play_X2_step : GoodIn wsX2_play (wsV RX2 92 RX2 yX2_step wsX2_step) := goodIn_app (goodIn_of _ (by decide +kernel)) ggX2_play_X2_step
theorem dX2_play_0 : decode cX2_play 0 = .ok (.iload_n 1, 1) := by decide +kernel
theorem dX2_play_1 : decode cX2_play 1 = .ok (.ifCond .ge 6, 3) := by decide +kernel
theorem dX2_play_4 : decode cX2_play 4 = .ok (.ldc 22, 2) := by decide +kernel
theorem dX2_play_6 : decode cX2_play 6 = .ok (.ireturn, 1) := by decide +kernel
theorem dX2_play_7 : decode cX2_play 7 = .ok (.iload_n 1, 1) := by decide +kernel
theorem dX2_play_8 : decode cX2_play 8 = .ok (.sipush 200, 3) := by decide +kernel
theorem dX2_play_11 : decode cX2_play 11 = .ok (.if_icmp .le 6, 3) := by decide +kernel
theorem dX2_play_14 : decode cX2_play 14 = .ok (.ldc 21, 2) := by decide +kernel
theorem dX2_play_16 : decode cX2_play 16 = .ok (.ireturn, 1) := by decide +kernel
theorem dX2_play_17 : decode cX2_play 17 = .ok (.aload_n 0, 1) := by decide +kernel
theorem dX2_play_18 : decode cX2_play 18 = .ok (.getfield 11, 3) := by decide +kernel
theorem dX2_play_21 : decode cX2_play 21 = .ok (.iconst 0, 1) := by decide +kernel
theorem dX2_play_22 : decode cX2_play 22 = .ok (.aaload, 1) := by decide +kernel
theorem dX2_play_23 : decode cX2_play 23 = .ok (.astore_n 2, 1) := by decide +kernel
theorem dX2_play_24 : decode cX2_play 24 = .ok (.iconst 0, 1) := by decide +kernel
theorem dX2_play_25 : decode cX2_play 25 = .ok (.istore_n 3, 1) := by decide +kernel
theorem dX2_play_26 : decode cX2_play 26 = .ok (.iload_n 3, 1) := by decide +kernel
theorem dX2_play_27 : decode cX2_play 27 = .ok (.iload_n 1, 1) := by decide +kernel
theorem dX2_play_28 : decode cX2_play 28 = .ok (.if_icmp .ge 33, 3) := by decide +kernel
theorem dX2_play_31 : decode cX2_play 31 = .ok (.aload_n 2, 1) := by decide +kernel
theorem dX2_play_32 : decode cX2_play 32 = .ok (.aload_n 0, 1) := by decide +kernel
theorem dX2_play_33 : decode cX2_play 33 = .ok (.getfield 89, 3) := by decide +kernel
theorem dX2_play_36 : decode cX2_play 36 = .ok (.invokevirtual 42, 3) := by decide +kernel
theorem dX2_play_39 : decode cX2_play 39 = .ok (.ifCond .eq 22, 3) := by decide +kernel
theorem dX2_play_42 : decode cX2_play 42 = .ok (.aload_n 0, 1) := by decide +kernel
theorem dX2_play_43 : decode cX2_play 43 = .ok (.aload_n 2, 1) := by decide +kernel
theorem dX2_play_44 : decode cX2_play 44 = .ok (.getfield 48, 3) := by decide +kernel
theorem dX2_play_47 : decode cX2_play 47 = .ok (.aload_n 0, 1) := by decide +kernel
theorem dX2_play_48 : decode cX2_play 48 = .ok (.getfield 89, 3) := by decide +kernel
theorem dX2_play_51 : decode cX2_play 51 = .ok (.iaload, 1) := by decide +kernel
theorem dX2_play_52 : decode cX2_play 52 = .ok (.invokevirtual 92, 3) := by decide +kernel
theorem dX2_play_55 : decode cX2_play 55 = .ok (.iinc 3 1, 3) := by decide +kernel
theorem dX2_play_58 : decode cX2_play 58 = .ok (.goto (-32), 3) := by decide +kernel
theorem dX2_play_61 : decode cX2_play 61 = .ok (.iload_n 3, 1) := by decide +kernel
theorem dX2_play_62 : decode cX2_play 62 = .ok (.ireturn, 1) := by decide +kernel
set_option maxRecDepth 20000 in
theorem ggX2_count_X2_isLane : GoodIn wsX2_count wsX2_isLane := goodIn_r _ [14] (by decide +kernel) (by decide +kernel)
set_option maxRecDepth 20000 in
theorem gX2_count_X2_isLane : GoodIn wsX2_count (va_wsS RX2 16 yX2_isLane wsX2_isLane) := goodIn_app (goodIn_of _ (by decide +kernel)) ggX2_count_X2_isLane
theorem dX2_count_0 : decode cX2_count 0 = .ok (.iload_n 1, 1) := by decide +kernel
theorem dX2_count_1 : decode cX2_count 1 = .ok (.invokestatic 16, 3) := by decide +kernel
theorem dX2_count_4 : decode cX2_count 4 = .ok (.ifCond .eq 13, 3) := by decide +kernel
theorem dX2_count_7 : decode cX2_count 7 = .ok (.aload_n 0, 1) := by decide +kernel
theorem dX2_count_8 : decode cX2_count 8 = .ok (.getfield 11, 3) := by decide +kernel
theorem dX2_count_11 : decode cX2_count 11 = .ok (.iload_n 1, 1) := by decide +kernel
theorem dX2_count_12 : decode cX2_count 12 = .ok (.aaload, 1) := by decide +kernel
theorem dX2_count_13 : decode cX2_count 13 = .ok (.getfield 95, 3) := by decide +kernel
theorem dX2_count_16 : decode cX2_count 16 = .ok (.ireturn, 1) := by decide +kernel
theorem dX2_count_17 : decode cX2_count 17 = .ok (.iload_n 1, 1) := by decide +kernel
theorem dX2_count_18 : decode cX2_count 18 = .ok (.iconst 5, 1) := by decide +kernel
theorem dX2_count_19 : decode cX2_count 19 = .ok (.if_icmp .lt 21, 3) := by decide +kernel
theorem dX2_count_22 : decode cX2_count 22 = .ok (.iload_n 1, 1) := by decide +kernel
theorem dX2_count_23 : decode cX2_count 23 = .ok (.bipush 10, 2) := by decide +kernel
theorem dX2_count_25 : decode cX2_count 25 = .ok (.if_icmp .ge 15, 3) := by decide +kernel
theorem dX2_count_28 : decode cX2_count 28 = .ok (.aload_n 0, 1) := by decide +kernel
theorem dX2_count_29 : decode cX2_count 29 = .ok (.getfield 11, 3) := by decide +kernel
theorem dX2_count_32 : decode cX2_count 32 = .ok (.iload_n 1, 1) := by decide +kernel
theorem dX2_count_33 : decode cX2_count 33 = .ok (.iconst 5, 1) := by decide +kernel
theorem dX2_count_34 : decode cX2_count 34 = .ok (.isub, 1) := by decide +kernel
theorem dX2_count_35 : decode cX2_count 35 = .ok (.aaload, 1) := by decide +kernel
theorem dX2_count_36 : decode cX2_count 36 = .ok (.getfield 98, 3) := by decide +kernel
theorem dX2_count_39 : decode cX2_count 39 = .ok (.ireturn, 1) := by decide +kernel
theorem dX2_count_40 : decode cX2_count 40 = .ok (.iload_n 1, 1) := by decide +kernel
theorem dX2_count_41 : decode cX2_count 41 = .ok (.tableswitch 78 10 16 #[43, 48, 53, 58, 63, 68, 73], 43) := by decide +kernel
theorem dX2_count_84 : decode cX2_count 84 = .ok (.aload_n 0, 1) := by decide +kernel
theorem dX2_count_85 : decode cX2_count 85 = .ok (.getfield 89, 3) := by decide +kernel
theorem dX2_count_88 : decode cX2_count 88 = .ok (.ireturn, 1) := by decide +kernel
theorem dX2_count_89 : decode cX2_count 89 = .ok (.aload_n 0, 1) := by decide +kernel
theorem dX2_count_90 : decode cX2_count 90 = .ok (.getfield 101, 3) := by decide +kernel
theorem dX2_count_93 : decode cX2_count 93 = .ok (.ireturn, 1) := by decide +kernel
theorem dX2_count_94 : decode cX2_count 94 = .ok (.aload_n 0, 1) := by decide +kernel
theorem dX2_count_95 : decode cX2_count 95 = .ok (.getfield 104, 3) := by decide +kernel
theorem dX2_count_98 : decode cX2_count 98 = .ok (.ireturn, 1) := by decide +kernel
theorem dX2_count_99 : decode cX2_count 99 = .ok (.aload_n 0, 1) := by decide +kernel
theorem dX2_count_100 : decode cX2_count 100 = .ok (.getfield 107, 3) := by decide +kernel
theorem dX2_count_103 : decode cX2_count 103 = .ok (.ireturn, 1) := by decide +kernel
theorem dX2_count_104 : decode cX2_count 104 = .ok (.aload_n 0, 1) := by decide +kernel
theorem dX2_count_105 : decode cX2_count 105 = .ok (.getfield 110, 3) := by decide +kernel
theorem dX2_count_108 : decode cX2_count 108 = .ok (.ireturn, 1) := by decide +kernel
theorem dX2_count_109 : decode cX2_count 109 = .ok (.aload_n 0, 1) := by decide +kernel
theorem dX2_count_110 : decode cX2_count 110 = .ok (.getfield 113, 3) := by decide +kernel
theorem dX2_count_113 : decode cX2_count 113 = .ok (.ireturn, 1) := by decide +kernel
theorem dX2_count_114 : decode cX2_count 114 = .ok (.aload_n 0, 1) := by decide +kernel
theorem dX2_count_115 : decode cX2_count 115 = .ok (.getfield 116, 3) := by decide +kernel
theorem dX2_count_118 : decode cX2_count 118 = .ok (.ireturn, 1) := by decide +kernel
theorem dX2_count_119 : decode cX2_count 119 = .ok (.iconst 0, 1) := by decide +kernel
theorem dX2_count_120 : decode cX2_count 120 = .ok (.ireturn, 1) := by decide +kernel
theorem dX2_isLane_0 : decode cX2_isLane 0 = .ok (.iload_n 0, 1) := by decide +kernel
theorem dX2_isLane_1 : decode cX2_isLane 1 = .ok (.ifCond .lt 12, 3) := by decide +kernel
theorem dX2_isLane_4 : decode cX2_isLane 4 = .ok (.iload_n 0, 1) := by decide +kernel
theorem dX2_isLane_5 : decode cX2_isLane 5 = .ok (.iconst 5, 1) := by decide +kernel
theorem dX2_isLane_6 : decode cX2_isLane 6 = .ok (.if_icmp .ge 7, 3) := by decide +kernel
theorem dX2_isLane_9 : decode cX2_isLane 9 = .ok (.iconst 1, 1) := by decide +kernel
theorem dX2_isLane_10 : decode cX2_isLane 10 = .ok (.goto 4, 3) := by decide +kernel
theorem dX2_isLane_13 : decode cX2_isLane 13 = .ok (.iconst 0, 1) := by decide +kernel
theorem dX2_isLane_14 : decode cX2_isLane 14 = .ok (.ireturn, 1) := by decide +kernel
theorem dX2_stored_0 : decode cX2_stored 0 = .ok (.iload_n 0, 1) := by decide +kernel
theorem dX2_stored_1 : decode cX2_stored 1 = .ok (.tableswitch 55 0 4 #[35, 42, 55, 50, 46], 35) := by decide +kernel
theorem dX2_stored_36 : decode cX2_stored 36 = .ok (.lload_n 1, 1) := by decide +kernel
theorem dX2_stored_37 : decode cX2_stored 37 = .ok (.ldc2_w 119, 3) := by decide +kernel
theorem dX2_stored_40 : decode cX2_stored 40 = .ok (.land, 1) := by decide +kernel
theorem dX2_stored_41 : decode cX2_stored 41 = .ok (.l2i, 1) := by decide +kernel
theorem dX2_stored_42 : decode cX2_stored 42 = .ok (.ireturn, 1) := by decide +kernel
theorem dX2_stored_43 : decode cX2_stored 43 = .ok (.lload_n 1, 1) := by decide +kernel
theorem dX2_stored_44 : decode cX2_stored 44 = .ok (.l2i, 1) := by decide +kernel
theorem dX2_stored_45 : decode cX2_stored 45 = .ok (.i2s, 1) := by decide +kernel
theorem dX2_stored_46 : decode cX2_stored 46 = .ok (.ireturn, 1) := by decide +kernel
theorem dX2_stored_47 : decode cX2_stored 47 = .ok (.lload_n 1, 1) := by decide +kernel
theorem dX2_stored_48 : decode cX2_stored 48 = .ok (.l2i, 1) := by decide +kernel
theorem dX2_stored_49 : decode cX2_stored 49 = .ok (.i2b, 1) := by decide +kernel
theorem dX2_stored_50 : decode cX2_stored 50 = .ok (.ireturn, 1) := by decide +kernel
theorem dX2_stored_51 : decode cX2_stored 51 = .ok (.lload_n 1, 1) := by decide +kernel
theorem dX2_stored_52 : decode cX2_stored 52 = .ok (.lconst 1, 1) := by decide +kernel
theorem dX2_stored_53 : decode cX2_stored 53 = .ok (.land, 1) := by decide +kernel
theorem dX2_stored_54 : decode cX2_stored 54 = .ok (.l2i, 1) := by decide +kernel
theorem dX2_stored_55 : decode cX2_stored 55 = .ok (.ireturn, 1) := by decide +kernel
theorem dX2_stored_56 : decode cX2_stored 56 = .ok (.ldc2_w 121, 3) := by decide +kernel
theorem dX2_stored_59 : decode cX2_stored 59 = .ok (.ldc2_w 123, 3) := by decide +kernel
theorem dX2_stored_62 : decode cX2_stored 62 = .ok (.lload_n 1, 1) := by decide +kernel
theorem dX2_stored_63 : decode cX2_stored 63 = .ok (.invokestatic 125, 3) := by decide +kernel
theorem dX2_stored_66 : decode cX2_stored 66 = .ok (.invokestatic 131, 3) := by decide +kernel
theorem dX2_stored_69 : decode cX2_stored 69 = .ok (.l2i, 1) := by decide +kernel
theorem dX2_stored_70 : decode cX2_stored 70 = .ok (.ireturn, 1) := by decide +kernel
set_option maxRecDepth 20000 in
theorem ggX2_changed_X2_changedPedal : GoodIn wsX2_changed wsX2_changedPedal := goodIn_r _ [4] (by decide +kernel) (by decide +kernel)
set_option maxRecDepth 20000 in
theorem gX2_changed_X2_changedPedal : GoodIn wsX2_changed (va_wsS RX2 134 yX2_changedPedal wsX2_changedPedal) := goodIn_app (goodIn_of _ (by decide +kernel)) ggX2_changed_X2_changedPedal
set_option maxRecDepth 20000 in
theorem ggX2_changed_X2_reckoned : GoodIn wsX2_changed wsX2_reckoned := goodIn_r _ [7] (by decide +kernel) (by decide +kernel)
set_option maxRecDepth 20000 in
theorem gX2_changed_X2_reckoned : GoodIn wsX2_changed (va_wsS RX2 138 yX2_reckoned wsX2_reckoned) := goodIn_app (goodIn_of _ (by decide +kernel)) ggX2_changed_X2_reckoned
set_option maxRecDepth 20000 in
theorem ggX2_changed_X2_stored : GoodIn wsX2_changed wsX2_stored := goodIn_r _ [10, 11, 12, 13, 14, 15, 16, 17, 18, 19, 20] (by decide +kernel) (by decide +kernel)
set_option maxRecDepth 20000 in
theorem gX2_changed_X2_stored : GoodIn wsX2_changed (va_wsS RX2 52 yX2_stored wsX2_stored) := goodIn_app (goodIn_of _ (by decide +kernel)) ggX2_changed_X2_stored
theorem dX2_changed_0 : decode cX2_changed 0 = .ok (.iload_n 0, 1) := by decide +kernel
theorem dX2_changed_1 : decode cX2_changed 1 = .ok (.iconst 3, 1) := by decide +kernel
theorem dX2_changed_2 : decode cX2_changed 2 = .ok (.if_icmp .ne 12, 3) := by decide +kernel
theorem dX2_changed_5 : decode cX2_changed 5 = .ok (.iload_n 1, 1) := by decide +kernel
theorem dX2_changed_6 : decode cX2_changed 6 = .ok (.iload_n 2, 1) := by decide +kernel
theorem dX2_changed_7 : decode cX2_changed 7 = .ok (.iload_n 3, 1) := by decide +kernel
theorem dX2_changed_8 : decode cX2_changed 8 = .ok (.iconst 1, 1) := by decide +kernel
theorem dX2_changed_9 : decode cX2_changed 9 = .ok (.iand, 1) := by decide +kernel
theorem dX2_changed_10 : decode cX2_changed 10 = .ok (.invokestatic 134, 3) := by decide +kernel
theorem dX2_changed_13 : decode cX2_changed 13 = .ok (.ireturn, 1) := by decide +kernel
theorem dX2_changed_14 : decode cX2_changed 14 = .ok (.iload_n 0, 1) := by decide +kernel
theorem dX2_changed_15 : decode cX2_changed 15 = .ok (.iload_n 1, 1) := by decide +kernel
theorem dX2_changed_16 : decode cX2_changed 16 = .ok (.iload_n 2, 1) := by decide +kernel
theorem dX2_changed_17 : decode cX2_changed 17 = .ok (.i2l, 1) := by decide +kernel
theorem dX2_changed_18 : decode cX2_changed 18 = .ok (.iload_n 3, 1) := by decide +kernel
theorem dX2_changed_19 : decode cX2_changed 19 = .ok (.i2l, 1) := by decide +kernel
theorem dX2_changed_20 : decode cX2_changed 20 = .ok (.invokestatic 138, 3) := by decide +kernel
theorem dX2_changed_23 : decode cX2_changed 23 = .ok (.invokestatic 52, 3) := by decide +kernel
theorem dX2_changed_26 : decode cX2_changed 26 = .ok (.ireturn, 1) := by decide +kernel
theorem dX2_changedPedal_0 : decode cX2_changedPedal 0 = .ok (.iload_n 0, 1) := by decide +kernel
theorem dX2_changedPedal_1 : decode cX2_changedPedal 1 = .ok (.tableswitch 39 0 2 #[27, 31, 35], 27) := by decide +kernel
theorem dX2_changedPedal_28 : decode cX2_changedPedal 28 = .ok (.iload_n 1, 1) := by decide +kernel
theorem dX2_changedPedal_29 : decode cX2_changedPedal 29 = .ok (.iload_n 2, 1) := by decide +kernel
theorem dX2_changedPedal_30 : decode cX2_changedPedal 30 = .ok (.ior, 1) := by decide +kernel
theorem dX2_changedPedal_31 : decode cX2_changedPedal 31 = .ok (.ireturn, 1) := by decide +kernel
theorem dX2_changedPedal_32 : decode cX2_changedPedal 32 = .ok (.iload_n 1, 1) := by decide +kernel
theorem dX2_changedPedal_33 : decode cX2_changedPedal 33 = .ok (.iload_n 2, 1) := by decide +kernel
theorem dX2_changedPedal_34 : decode cX2_changedPedal 34 = .ok (.iand, 1) := by decide +kernel
theorem dX2_changedPedal_35 : decode cX2_changedPedal 35 = .ok (.ireturn, 1) := by decide +kernel
theorem dX2_changedPedal_36 : decode cX2_changedPedal 36 = .ok (.iload_n 1, 1) := by decide +kernel
theorem dX2_changedPedal_37 : decode cX2_changedPedal 37 = .ok (.iload_n 2, 1) := by decide +kernel
theorem dX2_changedPedal_38 : decode cX2_changedPedal 38 = .ok (.ixor, 1) := by decide +kernel
theorem dX2_changedPedal_39 : decode cX2_changedPedal 39 = .ok (.ireturn, 1) := by decide +kernel
theorem dX2_changedPedal_40 : decode cX2_changedPedal 40 = .ok (.iconst 1, 1) := by decide +kernel
theorem dX2_changedPedal_41 : decode cX2_changedPedal 41 = .ok (.iload_n 1, 1) := by decide +kernel
theorem dX2_changedPedal_42 : decode cX2_changedPedal 42 = .ok (.isub, 1) := by decide +kernel
theorem dX2_changedPedal_43 : decode cX2_changedPedal 43 = .ok (.ireturn, 1) := by decide +kernel
theorem dX2_reckoned_0 : decode cX2_reckoned 0 = .ok (.iload_n 0, 1) := by decide +kernel
theorem dX2_reckoned_1 : decode cX2_reckoned 1 = .ok (.tableswitch 39 0 2 #[27, 31, 35], 27) := by decide +kernel
theorem dX2_reckoned_28 : decode cX2_reckoned 28 = .ok (.lload_n 1, 1) := by decide +kernel
theorem dX2_reckoned_29 : decode cX2_reckoned 29 = .ok (.lload_n 3, 1) := by decide +kernel
theorem dX2_reckoned_30 : decode cX2_reckoned 30 = .ok (.ladd, 1) := by decide +kernel
theorem dX2_reckoned_31 : decode cX2_reckoned 31 = .ok (.lreturn, 1) := by decide +kernel
theorem dX2_reckoned_32 : decode cX2_reckoned 32 = .ok (.lload_n 1, 1) := by decide +kernel
theorem dX2_reckoned_33 : decode cX2_reckoned 33 = .ok (.lload_n 3, 1) := by decide +kernel
theorem dX2_reckoned_34 : decode cX2_reckoned 34 = .ok (.lsub, 1) := by decide +kernel
theorem dX2_reckoned_35 : decode cX2_reckoned 35 = .ok (.lreturn, 1) := by decide +kernel
theorem dX2_reckoned_36 : decode cX2_reckoned 36 = .ok (.lload_n 1, 1) := by decide +kernel
theorem dX2_reckoned_37 : decode cX2_reckoned 37 = .ok (.lload_n 3, 1) := by decide +kernel
theorem dX2_reckoned_38 : decode cX2_reckoned 38 = .ok (.lmul, 1) := by decide +kernel
theorem dX2_reckoned_39 : decode cX2_reckoned 39 = .ok (.lreturn, 1) := by decide +kernel
theorem dX2_reckoned_40 : decode cX2_reckoned 40 = .ok (.lload_n 1, 1) := by decide +kernel
theorem dX2_reckoned_41 : decode cX2_reckoned 41 = .ok (.lconst 1, 1) := by decide +kernel
theorem dX2_reckoned_42 : decode cX2_reckoned 42 = .ok (.ladd, 1) := by decide +kernel
theorem dX2_reckoned_43 : decode cX2_reckoned 43 = .ok (.lreturn, 1) := by decide +kernel
set_option maxRecDepth 20000 in
theorem ggX2_step_X2_told : GoodIn wsX2_step wsX2_told := goodIn_r _ [10, 11, 3, 12, 13, 14, 15, 16, 17, 18, 29, 30, 31, 32, 33, 34, 35, 36, 37, 38, 39, 40, 41] (by decide +kernel) (by decide +kernel)
set_option maxRecDepth 20000 in
theorem gX2_step_X2_told : GoodIn wsX2_step (wsV RX2 142 RX2 yX2_told wsX2_told) := goodIn_app (goodIn_of _ (by decide +kernel)) ggX2_step_X2_told
set_option maxRecDepth 20000 in
theorem ggX2_step_X2_playNote : GoodIn wsX2_step wsX2_playNote := goodIn_r _ [22, 1, 23, 24, 2, 6, 7, 8, 9, 10, 11, 3, 12, 13, 14, 15, 16, 17, 18, 29, 30, 31, 32, 33, 34, 35, 36, 37, 38, 39, 40, 41] (by decide +kernel) (by decide +kernel)
set_option maxRecDepth 20000 in
theorem gX2_step_X2_playNote : GoodIn wsX2_step (wsV RX2 145 RX2 yX2_playNote wsX2_playNote) := goodIn_app (goodIn_of _ (by decide +kernel)) ggX2_step_X2_playNote
set_option maxRecDepth 20000 in
theorem ggX2_step_X2_lowered : GoodIn wsX2_step wsX2_lowered := goodIn_r _ [28, 11, 3, 12, 13, 14, 15, 16, 17, 18, 29, 30, 31, 32, 33, 34, 35, 36, 37, 38, 39, 40, 41] (by decide +kernel) (by decide +kernel)
set_option maxRecDepth 20000 in
theorem gX2_step_X2_lowered : GoodIn wsX2_step (wsV RX2 148 RX2 yX2_lowered wsX2_lowered) := goodIn_app (goodIn_of _ (by decide +kernel)) ggX2_step_X2_lowered
theorem dX2_step_0 : decode cX2_step 0 = .ok (.iload_n 1, 1) := by decide +kernel
theorem dX2_step_1 : decode cX2_step 1 = .ok (.lookupswitch 134 #[(46, 59), (110, 77), (114, 108), (116, 84), (119, 125), (124, 97)], 59) := by decide +kernel
theorem dX2_step_60 : decode cX2_step 60 = .ok (.aload_n 0, 1) := by decide +kernel
theorem dX2_step_61 : decode cX2_step 61 = .ok (.dup, 1) := by decide +kernel
theorem dX2_step_62 : decode cX2_step 62 = .ok (.getfield 101, 3) := by decide +kernel
theorem dX2_step_65 : decode cX2_step 65 = .ok (.aload_n 0, 1) := by decide +kernel
theorem dX2_step_66 : decode cX2_step 66 = .ok (.iconst 1, 1) := by decide +kernel
theorem dX2_step_67 : decode cX2_step 67 = .ok (.iconst 1, 1) := by decide +kernel
theorem dX2_step_68 : decode cX2_step 68 = .ok (.invokevirtual 142, 3) := by decide +kernel
theorem dX2_step_71 : decode cX2_step 71 = .ok (.iadd, 1) := by decide +kernel
theorem dX2_step_72 : decode cX2_step 72 = .ok (.putfield 101, 3) := by decide +kernel
theorem dX2_step_75 : decode cX2_step 75 = .ok (.goto 70, 3) := by decide +kernel
theorem dX2_step_78 : decode cX2_step 78 = .ok (.aload_n 0, 1) := by decide +kernel
theorem dX2_step_79 : decode cX2_step 79 = .ok (.invokevirtual 145, 3) := by decide +kernel
theorem dX2_step_82 : decode cX2_step 82 = .ok (.goto 63, 3) := by decide +kernel
theorem dX2_step_85 : decode cX2_step 85 = .ok (.aload_n 0, 1) := by decide +kernel
theorem dX2_step_86 : decode cX2_step 86 = .ok (.aload_n 0, 1) := by decide +kernel
theorem dX2_step_87 : decode cX2_step 87 = .ok (.iconst 4, 1) := by decide +kernel
theorem dX2_step_88 : decode cX2_step 88 = .ok (.iconst 0, 1) := by decide +kernel
theorem dX2_step_89 : decode cX2_step 89 = .ok (.invokevirtual 142, 3) := by decide +kernel
theorem dX2_step_92 : decode cX2_step 92 = .ok (.putfield 104, 3) := by decide +kernel
theorem dX2_step_95 : decode cX2_step 95 = .ok (.goto 50, 3) := by decide +kernel
theorem dX2_step_98 : decode cX2_step 98 = .ok (.aload_n 0, 1) := by decide +kernel
theorem dX2_step_99 : decode cX2_step 99 = .ok (.aload_n 0, 1) := by decide +kernel
theorem dX2_step_100 : decode cX2_step 100 = .ok (.getfield 89, 3) := by decide +kernel
theorem dX2_step_103 : decode cX2_step 103 = .ok (.putfield 107, 3) := by decide +kernel
theorem dX2_step_106 : decode cX2_step 106 = .ok (.goto 39, 3) := by decide +kernel
theorem dX2_step_109 : decode cX2_step 109 = .ok (.aload_n 0, 1) := by decide +kernel
theorem dX2_step_110 : decode cX2_step 110 = .ok (.iconst 1, 1) := by decide +kernel
theorem dX2_step_111 : decode cX2_step 111 = .ok (.invokevirtual 148, 3) := by decide +kernel
theorem dX2_step_114 : decode cX2_step 114 = .ok (.ifCond .eq 31, 3) := by decide +kernel
theorem dX2_step_117 : decode cX2_step 117 = .ok (.aload_n 0, 1) := by decide +kernel
theorem dX2_step_118 : decode cX2_step 118 = .ok (.aload_n 0, 1) := by decide +kernel
theorem dX2_step_119 : decode cX2_step 119 = .ok (.getfield 107, 3) := by decide +kernel
theorem dX2_step_122 : decode cX2_step 122 = .ok (.putfield 89, 3) := by decide +kernel
theorem dX2_step_125 : decode cX2_step 125 = .ok (.return_, 1) := by decide +kernel
theorem dX2_step_126 : decode cX2_step 126 = .ok (.aload_n 0, 1) := by decide +kernel
theorem dX2_step_127 : decode cX2_step 127 = .ok (.iconst 2, 1) := by decide +kernel
theorem dX2_step_128 : decode cX2_step 128 = .ok (.invokevirtual 148, 3) := by decide +kernel
theorem dX2_step_131 : decode cX2_step 131 = .ok (.pop, 1) := by decide +kernel
theorem dX2_step_132 : decode cX2_step 132 = .ok (.goto 13, 3) := by decide +kernel
theorem dX2_step_135 : decode cX2_step 135 = .ok (.aload_n 0, 1) := by decide +kernel
theorem dX2_step_136 : decode cX2_step 136 = .ok (.dup, 1) := by decide +kernel
theorem dX2_step_137 : decode cX2_step 137 = .ok (.getfield 116, 3) := by decide +kernel
theorem dX2_step_140 : decode cX2_step 140 = .ok (.iconst 1, 1) := by decide +kernel
theorem dX2_step_141 : decode cX2_step 141 = .ok (.iadd, 1) := by decide +kernel
theorem dX2_step_142 : decode cX2_step 142 = .ok (.putfield 116, 3) := by decide +kernel
theorem dX2_step_145 : decode cX2_step 145 = .ok (.aload_n 0, 1) := by decide +kernel
theorem dX2_step_146 : decode cX2_step 146 = .ok (.dup, 1) := by decide +kernel
theorem dX2_step_147 : decode cX2_step 147 = .ok (.getfield 89, 3) := by decide +kernel
theorem dX2_step_150 : decode cX2_step 150 = .ok (.iconst 1, 1) := by decide +kernel
theorem dX2_step_151 : decode cX2_step 151 = .ok (.iadd, 1) := by decide +kernel
theorem dX2_step_152 : decode cX2_step 152 = .ok (.putfield 89, 3) := by decide +kernel
theorem dX2_step_155 : decode cX2_step 155 = .ok (.return_, 1) := by decide +kernel
set_option maxRecDepth 20000 in
theorem ggX2_playNote_X2_told : GoodIn wsX2_playNote wsX2_told := goodIn_r _ [9, 10, 11, 12, 13, 14, 15, 16, 17, 18, 19, 20, 21, 22, 23, 24, 25, 26, 27, 28, 29, 30, 31] (by decide +kernel) (by decide +kernel)
set_option maxRecDepth 20000 in
theorem gX2_playNote_X2_told : GoodIn wsX2_playNote (wsV RX2 142 RX2 yX2_told wsX2_told) := goodIn_app (goodIn_of _ (by decide +kernel)) ggX2_playNote_X2_told
theorem dX2_playNote_0 : decode cX2_playNote 0 = .ok (.aload_n 0, 1) := by decide +kernel
theorem dX2_playNote_1 : decode cX2_playNote 1 = .ok (.iconst 1, 1) := by decide +kernel
theorem dX2_playNote_2 : decode cX2_playNote 2 = .ok (.iconst 1, 1) := by decide +kernel
theorem dX2_playNote_3 : decode cX2_playNote 3 = .ok (.invokevirtual 142, 3) := by decide +kernel
theorem dX2_playNote_6 : decode cX2_playNote 6 = .ok (.istore_n 1, 1) := by decide +kernel
theorem dX2_playNote_7 : decode cX2_playNote 7 = .ok (.aload_n 0, 1) := by decide +kernel
theorem dX2_playNote_8 : decode cX2_playNote 8 = .ok (.iconst 3, 1) := by decide +kernel
theorem dX2_playNote_9 : decode cX2_playNote 9 = .ok (.iconst 0, 1) := by decide +kernel
theorem dX2_playNote_10 : decode cX2_playNote 10 = .ok (.invokevirtual 142, 3) := by decide +kernel
theorem dX2_playNote_13 : decode cX2_playNote 13 = .ok (.iconst 1, 1) := by decide +kernel
theorem dX2_playNote_14 : decode cX2_playNote 14 = .ok (.if_icmp .ne 7, 3) := by decide +kernel
theorem dX2_playNote_17 : decode cX2_playNote 17 = .ok (.iconst 2, 1) := by decide +kernel
theorem dX2_playNote_18 : decode cX2_playNote 18 = .ok (.iload_n 1, 1) := by decide +kernel
theorem dX2_playNote_19 : decode cX2_playNote 19 = .ok (.imul, 1) := by decide +kernel
theorem dX2_playNote_20 : decode cX2_playNote 20 = .ok (.istore_n 1, 1) := by decide +kernel
theorem dX2_playNote_21 : decode cX2_playNote 21 = .ok (.aload_n 0, 1) := by decide +kernel
theorem dX2_playNote_22 : decode cX2_playNote 22 = .ok (.dup, 1) := by decide +kernel
theorem dX2_playNote_23 : decode cX2_playNote 23 = .ok (.getfield 101, 3) := by decide +kernel
theorem dX2_playNote_26 : decode cX2_playNote 26 = .ok (.iload_n 1, 1) := by decide +kernel
theorem dX2_playNote_27 : decode cX2_playNote 27 = .ok (.iadd, 1) := by decide +kernel
theorem dX2_playNote_28 : decode cX2_playNote 28 = .ok (.putfield 101, 3) := by decide +kernel
theorem dX2_playNote_31 : decode cX2_playNote 31 = .ok (.aload_n 0, 1) := by decide +kernel
theorem dX2_playNote_32 : decode cX2_playNote 32 = .ok (.dup, 1) := by decide +kernel
theorem dX2_playNote_33 : decode cX2_playNote 33 = .ok (.getfield 110, 3) := by decide +kernel
theorem dX2_playNote_36 : decode cX2_playNote 36 = .ok (.iconst 1, 1) := by decide +kernel
theorem dX2_playNote_37 : decode cX2_playNote 37 = .ok (.iadd, 1) := by decide +kernel
theorem dX2_playNote_38 : decode cX2_playNote 38 = .ok (.putfield 110, 3) := by decide +kernel
theorem dX2_playNote_41 : decode cX2_playNote 41 = .ok (.aload_n 0, 1) := by decide +kernel
theorem dX2_playNote_42 : decode cX2_playNote 42 = .ok (.dup, 1) := by decide +kernel
theorem dX2_playNote_43 : decode cX2_playNote 43 = .ok (.getfield 113, 3) := by decide +kernel
theorem dX2_playNote_46 : decode cX2_playNote 46 = .ok (.iload_n 1, 1) := by decide +kernel
theorem dX2_playNote_47 : decode cX2_playNote 47 = .ok (.aload_n 0, 1) := by decide +kernel
theorem dX2_playNote_48 : decode cX2_playNote 48 = .ok (.iconst 4, 1) := by decide +kernel
theorem dX2_playNote_49 : decode cX2_playNote 49 = .ok (.iconst 0, 1) := by decide +kernel
theorem dX2_playNote_50 : decode cX2_playNote 50 = .ok (.invokevirtual 142, 3) := by decide +kernel
theorem dX2_playNote_53 : decode cX2_playNote 53 = .ok (.aload_n 0, 1) := by decide +kernel
theorem dX2_playNote_54 : decode cX2_playNote 54 = .ok (.getfield 104, 3) := by decide +kernel
theorem dX2_playNote_57 : decode cX2_playNote 57 = .ok (.iadd, 1) := by decide +kernel
theorem dX2_playNote_58 : decode cX2_playNote 58 = .ok (.imul, 1) := by decide +kernel
theorem dX2_playNote_59 : decode cX2_playNote 59 = .ok (.iadd, 1) := by decide +kernel
theorem dX2_playNote_60 : decode cX2_playNote 60 = .ok (.putfield 113, 3) := by decide +kernel
theorem dX2_playNote_63 : decode cX2_playNote 63 = .ok (.aload_n 0, 1) := by decide +kernel
theorem dX2_playNote_64 : decode cX2_playNote 64 = .ok (.dup, 1) := by decide +kernel
theorem dX2_playNote_65 : decode cX2_playNote 65 = .ok (.getfield 113, 3) := by decide +kernel
theorem dX2_playNote_68 : decode cX2_playNote 68 = .ok (.aload_n 0, 1) := by decide +kernel
theorem dX2_playNote_69 : decode cX2_playNote 69 = .ok (.iconst 2, 1) := by decide +kernel
theorem dX2_playNote_70 : decode cX2_playNote 70 = .ok (.bipush 8, 2) := by decide +kernel
theorem dX2_playNote_72 : decode cX2_playNote 72 = .ok (.invokevirtual 142, 3) := by decide +kernel
theorem dX2_playNote_75 : decode cX2_playNote 75 = .ok (.iadd, 1) := by decide +kernel
theorem dX2_playNote_76 : decode cX2_playNote 76 = .ok (.putfield 113, 3) := by decide +kernel
theorem dX2_playNote_79 : decode cX2_playNote 79 = .ok (.return_, 1) := by decide +kernel
set_option maxRecDepth 20000 in
theorem ggX2_told_X0_hasCell : GoodIn wsX2_told wsX0_hasCell := goodIn_r _ [8, 9, 18, 19, 20, 21, 22] (by decide +kernel) (by decide +kernel)
set_option maxRecDepth 20000 in
theorem gX2_told_X0_hasCell : GoodIn wsX2_told (wsV RX2 42 RX0 yX0_hasCell wsX0_hasCell) := goodIn_app (goodIn_of _ (by decide +kernel)) ggX2_told_X0_hasCell
theorem dX2_told_0 : decode cX2_told 0 = .ok (.aload_n 0, 1) := by decide +kernel
theorem dX2_told_1 : decode cX2_told 1 = .ok (.getfield 11, 3) := by decide +kernel
theorem dX2_told_4 : decode cX2_told 4 = .ok (.iload_n 1, 1) := by decide +kernel
theorem dX2_told_5 : decode cX2_told 5 = .ok (.aaload, 1) := by decide +kernel
theorem dX2_told_6 : decode cX2_told 6 = .ok (.astore_n 3, 1) := by decide +kernel
theorem dX2_told_7 : decode cX2_told 7 = .ok (.aload_n 3, 1) := by decide +kernel
theorem dX2_told_8 : decode cX2_told 8 = .ok (.aload_n 0, 1) := by decide +kernel
theorem dX2_told_9 : decode cX2_told 9 = .ok (.getfield 89, 3) := by decide +kernel
theorem dX2_told_12 : decode cX2_told 12 = .ok (.invokevirtual 42, 3) := by decide +kernel
theorem dX2_told_15 : decode cX2_told 15 = .ok (.ifCond .eq 15, 3) := by decide +kernel
theorem dX2_told_18 : decode cX2_told 18 = .ok (.aload_n 3, 1) := by decide +kernel
theorem dX2_told_19 : decode cX2_told 19 = .ok (.getfield 48, 3) := by decide +kernel
theorem dX2_told_22 : decode cX2_told 22 = .ok (.aload_n 0, 1) := by decide +kernel
theorem dX2_told_23 : decode cX2_told 23 = .ok (.getfield 89, 3) := by decide +kernel
theorem dX2_told_26 : decode cX2_told 26 = .ok (.iaload, 1) := by decide +kernel
theorem dX2_told_27 : decode cX2_told 27 = .ok (.goto 4, 3) := by decide +kernel
theorem dX2_told_30 : decode cX2_told 30 = .ok (.iload_n 2, 1) := by decide +kernel
theorem dX2_told_31 : decode cX2_told 31 = .ok (.ireturn, 1) := by decide +kernel
set_option maxRecDepth 20000 in
theorem ggX2_lowered_X0_hasCell : GoodIn wsX2_lowered wsX0_hasCell := goodIn_r _ [8, 9, 18, 19, 20, 21, 22] (by decide +kernel) (by decide +kernel)
set_option maxRecDepth 20000 in
theorem gX2_lowered_X0_hasCell : GoodIn wsX2_lowered (wsV RX2 42 RX0 yX0_hasCell wsX0_hasCell) := goodIn_app (goodIn_of _ (by decide +kernel)) ggX2_lowered_X0_hasCell
theorem dX2_lowered_0 : decode cX2_lowered 0 = .ok (.aload_n 0, 1) := by decide +kernel
theorem dX2_lowered_1 : decode cX2_lowered 1 = .ok (.getfield 11, 3) := by decide +kernel
theorem dX2_lowered_4 : decode cX2_lowered 4 = .ok (.iload_n 1, 1) := by decide +kernel
theorem dX2_lowered_5 : decode cX2_lowered 5 = .ok (.aaload, 1) := by decide +kernel
theorem dX2_lowered_6 : decode cX2_lowered 6 = .ok (.astore_n 2, 1) := by decide +kernel
theorem dX2_lowered_7 : decode cX2_lowered 7 = .ok (.aload_n 2, 1) := by decide +kernel
theorem dX2_lowered_8 : decode cX2_lowered 8 = .ok (.aload_n 0, 1) := by decide +kernel
theorem dX2_lowered_9 : decode cX2_lowered 9 = .ok (.getfield 89, 3) := by decide +kernel
theorem dX2_lowered_12 : decode cX2_lowered 12 = .ok (.invokevirtual 42, 3) := by decide +kernel
theorem dX2_lowered_15 : decode cX2_lowered 15 = .ok (.ifCond .eq 15, 3) := by decide +kernel
theorem dX2_lowered_18 : decode cX2_lowered 18 = .ok (.aload_n 2, 1) := by decide +kernel
theorem dX2_lowered_19 : decode cX2_lowered 19 = .ok (.getfield 48, 3) := by decide +kernel
theorem dX2_lowered_22 : decode cX2_lowered 22 = .ok (.aload_n 0, 1) := by decide +kernel
theorem dX2_lowered_23 : decode cX2_lowered 23 = .ok (.getfield 89, 3) := by decide +kernel
theorem dX2_lowered_26 : decode cX2_lowered 26 = .ok (.iaload, 1) := by decide +kernel
theorem dX2_lowered_27 : decode cX2_lowered 27 = .ok (.ifCond .gt 5, 3) := by decide +kernel
theorem dX2_lowered_30 : decode cX2_lowered 30 = .ok (.iconst 0, 1) := by decide +kernel
theorem dX2_lowered_31 : decode cX2_lowered 31 = .ok (.ireturn, 1) := by decide +kernel
theorem dX2_lowered_32 : decode cX2_lowered 32 = .ok (.aload_n 2, 1) := by decide +kernel
theorem dX2_lowered_33 : decode cX2_lowered 33 = .ok (.getfield 48, 3) := by decide +kernel
theorem dX2_lowered_36 : decode cX2_lowered 36 = .ok (.aload_n 0, 1) := by decide +kernel
theorem dX2_lowered_37 : decode cX2_lowered 37 = .ok (.getfield 89, 3) := by decide +kernel
theorem dX2_lowered_40 : decode cX2_lowered 40 = .ok (.dup2, 1) := by decide +kernel
theorem dX2_lowered_41 : decode cX2_lowered 41 = .ok (.iaload, 1) := by decide +kernel
theorem dX2_lowered_42 : decode cX2_lowered 42 = .ok (.iconst 1, 1) := by decide +kernel
theorem dX2_lowered_43 : decode cX2_lowered 43 = .ok (.isub, 1) := by decide +kernel
theorem dX2_lowered_44 : decode cX2_lowered 44 = .ok (.iastore, 1) := by decide +kernel
theorem dX2_lowered_45 : decode cX2_lowered 45 = .ok (.iconst 1, 1) := by decide +kernel
theorem dX2_lowered_46 : decode cX2_lowered 46 = .ok (.ireturn, 1) := by decide +kernel
