theorem dX3_init_0 : decode cX3_init 0 = .ok (.aload_n 0, 1) := by decide +kernel
theorem dX3_init_1 : decode cX3_init 1 = .ok (.invokespecial 1, 3) := by decide +kernel
theorem dX3_init_4 : decode cX3_init 4 = .ok (.aload_n 0, 1) := by decide +kernel
theorem dX3_init_5 : decode cX3_init 5 = .ok (.sipush 300, 3) := by decide +kernel
theorem dX3_init_8 : decode cX3_init 8 = .ok (.newarray .int, 2) := by decide +kernel
theorem dX3_init_10 : decode cX3_init 10 = .ok (.putfield 7, 3) := by decide +kernel
theorem dX3_init_13 : decode cX3_init 13 = .ok (.aload_n 0, 1) := by decide +kernel
theorem dX3_init_14 : decode cX3_init 14 = .ok (.iconst 5, 1) := by decide +kernel
theorem dX3_init_15 : decode cX3_init 15 = .ok (.newarray .int, 2) := by decide +kernel
theorem dX3_init_17 : decode cX3_init 17 = .ok (.putfield 13, 3) := by decide +kernel
theorem dX3_init_20 : decode cX3_init 20 = .ok (.aload_n 0, 1) := by decide +kernel
theorem dX3_init_21 : decode cX3_init 21 = .ok (.iconst 5, 1) := by decide +kernel
theorem dX3_init_22 : decode cX3_init 22 = .ok (.newarray .boolean, 2) := by decide +kernel
theorem dX3_init_24 : decode cX3_init 24 = .ok (.putfield 16, 3) := by decide +kernel
theorem dX3_init_27 : decode cX3_init 27 = .ok (.aload_n 0, 1) := by decide +kernel
theorem dX3_init_28 : decode cX3_init 28 = .ok (.sipush 1280, 3) := by decide +kernel
theorem dX3_init_31 : decode cX3_init 31 = .ok (.newarray .int, 2) := by decide +kernel
theorem dX3_init_33 : decode cX3_init 33 = .ok (.putfield 20, 3) := by decide +kernel
theorem dX3_init_36 : decode cX3_init 36 = .ok (.aload_n 0, 1) := by decide +kernel
theorem dX3_init_37 : decode cX3_init 37 = .ok (.iconst 5, 1) := by decide +kernel
theorem dX3_init_38 : decode cX3_init 38 = .ok (.newarray .int, 2) := by decide +kernel
theorem dX3_init_40 : decode cX3_init 40 = .ok (.putfield 23, 3) := by decide +kernel
theorem dX3_init_43 : decode cX3_init 43 = .ok (.aload_n 0, 1) := by decide +kernel
theorem dX3_init_44 : decode cX3_init 44 = .ok (.iconst 5, 1) := by decide +kernel
theorem dX3_init_45 : decode cX3_init 45 = .ok (.newarray .int, 2) := by decide +kernel
theorem dX3_init_47 : decode cX3_init 47 = .ok (.putfield 26, 3) := by decide +kernel
theorem dX3_init_50 : decode cX3_init 50 = .ok (.aload_n 0, 1) := by decide +kernel
theorem dX3_init_51 : decode cX3_init 51 = .ok (.iconst 5, 1) := by decide +kernel
theorem dX3_init_52 : decode cX3_init 52 = .ok (.newarray .boolean, 2) := by decide +kernel
theorem dX3_init_54 : decode cX3_init 54 = .ok (.putfield 29, 3) := by decide +kernel
theorem dX3_init_57 : decode cX3_init 57 = .ok (.aload_n 0, 1) := by decide +kernel
theorem dX3_init_58 : decode cX3_init 58 = .ok (.iconst 5, 1) := by decide +kernel
theorem dX3_init_59 : decode cX3_init 59 = .ok (.newarray .int, 2) := by decide +kernel
theorem dX3_init_61 : decode cX3_init 61 = .ok (.putfield 32, 3) := by decide +kernel
theorem dX3_init_64 : decode cX3_init 64 = .ok (.aload_n 0, 1) := by decide +kernel
theorem dX3_init_65 : decode cX3_init 65 = .ok (.iconst 5, 1) := by decide +kernel
theorem dX3_init_66 : decode cX3_init 66 = .ok (.newarray .int, 2) := by decide +kernel
theorem dX3_init_68 : decode cX3_init 68 = .ok (.putfield 35, 3) := by decide +kernel
theorem dX3_init_71 : decode cX3_init 71 = .ok (.return_, 1) := by decide +kernel
theorem dX3_isLane_0 : decode cX3_isLane 0 = .ok (.iload_n 0, 1) := by decide +kernel
theorem dX3_isLane_1 : decode cX3_isLane 1 = .ok (.ifCond .lt 12, 3) := by decide +kernel
theorem dX3_isLane_4 : decode cX3_isLane 4 = .ok (.iload_n 0, 1) := by decide +kernel
theorem dX3_isLane_5 : decode cX3_isLane 5 = .ok (.iconst 5, 1) := by decide +kernel
theorem dX3_isLane_6 : decode cX3_isLane 6 = .ok (.if_icmp .ge 7, 3) := by decide +kernel
theorem dX3_isLane_9 : decode cX3_isLane 9 = .ok (.iconst 1, 1) := by decide +kernel
theorem dX3_isLane_10 : decode cX3_isLane 10 = .ok (.goto 4, 3) := by decide +kernel
theorem dX3_isLane_13 : decode cX3_isLane 13 = .ok (.iconst 0, 1) := by decide +kernel
theorem dX3_isLane_14 : decode cX3_isLane 14 = .ok (.ireturn, 1) := by decide +kernel
theorem dX3_off_0 : decode cX3_off 0 = .ok (.aload_n 0, 1) := by decide +kernel
theorem dX3_off_1 : decode cX3_off 1 = .ok (.getfield 32, 3) := by decide +kernel
theorem dX3_off_4 : decode cX3_off 4 = .ok (.iload_n 1, 1) := by decide +kernel
theorem dX3_off_5 : decode cX3_off 5 = .ok (.aload_n 0, 1) := by decide +kernel
theorem dX3_off_6 : decode cX3_off 6 = .ok (.getfield 32, 3) := by decide +kernel
theorem dX3_off_9 : decode cX3_off 9 = .ok (.iload_n 1, 1) := by decide +kernel
theorem dX3_off_10 : decode cX3_off 10 = .ok (.iaload, 1) := by decide +kernel
theorem dX3_off_11 : decode cX3_off 11 = .ok (.iconst 1, 1) := by decide +kernel
theorem dX3_off_12 : decode cX3_off 12 = .ok (.iadd, 1) := by decide +kernel
theorem dX3_off_13 : decode cX3_off 13 = .ok (.iastore, 1) := by decide +kernel
theorem dX3_off_14 : decode cX3_off 14 = .ok (.ldc 38, 2) := by decide +kernel
theorem dX3_off_16 : decode cX3_off 16 = .ok (.ireturn, 1) := by decide +kernel
theorem dX3_out_0 : decode cX3_out 0 = .ok (.aload_n 0, 1) := by decide +kernel
theorem dX3_out_1 : decode cX3_out 1 = .ok (.getfield 35, 3) := by decide +kernel
theorem dX3_out_4 : decode cX3_out 4 = .ok (.iload_n 1, 1) := by decide +kernel
theorem dX3_out_5 : decode cX3_out 5 = .ok (.aload_n 0, 1) := by decide +kernel
theorem dX3_out_6 : decode cX3_out 6 = .ok (.getfield 35, 3) := by decide +kernel
theorem dX3_out_9 : decode cX3_out 9 = .ok (.iload_n 1, 1) := by decide +kernel
theorem dX3_out_10 : decode cX3_out 10 = .ok (.iaload, 1) := by decide +kernel
theorem dX3_out_11 : decode cX3_out 11 = .ok (.iconst 1, 1) := by decide +kernel
theorem dX3_out_12 : decode cX3_out 12 = .ok (.iadd, 1) := by decide +kernel
theorem dX3_out_13 : decode cX3_out 13 = .ok (.iastore, 1) := by decide +kernel
theorem dX3_out_14 : decode cX3_out 14 = .ok (.ldc 39, 2) := by decide +kernel
theorem dX3_out_16 : decode cX3_out 16 = .ok (.ireturn, 1) := by decide +kernel
theorem dX3_stored_0 : decode cX3_stored 0 = .ok (.iload_n 0, 1) := by decide +kernel
theorem dX3_stored_1 : decode cX3_stored 1 = .ok (.iconst 2, 1) := by decide +kernel
theorem dX3_stored_2 : decode cX3_stored 2 = .ok (.if_icmp .ne 34, 3) := by decide +kernel
theorem dX3_stored_5 : decode cX3_stored 5 = .ok (.lload_n 1, 1) := by decide +kernel
theorem dX3_stored_6 : decode cX3_stored 6 = .ok (.ldc2_w 40, 3) := by decide +kernel
theorem dX3_stored_9 : decode cX3_stored 9 = .ok (.lcmp, 1) := by decide +kernel
theorem dX3_stored_10 : decode cX3_stored 10 = .ok (.ifCond .ge 9, 3) := by decide +kernel
theorem dX3_stored_13 : decode cX3_stored 13 = .ok (.sipush (-8000), 3) := by decide +kernel
theorem dX3_stored_16 : decode cX3_stored 16 = .ok (.goto 19, 3) := by decide +kernel
theorem dX3_stored_19 : decode cX3_stored 19 = .ok (.lload_n 1, 1) := by decide +kernel
theorem dX3_stored_20 : decode cX3_stored 20 = .ok (.ldc2_w 42, 3) := by decide +kernel
theorem dX3_stored_23 : decode cX3_stored 23 = .ok (.lcmp, 1) := by decide +kernel
theorem dX3_stored_24 : decode cX3_stored 24 = .ok (.ifCond .le 9, 3) := by decide +kernel
theorem dX3_stored_27 : decode cX3_stored 27 = .ok (.sipush 8000, 3) := by decide +kernel
theorem dX3_stored_30 : decode cX3_stored 30 = .ok (.goto 5, 3) := by decide +kernel
theorem dX3_stored_33 : decode cX3_stored 33 = .ok (.lload_n 1, 1) := by decide +kernel
theorem dX3_stored_34 : decode cX3_stored 34 = .ok (.l2i, 1) := by decide +kernel
theorem dX3_stored_35 : decode cX3_stored 35 = .ok (.ireturn, 1) := by decide +kernel
theorem dX3_stored_36 : decode cX3_stored 36 = .ok (.lload_n 1, 1) := by decide +kernel
theorem dX3_stored_37 : decode cX3_stored 37 = .ok (.ldc2_w 44, 3) := by decide +kernel
theorem dX3_stored_40 : decode cX3_stored 40 = .ok (.land, 1) := by decide +kernel
theorem dX3_stored_41 : decode cX3_stored 41 = .ok (.l2i, 1) := by decide +kernel
theorem dX3_stored_42 : decode cX3_stored 42 = .ok (.istore_n 3, 1) := by decide +kernel
theorem dX3_stored_43 : decode cX3_stored 43 = .ok (.iload_n 0, 1) := by decide +kernel
theorem dX3_stored_44 : decode cX3_stored 44 = .ok (.ifCond .ne 5, 3) := by decide +kernel
theorem dX3_stored_47 : decode cX3_stored 47 = .ok (.iload_n 3, 1) := by decide +kernel
theorem dX3_stored_48 : decode cX3_stored 48 = .ok (.ireturn, 1) := by decide +kernel
theorem dX3_stored_49 : decode cX3_stored 49 = .ok (.iload_n 0, 1) := by decide +kernel
theorem dX3_stored_50 : decode cX3_stored 50 = .ok (.iconst 1, 1) := by decide +kernel
theorem dX3_stored_51 : decode cX3_stored 51 = .ok (.if_icmp .ne 18, 3) := by decide +kernel
theorem dX3_stored_54 : decode cX3_stored 54 = .ok (.iload_n 3, 1) := by decide +kernel
theorem dX3_stored_55 : decode cX3_stored 55 = .ok (.ldc 46, 2) := by decide +kernel
theorem dX3_stored_57 : decode cX3_stored 57 = .ok (.if_icmp .lt 10, 3) := by decide +kernel
theorem dX3_stored_60 : decode cX3_stored 60 = .ok (.iload_n 3, 1) := by decide +kernel
theorem dX3_stored_61 : decode cX3_stored 61 = .ok (.ldc 47, 2) := by decide +kernel
theorem dX3_stored_63 : decode cX3_stored 63 = .ok (.isub, 1) := by decide +kernel
theorem dX3_stored_64 : decode cX3_stored 64 = .ok (.goto 4, 3) := by decide +kernel
theorem dX3_stored_67 : decode cX3_stored 67 = .ok (.iload_n 3, 1) := by decide +kernel
theorem dX3_stored_68 : decode cX3_stored 68 = .ok (.ireturn, 1) := by decide +kernel
theorem dX3_stored_69 : decode cX3_stored 69 = .ok (.iload_n 0, 1) := by decide +kernel
theorem dX3_stored_70 : decode cX3_stored 70 = .ok (.iconst 3, 1) := by decide +kernel
theorem dX3_stored_71 : decode cX3_stored 71 = .ok (.if_icmp .ne 7, 3) := by decide +kernel
theorem dX3_stored_74 : decode cX3_stored 74 = .ok (.iload_n 3, 1) := by decide +kernel
theorem dX3_stored_75 : decode cX3_stored 75 = .ok (.iconst 2, 1) := by decide +kernel
theorem dX3_stored_76 : decode cX3_stored 76 = .ok (.irem, 1) := by decide +kernel
theorem dX3_stored_77 : decode cX3_stored 77 = .ok (.ireturn, 1) := by decide +kernel
theorem dX3_stored_78 : decode cX3_stored 78 = .ok (.iload_n 3, 1) := by decide +kernel
theorem dX3_stored_79 : decode cX3_stored 79 = .ok (.sipush 256, 3) := by decide +kernel
theorem dX3_stored_82 : decode cX3_stored 82 = .ok (.irem, 1) := by decide +kernel
theorem dX3_stored_83 : decode cX3_stored 83 = .ok (.istore 4, 2) := by decide +kernel
theorem dX3_stored_85 : decode cX3_stored 85 = .ok (.iload 4, 2) := by decide +kernel
theorem dX3_stored_87 : decode cX3_stored 87 = .ok (.sipush 128, 3) := by decide +kernel
theorem dX3_stored_90 : decode cX3_stored 90 = .ok (.if_icmp .lt 12, 3) := by decide +kernel
theorem dX3_stored_93 : decode cX3_stored 93 = .ok (.iload 4, 2) := by decide +kernel
theorem dX3_stored_95 : decode cX3_stored 95 = .ok (.sipush 256, 3) := by decide +kernel
theorem dX3_stored_98 : decode cX3_stored 98 = .ok (.isub, 1) := by decide +kernel
theorem dX3_stored_99 : decode cX3_stored 99 = .ok (.goto 5, 3) := by decide +kernel
theorem dX3_stored_102 : decode cX3_stored 102 = .ok (.iload 4, 2) := by decide +kernel
theorem dX3_stored_104 : decode cX3_stored 104 = .ok (.ireturn, 1) := by decide +kernel
set_option maxRecDepth 20000 in
theorem ggX3_mount_X3_isLane : GoodIn wsX3_mount wsX3_isLane := goodIn_r _ [10] (by decide +kernel) (by decide +kernel)
set_option maxRecDepth 20000 in
theorem gX3_mount_X3_isLane : GoodIn wsX3_mount (va_wsS RX3 48 yX3_isLane wsX3_isLane) := goodIn_app (goodIn_of _ (by decide +kernel)) ggX3_mount_X3_isLane
theorem dX3_mount_0 : decode cX3_mount 0 = .ok (.iload_n 1, 1) := by decide +kernel
theorem dX3_mount_1 : decode cX3_mount 1 = .ok (.invokestatic 48, 3) := by decide +kernel
theorem dX3_mount_4 : decode cX3_mount 4 = .ok (.ifCond .ne 6, 3) := by decide +kernel
theorem dX3_mount_7 : decode cX3_mount 7 = .ok (.ldc 52, 2) := by decide +kernel
theorem dX3_mount_9 : decode cX3_mount 9 = .ok (.ireturn, 1) := by decide +kernel
theorem dX3_mount_10 : decode cX3_mount 10 = .ok (.iload_n 2, 1) := by decide +kernel
theorem dX3_mount_11 : decode cX3_mount 11 = .ok (.bipush 60, 2) := by decide +kernel
theorem dX3_mount_13 : decode cX3_mount 13 = .ok (.if_icmp .le 6, 3) := by decide +kernel
theorem dX3_mount_16 : decode cX3_mount 16 = .ok (.ldc 53, 2) := by decide +kernel
theorem dX3_mount_18 : decode cX3_mount 18 = .ok (.ireturn, 1) := by decide +kernel
theorem dX3_mount_19 : decode cX3_mount 19 = .ok (.iload_n 2, 1) := by decide +kernel
theorem dX3_mount_20 : decode cX3_mount 20 = .ok (.ifCond .ge 6, 3) := by decide +kernel
theorem dX3_mount_23 : decode cX3_mount 23 = .ok (.ldc 54, 2) := by decide +kernel
theorem dX3_mount_25 : decode cX3_mount 25 = .ok (.ireturn, 1) := by decide +kernel
theorem dX3_mount_26 : decode cX3_mount 26 = .ok (.aload_n 0, 1) := by decide +kernel
theorem dX3_mount_27 : decode cX3_mount 27 = .ok (.getfield 16, 3) := by decide +kernel
theorem dX3_mount_30 : decode cX3_mount 30 = .ok (.iload_n 1, 1) := by decide +kernel
theorem dX3_mount_31 : decode cX3_mount 31 = .ok (.iconst 1, 1) := by decide +kernel
theorem dX3_mount_32 : decode cX3_mount 32 = .ok (.bastore, 1) := by decide +kernel
theorem dX3_mount_33 : decode cX3_mount 33 = .ok (.aload_n 0, 1) := by decide +kernel
theorem dX3_mount_34 : decode cX3_mount 34 = .ok (.getfield 13, 3) := by decide +kernel
theorem dX3_mount_37 : decode cX3_mount 37 = .ok (.iload_n 1, 1) := by decide +kernel
theorem dX3_mount_38 : decode cX3_mount 38 = .ok (.iload_n 2, 1) := by decide +kernel
theorem dX3_mount_39 : decode cX3_mount 39 = .ok (.iastore, 1) := by decide +kernel
theorem dX3_mount_40 : decode cX3_mount 40 = .ok (.iconst 0, 1) := by decide +kernel
theorem dX3_mount_41 : decode cX3_mount 41 = .ok (.istore_n 3, 1) := by decide +kernel
theorem dX3_mount_42 : decode cX3_mount 42 = .ok (.iload_n 3, 1) := by decide +kernel
theorem dX3_mount_43 : decode cX3_mount 43 = .ok (.iload_n 2, 1) := by decide +kernel
theorem dX3_mount_44 : decode cX3_mount 44 = .ok (.if_icmp .ge 21, 3) := by decide +kernel
theorem dX3_mount_47 : decode cX3_mount 47 = .ok (.aload_n 0, 1) := by decide +kernel
theorem dX3_mount_48 : decode cX3_mount 48 = .ok (.getfield 7, 3) := by decide +kernel
theorem dX3_mount_51 : decode cX3_mount 51 = .ok (.bipush 60, 2) := by decide +kernel
theorem dX3_mount_53 : decode cX3_mount 53 = .ok (.iload_n 1, 1) := by decide +kernel
theorem dX3_mount_54 : decode cX3_mount 54 = .ok (.imul, 1) := by decide +kernel
theorem dX3_mount_55 : decode cX3_mount 55 = .ok (.iload_n 3, 1) := by decide +kernel
theorem dX3_mount_56 : decode cX3_mount 56 = .ok (.iadd, 1) := by decide +kernel
theorem dX3_mount_57 : decode cX3_mount 57 = .ok (.iconst 0, 1) := by decide +kernel
theorem dX3_mount_58 : decode cX3_mount 58 = .ok (.iastore, 1) := by decide +kernel
theorem dX3_mount_59 : decode cX3_mount 59 = .ok (.iinc 3 1, 3) := by decide +kernel
theorem dX3_mount_62 : decode cX3_mount 62 = .ok (.goto (-20), 3) := by decide +kernel
theorem dX3_mount_65 : decode cX3_mount 65 = .ok (.iload_n 2, 1) := by decide +kernel
theorem dX3_mount_66 : decode cX3_mount 66 = .ok (.ireturn, 1) := by decide +kernel
set_option maxRecDepth 20000 in
theorem ggX3_strip_X3_isLane : GoodIn wsX3_strip wsX3_isLane := goodIn_r _ [7] (by decide +kernel) (by decide +kernel)
set_option maxRecDepth 20000 in
theorem gX3_strip_X3_isLane : GoodIn wsX3_strip (va_wsS RX3 48 yX3_isLane wsX3_isLane) := goodIn_app (goodIn_of _ (by decide +kernel)) ggX3_strip_X3_isLane
set_option maxRecDepth 20000 in
theorem ggX3_strip_X3_off : GoodIn wsX3_strip wsX3_off := goodIn_r _ [11, 12, 13, 14, 15, 16, 17, 18, 19, 20, 21, 22, 23, 24, 25, 26, 27, 28, 29] (by decide +kernel) (by decide +kernel)
set_option maxRecDepth 20000 in
theorem gX3_strip_X3_off : GoodIn wsX3_strip (wsV RX3 55 RX3 yX3_off wsX3_off) := goodIn_app (goodIn_of _ (by decide +kernel)) ggX3_strip_X3_off
theorem dX3_strip_0 : decode cX3_strip 0 = .ok (.iload_n 1, 1) := by decide +kernel
theorem dX3_strip_1 : decode cX3_strip 1 = .ok (.invokestatic 48, 3) := by decide +kernel
theorem dX3_strip_4 : decode cX3_strip 4 = .ok (.ifCond .ne 6, 3) := by decide +kernel
theorem dX3_strip_7 : decode cX3_strip 7 = .ok (.ldc 52, 2) := by decide +kernel
theorem dX3_strip_9 : decode cX3_strip 9 = .ok (.ireturn, 1) := by decide +kernel
theorem dX3_strip_10 : decode cX3_strip 10 = .ok (.aload_n 0, 1) := by decide +kernel
theorem dX3_strip_11 : decode cX3_strip 11 = .ok (.getfield 16, 3) := by decide +kernel
theorem dX3_strip_14 : decode cX3_strip 14 = .ok (.iload_n 1, 1) := by decide +kernel
theorem dX3_strip_15 : decode cX3_strip 15 = .ok (.baload, 1) := by decide +kernel
theorem dX3_strip_16 : decode cX3_strip 16 = .ok (.ifCond .ne 9, 3) := by decide +kernel
theorem dX3_strip_19 : decode cX3_strip 19 = .ok (.aload_n 0, 1) := by decide +kernel
theorem dX3_strip_20 : decode cX3_strip 20 = .ok (.iload_n 1, 1) := by decide +kernel
theorem dX3_strip_21 : decode cX3_strip 21 = .ok (.invokevirtual 55, 3) := by decide +kernel
theorem dX3_strip_24 : decode cX3_strip 24 = .ok (.ireturn, 1) := by decide +kernel
theorem dX3_strip_25 : decode cX3_strip 25 = .ok (.aload_n 0, 1) := by decide +kernel
theorem dX3_strip_26 : decode cX3_strip 26 = .ok (.getfield 16, 3) := by decide +kernel
theorem dX3_strip_29 : decode cX3_strip 29 = .ok (.iload_n 1, 1) := by decide +kernel
theorem dX3_strip_30 : decode cX3_strip 30 = .ok (.iconst 0, 1) := by decide +kernel
theorem dX3_strip_31 : decode cX3_strip 31 = .ok (.bastore, 1) := by decide +kernel
theorem dX3_strip_32 : decode cX3_strip 32 = .ok (.aload_n 0, 1) := by decide +kernel
theorem dX3_strip_33 : decode cX3_strip 33 = .ok (.getfield 13, 3) := by decide +kernel
theorem dX3_strip_36 : decode cX3_strip 36 = .ok (.iload_n 1, 1) := by decide +kernel
theorem dX3_strip_37 : decode cX3_strip 37 = .ok (.iaload, 1) := by decide +kernel
theorem dX3_strip_38 : decode cX3_strip 38 = .ok (.ireturn, 1) := by decide +kernel
set_option maxRecDepth 20000 in
theorem ggX3_size_X3_isLane : GoodIn wsX3_size wsX3_isLane := goodIn_r _ [7] (by decide +kernel) (by decide +kernel)
set_option maxRecDepth 20000 in
theorem gX3_size_X3_isLane : GoodIn wsX3_size (va_wsS RX3 48 yX3_isLane wsX3_isLane) := goodIn_app (goodIn_of _ (by decide +kernel)) ggX3_size_X3_isLane
set_option maxRecDepth 20000 in
theorem ggX3_size_X3_off : GoodIn wsX3_size wsX3_off := goodIn_r _ [11, 12, 13, 14, 15, 16, 17, 18, 19, 20, 21, 22, 23, 24, 25, 26, 27, 28, 29] (by decide +kernel) (by decide +kernel)
set_option maxRecDepth 20000 in
theorem gX3_size_X3_off : GoodIn wsX3_size (wsV RX3 55 RX3 yX3_off wsX3_off) := goodIn_app (goodIn_of _ (by decide +kernel)) ggX3_size_X3_off
theorem dX3_size_0 : decode cX3_size 0 = .ok (.iload_n 1, 1) := by decide +kernel
theorem dX3_size_1 : decode cX3_size 1 = .ok (.invokestatic 48, 3) := by decide +kernel
theorem dX3_size_4 : decode cX3_size 4 = .ok (.ifCond .ne 6, 3) := by decide +kernel
theorem dX3_size_7 : decode cX3_size 7 = .ok (.ldc 52, 2) := by decide +kernel
theorem dX3_size_9 : decode cX3_size 9 = .ok (.ireturn, 1) := by decide +kernel
theorem dX3_size_10 : decode cX3_size 10 = .ok (.aload_n 0, 1) := by decide +kernel
theorem dX3_size_11 : decode cX3_size 11 = .ok (.getfield 16, 3) := by decide +kernel
theorem dX3_size_14 : decode cX3_size 14 = .ok (.iload_n 1, 1) := by decide +kernel
theorem dX3_size_15 : decode cX3_size 15 = .ok (.baload, 1) := by decide +kernel
theorem dX3_size_16 : decode cX3_size 16 = .ok (.ifCond .eq 12, 3) := by decide +kernel
theorem dX3_size_19 : decode cX3_size 19 = .ok (.aload_n 0, 1) := by decide +kernel
theorem dX3_size_20 : decode cX3_size 20 = .ok (.getfield 13, 3) := by decide +kernel
theorem dX3_size_23 : decode cX3_size 23 = .ok (.iload_n 1, 1) := by decide +kernel
theorem dX3_size_24 : decode cX3_size 24 = .ok (.iaload, 1) := by decide +kernel
theorem dX3_size_25 : decode cX3_size 25 = .ok (.goto 8, 3) := by decide +kernel
theorem dX3_size_28 : decode cX3_size 28 = .ok (.aload_n 0, 1) := by decide +kernel
theorem dX3_size_29 : decode cX3_size 29 = .ok (.iload_n 1, 1) := by decide +kernel
theorem dX3_size_30 : decode cX3_size 30 = .ok (.invokevirtual 55, 3) := by decide +kernel
theorem dX3_size_33 : decode cX3_size 33 = .ok (.ireturn, 1) := by decide +kernel
set_option maxRecDepth 20000 in
theorem ggX3_cell_X3_isLane : GoodIn wsX3_cell wsX3_isLane := goodIn_r _ [8] (by decide +kernel) (by decide +kernel)
set_option maxRecDepth 20000 in
theorem gX3_cell_X3_isLane : GoodIn wsX3_cell (va_wsS RX3 48 yX3_isLane wsX3_isLane) := goodIn_app (goodIn_of _ (by decide +kernel)) ggX3_cell_X3_isLane
set_option maxRecDepth 20000 in
theorem ggX3_cell_X3_off : GoodIn wsX3_cell wsX3_off := goodIn_r _ [12, 13, 14, 21, 22, 23, 24, 25, 26, 27, 28, 29, 30, 31, 32, 33, 34, 35, 36] (by decide +kernel) (by decide +kernel)
set_option maxRecDepth 20000 in
theorem gX3_cell_X3_off : GoodIn wsX3_cell (wsV RX3 55 RX3 yX3_off wsX3_off) := goodIn_app (goodIn_of _ (by decide +kernel)) ggX3_cell_X3_off
set_option maxRecDepth 20000 in
theorem ggX3_cell_X3_out : GoodIn wsX3_cell wsX3_out := goodIn_r _ [18, 19, 20, 21, 22, 23, 24, 25, 26, 27, 28, 29, 30, 31, 32, 33, 34, 35, 36] (by decide +kernel) (by decide +kernel)
set_option maxRecDepth 20000 in
theorem gX3_cell_X3_out : GoodIn wsX3_cell (wsV RX3 59 RX3 yX3_out wsX3_out) := goodIn_app (goodIn_of _ (by decide +kernel)) ggX3_cell_X3_out
theorem dX3_cell_0 : decode cX3_cell 0 = .ok (.iload_n 1, 1) := by decide +kernel
theorem dX3_cell_1 : decode cX3_cell 1 = .ok (.invokestatic 48, 3) := by decide +kernel
theorem dX3_cell_4 : decode cX3_cell 4 = .ok (.ifCond .ne 6, 3) := by decide +kernel
theorem dX3_cell_7 : decode cX3_cell 7 = .ok (.ldc 52, 2) := by decide +kernel
theorem dX3_cell_9 : decode cX3_cell 9 = .ok (.ireturn, 1) := by decide +kernel
theorem dX3_cell_10 : decode cX3_cell 10 = .ok (.aload_n 0, 1) := by decide +kernel
theorem dX3_cell_11 : decode cX3_cell 11 = .ok (.getfield 16, 3) := by decide +kernel
theorem dX3_cell_14 : decode cX3_cell 14 = .ok (.iload_n 1, 1) := by decide +kernel
theorem dX3_cell_15 : decode cX3_cell 15 = .ok (.baload, 1) := by decide +kernel
theorem dX3_cell_16 : decode cX3_cell 16 = .ok (.ifCond .ne 9, 3) := by decide +kernel
theorem dX3_cell_19 : decode cX3_cell 19 = .ok (.aload_n 0, 1) := by decide +kernel
theorem dX3_cell_20 : decode cX3_cell 20 = .ok (.iload_n 1, 1) := by decide +kernel
theorem dX3_cell_21 : decode cX3_cell 21 = .ok (.invokevirtual 55, 3) := by decide +kernel
theorem dX3_cell_24 : decode cX3_cell 24 = .ok (.ireturn, 1) := by decide +kernel
theorem dX3_cell_25 : decode cX3_cell 25 = .ok (.iload_n 2, 1) := by decide +kernel
theorem dX3_cell_26 : decode cX3_cell 26 = .ok (.ifCond .lt 13, 3) := by decide +kernel
theorem dX3_cell_29 : decode cX3_cell 29 = .ok (.iload_n 2, 1) := by decide +kernel
theorem dX3_cell_30 : decode cX3_cell 30 = .ok (.aload_n 0, 1) := by decide +kernel
theorem dX3_cell_31 : decode cX3_cell 31 = .ok (.getfield 13, 3) := by decide +kernel
theorem dX3_cell_34 : decode cX3_cell 34 = .ok (.iload_n 1, 1) := by decide +kernel
theorem dX3_cell_35 : decode cX3_cell 35 = .ok (.iaload, 1) := by decide +kernel
theorem dX3_cell_36 : decode cX3_cell 36 = .ok (.if_icmp .lt 9, 3) := by decide +kernel
theorem dX3_cell_39 : decode cX3_cell 39 = .ok (.aload_n 0, 1) := by decide +kernel
theorem dX3_cell_40 : decode cX3_cell 40 = .ok (.iload_n 1, 1) := by decide +kernel
theorem dX3_cell_41 : decode cX3_cell 41 = .ok (.invokevirtual 59, 3) := by decide +kernel
theorem dX3_cell_44 : decode cX3_cell 44 = .ok (.ireturn, 1) := by decide +kernel
theorem dX3_cell_45 : decode cX3_cell 45 = .ok (.aload_n 0, 1) := by decide +kernel
theorem dX3_cell_46 : decode cX3_cell 46 = .ok (.getfield 7, 3) := by decide +kernel
theorem dX3_cell_49 : decode cX3_cell 49 = .ok (.bipush 60, 2) := by decide +kernel
theorem dX3_cell_51 : decode cX3_cell 51 = .ok (.iload_n 1, 1) := by decide +kernel
theorem dX3_cell_52 : decode cX3_cell 52 = .ok (.imul, 1) := by decide +kernel
theorem dX3_cell_53 : decode cX3_cell 53 = .ok (.iload_n 2, 1) := by decide +kernel
theorem dX3_cell_54 : decode cX3_cell 54 = .ok (.iadd, 1) := by decide +kernel
theorem dX3_cell_55 : decode cX3_cell 55 = .ok (.iaload, 1) := by decide +kernel
theorem dX3_cell_56 : decode cX3_cell 56 = .ok (.ireturn, 1) := by decide +kernel
set_option maxRecDepth 20000 in
theorem ggX3_put_X3_isLane : GoodIn wsX3_put wsX3_isLane := goodIn_r _ [8] (by decide +kernel) (by decide +kernel)
set_option maxRecDepth 20000 in
theorem gX3_put_X3_isLane : GoodIn wsX3_put (va_wsS RX3 48 yX3_isLane wsX3_isLane) := goodIn_app (goodIn_of _ (by decide +kernel)) ggX3_put_X3_isLane
set_option maxRecDepth 20000 in
theorem ggX3_put_X3_off : GoodIn wsX3_put wsX3_off := goodIn_r _ [12, 13, 14, 29, 30, 31, 32, 33, 34, 35, 36, 37, 38, 39, 40, 41, 42, 43, 44] (by decide +kernel) (by decide +kernel)
set_option maxRecDepth 20000 in
theorem gX3_put_X3_off : GoodIn wsX3_put (wsV RX3 55 RX3 yX3_off wsX3_off) := goodIn_app (goodIn_of _ (by decide +kernel)) ggX3_put_X3_off
set_option maxRecDepth 20000 in
theorem ggX3_put_X3_out : GoodIn wsX3_put wsX3_out := goodIn_r _ [18, 19, 20, 29, 30, 31, 32, 33, 34, 35, 36, 37, 38, 39, 40, 41, 42, 43, 44] (by decide +kernel) (by decide +kernel)
set_option maxRecDepth 20000 in
theorem gX3_put_X3_out : GoodIn wsX3_put (wsV RX3 59 RX3 yX3_out wsX3_out) := goodIn_app (goodIn_of _ (by decide +kernel)) ggX3_put_X3_out
set_option maxRecDepth 20000 in
theorem ggX3_put_X3_stored : GoodIn wsX3_put wsX3_stored := goodIn_r _ [23, 24, 25, 26, 27, 28] (by decide +kernel) (by decide +kernel)
set_option maxRecDepth 20000 in
theorem gX3_put_X3_stored : GoodIn wsX3_put (va_wsS RX3 62 yX3_stored wsX3_stored) := goodIn_app (goodIn_of _ (by decide +kernel)) ggX3_put_X3_stored
theorem dX3_put_0 : decode cX3_put 0 = .ok (.iload_n 1, 1) := by decide +kernel
theorem dX3_put_1 : decode cX3_put 1 = .ok (.invokestatic 48, 3) := by decide +kernel
theorem dX3_put_4 : decode cX3_put 4 = .ok (.ifCond .ne 6, 3) := by decide +kernel
theorem dX3_put_7 : decode cX3_put 7 = .ok (.ldc 52, 2) := by decide +kernel
theorem dX3_put_9 : decode cX3_put 9 = .ok (.ireturn, 1) := by decide +kernel
theorem dX3_put_10 : decode cX3_put 10 = .ok (.aload_n 0, 1) := by decide +kernel
theorem dX3_put_11 : decode cX3_put 11 = .ok (.getfield 16, 3) := by decide +kernel
theorem dX3_put_14 : decode cX3_put 14 = .ok (.iload_n 1, 1) := by decide +kernel
theorem dX3_put_15 : decode cX3_put 15 = .ok (.baload, 1) := by decide +kernel
theorem dX3_put_16 : decode cX3_put 16 = .ok (.ifCond .ne 9, 3) := by decide +kernel
theorem dX3_put_19 : decode cX3_put 19 = .ok (.aload_n 0, 1) := by decide +kernel
theorem dX3_put_20 : decode cX3_put 20 = .ok (.iload_n 1, 1) := by decide +kernel
theorem dX3_put_21 : decode cX3_put 21 = .ok (.invokevirtual 55, 3) := by decide +kernel
theorem dX3_put_24 : decode cX3_put 24 = .ok (.ireturn, 1) := by decide +kernel
theorem dX3_put_25 : decode cX3_put 25 = .ok (.iload_n 2, 1) := by decide +kernel
theorem dX3_put_26 : decode cX3_put 26 = .ok (.ifCond .lt 13, 3) := by decide +kernel
theorem dX3_put_29 : decode cX3_put 29 = .ok (.iload_n 2, 1) := by decide +kernel
theorem dX3_put_30 : decode cX3_put 30 = .ok (.aload_n 0, 1) := by decide +kernel
theorem dX3_put_31 : decode cX3_put 31 = .ok (.getfield 13, 3) := by decide +kernel
theorem dX3_put_34 : decode cX3_put 34 = .ok (.iload_n 1, 1) := by decide +kernel
theorem dX3_put_35 : decode cX3_put 35 = .ok (.iaload, 1) := by decide +kernel
theorem dX3_put_36 : decode cX3_put 36 = .ok (.if_icmp .lt 9, 3) := by decide +kernel
theorem dX3_put_39 : decode cX3_put 39 = .ok (.aload_n 0, 1) := by decide +kernel
theorem dX3_put_40 : decode cX3_put 40 = .ok (.iload_n 1, 1) := by decide +kernel
theorem dX3_put_41 : decode cX3_put 41 = .ok (.invokevirtual 59, 3) := by decide +kernel
theorem dX3_put_44 : decode cX3_put 44 = .ok (.ireturn, 1) := by decide +kernel
theorem dX3_put_45 : decode cX3_put 45 = .ok (.aload_n 0, 1) := by decide +kernel
theorem dX3_put_46 : decode cX3_put 46 = .ok (.getfield 7, 3) := by decide +kernel
theorem dX3_put_49 : decode cX3_put 49 = .ok (.bipush 60, 2) := by decide +kernel
theorem dX3_put_51 : decode cX3_put 51 = .ok (.iload_n 1, 1) := by decide +kernel
theorem dX3_put_52 : decode cX3_put 52 = .ok (.imul, 1) := by decide +kernel
theorem dX3_put_53 : decode cX3_put 53 = .ok (.iload_n 2, 1) := by decide +kernel
theorem dX3_put_54 : decode cX3_put 54 = .ok (.iadd, 1) := by decide +kernel
theorem dX3_put_55 : decode cX3_put 55 = .ok (.iload_n 1, 1) := by decide +kernel
theorem dX3_put_56 : decode cX3_put 56 = .ok (.iload_n 3, 1) := by decide +kernel
theorem dX3_put_57 : decode cX3_put 57 = .ok (.i2l, 1) := by decide +kernel
theorem dX3_put_58 : decode cX3_put 58 = .ok (.invokestatic 62, 3) := by decide +kernel
theorem dX3_put_61 : decode cX3_put 61 = .ok (.iastore, 1) := by decide +kernel
theorem dX3_put_62 : decode cX3_put 62 = .ok (.aload_n 0, 1) := by decide +kernel
theorem dX3_put_63 : decode cX3_put 63 = .ok (.getfield 7, 3) := by decide +kernel
theorem dX3_put_66 : decode cX3_put 66 = .ok (.bipush 60, 2) := by decide +kernel
theorem dX3_put_68 : decode cX3_put 68 = .ok (.iload_n 1, 1) := by decide +kernel
theorem dX3_put_69 : decode cX3_put 69 = .ok (.imul, 1) := by decide +kernel
theorem dX3_put_70 : decode cX3_put 70 = .ok (.iload_n 2, 1) := by decide +kernel
theorem dX3_put_71 : decode cX3_put 71 = .ok (.iadd, 1) := by decide +kernel
theorem dX3_put_72 : decode cX3_put 72 = .ok (.iaload, 1) := by decide +kernel
theorem dX3_put_73 : decode cX3_put 73 = .ok (.ireturn, 1) := by decide +kernel
theorem dX3_pressed_0 : decode cX3_pressed 0 = .ok (.iload_n 1, 1) := by decide +kernel
theorem dX3_pressed_1 : decode cX3_pressed 1 = .ok (.iconst 1, 1) := by decide +kernel
theorem dX3_pressed_2 : decode cX3_pressed 2 = .ok (.if_icmp .ne 7, 3) := by decide +kernel
theorem dX3_pressed_5 : decode cX3_pressed 5 = .ok (.iconst 1, 1) := by decide +kernel
theorem dX3_pressed_6 : decode cX3_pressed 6 = .ok (.goto 4, 3) := by decide +kernel
theorem dX3_pressed_9 : decode cX3_pressed 9 = .ok (.iconst 0, 1) := by decide +kernel
theorem dX3_pressed_10 : decode cX3_pressed 10 = .ok (.istore_n 3, 1) := by decide +kernel
theorem dX3_pressed_11 : decode cX3_pressed 11 = .ok (.iload_n 2, 1) := by decide +kernel
theorem dX3_pressed_12 : decode cX3_pressed 12 = .ok (.iconst 2, 1) := by decide +kernel
theorem dX3_pressed_13 : decode cX3_pressed 13 = .ok (.irem, 1) := by decide +kernel
theorem dX3_pressed_14 : decode cX3_pressed 14 = .ok (.ifCond .eq 7, 3) := by decide +kernel
theorem dX3_pressed_17 : decode cX3_pressed 17 = .ok (.iconst 1, 1) := by decide +kernel
theorem dX3_pressed_18 : decode cX3_pressed 18 = .ok (.goto 4, 3) := by decide +kernel
theorem dX3_pressed_21 : decode cX3_pressed 21 = .ok (.iconst 0, 1) := by decide +kernel
theorem dX3_pressed_22 : decode cX3_pressed 22 = .ok (.istore 4, 2) := by decide +kernel
theorem dX3_pressed_24 : decode cX3_pressed 24 = .ok (.iload_n 0, 1) := by decide +kernel
theorem dX3_pressed_25 : decode cX3_pressed 25 = .ok (.ifCond .ne 18, 3) := by decide +kernel
theorem dX3_pressed_28 : decode cX3_pressed 28 = .ok (.iload_n 3, 1) := by decide +kernel
theorem dX3_pressed_29 : decode cX3_pressed 29 = .ok (.ifCond .ne 8, 3) := by decide +kernel
theorem dX3_pressed_32 : decode cX3_pressed 32 = .ok (.iload 4, 2) := by decide +kernel
theorem dX3_pressed_34 : decode cX3_pressed 34 = .ok (.ifCond .eq 7, 3) := by decide +kernel
theorem dX3_pressed_37 : decode cX3_pressed 37 = .ok (.iconst 1, 1) := by decide +kernel
theorem dX3_pressed_38 : decode cX3_pressed 38 = .ok (.goto 4, 3) := by decide +kernel
theorem dX3_pressed_41 : decode cX3_pressed 41 = .ok (.iconst 0, 1) := by decide +kernel
theorem dX3_pressed_42 : decode cX3_pressed 42 = .ok (.ireturn, 1) := by decide +kernel
theorem dX3_pressed_43 : decode cX3_pressed 43 = .ok (.iload_n 0, 1) := by decide +kernel
theorem dX3_pressed_44 : decode cX3_pressed 44 = .ok (.iconst 1, 1) := by decide +kernel
theorem dX3_pressed_45 : decode cX3_pressed 45 = .ok (.if_icmp .ne 18, 3) := by decide +kernel
theorem dX3_pressed_48 : decode cX3_pressed 48 = .ok (.iload_n 3, 1) := by decide +kernel
theorem dX3_pressed_49 : decode cX3_pressed 49 = .ok (.ifCond .eq 12, 3) := by decide +kernel
theorem dX3_pressed_52 : decode cX3_pressed 52 = .ok (.iload 4, 2) := by decide +kernel
theorem dX3_pressed_54 : decode cX3_pressed 54 = .ok (.ifCond .eq 7, 3) := by decide +kernel
theorem dX3_pressed_57 : decode cX3_pressed 57 = .ok (.iconst 1, 1) := by decide +kernel
theorem dX3_pressed_58 : decode cX3_pressed 58 = .ok (.goto 4, 3) := by decide +kernel
theorem dX3_pressed_61 : decode cX3_pressed 61 = .ok (.iconst 0, 1) := by decide +kernel
theorem dX3_pressed_62 : decode cX3_pressed 62 = .ok (.ireturn, 1) := by decide +kernel
theorem dX3_pressed_63 : decode cX3_pressed 63 = .ok (.iload_n 0, 1) := by decide +kernel
theorem dX3_pressed_64 : decode cX3_pressed 64 = .ok (.iconst 2, 1) := by decide +kernel
theorem dX3_pressed_65 : decode cX3_pressed 65 = .ok (.if_icmp .ne 15, 3) := by decide +kernel
theorem dX3_pressed_68 : decode cX3_pressed 68 = .ok (.iload_n 3, 1) := by decide +kernel
theorem dX3_pressed_69 : decode cX3_pressed 69 = .ok (.iload 4, 2) := by decide +kernel
theorem dX3_pressed_71 : decode cX3_pressed 71 = .ok (.if_icmp .eq 7, 3) := by decide +kernel
theorem dX3_pressed_74 : decode cX3_pressed 74 = .ok (.iconst 1, 1) := by decide +kernel
theorem dX3_pressed_75 : decode cX3_pressed 75 = .ok (.goto 4, 3) := by decide +kernel
theorem dX3_pressed_78 : decode cX3_pressed 78 = .ok (.iconst 0, 1) := by decide +kernel
theorem dX3_pressed_79 : decode cX3_pressed 79 = .ok (.ireturn, 1) := by decide +kernel
theorem dX3_pressed_80 : decode cX3_pressed 80 = .ok (.iload_n 3, 1) := by decide +kernel
theorem dX3_pressed_81 : decode cX3_pressed 81 = .ok (.ifCond .eq 7, 3) := by decide +kernel
theorem dX3_pressed_84 : decode cX3_pressed 84 = .ok (.iconst 0, 1) := by decide +kernel
theorem dX3_pressed_85 : decode cX3_pressed 85 = .ok (.goto 4, 3) := by decide +kernel
theorem dX3_pressed_88 : decode cX3_pressed 88 = .ok (.iconst 1, 1) := by decide +kernel
theorem dX3_pressed_89 : decode cX3_pressed 89 = .ok (.ireturn, 1) := by decide +kernel
set_option maxRecDepth 20000 in
theorem ggX3_change_X3_isLane : GoodIn wsX3_change wsX3_isLane := goodIn_r _ [9] (by decide +kernel) (by decide +kernel)
set_option maxRecDepth 20000 in
theorem gX3_change_X3_isLane : GoodIn wsX3_change (va_wsS RX3 48 yX3_isLane wsX3_isLane) := goodIn_app (goodIn_of _ (by decide +kernel)) ggX3_change_X3_isLane
set_option maxRecDepth 20000 in
theorem ggX3_change_X3_off : GoodIn wsX3_change wsX3_off := goodIn_r _ [13, 14, 15, 33, 34, 35, 36, 37, 38, 39, 40, 41, 42, 43, 44, 45, 46, 47, 48] (by decide +kernel) (by decide +kernel)
set_option maxRecDepth 20000 in
theorem gX3_change_X3_off : GoodIn wsX3_change (wsV RX3 55 RX3 yX3_off wsX3_off) := goodIn_app (goodIn_of _ (by decide +kernel)) ggX3_change_X3_off
set_option maxRecDepth 20000 in
theorem ggX3_change_X3_out : GoodIn wsX3_change wsX3_out := goodIn_r _ [19, 20, 21, 33, 34, 35, 36, 37, 38, 39, 40, 41, 42, 43, 44, 45, 46, 47, 48] (by decide +kernel) (by decide +kernel)
set_option maxRecDepth 20000 in
theorem gX3_change_X3_out : GoodIn wsX3_change (wsV RX3 59 RX3 yX3_out wsX3_out) := goodIn_app (goodIn_of _ (by decide +kernel)) ggX3_change_X3_out
set_option maxRecDepth 20000 in
theorem ggX3_change_X3_pressed : GoodIn wsX3_change wsX3_pressed := goodIn_r _ [24] (by decide +kernel) (by decide +kernel)
set_option maxRecDepth 20000 in
theorem gX3_change_X3_pressed : GoodIn wsX3_change (va_wsS RX3 67 yX3_pressed wsX3_pressed) := goodIn_app (goodIn_of _ (by decide +kernel)) ggX3_change_X3_pressed
set_option maxRecDepth 20000 in
theorem ggX3_change_X3_stored : GoodIn wsX3_change wsX3_stored := goodIn_r _ [27, 28, 29, 30, 31, 32] (by decide +kernel) (by decide +kernel)
set_option maxRecDepth 20000 in
theorem gX3_change_X3_stored : GoodIn wsX3_change (va_wsS RX3 62 yX3_stored wsX3_stored) := goodIn_app (goodIn_of _ (by decide +kernel)) ggX3_change_X3_stored
theorem dX3_change_0 : decode cX3_change 0 = .ok (.iload_n 1, 1) := by decide +kernel
theorem dX3_change_1 : decode cX3_change 1 = .ok (.invokestatic 48, 3) := by decide +kernel
theorem dX3_change_4 : decode cX3_change 4 = .ok (.ifCond .ne 6, 3) := by decide +kernel
theorem dX3_change_7 : decode cX3_change 7 = .ok (.ldc 52, 2) := by decide +kernel
theorem dX3_change_9 : decode cX3_change 9 = .ok (.ireturn, 1) := by decide +kernel
theorem dX3_change_10 : decode cX3_change 10 = .ok (.iload_n 2, 1) := by decide +kernel
theorem dX3_change_11 : decode cX3_change 11 = .ok (.ifCond .lt 8, 3) := by decide +kernel
theorem dX3_change_14 : decode cX3_change 14 = .ok (.iload_n 2, 1) := by decide +kernel
theorem dX3_change_15 : decode cX3_change 15 = .ok (.iconst 3, 1) := by decide +kernel
theorem dX3_change_16 : decode cX3_change 16 = .ok (.if_icmp .le 6, 3) := by decide +kernel
theorem dX3_change_19 : decode cX3_change 19 = .ok (.ldc 66, 2) := by decide +kernel
theorem dX3_change_21 : decode cX3_change 21 = .ok (.ireturn, 1) := by decide +kernel
theorem dX3_change_22 : decode cX3_change 22 = .ok (.aload_n 0, 1) := by decide +kernel
theorem dX3_change_23 : decode cX3_change 23 = .ok (.getfield 16, 3) := by decide +kernel
theorem dX3_change_26 : decode cX3_change 26 = .ok (.iload_n 1, 1) := by decide +kernel
theorem dX3_change_27 : decode cX3_change 27 = .ok (.baload, 1) := by decide +kernel
theorem dX3_change_28 : decode cX3_change 28 = .ok (.ifCond .ne 9, 3) := by decide +kernel
theorem dX3_change_31 : decode cX3_change 31 = .ok (.aload_n 0, 1) := by decide +kernel
theorem dX3_change_32 : decode cX3_change 32 = .ok (.iload_n 1, 1) := by decide +kernel
theorem dX3_change_33 : decode cX3_change 33 = .ok (.invokevirtual 55, 3) := by decide +kernel
theorem dX3_change_36 : decode cX3_change 36 = .ok (.ireturn, 1) := by decide +kernel
theorem dX3_change_37 : decode cX3_change 37 = .ok (.iload_n 3, 1) := by decide +kernel
theorem dX3_change_38 : decode cX3_change 38 = .ok (.ifCond .lt 13, 3) := by decide +kernel
theorem dX3_change_41 : decode cX3_change 41 = .ok (.iload_n 3, 1) := by decide +kernel
theorem dX3_change_42 : decode cX3_change 42 = .ok (.aload_n 0, 1) := by decide +kernel
theorem dX3_change_43 : decode cX3_change 43 = .ok (.getfield 13, 3) := by decide +kernel
theorem dX3_change_46 : decode cX3_change 46 = .ok (.iload_n 1, 1) := by decide +kernel
theorem dX3_change_47 : decode cX3_change 47 = .ok (.iaload, 1) := by decide +kernel
theorem dX3_change_48 : decode cX3_change 48 = .ok (.if_icmp .lt 9, 3) := by decide +kernel
theorem dX3_change_51 : decode cX3_change 51 = .ok (.aload_n 0, 1) := by decide +kernel
theorem dX3_change_52 : decode cX3_change 52 = .ok (.iload_n 1, 1) := by decide +kernel
theorem dX3_change_53 : decode cX3_change 53 = .ok (.invokevirtual 59, 3) := by decide +kernel
theorem dX3_change_56 : decode cX3_change 56 = .ok (.ireturn, 1) := by decide +kernel
theorem dX3_change_57 : decode cX3_change 57 = .ok (.bipush 60, 2) := by decide +kernel
theorem dX3_change_59 : decode cX3_change 59 = .ok (.iload_n 1, 1) := by decide +kernel
theorem dX3_change_60 : decode cX3_change 60 = .ok (.imul, 1) := by decide +kernel
theorem dX3_change_61 : decode cX3_change 61 = .ok (.iload_n 3, 1) := by decide +kernel
theorem dX3_change_62 : decode cX3_change 62 = .ok (.iadd, 1) := by decide +kernel
theorem dX3_change_63 : decode cX3_change 63 = .ok (.istore 5, 2) := by decide +kernel
theorem dX3_change_65 : decode cX3_change 65 = .ok (.aload_n 0, 1) := by decide +kernel
theorem dX3_change_66 : decode cX3_change 66 = .ok (.getfield 7, 3) := by decide +kernel
theorem dX3_change_69 : decode cX3_change 69 = .ok (.iload 5, 2) := by decide +kernel
theorem dX3_change_71 : decode cX3_change 71 = .ok (.iaload, 1) := by decide +kernel
theorem dX3_change_72 : decode cX3_change 72 = .ok (.i2l, 1) := by decide +kernel
theorem dX3_change_73 : decode cX3_change 73 = .ok (.lstore 6, 2) := by decide +kernel
theorem dX3_change_75 : decode cX3_change 75 = .ok (.iload_n 2, 1) := by decide +kernel
theorem dX3_change_76 : decode cX3_change 76 = .ok (.ifCond .ne 12, 3) := by decide +kernel
theorem dX3_change_79 : decode cX3_change 79 = .ok (.lload 6, 2) := by decide +kernel
theorem dX3_change_81 : decode cX3_change 81 = .ok (.iload 4, 2) := by decide +kernel
theorem dX3_change_83 : decode cX3_change 83 = .ok (.i2l, 1) := by decide +kernel
theorem dX3_change_84 : decode cX3_change 84 = .ok (.ladd, 1) := by decide +kernel
theorem dX3_change_85 : decode cX3_change 85 = .ok (.goto 35, 3) := by decide +kernel
theorem dX3_change_88 : decode cX3_change 88 = .ok (.iload_n 2, 1) := by decide +kernel
theorem dX3_change_89 : decode cX3_change 89 = .ok (.iconst 1, 1) := by decide +kernel
theorem dX3_change_90 : decode cX3_change 90 = .ok (.if_icmp .ne 12, 3) := by decide +kernel
theorem dX3_change_93 : decode cX3_change 93 = .ok (.lload 6, 2) := by decide +kernel
theorem dX3_change_95 : decode cX3_change 95 = .ok (.iload 4, 2) := by decide +kernel
theorem dX3_change_97 : decode cX3_change 97 = .ok (.i2l, 1) := by decide +kernel
theorem dX3_change_98 : decode cX3_change 98 = .ok (.lsub, 1) := by decide +kernel
theorem dX3_change_99 : decode cX3_change 99 = .ok (.goto 21, 3) := by decide +kernel
theorem dX3_change_102 : decode cX3_change 102 = .ok (.iload_n 2, 1) := by decide +kernel
theorem dX3_change_103 : decode cX3_change 103 = .ok (.iconst 2, 1) := by decide +kernel
theorem dX3_change_104 : decode cX3_change 104 = .ok (.if_icmp .ne 12, 3) := by decide +kernel
theorem dX3_change_107 : decode cX3_change 107 = .ok (.lload 6, 2) := by decide +kernel
theorem dX3_change_109 : decode cX3_change 109 = .ok (.iload 4, 2) := by decide +kernel
theorem dX3_change_111 : decode cX3_change 111 = .ok (.i2l, 1) := by decide +kernel
theorem dX3_change_112 : decode cX3_change 112 = .ok (.lmul, 1) := by decide +kernel
theorem dX3_change_113 : decode cX3_change 113 = .ok (.goto 7, 3) := by decide +kernel
theorem dX3_change_116 : decode cX3_change 116 = .ok (.lload 6, 2) := by decide +kernel
theorem dX3_change_118 : decode cX3_change 118 = .ok (.lconst 1, 1) := by decide +kernel
theorem dX3_change_119 : decode cX3_change 119 = .ok (.ladd, 1) := by decide +kernel
theorem dX3_change_120 : decode cX3_change 120 = .ok (.lstore 8, 2) := by decide +kernel
theorem dX3_change_122 : decode cX3_change 122 = .ok (.aload_n 0, 1) := by decide +kernel
theorem dX3_change_123 : decode cX3_change 123 = .ok (.getfield 7, 3) := by decide +kernel
theorem dX3_change_126 : decode cX3_change 126 = .ok (.iload 5, 2) := by decide +kernel
theorem dX3_change_128 : decode cX3_change 128 = .ok (.iload_n 1, 1) := by decide +kernel
theorem dX3_change_129 : decode cX3_change 129 = .ok (.iconst 3, 1) := by decide +kernel
theorem dX3_change_130 : decode cX3_change 130 = .ok (.if_icmp .ne 15, 3) := by decide +kernel
theorem dX3_change_133 : decode cX3_change 133 = .ok (.iload_n 2, 1) := by decide +kernel
theorem dX3_change_134 : decode cX3_change 134 = .ok (.lload 6, 2) := by decide +kernel
theorem dX3_change_136 : decode cX3_change 136 = .ok (.l2i, 1) := by decide +kernel
theorem dX3_change_137 : decode cX3_change 137 = .ok (.iload 4, 2) := by decide +kernel
theorem dX3_change_139 : decode cX3_change 139 = .ok (.invokestatic 67, 3) := by decide +kernel
theorem dX3_change_142 : decode cX3_change 142 = .ok (.goto 9, 3) := by decide +kernel
theorem dX3_change_145 : decode cX3_change 145 = .ok (.iload_n 1, 1) := by decide +kernel
theorem dX3_change_146 : decode cX3_change 146 = .ok (.lload 8, 2) := by decide +kernel
theorem dX3_change_148 : decode cX3_change 148 = .ok (.invokestatic 62, 3) := by decide +kernel
theorem dX3_change_151 : decode cX3_change 151 = .ok (.iastore, 1) := by decide +kernel
theorem dX3_change_152 : decode cX3_change 152 = .ok (.aload_n 0, 1) := by decide +kernel
theorem dX3_change_153 : decode cX3_change 153 = .ok (.getfield 7, 3) := by decide +kernel
theorem dX3_change_156 : decode cX3_change 156 = .ok (.iload 5, 2) := by decide +kernel
theorem dX3_change_158 : decode cX3_change 158 = .ok (.iaload, 1) := by decide +kernel
theorem dX3_change_159 : decode cX3_change 159 = .ok (.ireturn, 1) := by decide +kernel
set_option maxRecDepth 20000 in
theorem ggX3_rule_X3_isLane : GoodIn wsX3_rule wsX3_isLane := goodIn_r _ [11] (by decide +kernel) (by decide +kernel)
set_option maxRecDepth 20000 in
theorem gX3_rule_X3_isLane : GoodIn wsX3_rule (va_wsS RX3 48 yX3_isLane wsX3_isLane) := goodIn_app (goodIn_of _ (by decide +kernel)) ggX3_rule_X3_isLane
theorem dX3_rule_0 : decode cX3_rule 0 = .ok (.iload_n 1, 1) := by decide +kernel
theorem dX3_rule_1 : decode cX3_rule 1 = .ok (.invokestatic 48, 3) := by decide +kernel
theorem dX3_rule_4 : decode cX3_rule 4 = .ok (.ifCond .ne 6, 3) := by decide +kernel
theorem dX3_rule_7 : decode cX3_rule 7 = .ok (.ldc 52, 2) := by decide +kernel
theorem dX3_rule_9 : decode cX3_rule 9 = .ok (.ireturn, 1) := by decide +kernel
theorem dX3_rule_10 : decode cX3_rule 10 = .ok (.iload_n 2, 1) := by decide +kernel
theorem dX3_rule_11 : decode cX3_rule 11 = .ok (.bipush 16, 2) := by decide +kernel
theorem dX3_rule_13 : decode cX3_rule 13 = .ok (.if_icmp .gt 9, 3) := by decide +kernel
theorem dX3_rule_16 : decode cX3_rule 16 = .ok (.iload_n 3, 1) := by decide +kernel
theorem dX3_rule_17 : decode cX3_rule 17 = .ok (.bipush 16, 2) := by decide +kernel
theorem dX3_rule_19 : decode cX3_rule 19 = .ok (.if_icmp .le 6, 3) := by decide +kernel
theorem dX3_rule_22 : decode cX3_rule 22 = .ok (.ldc 53, 2) := by decide +kernel
theorem dX3_rule_24 : decode cX3_rule 24 = .ok (.ireturn, 1) := by decide +kernel
theorem dX3_rule_25 : decode cX3_rule 25 = .ok (.iload_n 2, 1) := by decide +kernel
theorem dX3_rule_26 : decode cX3_rule 26 = .ok (.ifCond .lt 7, 3) := by decide +kernel
theorem dX3_rule_29 : decode cX3_rule 29 = .ok (.iload_n 3, 1) := by decide +kernel
theorem dX3_rule_30 : decode cX3_rule 30 = .ok (.ifCond .ge 6, 3) := by decide +kernel
theorem dX3_rule_33 : decode cX3_rule 33 = .ok (.ldc 54, 2) := by decide +kernel
theorem dX3_rule_35 : decode cX3_rule 35 = .ok (.ireturn, 1) := by decide +kernel
theorem dX3_rule_36 : decode cX3_rule 36 = .ok (.aload_n 0, 1) := by decide +kernel
theorem dX3_rule_37 : decode cX3_rule 37 = .ok (.getfield 29, 3) := by decide +kernel
theorem dX3_rule_40 : decode cX3_rule 40 = .ok (.iload_n 1, 1) := by decide +kernel
theorem dX3_rule_41 : decode cX3_rule 41 = .ok (.iconst 1, 1) := by decide +kernel
theorem dX3_rule_42 : decode cX3_rule 42 = .ok (.bastore, 1) := by decide +kernel
theorem dX3_rule_43 : decode cX3_rule 43 = .ok (.aload_n 0, 1) := by decide +kernel
theorem dX3_rule_44 : decode cX3_rule 44 = .ok (.getfield 23, 3) := by decide +kernel
theorem dX3_rule_47 : decode cX3_rule 47 = .ok (.iload_n 1, 1) := by decide +kernel
theorem dX3_rule_48 : decode cX3_rule 48 = .ok (.iload_n 2, 1) := by decide +kernel
theorem dX3_rule_49 : decode cX3_rule 49 = .ok (.iastore, 1) := by decide +kernel
theorem dX3_rule_50 : decode cX3_rule 50 = .ok (.aload_n 0, 1) := by decide +kernel
theorem dX3_rule_51 : decode cX3_rule 51 = .ok (.getfield 26, 3) := by decide +kernel
theorem dX3_rule_54 : decode cX3_rule 54 = .ok (.iload_n 1, 1) := by decide +kernel
theorem dX3_rule_55 : decode cX3_rule 55 = .ok (.iload_n 3, 1) := by decide +kernel
theorem dX3_rule_56 : decode cX3_rule 56 = .ok (.iastore, 1) := by decide +kernel
theorem dX3_rule_57 : decode cX3_rule 57 = .ok (.iconst 0, 1) := by decide +kernel
theorem dX3_rule_58 : decode cX3_rule 58 = .ok (.istore 4, 2) := by decide +kernel
theorem dX3_rule_60 : decode cX3_rule 60 = .ok (.iload 4, 2) := by decide +kernel
theorem dX3_rule_62 : decode cX3_rule 62 = .ok (.sipush 256, 3) := by decide +kernel
theorem dX3_rule_65 : decode cX3_rule 65 = .ok (.if_icmp .ge 23, 3) := by decide +kernel
theorem dX3_rule_68 : decode cX3_rule 68 = .ok (.aload_n 0, 1) := by decide +kernel
theorem dX3_rule_69 : decode cX3_rule 69 = .ok (.getfield 20, 3) := by decide +kernel
theorem dX3_rule_72 : decode cX3_rule 72 = .ok (.sipush 256, 3) := by decide +kernel
theorem dX3_rule_75 : decode cX3_rule 75 = .ok (.iload_n 1, 1) := by decide +kernel
theorem dX3_rule_76 : decode cX3_rule 76 = .ok (.imul, 1) := by decide +kernel
theorem dX3_rule_77 : decode cX3_rule 77 = .ok (.iload 4, 2) := by decide +kernel
theorem dX3_rule_79 : decode cX3_rule 79 = .ok (.iadd, 1) := by decide +kernel
theorem dX3_rule_80 : decode cX3_rule 80 = .ok (.iconst 0, 1) := by decide +kernel
theorem dX3_rule_81 : decode cX3_rule 81 = .ok (.iastore, 1) := by decide +kernel
theorem dX3_rule_82 : decode cX3_rule 82 = .ok (.iinc 4 1, 3) := by decide +kernel
theorem dX3_rule_85 : decode cX3_rule 85 = .ok (.goto (-25), 3) := by decide +kernel
theorem dX3_rule_88 : decode cX3_rule 88 = .ok (.iload_n 2, 1) := by decide +kernel
theorem dX3_rule_89 : decode cX3_rule 89 = .ok (.iload_n 3, 1) := by decide +kernel
theorem dX3_rule_90 : decode cX3_rule 90 = .ok (.imul, 1) := by decide +kernel
theorem dX3_rule_91 : decode cX3_rule 91 = .ok (.ireturn, 1) := by decide +kernel
set_option maxRecDepth 20000 in
theorem ggX3_lay_X3_isLane : GoodIn wsX3_lay wsX3_isLane := goodIn_r _ [14] (by decide +kernel) (by decide +kernel)
set_option maxRecDepth 20000 in
theorem gX3_lay_X3_isLane : GoodIn wsX3_lay (va_wsS RX3 48 yX3_isLane wsX3_isLane) := goodIn_app (goodIn_of _ (by decide +kernel)) ggX3_lay_X3_isLane
set_option maxRecDepth 20000 in
theorem ggX3_lay_X3_off : GoodIn wsX3_lay wsX3_off := goodIn_r _ [18, 19, 20, 27, 28, 29, 30, 31, 32, 33, 34, 35, 36, 37, 38, 39, 40, 41, 42] (by decide +kernel) (by decide +kernel)
set_option maxRecDepth 20000 in
theorem gX3_lay_X3_off : GoodIn wsX3_lay (wsV RX3 55 RX3 yX3_off wsX3_off) := goodIn_app (goodIn_of _ (by decide +kernel)) ggX3_lay_X3_off
set_option maxRecDepth 20000 in
theorem ggX3_lay_X3_out : GoodIn wsX3_lay wsX3_out := goodIn_r _ [24, 25, 26, 27, 28, 29, 30, 31, 32, 33, 34, 35, 36, 37, 38, 39, 40, 41, 42] (by decide +kernel) (by decide +kernel)
set_option maxRecDepth 20000 in
theorem gX3_lay_X3_out : GoodIn wsX3_lay (wsV RX3 59 RX3 yX3_out wsX3_out) := goodIn_app (goodIn_of _ (by decide +kernel)) ggX3_lay_X3_out
theorem dX3_lay_0 : decode cX3_lay 0 = .ok (.iload_n 1, 1) := by decide +kernel
theorem dX3_lay_1 : decode cX3_lay 1 = .ok (.invokestatic 48, 3) := by decide +kernel
theorem dX3_lay_4 : decode cX3_lay 4 = .ok (.ifCond .ne 6, 3) := by decide +kernel
theorem dX3_lay_7 : decode cX3_lay 7 = .ok (.ldc 52, 2) := by decide +kernel
theorem dX3_lay_9 : decode cX3_lay 9 = .ok (.ireturn, 1) := by decide +kernel
theorem dX3_lay_10 : decode cX3_lay 10 = .ok (.aload_n 0, 1) := by decide +kernel
theorem dX3_lay_11 : decode cX3_lay 11 = .ok (.getfield 29, 3) := by decide +kernel
theorem dX3_lay_14 : decode cX3_lay 14 = .ok (.iload_n 1, 1) := by decide +kernel
theorem dX3_lay_15 : decode cX3_lay 15 = .ok (.baload, 1) := by decide +kernel
theorem dX3_lay_16 : decode cX3_lay 16 = .ok (.ifCond .ne 6, 3) := by decide +kernel
theorem dX3_lay_19 : decode cX3_lay 19 = .ok (.ldc 71, 2) := by decide +kernel
theorem dX3_lay_21 : decode cX3_lay 21 = .ok (.ireturn, 1) := by decide +kernel
theorem dX3_lay_22 : decode cX3_lay 22 = .ok (.iload_n 2, 1) := by decide +kernel
theorem dX3_lay_23 : decode cX3_lay 23 = .ok (.ifCond .lt 13, 3) := by decide +kernel
theorem dX3_lay_26 : decode cX3_lay 26 = .ok (.iload_n 2, 1) := by decide +kernel
theorem dX3_lay_27 : decode cX3_lay 27 = .ok (.aload_n 0, 1) := by decide +kernel
theorem dX3_lay_28 : decode cX3_lay 28 = .ok (.getfield 23, 3) := by decide +kernel
theorem dX3_lay_31 : decode cX3_lay 31 = .ok (.iload_n 1, 1) := by decide +kernel
theorem dX3_lay_32 : decode cX3_lay 32 = .ok (.iaload, 1) := by decide +kernel
theorem dX3_lay_33 : decode cX3_lay 33 = .ok (.if_icmp .lt 6, 3) := by decide +kernel
theorem dX3_lay_36 : decode cX3_lay 36 = .ok (.ldc 72, 2) := by decide +kernel
theorem dX3_lay_38 : decode cX3_lay 38 = .ok (.ireturn, 1) := by decide +kernel
theorem dX3_lay_39 : decode cX3_lay 39 = .ok (.aload_n 0, 1) := by decide +kernel
theorem dX3_lay_40 : decode cX3_lay 40 = .ok (.getfield 16, 3) := by decide +kernel
theorem dX3_lay_43 : decode cX3_lay 43 = .ok (.iload_n 1, 1) := by decide +kernel
theorem dX3_lay_44 : decode cX3_lay 44 = .ok (.baload, 1) := by decide +kernel
theorem dX3_lay_45 : decode cX3_lay 45 = .ok (.ifCond .ne 9, 3) := by decide +kernel
theorem dX3_lay_48 : decode cX3_lay 48 = .ok (.aload_n 0, 1) := by decide +kernel
theorem dX3_lay_49 : decode cX3_lay 49 = .ok (.iload_n 1, 1) := by decide +kernel
theorem dX3_lay_50 : decode cX3_lay 50 = .ok (.invokevirtual 55, 3) := by decide +kernel
theorem dX3_lay_53 : decode cX3_lay 53 = .ok (.ireturn, 1) := by decide +kernel
theorem dX3_lay_54 : decode cX3_lay 54 = .ok (.iload_n 3, 1) := by decide +kernel
theorem dX3_lay_55 : decode cX3_lay 55 = .ok (.ifCond .lt 13, 3) := by decide +kernel
theorem dX3_lay_58 : decode cX3_lay 58 = .ok (.iload_n 3, 1) := by decide +kernel
theorem dX3_lay_59 : decode cX3_lay 59 = .ok (.aload_n 0, 1) := by decide +kernel
theorem dX3_lay_60 : decode cX3_lay 60 = .ok (.getfield 13, 3) := by decide +kernel
theorem dX3_lay_63 : decode cX3_lay 63 = .ok (.iload_n 1, 1) := by decide +kernel
theorem dX3_lay_64 : decode cX3_lay 64 = .ok (.iaload, 1) := by decide +kernel
theorem dX3_lay_65 : decode cX3_lay 65 = .ok (.if_icmp .le 9, 3) := by decide +kernel
theorem dX3_lay_68 : decode cX3_lay 68 = .ok (.aload_n 0, 1) := by decide +kernel
theorem dX3_lay_69 : decode cX3_lay 69 = .ok (.iload_n 1, 1) := by decide +kernel
theorem dX3_lay_70 : decode cX3_lay 70 = .ok (.invokevirtual 59, 3) := by decide +kernel
theorem dX3_lay_73 : decode cX3_lay 73 = .ok (.ireturn, 1) := by decide +kernel
theorem dX3_lay_74 : decode cX3_lay 74 = .ok (.iconst 0, 1) := by decide +kernel
theorem dX3_lay_75 : decode cX3_lay 75 = .ok (.istore 4, 2) := by decide +kernel
theorem dX3_lay_77 : decode cX3_lay 77 = .ok (.iload 4, 2) := by decide +kernel
theorem dX3_lay_79 : decode cX3_lay 79 = .ok (.aload_n 0, 1) := by decide +kernel
theorem dX3_lay_80 : decode cX3_lay 80 = .ok (.getfield 26, 3) := by decide +kernel
theorem dX3_lay_83 : decode cX3_lay 83 = .ok (.iload_n 1, 1) := by decide +kernel
theorem dX3_lay_84 : decode cX3_lay 84 = .ok (.iaload, 1) := by decide +kernel
theorem dX3_lay_85 : decode cX3_lay 85 = .ok (.if_icmp .ge 54, 3) := by decide +kernel
theorem dX3_lay_88 : decode cX3_lay 88 = .ok (.iload_n 3, 1) := by decide +kernel
theorem dX3_lay_89 : decode cX3_lay 89 = .ok (.iload 4, 2) := by decide +kernel
theorem dX3_lay_91 : decode cX3_lay 91 = .ok (.iadd, 1) := by decide +kernel
theorem dX3_lay_92 : decode cX3_lay 92 = .ok (.aload_n 0, 1) := by decide +kernel
theorem dX3_lay_93 : decode cX3_lay 93 = .ok (.getfield 13, 3) := by decide +kernel
theorem dX3_lay_96 : decode cX3_lay 96 = .ok (.iload_n 1, 1) := by decide +kernel
theorem dX3_lay_97 : decode cX3_lay 97 = .ok (.iaload, 1) := by decide +kernel
theorem dX3_lay_98 : decode cX3_lay 98 = .ok (.if_icmp .ge 41, 3) := by decide +kernel
theorem dX3_lay_101 : decode cX3_lay 101 = .ok (.aload_n 0, 1) := by decide +kernel
theorem dX3_lay_102 : decode cX3_lay 102 = .ok (.getfield 20, 3) := by decide +kernel
theorem dX3_lay_105 : decode cX3_lay 105 = .ok (.sipush 256, 3) := by decide +kernel
theorem dX3_lay_108 : decode cX3_lay 108 = .ok (.iload_n 1, 1) := by decide +kernel
theorem dX3_lay_109 : decode cX3_lay 109 = .ok (.imul, 1) := by decide +kernel
theorem dX3_lay_110 : decode cX3_lay 110 = .ok (.bipush 16, 2) := by decide +kernel
theorem dX3_lay_112 : decode cX3_lay 112 = .ok (.iload_n 2, 1) := by decide +kernel
theorem dX3_lay_113 : decode cX3_lay 113 = .ok (.imul, 1) := by decide +kernel
theorem dX3_lay_114 : decode cX3_lay 114 = .ok (.iadd, 1) := by decide +kernel
theorem dX3_lay_115 : decode cX3_lay 115 = .ok (.iload 4, 2) := by decide +kernel
theorem dX3_lay_117 : decode cX3_lay 117 = .ok (.iadd, 1) := by decide +kernel
theorem dX3_lay_118 : decode cX3_lay 118 = .ok (.aload_n 0, 1) := by decide +kernel
theorem dX3_lay_119 : decode cX3_lay 119 = .ok (.getfield 7, 3) := by decide +kernel
theorem dX3_lay_122 : decode cX3_lay 122 = .ok (.bipush 60, 2) := by decide +kernel
theorem dX3_lay_124 : decode cX3_lay 124 = .ok (.iload_n 1, 1) := by decide +kernel
theorem dX3_lay_125 : decode cX3_lay 125 = .ok (.imul, 1) := by decide +kernel
theorem dX3_lay_126 : decode cX3_lay 126 = .ok (.iload_n 3, 1) := by decide +kernel
theorem dX3_lay_127 : decode cX3_lay 127 = .ok (.iadd, 1) := by decide +kernel
theorem dX3_lay_128 : decode cX3_lay 128 = .ok (.iload 4, 2) := by decide +kernel
theorem dX3_lay_130 : decode cX3_lay 130 = .ok (.iadd, 1) := by decide +kernel
theorem dX3_lay_131 : decode cX3_lay 131 = .ok (.iaload, 1) := by decide +kernel
theorem dX3_lay_132 : decode cX3_lay 132 = .ok (.iastore, 1) := by decide +kernel
theorem dX3_lay_133 : decode cX3_lay 133 = .ok (.iinc 4 1, 3) := by decide +kernel
theorem dX3_lay_136 : decode cX3_lay 136 = .ok (.goto (-59), 3) := by decide +kernel
theorem dX3_lay_139 : decode cX3_lay 139 = .ok (.iload 4, 2) := by decide +kernel
theorem dX3_lay_141 : decode cX3_lay 141 = .ok (.ireturn, 1) := by decide +kernel
set_option maxRecDepth 20000 in
theorem ggX3_at_X3_isLane : GoodIn wsX3_at wsX3_isLane := goodIn_r _ [12] (by decide +kernel) (by decide +kernel)
set_option maxRecDepth 20000 in
theorem gX3_at_X3_isLane : GoodIn wsX3_at (va_wsS RX3 48 yX3_isLane wsX3_isLane) := goodIn_app (goodIn_of _ (by decide +kernel)) ggX3_at_X3_isLane
theorem dX3_at_0 : decode cX3_at 0 = .ok (.iload_n 1, 1) := by decide +kernel
theorem dX3_at_1 : decode cX3_at 1 = .ok (.invokestatic 48, 3) := by decide +kernel
theorem dX3_at_4 : decode cX3_at 4 = .ok (.ifCond .ne 6, 3) := by decide +kernel
theorem dX3_at_7 : decode cX3_at 7 = .ok (.ldc 52, 2) := by decide +kernel
theorem dX3_at_9 : decode cX3_at 9 = .ok (.ireturn, 1) := by decide +kernel
theorem dX3_at_10 : decode cX3_at 10 = .ok (.aload_n 0, 1) := by decide +kernel
theorem dX3_at_11 : decode cX3_at 11 = .ok (.getfield 29, 3) := by decide +kernel
theorem dX3_at_14 : decode cX3_at 14 = .ok (.iload_n 1, 1) := by decide +kernel
theorem dX3_at_15 : decode cX3_at 15 = .ok (.baload, 1) := by decide +kernel
theorem dX3_at_16 : decode cX3_at 16 = .ok (.ifCond .ne 6, 3) := by decide +kernel
theorem dX3_at_19 : decode cX3_at 19 = .ok (.ldc 71, 2) := by decide +kernel
theorem dX3_at_21 : decode cX3_at 21 = .ok (.ireturn, 1) := by decide +kernel
theorem dX3_at_22 : decode cX3_at 22 = .ok (.iload_n 2, 1) := by decide +kernel
theorem dX3_at_23 : decode cX3_at 23 = .ok (.ifCond .lt 13, 3) := by decide +kernel
theorem dX3_at_26 : decode cX3_at 26 = .ok (.iload_n 2, 1) := by decide +kernel
theorem dX3_at_27 : decode cX3_at 27 = .ok (.aload_n 0, 1) := by decide +kernel
theorem dX3_at_28 : decode cX3_at 28 = .ok (.getfield 23, 3) := by decide +kernel
theorem dX3_at_31 : decode cX3_at 31 = .ok (.iload_n 1, 1) := by decide +kernel
theorem dX3_at_32 : decode cX3_at 32 = .ok (.iaload, 1) := by decide +kernel
theorem dX3_at_33 : decode cX3_at 33 = .ok (.if_icmp .lt 6, 3) := by decide +kernel
theorem dX3_at_36 : decode cX3_at 36 = .ok (.ldc 72, 2) := by decide +kernel
theorem dX3_at_38 : decode cX3_at 38 = .ok (.ireturn, 1) := by decide +kernel
theorem dX3_at_39 : decode cX3_at 39 = .ok (.iload_n 3, 1) := by decide +kernel
theorem dX3_at_40 : decode cX3_at 40 = .ok (.ifCond .lt 13, 3) := by decide +kernel
theorem dX3_at_43 : decode cX3_at 43 = .ok (.iload_n 3, 1) := by decide +kernel
theorem dX3_at_44 : decode cX3_at 44 = .ok (.aload_n 0, 1) := by decide +kernel
theorem dX3_at_45 : decode cX3_at 45 = .ok (.getfield 26, 3) := by decide +kernel
theorem dX3_at_48 : decode cX3_at 48 = .ok (.iload_n 1, 1) := by decide +kernel
theorem dX3_at_49 : decode cX3_at 49 = .ok (.iaload, 1) := by decide +kernel
theorem dX3_at_50 : decode cX3_at 50 = .ok (.if_icmp .lt 6, 3) := by decide +kernel
theorem dX3_at_53 : decode cX3_at 53 = .ok (.ldc 73, 2) := by decide +kernel
theorem dX3_at_55 : decode cX3_at 55 = .ok (.ireturn, 1) := by decide +kernel
theorem dX3_at_56 : decode cX3_at 56 = .ok (.aload_n 0, 1) := by decide +kernel
theorem dX3_at_57 : decode cX3_at 57 = .ok (.getfield 20, 3) := by decide +kernel
theorem dX3_at_60 : decode cX3_at 60 = .ok (.sipush 256, 3) := by decide +kernel
theorem dX3_at_63 : decode cX3_at 63 = .ok (.iload_n 1, 1) := by decide +kernel
theorem dX3_at_64 : decode cX3_at 64 = .ok (.imul, 1) := by decide +kernel
theorem dX3_at_65 : decode cX3_at 65 = .ok (.bipush 16, 2) := by decide +kernel
theorem dX3_at_67 : decode cX3_at 67 = .ok (.iload_n 2, 1) := by decide +kernel
theorem dX3_at_68 : decode cX3_at 68 = .ok (.imul, 1) := by decide +kernel
theorem dX3_at_69 : decode cX3_at 69 = .ok (.iadd, 1) := by decide +kernel
theorem dX3_at_70 : decode cX3_at 70 = .ok (.iload_n 3, 1) := by decide +kernel
theorem dX3_at_71 : decode cX3_at 71 = .ok (.iadd, 1) := by decide +kernel
theorem dX3_at_72 : decode cX3_at 72 = .ok (.iaload, 1) := by decide +kernel
theorem dX3_at_73 : decode cX3_at 73 = .ok (.ireturn, 1) := by decide +kernel
theorem dX3_head_0 : decode cX3_head 0 = .ok (.iload_n 1, 1) := by decide +kernel
theorem dX3_head_1 : decode cX3_head 1 = .ok (.bipush 60, 2) := by decide +kernel
theorem dX3_head_3 : decode cX3_head 3 = .ok (.if_icmp .le 6, 3) := by decide +kernel
theorem dX3_head_6 : decode cX3_head 6 = .ok (.ldc 53, 2) := by decide +kernel
theorem dX3_head_8 : decode cX3_head 8 = .ok (.ireturn, 1) := by decide +kernel
theorem dX3_head_9 : decode cX3_head 9 = .ok (.iload_n 1, 1) := by decide +kernel
theorem dX3_head_10 : decode cX3_head 10 = .ok (.ifCond .ge 6, 3) := by decide +kernel
theorem dX3_head_13 : decode cX3_head 13 = .ok (.ldc 54, 2) := by decide +kernel
theorem dX3_head_15 : decode cX3_head 15 = .ok (.ireturn, 1) := by decide +kernel
theorem dX3_head_16 : decode cX3_head 16 = .ok (.aload_n 0, 1) := by decide +kernel
theorem dX3_head_17 : decode cX3_head 17 = .ok (.getfield 74, 3) := by decide +kernel
theorem dX3_head_20 : decode cX3_head 20 = .ok (.istore_n 2, 1) := by decide +kernel
theorem dX3_head_21 : decode cX3_head 21 = .ok (.aload_n 0, 1) := by decide +kernel
theorem dX3_head_22 : decode cX3_head 22 = .ok (.iload_n 1, 1) := by decide +kernel
theorem dX3_head_23 : decode cX3_head 23 = .ok (.putfield 74, 3) := by decide +kernel
theorem dX3_head_26 : decode cX3_head 26 = .ok (.iload_n 2, 1) := by decide +kernel
theorem dX3_head_27 : decode cX3_head 27 = .ok (.ireturn, 1) := by decide +kernel
theorem dX3_has_0 : decode cX3_has 0 = .ok (.aload_n 0, 1) := by decide +kernel
theorem dX3_has_1 : decode cX3_has 1 = .ok (.getfield 16, 3) := by decide +kernel
theorem dX3_has_4 : decode cX3_has 4 = .ok (.iload_n 1, 1) := by decide +kernel
theorem dX3_has_5 : decode cX3_has 5 = .ok (.baload, 1) := by decide +kernel
theorem dX3_has_6 : decode cX3_has 6 = .ok (.ifCond .eq 20, 3) := by decide +kernel
theorem dX3_has_9 : decode cX3_has 9 = .ok (.aload_n 0, 1) := by decide +kernel
theorem dX3_has_10 : decode cX3_has 10 = .ok (.getfield 74, 3) := by decide +kernel
theorem dX3_has_13 : decode cX3_has 13 = .ok (.aload_n 0, 1) := by decide +kernel
theorem dX3_has_14 : decode cX3_has 14 = .ok (.getfield 13, 3) := by decide +kernel
theorem dX3_has_17 : decode cX3_has 17 = .ok (.iload_n 1, 1) := by decide +kernel
theorem dX3_has_18 : decode cX3_has 18 = .ok (.iaload, 1) := by decide +kernel
theorem dX3_has_19 : decode cX3_has 19 = .ok (.if_icmp .ge 7, 3) := by decide +kernel
theorem dX3_has_22 : decode cX3_has 22 = .ok (.iconst 1, 1) := by decide +kernel
theorem dX3_has_23 : decode cX3_has 23 = .ok (.goto 4, 3) := by decide +kernel
theorem dX3_has_26 : decode cX3_has 26 = .ok (.iconst 0, 1) := by decide +kernel
theorem dX3_has_27 : decode cX3_has 27 = .ok (.ireturn, 1) := by decide +kernel
set_option maxRecDepth 20000 in
theorem ggX3_told_X3_has : GoodIn wsX3_told wsX3_has := goodIn_r _ [7, 8, 2, 9, 10, 11, 12, 13, 14, 15, 16, 17, 18, 19, 20, 21, 22, 23, 24, 25] (by decide +kernel) (by decide +kernel)
set_option maxRecDepth 20000 in
theorem gX3_told_X3_has : GoodIn wsX3_told (wsV RX3 78 RX3 yX3_has wsX3_has) := goodIn_app (goodIn_of _ (by decide +kernel)) ggX3_told_X3_has
theorem dX3_told_0 : decode cX3_told 0 = .ok (.aload_n 0, 1) := by decide +kernel
theorem dX3_told_1 : decode cX3_told 1 = .ok (.iload_n 1, 1) := by decide +kernel
theorem dX3_told_2 : decode cX3_told 2 = .ok (.invokevirtual 78, 3) := by decide +kernel
theorem dX3_told_5 : decode cX3_told 5 = .ok (.ifCond .eq 20, 3) := by decide +kernel
theorem dX3_told_8 : decode cX3_told 8 = .ok (.aload_n 0, 1) := by decide +kernel
theorem dX3_told_9 : decode cX3_told 9 = .ok (.getfield 7, 3) := by decide +kernel
theorem dX3_told_12 : decode cX3_told 12 = .ok (.bipush 60, 2) := by decide +kernel
theorem dX3_told_14 : decode cX3_told 14 = .ok (.iload_n 1, 1) := by decide +kernel
theorem dX3_told_15 : decode cX3_told 15 = .ok (.imul, 1) := by decide +kernel
theorem dX3_told_16 : decode cX3_told 16 = .ok (.aload_n 0, 1) := by decide +kernel
theorem dX3_told_17 : decode cX3_told 17 = .ok (.getfield 74, 3) := by decide +kernel
theorem dX3_told_20 : decode cX3_told 20 = .ok (.iadd, 1) := by decide +kernel
theorem dX3_told_21 : decode cX3_told 21 = .ok (.iaload, 1) := by decide +kernel
theorem dX3_told_22 : decode cX3_told 22 = .ok (.goto 4, 3) := by decide +kernel
theorem dX3_told_25 : decode cX3_told 25 = .ok (.iload_n 2, 1) := by decide +kernel
theorem dX3_told_26 : decode cX3_told 26 = .ok (.ireturn, 1) := by decide +kernel
theorem dX3_less_0 : decode cX3_less 0 = .ok (.aload_n 0, 1) := by decide +kernel
theorem dX3_less_1 : decode cX3_less 1 = .ok (.getfield 7, 3) := by decide +kernel
theorem dX3_less_4 : decode cX3_less 4 = .ok (.bipush 60, 2) := by decide +kernel
theorem dX3_less_6 : decode cX3_less 6 = .ok (.iload_n 1, 1) := by decide +kernel
theorem dX3_less_7 : decode cX3_less 7 = .ok (.imul, 1) := by decide +kernel
theorem dX3_less_8 : decode cX3_less 8 = .ok (.aload_n 0, 1) := by decide +kernel
theorem dX3_less_9 : decode cX3_less 9 = .ok (.getfield 74, 3) := by decide +kernel
theorem dX3_less_12 : decode cX3_less 12 = .ok (.iadd, 1) := by decide +kernel
theorem dX3_less_13 : decode cX3_less 13 = .ok (.aload_n 0, 1) := by decide +kernel
theorem dX3_less_14 : decode cX3_less 14 = .ok (.getfield 7, 3) := by decide +kernel
theorem dX3_less_17 : decode cX3_less 17 = .ok (.bipush 60, 2) := by decide +kernel
theorem dX3_less_19 : decode cX3_less 19 = .ok (.iload_n 1, 1) := by decide +kernel
theorem dX3_less_20 : decode cX3_less 20 = .ok (.imul, 1) := by decide +kernel
theorem dX3_less_21 : decode cX3_less 21 = .ok (.aload_n 0, 1) := by decide +kernel
theorem dX3_less_22 : decode cX3_less 22 = .ok (.getfield 74, 3) := by decide +kernel
theorem dX3_less_25 : decode cX3_less 25 = .ok (.iadd, 1) := by decide +kernel
theorem dX3_less_26 : decode cX3_less 26 = .ok (.iaload, 1) := by decide +kernel
theorem dX3_less_27 : decode cX3_less 27 = .ok (.iconst 1, 1) := by decide +kernel
theorem dX3_less_28 : decode cX3_less 28 = .ok (.isub, 1) := by decide +kernel
theorem dX3_less_29 : decode cX3_less 29 = .ok (.iastore, 1) := by decide +kernel
theorem dX3_less_30 : decode cX3_less 30 = .ok (.return_, 1) := by decide +kernel
set_option maxRecDepth 20000 in
theorem ggX3_note_X3_told : GoodIn wsX3_note wsX3_told := goodIn_r _ [9, 10, 11, 12, 13, 14, 8, 15, 16, 17, 18, 19, 20, 21, 22, 23, 24, 25, 26, 27, 28, 29, 30, 31, 32, 33] (by decide +kernel) (by decide +kernel)
set_option maxRecDepth 20000 in
theorem gX3_note_X3_told : GoodIn wsX3_note (wsV RX3 81 RX3 yX3_told wsX3_told) := goodIn_app (goodIn_of _ (by decide +kernel)) ggX3_note_X3_told
theorem dX3_note_0 : decode cX3_note 0 = .ok (.aload_n 0, 1) := by decide +kernel
theorem dX3_note_1 : decode cX3_note 1 = .ok (.iconst 1, 1) := by decide +kernel
theorem dX3_note_2 : decode cX3_note 2 = .ok (.iconst 1, 1) := by decide +kernel
theorem dX3_note_3 : decode cX3_note 3 = .ok (.invokevirtual 81, 3) := by decide +kernel
theorem dX3_note_6 : decode cX3_note 6 = .ok (.istore_n 1, 1) := by decide +kernel
theorem dX3_note_7 : decode cX3_note 7 = .ok (.aload_n 0, 1) := by decide +kernel
theorem dX3_note_8 : decode cX3_note 8 = .ok (.iconst 3, 1) := by decide +kernel
theorem dX3_note_9 : decode cX3_note 9 = .ok (.iconst 0, 1) := by decide +kernel
theorem dX3_note_10 : decode cX3_note 10 = .ok (.invokevirtual 81, 3) := by decide +kernel
theorem dX3_note_13 : decode cX3_note 13 = .ok (.iconst 1, 1) := by decide +kernel
theorem dX3_note_14 : decode cX3_note 14 = .ok (.if_icmp .ne 9, 3) := by decide +kernel
theorem dX3_note_17 : decode cX3_note 17 = .ok (.iconst 2, 1) := by decide +kernel
theorem dX3_note_18 : decode cX3_note 18 = .ok (.iload_n 1, 1) := by decide +kernel
theorem dX3_note_19 : decode cX3_note 19 = .ok (.imul, 1) := by decide +kernel
theorem dX3_note_20 : decode cX3_note 20 = .ok (.goto 4, 3) := by decide +kernel
theorem dX3_note_23 : decode cX3_note 23 = .ok (.iload_n 1, 1) := by decide +kernel
theorem dX3_note_24 : decode cX3_note 24 = .ok (.istore_n 1, 1) := by decide +kernel
theorem dX3_note_25 : decode cX3_note 25 = .ok (.aload_n 0, 1) := by decide +kernel
theorem dX3_note_26 : decode cX3_note 26 = .ok (.aload_n 0, 1) := by decide +kernel
theorem dX3_note_27 : decode cX3_note 27 = .ok (.getfield 85, 3) := by decide +kernel
theorem dX3_note_30 : decode cX3_note 30 = .ok (.iload_n 1, 1) := by decide +kernel
theorem dX3_note_31 : decode cX3_note 31 = .ok (.iadd, 1) := by decide +kernel
theorem dX3_note_32 : decode cX3_note 32 = .ok (.putfield 85, 3) := by decide +kernel
theorem dX3_note_35 : decode cX3_note 35 = .ok (.aload_n 0, 1) := by decide +kernel
theorem dX3_note_36 : decode cX3_note 36 = .ok (.aload_n 0, 1) := by decide +kernel
theorem dX3_note_37 : decode cX3_note 37 = .ok (.getfield 88, 3) := by decide +kernel
theorem dX3_note_40 : decode cX3_note 40 = .ok (.iconst 1, 1) := by decide +kernel
theorem dX3_note_41 : decode cX3_note 41 = .ok (.iadd, 1) := by decide +kernel
theorem dX3_note_42 : decode cX3_note 42 = .ok (.putfield 88, 3) := by decide +kernel
theorem dX3_note_45 : decode cX3_note 45 = .ok (.aload_n 0, 1) := by decide +kernel
theorem dX3_note_46 : decode cX3_note 46 = .ok (.aload_n 0, 1) := by decide +kernel
theorem dX3_note_47 : decode cX3_note 47 = .ok (.getfield 91, 3) := by decide +kernel
theorem dX3_note_50 : decode cX3_note 50 = .ok (.iload_n 1, 1) := by decide +kernel
theorem dX3_note_51 : decode cX3_note 51 = .ok (.aload_n 0, 1) := by decide +kernel
theorem dX3_note_52 : decode cX3_note 52 = .ok (.iconst 4, 1) := by decide +kernel
theorem dX3_note_53 : decode cX3_note 53 = .ok (.iconst 0, 1) := by decide +kernel
theorem dX3_note_54 : decode cX3_note 54 = .ok (.invokevirtual 81, 3) := by decide +kernel
theorem dX3_note_57 : decode cX3_note 57 = .ok (.aload_n 0, 1) := by decide +kernel
theorem dX3_note_58 : decode cX3_note 58 = .ok (.getfield 94, 3) := by decide +kernel
theorem dX3_note_61 : decode cX3_note 61 = .ok (.iadd, 1) := by decide +kernel
theorem dX3_note_62 : decode cX3_note 62 = .ok (.imul, 1) := by decide +kernel
theorem dX3_note_63 : decode cX3_note 63 = .ok (.iadd, 1) := by decide +kernel
theorem dX3_note_64 : decode cX3_note 64 = .ok (.putfield 91, 3) := by decide +kernel
theorem dX3_note_67 : decode cX3_note 67 = .ok (.aload_n 0, 1) := by decide +kernel
theorem dX3_note_68 : decode cX3_note 68 = .ok (.aload_n 0, 1) := by decide +kernel
theorem dX3_note_69 : decode cX3_note 69 = .ok (.getfield 91, 3) := by decide +kernel
theorem dX3_note_72 : decode cX3_note 72 = .ok (.aload_n 0, 1) := by decide +kernel
theorem dX3_note_73 : decode cX3_note 73 = .ok (.iconst 2, 1) := by decide +kernel
theorem dX3_note_74 : decode cX3_note 74 = .ok (.bipush 8, 2) := by decide +kernel
theorem dX3_note_76 : decode cX3_note 76 = .ok (.invokevirtual 81, 3) := by decide +kernel
theorem dX3_note_79 : decode cX3_note 79 = .ok (.iadd, 1) := by decide +kernel
theorem dX3_note_80 : decode cX3_note 80 = .ok (.putfield 91, 3) := by decide +kernel
theorem dX3_note_83 : decode cX3_note 83 = .ok (.return_, 1) := by decide +kernel
set_option maxRecDepth 20000 in
theorem ggX3_step_X3_told : GoodIn wsX3_step wsX3_told := goodIn_r _ [11, 1, 2, 12, 13, 14, 10, 15, 16, 17, 28, 29, 30, 31, 32, 33, 34, 35, 36, 37, 38, 39, 40, 41, 42, 43] (by decide +kernel) (by decide +kernel)
set_option maxRecDepth 20000 in
theorem gX3_step_X3_told : GoodIn wsX3_step (wsV RX3 81 RX3 yX3_told wsX3_told) := goodIn_app (goodIn_of _ (by decide +kernel)) ggX3_step_X3_told
set_option maxRecDepth 20000 in
theorem ggX3_step_X3_less : GoodIn wsX3_step wsX3_less := goodIn_r _ [21, 1, 2, 28, 29, 30, 31, 32, 33, 34, 35, 36, 37, 38, 39, 40, 41, 42, 43] (by decide +kernel) (by decide +kernel)
set_option maxRecDepth 20000 in
theorem gX3_step_X3_less : GoodIn wsX3_step (wsV RX3 97 RX3 yX3_less wsX3_less) := goodIn_app (goodIn_of _ (by decide +kernel)) ggX3_step_X3_less
set_option maxRecDepth 20000 in
theorem ggX3_step_X3_note : GoodIn wsX3_step wsX3_note := goodIn_r _ [25, 4, 26, 27, 5, 7, 8, 9, 10, 11, 1, 2, 12, 13, 14, 15, 16, 17, 28, 29, 30, 31, 32, 33, 34, 35, 36, 37, 38, 39, 40, 41, 42, 43] (by decide +kernel) (by decide +kernel)
set_option maxRecDepth 20000 in
theorem gX3_step_X3_note : GoodIn wsX3_step (wsV RX3 104 RX3 yX3_note wsX3_note) := goodIn_app (goodIn_of _ (by decide +kernel)) ggX3_step_X3_note
theorem dX3_step_0 : decode cX3_step 0 = .ok (.aload_n 0, 1) := by decide +kernel
theorem dX3_step_1 : decode cX3_step 1 = .ok (.getfield 7, 3) := by decide +kernel
theorem dX3_step_4 : decode cX3_step 4 = .ok (.iconst 0, 1) := by decide +kernel
theorem dX3_step_5 : decode cX3_step 5 = .ok (.aload_n 0, 1) := by decide +kernel
theorem dX3_step_6 : decode cX3_step 6 = .ok (.getfield 74, 3) := by decide +kernel
theorem dX3_step_9 : decode cX3_step 9 = .ok (.iadd, 1) := by decide +kernel
theorem dX3_step_10 : decode cX3_step 10 = .ok (.iaload, 1) := by decide +kernel
theorem dX3_step_11 : decode cX3_step 11 = .ok (.istore_n 1, 1) := by decide +kernel
theorem dX3_step_12 : decode cX3_step 12 = .ok (.iload_n 1, 1) := by decide +kernel
theorem dX3_step_13 : decode cX3_step 13 = .ok (.bipush 114, 2) := by decide +kernel
theorem dX3_step_15 : decode cX3_step 15 = .ok (.if_icmp .ne 26, 3) := by decide +kernel
theorem dX3_step_18 : decode cX3_step 18 = .ok (.aload_n 0, 1) := by decide +kernel
theorem dX3_step_19 : decode cX3_step 19 = .ok (.iconst 1, 1) := by decide +kernel
theorem dX3_step_20 : decode cX3_step 20 = .ok (.iconst 0, 1) := by decide +kernel
theorem dX3_step_21 : decode cX3_step 21 = .ok (.invokevirtual 81, 3) := by decide +kernel
theorem dX3_step_24 : decode cX3_step 24 = .ok (.ifCond .le 17, 3) := by decide +kernel
theorem dX3_step_27 : decode cX3_step 27 = .ok (.aload_n 0, 1) := by decide +kernel
theorem dX3_step_28 : decode cX3_step 28 = .ok (.iconst 1, 1) := by decide +kernel
theorem dX3_step_29 : decode cX3_step 29 = .ok (.invokevirtual 97, 3) := by decide +kernel
theorem dX3_step_32 : decode cX3_step 32 = .ok (.aload_n 0, 1) := by decide +kernel
theorem dX3_step_33 : decode cX3_step 33 = .ok (.aload_n 0, 1) := by decide +kernel
theorem dX3_step_34 : decode cX3_step 34 = .ok (.getfield 101, 3) := by decide +kernel
theorem dX3_step_37 : decode cX3_step 37 = .ok (.putfield 74, 3) := by decide +kernel
theorem dX3_step_40 : decode cX3_step 40 = .ok (.return_, 1) := by decide +kernel
theorem dX3_step_41 : decode cX3_step 41 = .ok (.iload_n 1, 1) := by decide +kernel
theorem dX3_step_42 : decode cX3_step 42 = .ok (.bipush 46, 2) := by decide +kernel
theorem dX3_step_44 : decode cX3_step 44 = .ok (.if_icmp .ne 21, 3) := by decide +kernel
theorem dX3_step_47 : decode cX3_step 47 = .ok (.aload_n 0, 1) := by decide +kernel
theorem dX3_step_48 : decode cX3_step 48 = .ok (.aload_n 0, 1) := by decide +kernel
theorem dX3_step_49 : decode cX3_step 49 = .ok (.getfield 85, 3) := by decide +kernel
theorem dX3_step_52 : decode cX3_step 52 = .ok (.aload_n 0, 1) := by decide +kernel
theorem dX3_step_53 : decode cX3_step 53 = .ok (.iconst 1, 1) := by decide +kernel
theorem dX3_step_54 : decode cX3_step 54 = .ok (.iconst 1, 1) := by decide +kernel
theorem dX3_step_55 : decode cX3_step 55 = .ok (.invokevirtual 81, 3) := by decide +kernel
theorem dX3_step_58 : decode cX3_step 58 = .ok (.iadd, 1) := by decide +kernel
theorem dX3_step_59 : decode cX3_step 59 = .ok (.putfield 85, 3) := by decide +kernel
theorem dX3_step_62 : decode cX3_step 62 = .ok (.goto 97, 3) := by decide +kernel
theorem dX3_step_65 : decode cX3_step 65 = .ok (.iload_n 1, 1) := by decide +kernel
theorem dX3_step_66 : decode cX3_step 66 = .ok (.bipush 110, 2) := by decide +kernel
theorem dX3_step_68 : decode cX3_step 68 = .ok (.if_icmp .ne 10, 3) := by decide +kernel
theorem dX3_step_71 : decode cX3_step 71 = .ok (.aload_n 0, 1) := by decide +kernel
theorem dX3_step_72 : decode cX3_step 72 = .ok (.invokevirtual 104, 3) := by decide +kernel
theorem dX3_step_75 : decode cX3_step 75 = .ok (.goto 84, 3) := by decide +kernel
theorem dX3_step_78 : decode cX3_step 78 = .ok (.iload_n 1, 1) := by decide +kernel
theorem dX3_step_79 : decode cX3_step 79 = .ok (.bipush 116, 2) := by decide +kernel
theorem dX3_step_81 : decode cX3_step 81 = .ok (.if_icmp .ne 16, 3) := by decide +kernel
theorem dX3_step_84 : decode cX3_step 84 = .ok (.aload_n 0, 1) := by decide +kernel
theorem dX3_step_85 : decode cX3_step 85 = .ok (.aload_n 0, 1) := by decide +kernel
theorem dX3_step_86 : decode cX3_step 86 = .ok (.iconst 4, 1) := by decide +kernel
theorem dX3_step_87 : decode cX3_step 87 = .ok (.iconst 0, 1) := by decide +kernel
theorem dX3_step_88 : decode cX3_step 88 = .ok (.invokevirtual 81, 3) := by decide +kernel
theorem dX3_step_91 : decode cX3_step 91 = .ok (.putfield 94, 3) := by decide +kernel
theorem dX3_step_94 : decode cX3_step 94 = .ok (.goto 65, 3) := by decide +kernel
theorem dX3_step_97 : decode cX3_step 97 = .ok (.iload_n 1, 1) := by decide +kernel
theorem dX3_step_98 : decode cX3_step 98 = .ok (.bipush 124, 2) := by decide +kernel
theorem dX3_step_100 : decode cX3_step 100 = .ok (.if_icmp .ne 14, 3) := by decide +kernel
theorem dX3_step_103 : decode cX3_step 103 = .ok (.aload_n 0, 1) := by decide +kernel
theorem dX3_step_104 : decode cX3_step 104 = .ok (.aload_n 0, 1) := by decide +kernel
theorem dX3_step_105 : decode cX3_step 105 = .ok (.getfield 74, 3) := by decide +kernel
theorem dX3_step_108 : decode cX3_step 108 = .ok (.putfield 101, 3) := by decide +kernel
theorem dX3_step_111 : decode cX3_step 111 = .ok (.goto 48, 3) := by decide +kernel
theorem dX3_step_114 : decode cX3_step 114 = .ok (.iload_n 1, 1) := by decide +kernel
theorem dX3_step_115 : decode cX3_step 115 = .ok (.bipush 119, 2) := by decide +kernel
theorem dX3_step_117 : decode cX3_step 117 = .ok (.if_icmp .ne 20, 3) := by decide +kernel
theorem dX3_step_120 : decode cX3_step 120 = .ok (.aload_n 0, 1) := by decide +kernel
theorem dX3_step_121 : decode cX3_step 121 = .ok (.iconst 2, 1) := by decide +kernel
theorem dX3_step_122 : decode cX3_step 122 = .ok (.iconst 0, 1) := by decide +kernel
theorem dX3_step_123 : decode cX3_step 123 = .ok (.invokevirtual 81, 3) := by decide +kernel
theorem dX3_step_126 : decode cX3_step 126 = .ok (.ifCond .le 11, 3) := by decide +kernel
theorem dX3_step_129 : decode cX3_step 129 = .ok (.aload_n 0, 1) := by decide +kernel
theorem dX3_step_130 : decode cX3_step 130 = .ok (.iconst 2, 1) := by decide +kernel
theorem dX3_step_131 : decode cX3_step 131 = .ok (.invokevirtual 97, 3) := by decide +kernel
theorem dX3_step_134 : decode cX3_step 134 = .ok (.goto 25, 3) := by decide +kernel
theorem dX3_step_137 : decode cX3_step 137 = .ok (.iload_n 1, 1) := by decide +kernel
theorem dX3_step_138 : decode cX3_step 138 = .ok (.bipush 114, 2) := by decide +kernel
theorem dX3_step_140 : decode cX3_step 140 = .ok (.if_icmp .eq 19, 3) := by decide +kernel
theorem dX3_step_143 : decode cX3_step 143 = .ok (.iload_n 1, 1) := by decide +kernel
theorem dX3_step_144 : decode cX3_step 144 = .ok (.bipush 119, 2) := by decide +kernel
theorem dX3_step_146 : decode cX3_step 146 = .ok (.if_icmp .eq 13, 3) := by decide +kernel
theorem dX3_step_149 : decode cX3_step 149 = .ok (.aload_n 0, 1) := by decide +kernel
theorem dX3_step_150 : decode cX3_step 150 = .ok (.aload_n 0, 1) := by decide +kernel
theorem dX3_step_151 : decode cX3_step 151 = .ok (.getfield 107, 3) := by decide +kernel
theorem dX3_step_154 : decode cX3_step 154 = .ok (.iconst 1, 1) := by decide +kernel
theorem dX3_step_155 : decode cX3_step 155 = .ok (.iadd, 1) := by decide +kernel
theorem dX3_step_156 : decode cX3_step 156 = .ok (.putfield 107, 3) := by decide +kernel
theorem dX3_step_159 : decode cX3_step 159 = .ok (.aload_n 0, 1) := by decide +kernel
theorem dX3_step_160 : decode cX3_step 160 = .ok (.aload_n 0, 1) := by decide +kernel
theorem dX3_step_161 : decode cX3_step 161 = .ok (.getfield 74, 3) := by decide +kernel
theorem dX3_step_164 : decode cX3_step 164 = .ok (.iconst 1, 1) := by decide +kernel
theorem dX3_step_165 : decode cX3_step 165 = .ok (.iadd, 1) := by decide +kernel
theorem dX3_step_166 : decode cX3_step 166 = .ok (.putfield 74, 3) := by decide +kernel
theorem dX3_step_169 : decode cX3_step 169 = .ok (.return_, 1) := by decide +kernel
set_option maxRecDepth 20000 in
theorem ggX3_play_X3_has : GoodIn wsX3_play wsX3_has := goodIn_r _ [7, 8, 9, 10, 34, 35, 36, 37, 38, 39, 40, 41, 42, 43, 44, 45, 46, 47, 48, 49] (by decide +kernel) (by decide +kernel)
set_option maxRecDepth 20000 in
theorem gX3_play_X3_has : GoodIn wsX3_play (wsV RX3 78 RX3 yX3_has wsX3_has) := goodIn_app (goodIn_of _ (by decide +kernel)) ggX3_play_X3_has
set_option maxRecDepth 20000 in
theorem ggX3_play_X3_step : GoodIn wsX3_play wsX3_step := goodIn_r _ [14, 15, 9, 16, 17, 18, 19, 20, 21, 22, 6, 23, 3, 4, 5, 7, 8, 10, 24, 25, 26, 27, 28, 29, 30, 31, 32, 33, 34, 35, 36, 37, 38, 39, 40, 41, 42, 43, 44, 45, 46, 47, 48, 49] (by decide +kernel) (by decide +kernel)
set_option maxRecDepth 20000 in
theorem gX3_play_X3_step : GoodIn wsX3_play (wsV RX3 110 RX3 yX3_step wsX3_step) := goodIn_app (goodIn_of _ (by decide +kernel)) ggX3_play_X3_step
theorem dX3_play_0 : decode cX3_play 0 = .ok (.iload_n 1, 1) := by decide +kernel
theorem dX3_play_1 : decode cX3_play 1 = .ok (.ifCond .ge 6, 3) := by decide +kernel
theorem dX3_play_4 : decode cX3_play 4 = .ok (.ldc 54, 2) := by decide +kernel
theorem dX3_play_6 : decode cX3_play 6 = .ok (.ireturn, 1) := by decide +kernel
theorem dX3_play_7 : decode cX3_play 7 = .ok (.iload_n 1, 1) := by decide +kernel
theorem dX3_play_8 : decode cX3_play 8 = .ok (.sipush 200, 3) := by decide +kernel
theorem dX3_play_11 : decode cX3_play 11 = .ok (.if_icmp .le 6, 3) := by decide +kernel
theorem dX3_play_14 : decode cX3_play 14 = .ok (.ldc 53, 2) := by decide +kernel
theorem dX3_play_16 : decode cX3_play 16 = .ok (.ireturn, 1) := by decide +kernel
theorem dX3_play_17 : decode cX3_play 17 = .ok (.iconst 0, 1) := by decide +kernel
theorem dX3_play_18 : decode cX3_play 18 = .ok (.istore_n 2, 1) := by decide +kernel
theorem dX3_play_19 : decode cX3_play 19 = .ok (.iload_n 2, 1) := by decide +kernel
theorem dX3_play_20 : decode cX3_play 20 = .ok (.iload_n 1, 1) := by decide +kernel
theorem dX3_play_21 : decode cX3_play 21 = .ok (.if_icmp .ge 21, 3) := by decide +kernel
theorem dX3_play_24 : decode cX3_play 24 = .ok (.aload_n 0, 1) := by decide +kernel
theorem dX3_play_25 : decode cX3_play 25 = .ok (.iconst 0, 1) := by decide +kernel
theorem dX3_play_26 : decode cX3_play 26 = .ok (.invokevirtual 78, 3) := by decide +kernel
theorem dX3_play_29 : decode cX3_play 29 = .ok (.ifCond .eq 13, 3) := by decide +kernel
theorem dX3_play_32 : decode cX3_play 32 = .ok (.aload_n 0, 1) := by decide +kernel
theorem dX3_play_33 : decode cX3_play 33 = .ok (.invokevirtual 110, 3) := by decide +kernel
theorem dX3_play_36 : decode cX3_play 36 = .ok (.iinc 2 1, 3) := by decide +kernel
theorem dX3_play_39 : decode cX3_play 39 = .ok (.goto (-20), 3) := by decide +kernel
theorem dX3_play_42 : decode cX3_play 42 = .ok (.iload_n 2, 1) := by decide +kernel
theorem dX3_play_43 : decode cX3_play 43 = .ok (.ireturn, 1) := by decide +kernel
theorem dX3_count_0 : decode cX3_count 0 = .ok (.iload_n 1, 1) := by decide +kernel
theorem dX3_count_1 : decode cX3_count 1 = .ok (.ifCond .lt 15, 3) := by decide +kernel
theorem dX3_count_4 : decode cX3_count 4 = .ok (.iload_n 1, 1) := by decide +kernel
theorem dX3_count_5 : decode cX3_count 5 = .ok (.iconst 5, 1) := by decide +kernel
theorem dX3_count_6 : decode cX3_count 6 = .ok (.if_icmp .ge 10, 3) := by decide +kernel
theorem dX3_count_9 : decode cX3_count 9 = .ok (.aload_n 0, 1) := by decide +kernel
theorem dX3_count_10 : decode cX3_count 10 = .ok (.getfield 32, 3) := by decide +kernel
theorem dX3_count_13 : decode cX3_count 13 = .ok (.iload_n 1, 1) := by decide +kernel
theorem dX3_count_14 : decode cX3_count 14 = .ok (.iaload, 1) := by decide +kernel
theorem dX3_count_15 : decode cX3_count 15 = .ok (.ireturn, 1) := by decide +kernel
theorem dX3_count_16 : decode cX3_count 16 = .ok (.iload_n 1, 1) := by decide +kernel
theorem dX3_count_17 : decode cX3_count 17 = .ok (.iconst 5, 1) := by decide +kernel
theorem dX3_count_18 : decode cX3_count 18 = .ok (.if_icmp .lt 18, 3) := by decide +kernel
theorem dX3_count_21 : decode cX3_count 21 = .ok (.iload_n 1, 1) := by decide +kernel
theorem dX3_count_22 : decode cX3_count 22 = .ok (.bipush 10, 2) := by decide +kernel
theorem dX3_count_24 : decode cX3_count 24 = .ok (.if_icmp .ge 12, 3) := by decide +kernel
theorem dX3_count_27 : decode cX3_count 27 = .ok (.aload_n 0, 1) := by decide +kernel
theorem dX3_count_28 : decode cX3_count 28 = .ok (.getfield 35, 3) := by decide +kernel
theorem dX3_count_31 : decode cX3_count 31 = .ok (.iload_n 1, 1) := by decide +kernel
theorem dX3_count_32 : decode cX3_count 32 = .ok (.iconst 5, 1) := by decide +kernel
theorem dX3_count_33 : decode cX3_count 33 = .ok (.isub, 1) := by decide +kernel
theorem dX3_count_34 : decode cX3_count 34 = .ok (.iaload, 1) := by decide +kernel
theorem dX3_count_35 : decode cX3_count 35 = .ok (.ireturn, 1) := by decide +kernel
theorem dX3_count_36 : decode cX3_count 36 = .ok (.iload_n 1, 1) := by decide +kernel
theorem dX3_count_37 : decode cX3_count 37 = .ok (.tableswitch 78 10 16 #[43, 48, 53, 58, 63, 68, 73], 43) := by decide +kernel
theorem dX3_count_80 : decode cX3_count 80 = .ok (.aload_n 0, 1) := by decide +kernel
theorem dX3_count_81 : decode cX3_count 81 = .ok (.getfield 74, 3) := by decide +kernel
theorem dX3_count_84 : decode cX3_count 84 = .ok (.ireturn, 1) := by decide +kernel
theorem dX3_count_85 : decode cX3_count 85 = .ok (.aload_n 0, 1) := by decide +kernel
theorem dX3_count_86 : decode cX3_count 86 = .ok (.getfield 85, 3) := by decide +kernel
theorem dX3_count_89 : decode cX3_count 89 = .ok (.ireturn, 1) := by decide +kernel
theorem dX3_count_90 : decode cX3_count 90 = .ok (.aload_n 0, 1) := by decide +kernel
theorem dX3_count_91 : decode cX3_count 91 = .ok (.getfield 94, 3) := by decide +kernel
theorem dX3_count_94 : decode cX3_count 94 = .ok (.ireturn, 1) := by decide +kernel
theorem dX3_count_95 : decode cX3_count 95 = .ok (.aload_n 0, 1) := by decide +kernel
theorem dX3_count_96 : decode cX3_count 96 = .ok (.getfield 101, 3) := by decide +kernel
theorem dX3_count_99 : decode cX3_count 99 = .ok (.ireturn, 1) := by decide +kernel
theorem dX3_count_100 : decode cX3_count 100 = .ok (.aload_n 0, 1) := by decide +kernel
theorem dX3_count_101 : decode cX3_count 101 = .ok (.getfield 88, 3) := by decide +kernel
theorem dX3_count_104 : decode cX3_count 104 = .ok (.ireturn, 1) := by decide +kernel
theorem dX3_count_105 : decode cX3_count 105 = .ok (.aload_n 0, 1) := by decide +kernel
theorem dX3_count_106 : decode cX3_count 106 = .ok (.getfield 91, 3) := by decide +kernel
theorem dX3_count_109 : decode cX3_count 109 = .ok (.ireturn, 1) := by decide +kernel
theorem dX3_count_110 : decode cX3_count 110 = .ok (.aload_n 0, 1) := by decide +kernel
theorem dX3_count_111 : decode cX3_count 111 = .ok (.getfield 107, 3) := by decide +kernel
theorem dX3_count_114 : decode cX3_count 114 = .ok (.ireturn, 1) := by decide +kernel
theorem dX3_count_115 : decode cX3_count 115 = .ok (.iconst 0, 1) := by decide +kernel
theorem dX3_count_116 : decode cX3_count 116 = .ok (.ireturn, 1) := by decide +kernel
