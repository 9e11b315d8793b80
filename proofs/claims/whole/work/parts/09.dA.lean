theorem dX0_init_0 : decode cX0_init 0 = .ok (.aload_n 0, 1) := by decide +kernel
theorem dX0_init_1 : decode cX0_init 1 = .ok (.invokespecial 3, 3) := by decide +kernel
theorem dX0_init_4 : decode cX0_init 4 = .ok (.aload_n 0, 1) := by decide +kernel
theorem dX0_init_5 : decode cX0_init 5 = .ok (.bipush 6, 2) := by decide +kernel
theorem dX0_init_7 : decode cX0_init 7 = .ok (.newarray .long, 2) := by decide +kernel
theorem dX0_init_9 : decode cX0_init 9 = .ok (.putfield 9, 3) := by decide +kernel
theorem dX0_init_12 : decode cX0_init 12 = .ok (.aload_n 0, 1) := by decide +kernel
theorem dX0_init_13 : decode cX0_init 13 = .ok (.bipush 10, 2) := by decide +kernel
theorem dX0_init_15 : decode cX0_init 15 = .ok (.newarray .long, 2) := by decide +kernel
theorem dX0_init_17 : decode cX0_init 17 = .ok (.putfield 15, 3) := by decide +kernel
theorem dX0_init_20 : decode cX0_init 20 = .ok (.aload_n 0, 1) := by decide +kernel
theorem dX0_init_21 : decode cX0_init 21 = .ok (.bipush 10, 2) := by decide +kernel
theorem dX0_init_23 : decode cX0_init 23 = .ok (.newarray .long, 2) := by decide +kernel
theorem dX0_init_25 : decode cX0_init 25 = .ok (.putfield 18, 3) := by decide +kernel
theorem dX0_init_28 : decode cX0_init 28 = .ok (.aload_n 0, 1) := by decide +kernel
theorem dX0_init_29 : decode cX0_init 29 = .ok (.iconst 4, 1) := by decide +kernel
theorem dX0_init_30 : decode cX0_init 30 = .ok (.newarray .long, 2) := by decide +kernel
theorem dX0_init_32 : decode cX0_init 32 = .ok (.putfield 21, 3) := by decide +kernel
theorem dX0_init_35 : decode cX0_init 35 = .ok (.return_, 1) := by decide +kernel
theorem dX0_forgetShares_0 : decode cX0_forgetShares 0 = .ok (.iconst 0, 1) := by decide +kernel
theorem dX0_forgetShares_1 : decode cX0_forgetShares 1 = .ok (.istore_n 1, 1) := by decide +kernel
theorem dX0_forgetShares_2 : decode cX0_forgetShares 2 = .ok (.iload_n 1, 1) := by decide +kernel
theorem dX0_forgetShares_3 : decode cX0_forgetShares 3 = .ok (.iconst 4, 1) := by decide +kernel
theorem dX0_forgetShares_4 : decode cX0_forgetShares 4 = .ok (.if_icmp .ge 16, 3) := by decide +kernel
theorem dX0_forgetShares_7 : decode cX0_forgetShares 7 = .ok (.aload_n 0, 1) := by decide +kernel
theorem dX0_forgetShares_8 : decode cX0_forgetShares 8 = .ok (.getfield 21, 3) := by decide +kernel
theorem dX0_forgetShares_11 : decode cX0_forgetShares 11 = .ok (.iload_n 1, 1) := by decide +kernel
theorem dX0_forgetShares_12 : decode cX0_forgetShares 12 = .ok (.lconst 0, 1) := by decide +kernel
theorem dX0_forgetShares_13 : decode cX0_forgetShares 13 = .ok (.lastore, 1) := by decide +kernel
theorem dX0_forgetShares_14 : decode cX0_forgetShares 14 = .ok (.iinc 1 1, 3) := by decide +kernel
theorem dX0_forgetShares_17 : decode cX0_forgetShares 17 = .ok (.goto (-15), 3) := by decide +kernel
theorem dX0_forgetShares_20 : decode cX0_forgetShares 20 = .ok (.return_, 1) := by decide +kernel
theorem dX0_charge_0 : decode cX0_charge 0 = .ok (.lload_n 3, 1) := by decide +kernel
theorem dX0_charge_1 : decode cX0_charge 1 = .ok (.aload_n 0, 1) := by decide +kernel
theorem dX0_charge_2 : decode cX0_charge 2 = .ok (.getfield 18, 3) := by decide +kernel
theorem dX0_charge_5 : decode cX0_charge 5 = .ok (.iload_n 1, 1) := by decide +kernel
theorem dX0_charge_6 : decode cX0_charge 6 = .ok (.laload, 1) := by decide +kernel
theorem dX0_charge_7 : decode cX0_charge 7 = .ok (.lsub, 1) := by decide +kernel
theorem dX0_charge_8 : decode cX0_charge 8 = .ok (.lstore 5, 2) := by decide +kernel
theorem dX0_charge_10 : decode cX0_charge 10 = .ok (.aload_n 0, 1) := by decide +kernel
theorem dX0_charge_11 : decode cX0_charge 11 = .ok (.getfield 18, 3) := by decide +kernel
theorem dX0_charge_14 : decode cX0_charge 14 = .ok (.iload_n 1, 1) := by decide +kernel
theorem dX0_charge_15 : decode cX0_charge 15 = .ok (.lload_n 3, 1) := by decide +kernel
theorem dX0_charge_16 : decode cX0_charge 16 = .ok (.lastore, 1) := by decide +kernel
theorem dX0_charge_17 : decode cX0_charge 17 = .ok (.iload_n 2, 1) := by decide +kernel
theorem dX0_charge_18 : decode cX0_charge 18 = .ok (.iconst (-1), 1) := by decide +kernel
theorem dX0_charge_19 : decode cX0_charge 19 = .ok (.if_icmp .ne 17, 3) := by decide +kernel
theorem dX0_charge_22 : decode cX0_charge 22 = .ok (.aload_n 0, 1) := by decide +kernel
theorem dX0_charge_23 : decode cX0_charge 23 = .ok (.getfield 15, 3) := by decide +kernel
theorem dX0_charge_26 : decode cX0_charge 26 = .ok (.iload_n 1, 1) := by decide +kernel
theorem dX0_charge_27 : decode cX0_charge 27 = .ok (.dup2, 1) := by decide +kernel
theorem dX0_charge_28 : decode cX0_charge 28 = .ok (.laload, 1) := by decide +kernel
theorem dX0_charge_29 : decode cX0_charge 29 = .ok (.lload 5, 2) := by decide +kernel
theorem dX0_charge_31 : decode cX0_charge 31 = .ok (.lsub, 1) := by decide +kernel
theorem dX0_charge_32 : decode cX0_charge 32 = .ok (.lastore, 1) := by decide +kernel
theorem dX0_charge_33 : decode cX0_charge 33 = .ok (.goto 14, 3) := by decide +kernel
theorem dX0_charge_36 : decode cX0_charge 36 = .ok (.aload_n 0, 1) := by decide +kernel
theorem dX0_charge_37 : decode cX0_charge 37 = .ok (.getfield 9, 3) := by decide +kernel
theorem dX0_charge_40 : decode cX0_charge 40 = .ok (.iload_n 2, 1) := by decide +kernel
theorem dX0_charge_41 : decode cX0_charge 41 = .ok (.dup2, 1) := by decide +kernel
theorem dX0_charge_42 : decode cX0_charge 42 = .ok (.laload, 1) := by decide +kernel
theorem dX0_charge_43 : decode cX0_charge 43 = .ok (.lload 5, 2) := by decide +kernel
theorem dX0_charge_45 : decode cX0_charge 45 = .ok (.lsub, 1) := by decide +kernel
theorem dX0_charge_46 : decode cX0_charge 46 = .ok (.lastore, 1) := by decide +kernel
theorem dX0_charge_47 : decode cX0_charge 47 = .ok (.lload 5, 2) := by decide +kernel
theorem dX0_charge_49 : decode cX0_charge 49 = .ok (.lreturn, 1) := by decide +kernel
theorem dX1_init_0 : decode cX1_init 0 = .ok (.aload_n 0, 1) := by decide +kernel
theorem dX1_init_1 : decode cX1_init 1 = .ok (.invokespecial 3, 3) := by decide +kernel
theorem dX1_init_4 : decode cX1_init 4 = .ok (.aload_n 0, 1) := by decide +kernel
theorem dX1_init_5 : decode cX1_init 5 = .ok (.bipush 100, 2) := by decide +kernel
theorem dX1_init_7 : decode cX1_init 7 = .ok (.newarray .int, 2) := by decide +kernel
theorem dX1_init_9 : decode cX1_init 9 = .ok (.putfield 9, 3) := by decide +kernel
theorem dX1_init_12 : decode cX1_init 12 = .ok (.aload_n 0, 1) := by decide +kernel
theorem dX1_init_13 : decode cX1_init 13 = .ok (.bipush 100, 2) := by decide +kernel
theorem dX1_init_15 : decode cX1_init 15 = .ok (.newarray .int, 2) := by decide +kernel
theorem dX1_init_17 : decode cX1_init 17 = .ok (.putfield 15, 3) := by decide +kernel
theorem dX1_init_20 : decode cX1_init 20 = .ok (.aload_n 0, 1) := by decide +kernel
theorem dX1_init_21 : decode cX1_init 21 = .ok (.bipush 100, 2) := by decide +kernel
theorem dX1_init_23 : decode cX1_init 23 = .ok (.newarray .int, 2) := by decide +kernel
theorem dX1_init_25 : decode cX1_init 25 = .ok (.putfield 18, 3) := by decide +kernel
theorem dX1_init_28 : decode cX1_init 28 = .ok (.aload_n 0, 1) := by decide +kernel
theorem dX1_init_29 : decode cX1_init 29 = .ok (.iconst 4, 1) := by decide +kernel
theorem dX1_init_30 : decode cX1_init 30 = .ok (.bipush 100, 2) := by decide +kernel
theorem dX1_init_32 : decode cX1_init 32 = .ok (.multianewarray 21 2, 4) := by decide +kernel
theorem dX1_init_36 : decode cX1_init 36 = .ok (.putfield 23, 3) := by decide +kernel
theorem dX1_init_39 : decode cX1_init 39 = .ok (.aload_n 0, 1) := by decide +kernel
theorem dX1_init_40 : decode cX1_init 40 = .ok (.bipush 100, 2) := by decide +kernel
theorem dX1_init_42 : decode cX1_init 42 = .ok (.newarray .int, 2) := by decide +kernel
theorem dX1_init_44 : decode cX1_init 44 = .ok (.putfield 26, 3) := by decide +kernel
theorem dX1_init_47 : decode cX1_init 47 = .ok (.aload_n 0, 1) := by decide +kernel
theorem dX1_init_48 : decode cX1_init 48 = .ok (.bipush 100, 2) := by decide +kernel
theorem dX1_init_50 : decode cX1_init 50 = .ok (.newarray .boolean, 2) := by decide +kernel
theorem dX1_init_52 : decode cX1_init 52 = .ok (.putfield 29, 3) := by decide +kernel
theorem dX1_init_55 : decode cX1_init 55 = .ok (.aload_n 0, 1) := by decide +kernel
theorem dX1_init_56 : decode cX1_init 56 = .ok (.iconst 0, 1) := by decide +kernel
theorem dX1_init_57 : decode cX1_init 57 = .ok (.putfield 33, 3) := by decide +kernel
theorem dX1_init_60 : decode cX1_init 60 = .ok (.return_, 1) := by decide +kernel
theorem dX1_forgetAll_0 : decode cX1_forgetAll 0 = .ok (.aload_n 0, 1) := by decide +kernel
theorem dX1_forgetAll_1 : decode cX1_forgetAll 1 = .ok (.iconst 0, 1) := by decide +kernel
theorem dX1_forgetAll_2 : decode cX1_forgetAll 2 = .ok (.putfield 33, 3) := by decide +kernel
theorem dX1_forgetAll_5 : decode cX1_forgetAll 5 = .ok (.return_, 1) := by decide +kernel
theorem dX1_begin_0 : decode cX1_begin 0 = .ok (.aload_n 0, 1) := by decide +kernel
theorem dX1_begin_1 : decode cX1_begin 1 = .ok (.getfield 33, 3) := by decide +kernel
theorem dX1_begin_4 : decode cX1_begin 4 = .ok (.istore_n 3, 1) := by decide +kernel
theorem dX1_begin_5 : decode cX1_begin 5 = .ok (.aload_n 0, 1) := by decide +kernel
theorem dX1_begin_6 : decode cX1_begin 6 = .ok (.getfield 9, 3) := by decide +kernel
theorem dX1_begin_9 : decode cX1_begin 9 = .ok (.iload_n 3, 1) := by decide +kernel
theorem dX1_begin_10 : decode cX1_begin 10 = .ok (.iload_n 2, 1) := by decide +kernel
theorem dX1_begin_11 : decode cX1_begin 11 = .ok (.iastore, 1) := by decide +kernel
theorem dX1_begin_12 : decode cX1_begin 12 = .ok (.aload_n 0, 1) := by decide +kernel
theorem dX1_begin_13 : decode cX1_begin 13 = .ok (.getfield 15, 3) := by decide +kernel
theorem dX1_begin_16 : decode cX1_begin 16 = .ok (.iload_n 3, 1) := by decide +kernel
theorem dX1_begin_17 : decode cX1_begin 17 = .ok (.iload_n 2, 1) := by decide +kernel
theorem dX1_begin_18 : decode cX1_begin 18 = .ok (.iastore, 1) := by decide +kernel
theorem dX1_begin_19 : decode cX1_begin 19 = .ok (.aload_n 0, 1) := by decide +kernel
theorem dX1_begin_20 : decode cX1_begin 20 = .ok (.getfield 18, 3) := by decide +kernel
theorem dX1_begin_23 : decode cX1_begin 23 = .ok (.iload_n 3, 1) := by decide +kernel
theorem dX1_begin_24 : decode cX1_begin 24 = .ok (.iconst 1, 1) := by decide +kernel
theorem dX1_begin_25 : decode cX1_begin 25 = .ok (.iastore, 1) := by decide +kernel
theorem dX1_begin_26 : decode cX1_begin 26 = .ok (.iconst 0, 1) := by decide +kernel
theorem dX1_begin_27 : decode cX1_begin 27 = .ok (.istore 4, 2) := by decide +kernel
theorem dX1_begin_29 : decode cX1_begin 29 = .ok (.iload 4, 2) := by decide +kernel
theorem dX1_begin_31 : decode cX1_begin 31 = .ok (.iconst 4, 1) := by decide +kernel
theorem dX1_begin_32 : decode cX1_begin 32 = .ok (.if_icmp .ge 19, 3) := by decide +kernel
theorem dX1_begin_35 : decode cX1_begin 35 = .ok (.aload_n 0, 1) := by decide +kernel
theorem dX1_begin_36 : decode cX1_begin 36 = .ok (.getfield 23, 3) := by decide +kernel
theorem dX1_begin_39 : decode cX1_begin 39 = .ok (.iload 4, 2) := by decide +kernel
theorem dX1_begin_41 : decode cX1_begin 41 = .ok (.aaload, 1) := by decide +kernel
theorem dX1_begin_42 : decode cX1_begin 42 = .ok (.iload_n 3, 1) := by decide +kernel
theorem dX1_begin_43 : decode cX1_begin 43 = .ok (.iconst 0, 1) := by decide +kernel
theorem dX1_begin_44 : decode cX1_begin 44 = .ok (.iastore, 1) := by decide +kernel
theorem dX1_begin_45 : decode cX1_begin 45 = .ok (.iinc 4 1, 3) := by decide +kernel
theorem dX1_begin_48 : decode cX1_begin 48 = .ok (.goto (-19), 3) := by decide +kernel
theorem dX1_begin_51 : decode cX1_begin 51 = .ok (.aload_n 0, 1) := by decide +kernel
theorem dX1_begin_52 : decode cX1_begin 52 = .ok (.getfield 26, 3) := by decide +kernel
theorem dX1_begin_55 : decode cX1_begin 55 = .ok (.iload_n 1, 1) := by decide +kernel
theorem dX1_begin_56 : decode cX1_begin 56 = .ok (.iload_n 3, 1) := by decide +kernel
theorem dX1_begin_57 : decode cX1_begin 57 = .ok (.iastore, 1) := by decide +kernel
theorem dX1_begin_58 : decode cX1_begin 58 = .ok (.aload_n 0, 1) := by decide +kernel
theorem dX1_begin_59 : decode cX1_begin 59 = .ok (.getfield 29, 3) := by decide +kernel
theorem dX1_begin_62 : decode cX1_begin 62 = .ok (.iload_n 1, 1) := by decide +kernel
theorem dX1_begin_63 : decode cX1_begin 63 = .ok (.iconst 0, 1) := by decide +kernel
theorem dX1_begin_64 : decode cX1_begin 64 = .ok (.bastore, 1) := by decide +kernel
theorem dX1_begin_65 : decode cX1_begin 65 = .ok (.aload_n 0, 1) := by decide +kernel
theorem dX1_begin_66 : decode cX1_begin 66 = .ok (.dup, 1) := by decide +kernel
theorem dX1_begin_67 : decode cX1_begin 67 = .ok (.getfield 33, 3) := by decide +kernel
theorem dX1_begin_70 : decode cX1_begin 70 = .ok (.iconst 1, 1) := by decide +kernel
theorem dX1_begin_71 : decode cX1_begin 71 = .ok (.iadd, 1) := by decide +kernel
theorem dX1_begin_72 : decode cX1_begin 72 = .ok (.putfield 33, 3) := by decide +kernel
theorem dX1_begin_75 : decode cX1_begin 75 = .ok (.return_, 1) := by decide +kernel
theorem dX1_goOn_0 : decode cX1_goOn 0 = .ok (.aload_n 0, 1) := by decide +kernel
theorem dX1_goOn_1 : decode cX1_goOn 1 = .ok (.getfield 15, 3) := by decide +kernel
theorem dX1_goOn_4 : decode cX1_goOn 4 = .ok (.iload_n 2, 1) := by decide +kernel
theorem dX1_goOn_5 : decode cX1_goOn 5 = .ok (.iload_n 3, 1) := by decide +kernel
theorem dX1_goOn_6 : decode cX1_goOn 6 = .ok (.iastore, 1) := by decide +kernel
theorem dX1_goOn_7 : decode cX1_goOn 7 = .ok (.aload_n 0, 1) := by decide +kernel
theorem dX1_goOn_8 : decode cX1_goOn 8 = .ok (.getfield 18, 3) := by decide +kernel
theorem dX1_goOn_11 : decode cX1_goOn 11 = .ok (.iload_n 2, 1) := by decide +kernel
theorem dX1_goOn_12 : decode cX1_goOn 12 = .ok (.dup2, 1) := by decide +kernel
theorem dX1_goOn_13 : decode cX1_goOn 13 = .ok (.iaload, 1) := by decide +kernel
theorem dX1_goOn_14 : decode cX1_goOn 14 = .ok (.iconst 1, 1) := by decide +kernel
theorem dX1_goOn_15 : decode cX1_goOn 15 = .ok (.iadd, 1) := by decide +kernel
theorem dX1_goOn_16 : decode cX1_goOn 16 = .ok (.iastore, 1) := by decide +kernel
theorem dX1_goOn_17 : decode cX1_goOn 17 = .ok (.aload_n 0, 1) := by decide +kernel
theorem dX1_goOn_18 : decode cX1_goOn 18 = .ok (.getfield 26, 3) := by decide +kernel
theorem dX1_goOn_21 : decode cX1_goOn 21 = .ok (.iload_n 1, 1) := by decide +kernel
theorem dX1_goOn_22 : decode cX1_goOn 22 = .ok (.iload_n 2, 1) := by decide +kernel
theorem dX1_goOn_23 : decode cX1_goOn 23 = .ok (.iastore, 1) := by decide +kernel
theorem dX1_goOn_24 : decode cX1_goOn 24 = .ok (.aload_n 0, 1) := by decide +kernel
theorem dX1_goOn_25 : decode cX1_goOn 25 = .ok (.getfield 29, 3) := by decide +kernel
theorem dX1_goOn_28 : decode cX1_goOn 28 = .ok (.iload_n 1, 1) := by decide +kernel
theorem dX1_goOn_29 : decode cX1_goOn 29 = .ok (.iconst 0, 1) := by decide +kernel
theorem dX1_goOn_30 : decode cX1_goOn 30 = .ok (.bastore, 1) := by decide +kernel
theorem dX1_goOn_31 : decode cX1_goOn 31 = .ok (.return_, 1) := by decide +kernel
theorem dX1_putDouble_0 : decode cX1_putDouble 0 = .ok (.aload_n 0, 1) := by decide +kernel
theorem dX1_putDouble_1 : decode cX1_putDouble 1 = .ok (.getfield 26, 3) := by decide +kernel
theorem dX1_putDouble_4 : decode cX1_putDouble 4 = .ok (.iload_n 1, 1) := by decide +kernel
theorem dX1_putDouble_5 : decode cX1_putDouble 5 = .ok (.iload_n 2, 1) := by decide +kernel
theorem dX1_putDouble_6 : decode cX1_putDouble 6 = .ok (.iastore, 1) := by decide +kernel
theorem dX1_putDouble_7 : decode cX1_putDouble 7 = .ok (.aload_n 0, 1) := by decide +kernel
theorem dX1_putDouble_8 : decode cX1_putDouble 8 = .ok (.getfield 29, 3) := by decide +kernel
theorem dX1_putDouble_11 : decode cX1_putDouble 11 = .ok (.iload_n 1, 1) := by decide +kernel
theorem dX1_putDouble_12 : decode cX1_putDouble 12 = .ok (.iconst 1, 1) := by decide +kernel
theorem dX1_putDouble_13 : decode cX1_putDouble 13 = .ok (.bastore, 1) := by decide +kernel
theorem dX1_putDouble_14 : decode cX1_putDouble 14 = .ok (.return_, 1) := by decide +kernel
theorem dX1_pay_0 : decode cX1_pay 0 = .ok (.aload_n 0, 1) := by decide +kernel
theorem dX1_pay_1 : decode cX1_pay 1 = .ok (.getfield 23, 3) := by decide +kernel
theorem dX1_pay_4 : decode cX1_pay 4 = .ok (.iload_n 2, 1) := by decide +kernel
theorem dX1_pay_5 : decode cX1_pay 5 = .ok (.aaload, 1) := by decide +kernel
theorem dX1_pay_6 : decode cX1_pay 6 = .ok (.iload_n 1, 1) := by decide +kernel
theorem dX1_pay_7 : decode cX1_pay 7 = .ok (.dup2, 1) := by decide +kernel
theorem dX1_pay_8 : decode cX1_pay 8 = .ok (.iaload, 1) := by decide +kernel
theorem dX1_pay_9 : decode cX1_pay 9 = .ok (.iload_n 3, 1) := by decide +kernel
theorem dX1_pay_10 : decode cX1_pay 10 = .ok (.iadd, 1) := by decide +kernel
theorem dX1_pay_11 : decode cX1_pay 11 = .ok (.iastore, 1) := by decide +kernel
theorem dX1_pay_12 : decode cX1_pay 12 = .ok (.return_, 1) := by decide +kernel
theorem dX1_isOver_0 : decode cX1_isOver 0 = .ok (.iload_n 2, 1) := by decide +kernel
theorem dX1_isOver_1 : decode cX1_isOver 1 = .ok (.aload_n 0, 1) := by decide +kernel
theorem dX1_isOver_2 : decode cX1_isOver 2 = .ok (.getfield 15, 3) := by decide +kernel
theorem dX1_isOver_5 : decode cX1_isOver 5 = .ok (.iload_n 1, 1) := by decide +kernel
theorem dX1_isOver_6 : decode cX1_isOver 6 = .ok (.iaload, 1) := by decide +kernel
theorem dX1_isOver_7 : decode cX1_isOver 7 = .ok (.isub, 1) := by decide +kernel
theorem dX1_isOver_8 : decode cX1_isOver 8 = .ok (.bipush 60, 2) := by decide +kernel
theorem dX1_isOver_10 : decode cX1_isOver 10 = .ok (.if_icmp .lt 7, 3) := by decide +kernel
theorem dX1_isOver_13 : decode cX1_isOver 13 = .ok (.iconst 1, 1) := by decide +kernel
theorem dX1_isOver_14 : decode cX1_isOver 14 = .ok (.goto 4, 3) := by decide +kernel
theorem dX1_isOver_17 : decode cX1_isOver 17 = .ok (.iconst 0, 1) := by decide +kernel
theorem dX1_isOver_18 : decode cX1_isOver 18 = .ok (.ireturn, 1) := by decide +kernel
theorem dX1_wholeOf_0 : decode cX1_wholeOf 0 = .ok (.iconst 0, 1) := by decide +kernel
theorem dX1_wholeOf_1 : decode cX1_wholeOf 1 = .ok (.istore_n 2, 1) := by decide +kernel
theorem dX1_wholeOf_2 : decode cX1_wholeOf 2 = .ok (.iconst 0, 1) := by decide +kernel
theorem dX1_wholeOf_3 : decode cX1_wholeOf 3 = .ok (.istore_n 3, 1) := by decide +kernel
theorem dX1_wholeOf_4 : decode cX1_wholeOf 4 = .ok (.iload_n 3, 1) := by decide +kernel
theorem dX1_wholeOf_5 : decode cX1_wholeOf 5 = .ok (.iconst 4, 1) := by decide +kernel
theorem dX1_wholeOf_6 : decode cX1_wholeOf 6 = .ok (.if_icmp .ge 20, 3) := by decide +kernel
theorem dX1_wholeOf_9 : decode cX1_wholeOf 9 = .ok (.iload_n 2, 1) := by decide +kernel
theorem dX1_wholeOf_10 : decode cX1_wholeOf 10 = .ok (.aload_n 0, 1) := by decide +kernel
theorem dX1_wholeOf_11 : decode cX1_wholeOf 11 = .ok (.getfield 23, 3) := by decide +kernel
theorem dX1_wholeOf_14 : decode cX1_wholeOf 14 = .ok (.iload_n 3, 1) := by decide +kernel
theorem dX1_wholeOf_15 : decode cX1_wholeOf 15 = .ok (.aaload, 1) := by decide +kernel
theorem dX1_wholeOf_16 : decode cX1_wholeOf 16 = .ok (.iload_n 1, 1) := by decide +kernel
theorem dX1_wholeOf_17 : decode cX1_wholeOf 17 = .ok (.iaload, 1) := by decide +kernel
theorem dX1_wholeOf_18 : decode cX1_wholeOf 18 = .ok (.iadd, 1) := by decide +kernel
theorem dX1_wholeOf_19 : decode cX1_wholeOf 19 = .ok (.istore_n 2, 1) := by decide +kernel
theorem dX1_wholeOf_20 : decode cX1_wholeOf 20 = .ok (.iinc 3 1, 3) := by decide +kernel
theorem dX1_wholeOf_23 : decode cX1_wholeOf 23 = .ok (.goto (-19), 3) := by decide +kernel
theorem dX1_wholeOf_26 : decode cX1_wholeOf 26 = .ok (.iload_n 2, 1) := by decide +kernel
theorem dX1_wholeOf_27 : decode cX1_wholeOf 27 = .ok (.ireturn, 1) := by decide +kernel
theorem dX1_fareOf_0 : decode cX1_fareOf 0 = .ok (.aload_n 0, 1) := by decide +kernel
theorem dX1_fareOf_1 : decode cX1_fareOf 1 = .ok (.iload_n 1, 1) := by decide +kernel
theorem dX1_fareOf_2 : decode cX1_fareOf 2 = .ok (.invokevirtual 37, 3) := by decide +kernel
theorem dX1_fareOf_5 : decode cX1_fareOf 5 = .ok (.iload_n 2, 1) := by decide +kernel
theorem dX1_fareOf_6 : decode cX1_fareOf 6 = .ok (.invokestatic 41, 3) := by decide +kernel
theorem dX1_fareOf_9 : decode cX1_fareOf 9 = .ok (.ireturn, 1) := by decide +kernel
theorem dX1_shareOf_0 : decode cX1_shareOf 0 = .ok (.aload_n 0, 1) := by decide +kernel
theorem dX1_shareOf_1 : decode cX1_shareOf 1 = .ok (.iload_n 1, 1) := by decide +kernel
theorem dX1_shareOf_2 : decode cX1_shareOf 2 = .ok (.invokevirtual 37, 3) := by decide +kernel
theorem dX1_shareOf_5 : decode cX1_shareOf 5 = .ok (.istore 4, 2) := by decide +kernel
theorem dX1_shareOf_7 : decode cX1_shareOf 7 = .ok (.iload 4, 2) := by decide +kernel
theorem dX1_shareOf_9 : decode cX1_shareOf 9 = .ok (.iload_n 3, 1) := by decide +kernel
theorem dX1_shareOf_10 : decode cX1_shareOf 10 = .ok (.if_icmp .gt 12, 3) := by decide +kernel
theorem dX1_shareOf_13 : decode cX1_shareOf 13 = .ok (.aload_n 0, 1) := by decide +kernel
theorem dX1_shareOf_14 : decode cX1_shareOf 14 = .ok (.getfield 23, 3) := by decide +kernel
theorem dX1_shareOf_17 : decode cX1_shareOf 17 = .ok (.iload_n 2, 1) := by decide +kernel
theorem dX1_shareOf_18 : decode cX1_shareOf 18 = .ok (.aaload, 1) := by decide +kernel
theorem dX1_shareOf_19 : decode cX1_shareOf 19 = .ok (.iload_n 1, 1) := by decide +kernel
theorem dX1_shareOf_20 : decode cX1_shareOf 20 = .ok (.iaload, 1) := by decide +kernel
theorem dX1_shareOf_21 : decode cX1_shareOf 21 = .ok (.ireturn, 1) := by decide +kernel
theorem dX1_shareOf_22 : decode cX1_shareOf 22 = .ok (.iload_n 2, 1) := by decide +kernel
theorem dX1_shareOf_23 : decode cX1_shareOf 23 = .ok (.aload_n 0, 1) := by decide +kernel
theorem dX1_shareOf_24 : decode cX1_shareOf 24 = .ok (.iload_n 1, 1) := by decide +kernel
theorem dX1_shareOf_25 : decode cX1_shareOf 25 = .ok (.invokevirtual 47, 3) := by decide +kernel
theorem dX1_shareOf_28 : decode cX1_shareOf 28 = .ok (.if_icmp .eq 13, 3) := by decide +kernel
theorem dX1_shareOf_31 : decode cX1_shareOf 31 = .ok (.aload_n 0, 1) := by decide +kernel
theorem dX1_shareOf_32 : decode cX1_shareOf 32 = .ok (.iload_n 1, 1) := by decide +kernel
theorem dX1_shareOf_33 : decode cX1_shareOf 33 = .ok (.iload_n 2, 1) := by decide +kernel
theorem dX1_shareOf_34 : decode cX1_shareOf 34 = .ok (.iload_n 3, 1) := by decide +kernel
theorem dX1_shareOf_35 : decode cX1_shareOf 35 = .ok (.iload 4, 2) := by decide +kernel
theorem dX1_shareOf_37 : decode cX1_shareOf 37 = .ok (.invokevirtual 50, 3) := by decide +kernel
theorem dX1_shareOf_40 : decode cX1_shareOf 40 = .ok (.ireturn, 1) := by decide +kernel
theorem dX1_shareOf_41 : decode cX1_shareOf 41 = .ok (.iload_n 3, 1) := by decide +kernel
theorem dX1_shareOf_42 : decode cX1_shareOf 42 = .ok (.istore 5, 2) := by decide +kernel
theorem dX1_shareOf_44 : decode cX1_shareOf 44 = .ok (.iconst 0, 1) := by decide +kernel
theorem dX1_shareOf_45 : decode cX1_shareOf 45 = .ok (.istore 6, 2) := by decide +kernel
theorem dX1_shareOf_47 : decode cX1_shareOf 47 = .ok (.iload 6, 2) := by decide +kernel
theorem dX1_shareOf_49 : decode cX1_shareOf 49 = .ok (.iconst 4, 1) := by decide +kernel
theorem dX1_shareOf_50 : decode cX1_shareOf 50 = .ok (.if_icmp .ge 30, 3) := by decide +kernel
theorem dX1_shareOf_53 : decode cX1_shareOf 53 = .ok (.iload 6, 2) := by decide +kernel
theorem dX1_shareOf_55 : decode cX1_shareOf 55 = .ok (.iload_n 2, 1) := by decide +kernel
theorem dX1_shareOf_56 : decode cX1_shareOf 56 = .ok (.if_icmp .eq 18, 3) := by decide +kernel
theorem dX1_shareOf_59 : decode cX1_shareOf 59 = .ok (.iload 5, 2) := by decide +kernel
theorem dX1_shareOf_61 : decode cX1_shareOf 61 = .ok (.aload_n 0, 1) := by decide +kernel
theorem dX1_shareOf_62 : decode cX1_shareOf 62 = .ok (.iload_n 1, 1) := by decide +kernel
theorem dX1_shareOf_63 : decode cX1_shareOf 63 = .ok (.iload 6, 2) := by decide +kernel
theorem dX1_shareOf_65 : decode cX1_shareOf 65 = .ok (.iload_n 3, 1) := by decide +kernel
theorem dX1_shareOf_66 : decode cX1_shareOf 66 = .ok (.iload 4, 2) := by decide +kernel
theorem dX1_shareOf_68 : decode cX1_shareOf 68 = .ok (.invokevirtual 50, 3) := by decide +kernel
theorem dX1_shareOf_71 : decode cX1_shareOf 71 = .ok (.isub, 1) := by decide +kernel
theorem dX1_shareOf_72 : decode cX1_shareOf 72 = .ok (.istore 5, 2) := by decide +kernel
theorem dX1_shareOf_74 : decode cX1_shareOf 74 = .ok (.iinc 6 1, 3) := by decide +kernel
theorem dX1_shareOf_77 : decode cX1_shareOf 77 = .ok (.goto (-30), 3) := by decide +kernel
theorem dX1_shareOf_80 : decode cX1_shareOf 80 = .ok (.iload 5, 2) := by decide +kernel
theorem dX1_shareOf_82 : decode cX1_shareOf 82 = .ok (.ireturn, 1) := by decide +kernel
theorem dX1_cutShare_0 : decode cX1_cutShare 0 = .ok (.iload 4, 2) := by decide +kernel
theorem dX1_cutShare_2 : decode cX1_cutShare 2 = .ok (.ifCond .gt 5, 3) := by decide +kernel
theorem dX1_cutShare_5 : decode cX1_cutShare 5 = .ok (.iconst 0, 1) := by decide +kernel
theorem dX1_cutShare_6 : decode cX1_cutShare 6 = .ok (.ireturn, 1) := by decide +kernel
theorem dX1_cutShare_7 : decode cX1_cutShare 7 = .ok (.aload_n 0, 1) := by decide +kernel
theorem dX1_cutShare_8 : decode cX1_cutShare 8 = .ok (.getfield 23, 3) := by decide +kernel
theorem dX1_cutShare_11 : decode cX1_cutShare 11 = .ok (.iload_n 2, 1) := by decide +kernel
theorem dX1_cutShare_12 : decode cX1_cutShare 12 = .ok (.aaload, 1) := by decide +kernel
theorem dX1_cutShare_13 : decode cX1_cutShare 13 = .ok (.iload_n 1, 1) := by decide +kernel
theorem dX1_cutShare_14 : decode cX1_cutShare 14 = .ok (.iaload, 1) := by decide +kernel
theorem dX1_cutShare_15 : decode cX1_cutShare 15 = .ok (.i2l, 1) := by decide +kernel
theorem dX1_cutShare_16 : decode cX1_cutShare 16 = .ok (.iload_n 3, 1) := by decide +kernel
theorem dX1_cutShare_17 : decode cX1_cutShare 17 = .ok (.i2l, 1) := by decide +kernel
theorem dX1_cutShare_18 : decode cX1_cutShare 18 = .ok (.lmul, 1) := by decide +kernel
theorem dX1_cutShare_19 : decode cX1_cutShare 19 = .ok (.iload 4, 2) := by decide +kernel
theorem dX1_cutShare_21 : decode cX1_cutShare 21 = .ok (.i2l, 1) := by decide +kernel
theorem dX1_cutShare_22 : decode cX1_cutShare 22 = .ok (.ldiv, 1) := by decide +kernel
theorem dX1_cutShare_23 : decode cX1_cutShare 23 = .ok (.l2i, 1) := by decide +kernel
theorem dX1_cutShare_24 : decode cX1_cutShare 24 = .ok (.ireturn, 1) := by decide +kernel
theorem dX1_ownerOfTheMost_0 : decode cX1_ownerOfTheMost 0 = .ok (.iconst 0, 1) := by decide +kernel
theorem dX1_ownerOfTheMost_1 : decode cX1_ownerOfTheMost 1 = .ok (.istore_n 2, 1) := by decide +kernel
theorem dX1_ownerOfTheMost_2 : decode cX1_ownerOfTheMost 2 = .ok (.iconst 1, 1) := by decide +kernel
theorem dX1_ownerOfTheMost_3 : decode cX1_ownerOfTheMost 3 = .ok (.istore_n 3, 1) := by decide +kernel
theorem dX1_ownerOfTheMost_4 : decode cX1_ownerOfTheMost 4 = .ok (.iload_n 3, 1) := by decide +kernel
theorem dX1_ownerOfTheMost_5 : decode cX1_ownerOfTheMost 5 = .ok (.iconst 4, 1) := by decide +kernel
theorem dX1_ownerOfTheMost_6 : decode cX1_ownerOfTheMost 6 = .ok (.if_icmp .ge 30, 3) := by decide +kernel
theorem dX1_ownerOfTheMost_9 : decode cX1_ownerOfTheMost 9 = .ok (.aload_n 0, 1) := by decide +kernel
theorem dX1_ownerOfTheMost_10 : decode cX1_ownerOfTheMost 10 = .ok (.getfield 23, 3) := by decide +kernel
theorem dX1_ownerOfTheMost_13 : decode cX1_ownerOfTheMost 13 = .ok (.iload_n 3, 1) := by decide +kernel
theorem dX1_ownerOfTheMost_14 : decode cX1_ownerOfTheMost 14 = .ok (.aaload, 1) := by decide +kernel
theorem dX1_ownerOfTheMost_15 : decode cX1_ownerOfTheMost 15 = .ok (.iload_n 1, 1) := by decide +kernel
theorem dX1_ownerOfTheMost_16 : decode cX1_ownerOfTheMost 16 = .ok (.iaload, 1) := by decide +kernel
theorem dX1_ownerOfTheMost_17 : decode cX1_ownerOfTheMost 17 = .ok (.aload_n 0, 1) := by decide +kernel
theorem dX1_ownerOfTheMost_18 : decode cX1_ownerOfTheMost 18 = .ok (.getfield 23, 3) := by decide +kernel
theorem dX1_ownerOfTheMost_21 : decode cX1_ownerOfTheMost 21 = .ok (.iload_n 2, 1) := by decide +kernel
theorem dX1_ownerOfTheMost_22 : decode cX1_ownerOfTheMost 22 = .ok (.aaload, 1) := by decide +kernel
theorem dX1_ownerOfTheMost_23 : decode cX1_ownerOfTheMost 23 = .ok (.iload_n 1, 1) := by decide +kernel
theorem dX1_ownerOfTheMost_24 : decode cX1_ownerOfTheMost 24 = .ok (.iaload, 1) := by decide +kernel
theorem dX1_ownerOfTheMost_25 : decode cX1_ownerOfTheMost 25 = .ok (.if_icmp .le 5, 3) := by decide +kernel
theorem dX1_ownerOfTheMost_28 : decode cX1_ownerOfTheMost 28 = .ok (.iload_n 3, 1) := by decide +kernel
theorem dX1_ownerOfTheMost_29 : decode cX1_ownerOfTheMost 29 = .ok (.istore_n 2, 1) := by decide +kernel
theorem dX1_ownerOfTheMost_30 : decode cX1_ownerOfTheMost 30 = .ok (.iinc 3 1, 3) := by decide +kernel
theorem dX1_ownerOfTheMost_33 : decode cX1_ownerOfTheMost 33 = .ok (.goto (-29), 3) := by decide +kernel
theorem dX1_ownerOfTheMost_36 : decode cX1_ownerOfTheMost 36 = .ok (.iload_n 2, 1) := by decide +kernel
theorem dX1_ownerOfTheMost_37 : decode cX1_ownerOfTheMost 37 = .ok (.ireturn, 1) := by decide +kernel
theorem dX1_sumFares_0 : decode cX1_sumFares 0 = .ok (.lconst 0, 1) := by decide +kernel
theorem dX1_sumFares_1 : decode cX1_sumFares 1 = .ok (.lstore_n 3, 1) := by decide +kernel
theorem dX1_sumFares_2 : decode cX1_sumFares 2 = .ok (.iconst 0, 1) := by decide +kernel
theorem dX1_sumFares_3 : decode cX1_sumFares 3 = .ok (.istore 5, 2) := by decide +kernel
theorem dX1_sumFares_5 : decode cX1_sumFares 5 = .ok (.iload 5, 2) := by decide +kernel
theorem dX1_sumFares_7 : decode cX1_sumFares 7 = .ok (.aload_n 0, 1) := by decide +kernel
theorem dX1_sumFares_8 : decode cX1_sumFares 8 = .ok (.getfield 33, 3) := by decide +kernel
theorem dX1_sumFares_11 : decode cX1_sumFares 11 = .ok (.if_icmp .ge 30, 3) := by decide +kernel
theorem dX1_sumFares_14 : decode cX1_sumFares 14 = .ok (.aload_n 0, 1) := by decide +kernel
theorem dX1_sumFares_15 : decode cX1_sumFares 15 = .ok (.iload 5, 2) := by decide +kernel
theorem dX1_sumFares_17 : decode cX1_sumFares 17 = .ok (.iload_n 1, 1) := by decide +kernel
theorem dX1_sumFares_18 : decode cX1_sumFares 18 = .ok (.invokevirtual 54, 3) := by decide +kernel
theorem dX1_sumFares_21 : decode cX1_sumFares 21 = .ok (.ifCond .eq 14, 3) := by decide +kernel
theorem dX1_sumFares_24 : decode cX1_sumFares 24 = .ok (.lload_n 3, 1) := by decide +kernel
theorem dX1_sumFares_25 : decode cX1_sumFares 25 = .ok (.aload_n 0, 1) := by decide +kernel
theorem dX1_sumFares_26 : decode cX1_sumFares 26 = .ok (.iload 5, 2) := by decide +kernel
theorem dX1_sumFares_28 : decode cX1_sumFares 28 = .ok (.iload_n 2, 1) := by decide +kernel
theorem dX1_sumFares_29 : decode cX1_sumFares 29 = .ok (.invokevirtual 58, 3) := by decide +kernel
theorem dX1_sumFares_32 : decode cX1_sumFares 32 = .ok (.i2l, 1) := by decide +kernel
theorem dX1_sumFares_33 : decode cX1_sumFares 33 = .ok (.ladd, 1) := by decide +kernel
theorem dX1_sumFares_34 : decode cX1_sumFares 34 = .ok (.lstore_n 3, 1) := by decide +kernel
theorem dX1_sumFares_35 : decode cX1_sumFares 35 = .ok (.iinc 5 1, 3) := by decide +kernel
theorem dX1_sumFares_38 : decode cX1_sumFares 38 = .ok (.goto (-33), 3) := by decide +kernel
theorem dX1_sumFares_41 : decode cX1_sumFares 41 = .ok (.lload_n 3, 1) := by decide +kernel
theorem dX1_sumFares_42 : decode cX1_sumFares 42 = .ok (.lreturn, 1) := by decide +kernel
theorem dX1_sumShares_0 : decode cX1_sumShares 0 = .ok (.lconst 0, 1) := by decide +kernel
theorem dX1_sumShares_1 : decode cX1_sumShares 1 = .ok (.lstore 4, 2) := by decide +kernel
theorem dX1_sumShares_3 : decode cX1_sumShares 3 = .ok (.iconst 0, 1) := by decide +kernel
theorem dX1_sumShares_4 : decode cX1_sumShares 4 = .ok (.istore 6, 2) := by decide +kernel
theorem dX1_sumShares_6 : decode cX1_sumShares 6 = .ok (.iload 6, 2) := by decide +kernel
theorem dX1_sumShares_8 : decode cX1_sumShares 8 = .ok (.aload_n 0, 1) := by decide +kernel
theorem dX1_sumShares_9 : decode cX1_sumShares 9 = .ok (.getfield 33, 3) := by decide +kernel
theorem dX1_sumShares_12 : decode cX1_sumShares 12 = .ok (.if_icmp .ge 33, 3) := by decide +kernel
theorem dX1_sumShares_15 : decode cX1_sumShares 15 = .ok (.aload_n 0, 1) := by decide +kernel
theorem dX1_sumShares_16 : decode cX1_sumShares 16 = .ok (.iload 6, 2) := by decide +kernel
theorem dX1_sumShares_18 : decode cX1_sumShares 18 = .ok (.iload_n 2, 1) := by decide +kernel
theorem dX1_sumShares_19 : decode cX1_sumShares 19 = .ok (.invokevirtual 54, 3) := by decide +kernel
theorem dX1_sumShares_22 : decode cX1_sumShares 22 = .ok (.ifCond .eq 17, 3) := by decide +kernel
theorem dX1_sumShares_25 : decode cX1_sumShares 25 = .ok (.lload 4, 2) := by decide +kernel
theorem dX1_sumShares_27 : decode cX1_sumShares 27 = .ok (.aload_n 0, 1) := by decide +kernel
theorem dX1_sumShares_28 : decode cX1_sumShares 28 = .ok (.iload 6, 2) := by decide +kernel
theorem dX1_sumShares_30 : decode cX1_sumShares 30 = .ok (.iload_n 1, 1) := by decide +kernel
theorem dX1_sumShares_31 : decode cX1_sumShares 31 = .ok (.iload_n 3, 1) := by decide +kernel
theorem dX1_sumShares_32 : decode cX1_sumShares 32 = .ok (.invokevirtual 61, 3) := by decide +kernel
theorem dX1_sumShares_35 : decode cX1_sumShares 35 = .ok (.i2l, 1) := by decide +kernel
theorem dX1_sumShares_36 : decode cX1_sumShares 36 = .ok (.ladd, 1) := by decide +kernel
theorem dX1_sumShares_37 : decode cX1_sumShares 37 = .ok (.lstore 4, 2) := by decide +kernel
theorem dX1_sumShares_39 : decode cX1_sumShares 39 = .ok (.iinc 6 1, 3) := by decide +kernel
theorem dX1_sumShares_42 : decode cX1_sumShares 42 = .ok (.goto (-36), 3) := by decide +kernel
theorem dX1_sumShares_45 : decode cX1_sumShares 45 = .ok (.lload 4, 2) := by decide +kernel
theorem dX1_sumShares_47 : decode cX1_sumShares 47 = .ok (.lreturn, 1) := by decide +kernel
theorem dX2_init_0 : decode cX2_init 0 = .ok (.aload_n 0, 1) := by decide +kernel
theorem dX2_init_1 : decode cX2_init 1 = .ok (.invokespecial 3, 3) := by decide +kernel
theorem dX2_init_4 : decode cX2_init 4 = .ok (.aload_n 0, 1) := by decide +kernel
theorem dX2_init_5 : decode cX2_init 5 = .ok (.bipush 10, 2) := by decide +kernel
theorem dX2_init_7 : decode cX2_init 7 = .ok (.newarray .int, 2) := by decide +kernel
theorem dX2_init_9 : decode cX2_init 9 = .ok (.putfield 9, 3) := by decide +kernel
theorem dX2_init_12 : decode cX2_init 12 = .ok (.aload_n 0, 1) := by decide +kernel
theorem dX2_init_13 : decode cX2_init 13 = .ok (.bipush 10, 2) := by decide +kernel
theorem dX2_init_15 : decode cX2_init 15 = .ok (.newarray .int, 2) := by decide +kernel
theorem dX2_init_17 : decode cX2_init 17 = .ok (.putfield 15, 3) := by decide +kernel
theorem dX2_init_20 : decode cX2_init 20 = .ok (.iconst 0, 1) := by decide +kernel
theorem dX2_init_21 : decode cX2_init 21 = .ok (.istore_n 1, 1) := by decide +kernel
theorem dX2_init_22 : decode cX2_init 22 = .ok (.iload_n 1, 1) := by decide +kernel
theorem dX2_init_23 : decode cX2_init 23 = .ok (.bipush 10, 2) := by decide +kernel
theorem dX2_init_25 : decode cX2_init 25 = .ok (.if_icmp .ge 16, 3) := by decide +kernel
theorem dX2_init_28 : decode cX2_init 28 = .ok (.aload_n 0, 1) := by decide +kernel
theorem dX2_init_29 : decode cX2_init 29 = .ok (.getfield 15, 3) := by decide +kernel
theorem dX2_init_32 : decode cX2_init 32 = .ok (.iload_n 1, 1) := by decide +kernel
theorem dX2_init_33 : decode cX2_init 33 = .ok (.iconst (-1), 1) := by decide +kernel
theorem dX2_init_34 : decode cX2_init 34 = .ok (.iastore, 1) := by decide +kernel
theorem dX2_init_35 : decode cX2_init 35 = .ok (.iinc 1 1, 3) := by decide +kernel
theorem dX2_init_38 : decode cX2_init 38 = .ok (.goto (-16), 3) := by decide +kernel
theorem dX2_init_41 : decode cX2_init 41 = .ok (.aload_n 0, 1) := by decide +kernel
theorem dX2_init_42 : decode cX2_init 42 = .ok (.bipush 20, 2) := by decide +kernel
theorem dX2_init_44 : decode cX2_init 44 = .ok (.newarray .int, 2) := by decide +kernel
theorem dX2_init_46 : decode cX2_init 46 = .ok (.putfield 18, 3) := by decide +kernel
theorem dX2_init_49 : decode cX2_init 49 = .ok (.aload_n 0, 1) := by decide +kernel
theorem dX2_init_50 : decode cX2_init 50 = .ok (.bipush 20, 2) := by decide +kernel
theorem dX2_init_52 : decode cX2_init 52 = .ok (.newarray .int, 2) := by decide +kernel
theorem dX2_init_54 : decode cX2_init 54 = .ok (.putfield 21, 3) := by decide +kernel
theorem dX2_init_57 : decode cX2_init 57 = .ok (.aload_n 0, 1) := by decide +kernel
theorem dX2_init_58 : decode cX2_init 58 = .ok (.bipush 20, 2) := by decide +kernel
theorem dX2_init_60 : decode cX2_init 60 = .ok (.newarray .int, 2) := by decide +kernel
theorem dX2_init_62 : decode cX2_init 62 = .ok (.putfield 24, 3) := by decide +kernel
theorem dX2_init_65 : decode cX2_init 65 = .ok (.aload_n 0, 1) := by decide +kernel
theorem dX2_init_66 : decode cX2_init 66 = .ok (.iconst 0, 1) := by decide +kernel
theorem dX2_init_67 : decode cX2_init 67 = .ok (.putfield 27, 3) := by decide +kernel
theorem dX2_init_70 : decode cX2_init 70 = .ok (.return_, 1) := by decide +kernel
theorem dX2_addSpan_0 : decode cX2_addSpan 0 = .ok (.aload_n 0, 1) := by decide +kernel
theorem dX2_addSpan_1 : decode cX2_addSpan 1 = .ok (.getfield 18, 3) := by decide +kernel
theorem dX2_addSpan_4 : decode cX2_addSpan 4 = .ok (.aload_n 0, 1) := by decide +kernel
theorem dX2_addSpan_5 : decode cX2_addSpan 5 = .ok (.getfield 27, 3) := by decide +kernel
theorem dX2_addSpan_8 : decode cX2_addSpan 8 = .ok (.iload_n 1, 1) := by decide +kernel
theorem dX2_addSpan_9 : decode cX2_addSpan 9 = .ok (.iastore, 1) := by decide +kernel
theorem dX2_addSpan_10 : decode cX2_addSpan 10 = .ok (.aload_n 0, 1) := by decide +kernel
theorem dX2_addSpan_11 : decode cX2_addSpan 11 = .ok (.getfield 21, 3) := by decide +kernel
theorem dX2_addSpan_14 : decode cX2_addSpan 14 = .ok (.aload_n 0, 1) := by decide +kernel
theorem dX2_addSpan_15 : decode cX2_addSpan 15 = .ok (.getfield 27, 3) := by decide +kernel
theorem dX2_addSpan_18 : decode cX2_addSpan 18 = .ok (.iload_n 2, 1) := by decide +kernel
theorem dX2_addSpan_19 : decode cX2_addSpan 19 = .ok (.iastore, 1) := by decide +kernel
theorem dX2_addSpan_20 : decode cX2_addSpan 20 = .ok (.aload_n 0, 1) := by decide +kernel
theorem dX2_addSpan_21 : decode cX2_addSpan 21 = .ok (.getfield 24, 3) := by decide +kernel
theorem dX2_addSpan_24 : decode cX2_addSpan 24 = .ok (.aload_n 0, 1) := by decide +kernel
theorem dX2_addSpan_25 : decode cX2_addSpan 25 = .ok (.getfield 27, 3) := by decide +kernel
theorem dX2_addSpan_28 : decode cX2_addSpan 28 = .ok (.iload_n 3, 1) := by decide +kernel
theorem dX2_addSpan_29 : decode cX2_addSpan 29 = .ok (.iastore, 1) := by decide +kernel
theorem dX2_addSpan_30 : decode cX2_addSpan 30 = .ok (.aload_n 0, 1) := by decide +kernel
theorem dX2_addSpan_31 : decode cX2_addSpan 31 = .ok (.dup, 1) := by decide +kernel
theorem dX2_addSpan_32 : decode cX2_addSpan 32 = .ok (.getfield 27, 3) := by decide +kernel
theorem dX2_addSpan_35 : decode cX2_addSpan 35 = .ok (.iconst 1, 1) := by decide +kernel
theorem dX2_addSpan_36 : decode cX2_addSpan 36 = .ok (.iadd, 1) := by decide +kernel
theorem dX2_addSpan_37 : decode cX2_addSpan 37 = .ok (.putfield 27, 3) := by decide +kernel
theorem dX2_addSpan_40 : decode cX2_addSpan 40 = .ok (.aload_n 0, 1) := by decide +kernel
theorem dX2_addSpan_41 : decode cX2_addSpan 41 = .ok (.getfield 27, 3) := by decide +kernel
theorem dX2_addSpan_44 : decode cX2_addSpan 44 = .ok (.ireturn, 1) := by decide +kernel
theorem dX2_isExempt_0 : decode cX2_isExempt 0 = .ok (.iconst 0, 1) := by decide +kernel
theorem dX2_isExempt_1 : decode cX2_isExempt 1 = .ok (.istore_n 3, 1) := by decide +kernel
theorem dX2_isExempt_2 : decode cX2_isExempt 2 = .ok (.iload_n 3, 1) := by decide +kernel
theorem dX2_isExempt_3 : decode cX2_isExempt 3 = .ok (.aload_n 0, 1) := by decide +kernel
theorem dX2_isExempt_4 : decode cX2_isExempt 4 = .ok (.getfield 27, 3) := by decide +kernel
theorem dX2_isExempt_7 : decode cX2_isExempt 7 = .ok (.if_icmp .ge 41, 3) := by decide +kernel
theorem dX2_isExempt_10 : decode cX2_isExempt 10 = .ok (.aload_n 0, 1) := by decide +kernel
theorem dX2_isExempt_11 : decode cX2_isExempt 11 = .ok (.getfield 18, 3) := by decide +kernel
theorem dX2_isExempt_14 : decode cX2_isExempt 14 = .ok (.iload_n 3, 1) := by decide +kernel
theorem dX2_isExempt_15 : decode cX2_isExempt 15 = .ok (.iaload, 1) := by decide +kernel
theorem dX2_isExempt_16 : decode cX2_isExempt 16 = .ok (.iload_n 1, 1) := by decide +kernel
theorem dX2_isExempt_17 : decode cX2_isExempt 17 = .ok (.if_icmp .ne 25, 3) := by decide +kernel
theorem dX2_isExempt_20 : decode cX2_isExempt 20 = .ok (.aload_n 0, 1) := by decide +kernel
theorem dX2_isExempt_21 : decode cX2_isExempt 21 = .ok (.getfield 21, 3) := by decide +kernel
theorem dX2_isExempt_24 : decode cX2_isExempt 24 = .ok (.iload_n 3, 1) := by decide +kernel
theorem dX2_isExempt_25 : decode cX2_isExempt 25 = .ok (.iaload, 1) := by decide +kernel
theorem dX2_isExempt_26 : decode cX2_isExempt 26 = .ok (.iload_n 2, 1) := by decide +kernel
theorem dX2_isExempt_27 : decode cX2_isExempt 27 = .ok (.if_icmp .gt 15, 3) := by decide +kernel
theorem dX2_isExempt_30 : decode cX2_isExempt 30 = .ok (.iload_n 2, 1) := by decide +kernel
theorem dX2_isExempt_31 : decode cX2_isExempt 31 = .ok (.aload_n 0, 1) := by decide +kernel
theorem dX2_isExempt_32 : decode cX2_isExempt 32 = .ok (.getfield 24, 3) := by decide +kernel
theorem dX2_isExempt_35 : decode cX2_isExempt 35 = .ok (.iload_n 3, 1) := by decide +kernel
theorem dX2_isExempt_36 : decode cX2_isExempt 36 = .ok (.iaload, 1) := by decide +kernel
theorem dX2_isExempt_37 : decode cX2_isExempt 37 = .ok (.if_icmp .gt 5, 3) := by decide +kernel
theorem dX2_isExempt_40 : decode cX2_isExempt 40 = .ok (.iconst 1, 1) := by decide +kernel
theorem dX2_isExempt_41 : decode cX2_isExempt 41 = .ok (.ireturn, 1) := by decide +kernel
theorem dX2_isExempt_42 : decode cX2_isExempt 42 = .ok (.iinc 3 1, 3) := by decide +kernel
theorem dX2_isExempt_45 : decode cX2_isExempt 45 = .ok (.goto (-43), 3) := by decide +kernel
theorem dX2_isExempt_48 : decode cX2_isExempt 48 = .ok (.iconst 0, 1) := by decide +kernel
theorem dX2_isExempt_49 : decode cX2_isExempt 49 = .ok (.ireturn, 1) := by decide +kernel
theorem dX3_init_0 : decode cX3_init 0 = .ok (.aload_n 0, 1) := by decide +kernel
theorem dX3_init_1 : decode cX3_init 1 = .ok (.invokespecial 3, 3) := by decide +kernel
theorem dX3_init_4 : decode cX3_init 4 = .ok (.aload_n 0, 1) := by decide +kernel
theorem dX3_init_5 : decode cX3_init 5 = .ok (.bipush 100, 2) := by decide +kernel
theorem dX3_init_7 : decode cX3_init 7 = .ok (.newarray .int, 2) := by decide +kernel
theorem dX3_init_9 : decode cX3_init 9 = .ok (.putfield 9, 3) := by decide +kernel
theorem dX3_init_12 : decode cX3_init 12 = .ok (.aload_n 0, 1) := by decide +kernel
theorem dX3_init_13 : decode cX3_init 13 = .ok (.bipush 100, 2) := by decide +kernel
theorem dX3_init_15 : decode cX3_init 15 = .ok (.newarray .int, 2) := by decide +kernel
theorem dX3_init_17 : decode cX3_init 17 = .ok (.putfield 15, 3) := by decide +kernel
theorem dX3_init_20 : decode cX3_init 20 = .ok (.aload_n 0, 1) := by decide +kernel
theorem dX3_init_21 : decode cX3_init 21 = .ok (.bipush 100, 2) := by decide +kernel
theorem dX3_init_23 : decode cX3_init 23 = .ok (.newarray .int, 2) := by decide +kernel
theorem dX3_init_25 : decode cX3_init 25 = .ok (.putfield 18, 3) := by decide +kernel
theorem dX3_init_28 : decode cX3_init 28 = .ok (.aload_n 0, 1) := by decide +kernel
theorem dX3_init_29 : decode cX3_init 29 = .ok (.bipush 100, 2) := by decide +kernel
theorem dX3_init_31 : decode cX3_init 31 = .ok (.newarray .boolean, 2) := by decide +kernel
theorem dX3_init_33 : decode cX3_init 33 = .ok (.putfield 21, 3) := by decide +kernel
theorem dX3_init_36 : decode cX3_init 36 = .ok (.aload_n 0, 1) := by decide +kernel
theorem dX3_init_37 : decode cX3_init 37 = .ok (.bipush 100, 2) := by decide +kernel
theorem dX3_init_39 : decode cX3_init 39 = .ok (.newarray .int, 2) := by decide +kernel
theorem dX3_init_41 : decode cX3_init 41 = .ok (.putfield 25, 3) := by decide +kernel
theorem dX3_init_44 : decode cX3_init 44 = .ok (.aload_n 0, 1) := by decide +kernel
theorem dX3_init_45 : decode cX3_init 45 = .ok (.iconst 0, 1) := by decide +kernel
theorem dX3_init_46 : decode cX3_init 46 = .ok (.putfield 28, 3) := by decide +kernel
theorem dX3_init_49 : decode cX3_init 49 = .ok (.return_, 1) := by decide +kernel
theorem dX3_add_0 : decode cX3_add 0 = .ok (.aload_n 0, 1) := by decide +kernel
theorem dX3_add_1 : decode cX3_add 1 = .ok (.getfield 28, 3) := by decide +kernel
theorem dX3_add_4 : decode cX3_add 4 = .ok (.istore 4, 2) := by decide +kernel
theorem dX3_add_6 : decode cX3_add 6 = .ok (.aload_n 0, 1) := by decide +kernel
theorem dX3_add_7 : decode cX3_add 7 = .ok (.getfield 9, 3) := by decide +kernel
theorem dX3_add_10 : decode cX3_add 10 = .ok (.iload 4, 2) := by decide +kernel
theorem dX3_add_12 : decode cX3_add 12 = .ok (.iload_n 1, 1) := by decide +kernel
theorem dX3_add_13 : decode cX3_add 13 = .ok (.iastore, 1) := by decide +kernel
theorem dX3_add_14 : decode cX3_add 14 = .ok (.aload_n 0, 1) := by decide +kernel
theorem dX3_add_15 : decode cX3_add 15 = .ok (.getfield 15, 3) := by decide +kernel
theorem dX3_add_18 : decode cX3_add 18 = .ok (.iload 4, 2) := by decide +kernel
theorem dX3_add_20 : decode cX3_add 20 = .ok (.iload_n 2, 1) := by decide +kernel
theorem dX3_add_21 : decode cX3_add 21 = .ok (.iastore, 1) := by decide +kernel
theorem dX3_add_22 : decode cX3_add 22 = .ok (.aload_n 0, 1) := by decide +kernel
theorem dX3_add_23 : decode cX3_add 23 = .ok (.getfield 18, 3) := by decide +kernel
theorem dX3_add_26 : decode cX3_add 26 = .ok (.iload 4, 2) := by decide +kernel
theorem dX3_add_28 : decode cX3_add 28 = .ok (.iload_n 3, 1) := by decide +kernel
theorem dX3_add_29 : decode cX3_add 29 = .ok (.iastore, 1) := by decide +kernel
theorem dX3_add_30 : decode cX3_add 30 = .ok (.aload_n 0, 1) := by decide +kernel
theorem dX3_add_31 : decode cX3_add 31 = .ok (.getfield 28, 3) := by decide +kernel
theorem dX3_add_34 : decode cX3_add 34 = .ok (.istore 5, 2) := by decide +kernel
theorem dX3_add_36 : decode cX3_add 36 = .ok (.iload 5, 2) := by decide +kernel
theorem dX3_add_38 : decode cX3_add 38 = .ok (.ifCond .le 43, 3) := by decide +kernel
theorem dX3_add_41 : decode cX3_add 41 = .ok (.aload_n 0, 1) := by decide +kernel
theorem dX3_add_42 : decode cX3_add 42 = .ok (.getfield 18, 3) := by decide +kernel
theorem dX3_add_45 : decode cX3_add 45 = .ok (.aload_n 0, 1) := by decide +kernel
theorem dX3_add_46 : decode cX3_add 46 = .ok (.getfield 25, 3) := by decide +kernel
theorem dX3_add_49 : decode cX3_add 49 = .ok (.iload 5, 2) := by decide +kernel
theorem dX3_add_51 : decode cX3_add 51 = .ok (.iconst 1, 1) := by decide +kernel
theorem dX3_add_52 : decode cX3_add 52 = .ok (.isub, 1) := by decide +kernel
theorem dX3_add_53 : decode cX3_add 53 = .ok (.iaload, 1) := by decide +kernel
theorem dX3_add_54 : decode cX3_add 54 = .ok (.iaload, 1) := by decide +kernel
theorem dX3_add_55 : decode cX3_add 55 = .ok (.iload_n 3, 1) := by decide +kernel
theorem dX3_add_56 : decode cX3_add 56 = .ok (.if_icmp .le 25, 3) := by decide +kernel
theorem dX3_add_59 : decode cX3_add 59 = .ok (.aload_n 0, 1) := by decide +kernel
theorem dX3_add_60 : decode cX3_add 60 = .ok (.getfield 25, 3) := by decide +kernel
theorem dX3_add_63 : decode cX3_add 63 = .ok (.iload 5, 2) := by decide +kernel
theorem dX3_add_65 : decode cX3_add 65 = .ok (.aload_n 0, 1) := by decide +kernel
theorem dX3_add_66 : decode cX3_add 66 = .ok (.getfield 25, 3) := by decide +kernel
theorem dX3_add_69 : decode cX3_add 69 = .ok (.iload 5, 2) := by decide +kernel
theorem dX3_add_71 : decode cX3_add 71 = .ok (.iconst 1, 1) := by decide +kernel
theorem dX3_add_72 : decode cX3_add 72 = .ok (.isub, 1) := by decide +kernel
theorem dX3_add_73 : decode cX3_add 73 = .ok (.iaload, 1) := by decide +kernel
theorem dX3_add_74 : decode cX3_add 74 = .ok (.iastore, 1) := by decide +kernel
theorem dX3_add_75 : decode cX3_add 75 = .ok (.iinc 5 (-1), 3) := by decide +kernel
theorem dX3_add_78 : decode cX3_add 78 = .ok (.goto (-42), 3) := by decide +kernel
theorem dX3_add_81 : decode cX3_add 81 = .ok (.aload_n 0, 1) := by decide +kernel
theorem dX3_add_82 : decode cX3_add 82 = .ok (.getfield 25, 3) := by decide +kernel
theorem dX3_add_85 : decode cX3_add 85 = .ok (.iload 5, 2) := by decide +kernel
theorem dX3_add_87 : decode cX3_add 87 = .ok (.iload 4, 2) := by decide +kernel
theorem dX3_add_89 : decode cX3_add 89 = .ok (.iastore, 1) := by decide +kernel
theorem dX3_add_90 : decode cX3_add 90 = .ok (.aload_n 0, 1) := by decide +kernel
theorem dX3_add_91 : decode cX3_add 91 = .ok (.dup, 1) := by decide +kernel
theorem dX3_add_92 : decode cX3_add 92 = .ok (.getfield 28, 3) := by decide +kernel
theorem dX3_add_95 : decode cX3_add 95 = .ok (.iconst 1, 1) := by decide +kernel
theorem dX3_add_96 : decode cX3_add 96 = .ok (.iadd, 1) := by decide +kernel
theorem dX3_add_97 : decode cX3_add 97 = .ok (.putfield 28, 3) := by decide +kernel
theorem dX3_add_100 : decode cX3_add 100 = .ok (.iload 4, 2) := by decide +kernel
theorem dX3_add_102 : decode cX3_add 102 = .ok (.ireturn, 1) := by decide +kernel
theorem dX3_minutesBetween_0 : decode cX3_minutesBetween 0 = .ok (.aload_n 0, 1) := by decide +kernel
theorem dX3_minutesBetween_1 : decode cX3_minutesBetween 1 = .ok (.getfield 18, 3) := by decide +kernel
theorem dX3_minutesBetween_4 : decode cX3_minutesBetween 4 = .ok (.iload_n 2, 1) := by decide +kernel
theorem dX3_minutesBetween_5 : decode cX3_minutesBetween 5 = .ok (.iaload, 1) := by decide +kernel
theorem dX3_minutesBetween_6 : decode cX3_minutesBetween 6 = .ok (.aload_n 0, 1) := by decide +kernel
theorem dX3_minutesBetween_7 : decode cX3_minutesBetween 7 = .ok (.getfield 18, 3) := by decide +kernel
theorem dX3_minutesBetween_10 : decode cX3_minutesBetween 10 = .ok (.iload_n 1, 1) := by decide +kernel
theorem dX3_minutesBetween_11 : decode cX3_minutesBetween 11 = .ok (.iaload, 1) := by decide +kernel
theorem dX3_minutesBetween_12 : decode cX3_minutesBetween 12 = .ok (.isub, 1) := by decide +kernel
theorem dX3_minutesBetween_13 : decode cX3_minutesBetween 13 = .ok (.ireturn, 1) := by decide +kernel
theorem dX4_init_0 : decode cX4_init 0 = .ok (.aload_n 0, 1) := by decide +kernel
theorem dX4_init_1 : decode cX4_init 1 = .ok (.invokespecial 3, 3) := by decide +kernel
theorem dX4_init_4 : decode cX4_init 4 = .ok (.aload_n 0, 1) := by decide +kernel
theorem dX4_init_5 : decode cX4_init 5 = .ok (.bipush 24, 2) := by decide +kernel
theorem dX4_init_7 : decode cX4_init 7 = .ok (.newarray .int, 2) := by decide +kernel
theorem dX4_init_9 : decode cX4_init 9 = .ok (.putfield 9, 3) := by decide +kernel
theorem dX4_init_12 : decode cX4_init 12 = .ok (.aload_n 0, 1) := by decide +kernel
theorem dX4_init_13 : decode cX4_init 13 = .ok (.bipush 24, 2) := by decide +kernel
theorem dX4_init_15 : decode cX4_init 15 = .ok (.newarray .int, 2) := by decide +kernel
theorem dX4_init_17 : decode cX4_init 17 = .ok (.putfield 15, 3) := by decide +kernel
theorem dX4_init_20 : decode cX4_init 20 = .ok (.aload_n 0, 1) := by decide +kernel
theorem dX4_init_21 : decode cX4_init 21 = .ok (.bipush 24, 2) := by decide +kernel
theorem dX4_init_23 : decode cX4_init 23 = .ok (.newarray .int, 2) := by decide +kernel
theorem dX4_init_25 : decode cX4_init 25 = .ok (.putfield 18, 3) := by decide +kernel
theorem dX4_init_28 : decode cX4_init 28 = .ok (.aload_n 0, 1) := by decide +kernel
theorem dX4_init_29 : decode cX4_init 29 = .ok (.bipush 24, 2) := by decide +kernel
theorem dX4_init_31 : decode cX4_init 31 = .ok (.newarray .int, 2) := by decide +kernel
theorem dX4_init_33 : decode cX4_init 33 = .ok (.putfield 21, 3) := by decide +kernel
theorem dX4_init_36 : decode cX4_init 36 = .ok (.aload_n 0, 1) := by decide +kernel
theorem dX4_init_37 : decode cX4_init 37 = .ok (.bipush 12, 2) := by decide +kernel
theorem dX4_init_39 : decode cX4_init 39 = .ok (.bipush 12, 2) := by decide +kernel
theorem dX4_init_41 : decode cX4_init 41 = .ok (.multianewarray 24 2, 4) := by decide +kernel
theorem dX4_init_45 : decode cX4_init 45 = .ok (.putfield 26, 3) := by decide +kernel
theorem dX4_init_48 : decode cX4_init 48 = .ok (.iconst 0, 1) := by decide +kernel
theorem dX4_init_49 : decode cX4_init 49 = .ok (.istore_n 1, 1) := by decide +kernel
theorem dX4_init_50 : decode cX4_init 50 = .ok (.iload_n 1, 1) := by decide +kernel
theorem dX4_init_51 : decode cX4_init 51 = .ok (.bipush 12, 2) := by decide +kernel
theorem dX4_init_53 : decode cX4_init 53 = .ok (.if_icmp .ge 42, 3) := by decide +kernel
theorem dX4_init_56 : decode cX4_init 56 = .ok (.iconst 0, 1) := by decide +kernel
theorem dX4_init_57 : decode cX4_init 57 = .ok (.istore_n 2, 1) := by decide +kernel
theorem dX4_init_58 : decode cX4_init 58 = .ok (.iload_n 2, 1) := by decide +kernel
theorem dX4_init_59 : decode cX4_init 59 = .ok (.bipush 12, 2) := by decide +kernel
theorem dX4_init_61 : decode cX4_init 61 = .ok (.if_icmp .ge 28, 3) := by decide +kernel
theorem dX4_init_64 : decode cX4_init 64 = .ok (.aload_n 0, 1) := by decide +kernel
theorem dX4_init_65 : decode cX4_init 65 = .ok (.getfield 26, 3) := by decide +kernel
theorem dX4_init_68 : decode cX4_init 68 = .ok (.iload_n 1, 1) := by decide +kernel
theorem dX4_init_69 : decode cX4_init 69 = .ok (.aaload, 1) := by decide +kernel
theorem dX4_init_70 : decode cX4_init 70 = .ok (.iload_n 2, 1) := by decide +kernel
theorem dX4_init_71 : decode cX4_init 71 = .ok (.iload_n 1, 1) := by decide +kernel
theorem dX4_init_72 : decode cX4_init 72 = .ok (.iload_n 2, 1) := by decide +kernel
theorem dX4_init_73 : decode cX4_init 73 = .ok (.if_icmp .ne 7, 3) := by decide +kernel
theorem dX4_init_76 : decode cX4_init 76 = .ok (.iconst 0, 1) := by decide +kernel
theorem dX4_init_77 : decode cX4_init 77 = .ok (.goto 5, 3) := by decide +kernel
theorem dX4_init_80 : decode cX4_init 80 = .ok (.ldc 29, 2) := by decide +kernel
theorem dX4_init_82 : decode cX4_init 82 = .ok (.iastore, 1) := by decide +kernel
theorem dX4_init_83 : decode cX4_init 83 = .ok (.iinc 2 1, 3) := by decide +kernel
theorem dX4_init_86 : decode cX4_init 86 = .ok (.goto (-28), 3) := by decide +kernel
theorem dX4_init_89 : decode cX4_init 89 = .ok (.iinc 1 1, 3) := by decide +kernel
theorem dX4_init_92 : decode cX4_init 92 = .ok (.goto (-42), 3) := by decide +kernel
theorem dX4_init_95 : decode cX4_init 95 = .ok (.aload_n 0, 1) := by decide +kernel
theorem dX4_init_96 : decode cX4_init 96 = .ok (.iconst 0, 1) := by decide +kernel
theorem dX4_init_97 : decode cX4_init 97 = .ok (.putfield 30, 3) := by decide +kernel
theorem dX4_init_100 : decode cX4_init 100 = .ok (.aload_n 0, 1) := by decide +kernel
theorem dX4_init_101 : decode cX4_init 101 = .ok (.iconst 0, 1) := by decide +kernel
theorem dX4_init_102 : decode cX4_init 102 = .ok (.putfield 34, 3) := by decide +kernel
theorem dX4_init_105 : decode cX4_init 105 = .ok (.return_, 1) := by decide +kernel
theorem dX4_addGate_0 : decode cX4_addGate 0 = .ok (.aload_n 0, 1) := by decide +kernel
theorem dX4_addGate_1 : decode cX4_addGate 1 = .ok (.getfield 30, 3) := by decide +kernel
theorem dX4_addGate_4 : decode cX4_addGate 4 = .ok (.istore_n 1, 1) := by decide +kernel
theorem dX4_addGate_5 : decode cX4_addGate 5 = .ok (.aload_n 0, 1) := by decide +kernel
theorem dX4_addGate_6 : decode cX4_addGate 6 = .ok (.dup, 1) := by decide +kernel
theorem dX4_addGate_7 : decode cX4_addGate 7 = .ok (.getfield 30, 3) := by decide +kernel
theorem dX4_addGate_10 : decode cX4_addGate 10 = .ok (.iconst 1, 1) := by decide +kernel
theorem dX4_addGate_11 : decode cX4_addGate 11 = .ok (.iadd, 1) := by decide +kernel
theorem dX4_addGate_12 : decode cX4_addGate 12 = .ok (.putfield 30, 3) := by decide +kernel
theorem dX4_addGate_15 : decode cX4_addGate 15 = .ok (.iload_n 1, 1) := by decide +kernel
theorem dX4_addGate_16 : decode cX4_addGate 16 = .ok (.ireturn, 1) := by decide +kernel
theorem dX4_addRoad_0 : decode cX4_addRoad 0 = .ok (.aload_n 0, 1) := by decide +kernel
theorem dX4_addRoad_1 : decode cX4_addRoad 1 = .ok (.getfield 34, 3) := by decide +kernel
theorem dX4_addRoad_4 : decode cX4_addRoad 4 = .ok (.istore 5, 2) := by decide +kernel
theorem dX4_addRoad_6 : decode cX4_addRoad 6 = .ok (.aload_n 0, 1) := by decide +kernel
theorem dX4_addRoad_7 : decode cX4_addRoad 7 = .ok (.getfield 9, 3) := by decide +kernel
theorem dX4_addRoad_10 : decode cX4_addRoad 10 = .ok (.iload 5, 2) := by decide +kernel
theorem dX4_addRoad_12 : decode cX4_addRoad 12 = .ok (.iload_n 1, 1) := by decide +kernel
theorem dX4_addRoad_13 : decode cX4_addRoad 13 = .ok (.iastore, 1) := by decide +kernel
theorem dX4_addRoad_14 : decode cX4_addRoad 14 = .ok (.aload_n 0, 1) := by decide +kernel
theorem dX4_addRoad_15 : decode cX4_addRoad 15 = .ok (.getfield 15, 3) := by decide +kernel
theorem dX4_addRoad_18 : decode cX4_addRoad 18 = .ok (.iload 5, 2) := by decide +kernel
theorem dX4_addRoad_20 : decode cX4_addRoad 20 = .ok (.iload_n 2, 1) := by decide +kernel
theorem dX4_addRoad_21 : decode cX4_addRoad 21 = .ok (.iastore, 1) := by decide +kernel
theorem dX4_addRoad_22 : decode cX4_addRoad 22 = .ok (.aload_n 0, 1) := by decide +kernel
theorem dX4_addRoad_23 : decode cX4_addRoad 23 = .ok (.getfield 18, 3) := by decide +kernel
theorem dX4_addRoad_26 : decode cX4_addRoad 26 = .ok (.iload 5, 2) := by decide +kernel
theorem dX4_addRoad_28 : decode cX4_addRoad 28 = .ok (.iload_n 3, 1) := by decide +kernel
theorem dX4_addRoad_29 : decode cX4_addRoad 29 = .ok (.iastore, 1) := by decide +kernel
theorem dX4_addRoad_30 : decode cX4_addRoad 30 = .ok (.aload_n 0, 1) := by decide +kernel
theorem dX4_addRoad_31 : decode cX4_addRoad 31 = .ok (.getfield 21, 3) := by decide +kernel
theorem dX4_addRoad_34 : decode cX4_addRoad 34 = .ok (.iload 5, 2) := by decide +kernel
theorem dX4_addRoad_36 : decode cX4_addRoad 36 = .ok (.iload 4, 2) := by decide +kernel
theorem dX4_addRoad_38 : decode cX4_addRoad 38 = .ok (.iastore, 1) := by decide +kernel
theorem dX4_addRoad_39 : decode cX4_addRoad 39 = .ok (.aload_n 0, 1) := by decide +kernel
theorem dX4_addRoad_40 : decode cX4_addRoad 40 = .ok (.dup, 1) := by decide +kernel
theorem dX4_addRoad_41 : decode cX4_addRoad 41 = .ok (.getfield 34, 3) := by decide +kernel
theorem dX4_addRoad_44 : decode cX4_addRoad 44 = .ok (.iconst 1, 1) := by decide +kernel
theorem dX4_addRoad_45 : decode cX4_addRoad 45 = .ok (.iadd, 1) := by decide +kernel
theorem dX4_addRoad_46 : decode cX4_addRoad 46 = .ok (.putfield 34, 3) := by decide +kernel
theorem dX4_addRoad_49 : decode cX4_addRoad 49 = .ok (.aload_n 0, 1) := by decide +kernel
theorem dX4_addRoad_50 : decode cX4_addRoad 50 = .ok (.iload_n 1, 1) := by decide +kernel
theorem dX4_addRoad_51 : decode cX4_addRoad 51 = .ok (.iload_n 2, 1) := by decide +kernel
theorem dX4_addRoad_52 : decode cX4_addRoad 52 = .ok (.iload_n 3, 1) := by decide +kernel
theorem dX4_addRoad_53 : decode cX4_addRoad 53 = .ok (.invokevirtual 37, 3) := by decide +kernel
theorem dX4_addRoad_56 : decode cX4_addRoad 56 = .ok (.iload 5, 2) := by decide +kernel
theorem dX4_addRoad_58 : decode cX4_addRoad 58 = .ok (.ireturn, 1) := by decide +kernel
theorem dX4_shortenDistances_0 : decode cX4_shortenDistances 0 = .ok (.iconst 0, 1) := by decide +kernel
theorem dX4_shortenDistances_1 : decode cX4_shortenDistances 1 = .ok (.istore 4, 2) := by decide +kernel
theorem dX4_shortenDistances_3 : decode cX4_shortenDistances 3 = .ok (.iload 4, 2) := by decide +kernel
theorem dX4_shortenDistances_5 : decode cX4_shortenDistances 5 = .ok (.aload_n 0, 1) := by decide +kernel
theorem dX4_shortenDistances_6 : decode cX4_shortenDistances 6 = .ok (.getfield 30, 3) := by decide +kernel
theorem dX4_shortenDistances_9 : decode cX4_shortenDistances 9 = .ok (.if_icmp .ge 107, 3) := by decide +kernel
theorem dX4_shortenDistances_12 : decode cX4_shortenDistances 12 = .ok (.iconst 0, 1) := by decide +kernel
theorem dX4_shortenDistances_13 : decode cX4_shortenDistances 13 = .ok (.istore 5, 2) := by decide +kernel
theorem dX4_shortenDistances_15 : decode cX4_shortenDistances 15 = .ok (.iload 5, 2) := by decide +kernel
theorem dX4_shortenDistances_17 : decode cX4_shortenDistances 17 = .ok (.aload_n 0, 1) := by decide +kernel
theorem dX4_shortenDistances_18 : decode cX4_shortenDistances 18 = .ok (.getfield 30, 3) := by decide +kernel
theorem dX4_shortenDistances_21 : decode cX4_shortenDistances 21 = .ok (.if_icmp .ge 89, 3) := by decide +kernel
theorem dX4_shortenDistances_24 : decode cX4_shortenDistances 24 = .ok (.aload_n 0, 1) := by decide +kernel
theorem dX4_shortenDistances_25 : decode cX4_shortenDistances 25 = .ok (.getfield 26, 3) := by decide +kernel
theorem dX4_shortenDistances_28 : decode cX4_shortenDistances 28 = .ok (.iload 4, 2) := by decide +kernel
theorem dX4_shortenDistances_30 : decode cX4_shortenDistances 30 = .ok (.aaload, 1) := by decide +kernel
theorem dX4_shortenDistances_31 : decode cX4_shortenDistances 31 = .ok (.iload_n 1, 1) := by decide +kernel
theorem dX4_shortenDistances_32 : decode cX4_shortenDistances 32 = .ok (.iaload, 1) := by decide +kernel
theorem dX4_shortenDistances_33 : decode cX4_shortenDistances 33 = .ok (.iload_n 3, 1) := by decide +kernel
theorem dX4_shortenDistances_34 : decode cX4_shortenDistances 34 = .ok (.iadd, 1) := by decide +kernel
theorem dX4_shortenDistances_35 : decode cX4_shortenDistances 35 = .ok (.aload_n 0, 1) := by decide +kernel
theorem dX4_shortenDistances_36 : decode cX4_shortenDistances 36 = .ok (.getfield 26, 3) := by decide +kernel
theorem dX4_shortenDistances_39 : decode cX4_shortenDistances 39 = .ok (.iload_n 2, 1) := by decide +kernel
theorem dX4_shortenDistances_40 : decode cX4_shortenDistances 40 = .ok (.aaload, 1) := by decide +kernel
theorem dX4_shortenDistances_41 : decode cX4_shortenDistances 41 = .ok (.iload 5, 2) := by decide +kernel
theorem dX4_shortenDistances_43 : decode cX4_shortenDistances 43 = .ok (.iaload, 1) := by decide +kernel
theorem dX4_shortenDistances_44 : decode cX4_shortenDistances 44 = .ok (.iadd, 1) := by decide +kernel
theorem dX4_shortenDistances_45 : decode cX4_shortenDistances 45 = .ok (.istore 6, 2) := by decide +kernel
theorem dX4_shortenDistances_47 : decode cX4_shortenDistances 47 = .ok (.aload_n 0, 1) := by decide +kernel
theorem dX4_shortenDistances_48 : decode cX4_shortenDistances 48 = .ok (.getfield 26, 3) := by decide +kernel
theorem dX4_shortenDistances_51 : decode cX4_shortenDistances 51 = .ok (.iload 4, 2) := by decide +kernel
theorem dX4_shortenDistances_53 : decode cX4_shortenDistances 53 = .ok (.aaload, 1) := by decide +kernel
theorem dX4_shortenDistances_54 : decode cX4_shortenDistances 54 = .ok (.iload_n 2, 1) := by decide +kernel
theorem dX4_shortenDistances_55 : decode cX4_shortenDistances 55 = .ok (.iaload, 1) := by decide +kernel
theorem dX4_shortenDistances_56 : decode cX4_shortenDistances 56 = .ok (.iload_n 3, 1) := by decide +kernel
theorem dX4_shortenDistances_57 : decode cX4_shortenDistances 57 = .ok (.iadd, 1) := by decide +kernel
theorem dX4_shortenDistances_58 : decode cX4_shortenDistances 58 = .ok (.aload_n 0, 1) := by decide +kernel
theorem dX4_shortenDistances_59 : decode cX4_shortenDistances 59 = .ok (.getfield 26, 3) := by decide +kernel
theorem dX4_shortenDistances_62 : decode cX4_shortenDistances 62 = .ok (.iload_n 1, 1) := by decide +kernel
theorem dX4_shortenDistances_63 : decode cX4_shortenDistances 63 = .ok (.aaload, 1) := by decide +kernel
theorem dX4_shortenDistances_64 : decode cX4_shortenDistances 64 = .ok (.iload 5, 2) := by decide +kernel
theorem dX4_shortenDistances_66 : decode cX4_shortenDistances 66 = .ok (.iaload, 1) := by decide +kernel
theorem dX4_shortenDistances_67 : decode cX4_shortenDistances 67 = .ok (.iadd, 1) := by decide +kernel
theorem dX4_shortenDistances_68 : decode cX4_shortenDistances 68 = .ok (.istore 7, 2) := by decide +kernel
theorem dX4_shortenDistances_70 : decode cX4_shortenDistances 70 = .ok (.iload 6, 2) := by decide +kernel
theorem dX4_shortenDistances_72 : decode cX4_shortenDistances 72 = .ok (.iload 7, 2) := by decide +kernel
theorem dX4_shortenDistances_74 : decode cX4_shortenDistances 74 = .ok (.invokestatic 41, 3) := by decide +kernel
theorem dX4_shortenDistances_77 : decode cX4_shortenDistances 77 = .ok (.istore 8, 2) := by decide +kernel
theorem dX4_shortenDistances_79 : decode cX4_shortenDistances 79 = .ok (.aload_n 0, 1) := by decide +kernel
theorem dX4_shortenDistances_80 : decode cX4_shortenDistances 80 = .ok (.getfield 26, 3) := by decide +kernel
theorem dX4_shortenDistances_83 : decode cX4_shortenDistances 83 = .ok (.iload 4, 2) := by decide +kernel
theorem dX4_shortenDistances_85 : decode cX4_shortenDistances 85 = .ok (.aaload, 1) := by decide +kernel
theorem dX4_shortenDistances_86 : decode cX4_shortenDistances 86 = .ok (.iload 5, 2) := by decide +kernel
theorem dX4_shortenDistances_88 : decode cX4_shortenDistances 88 = .ok (.aload_n 0, 1) := by decide +kernel
theorem dX4_shortenDistances_89 : decode cX4_shortenDistances 89 = .ok (.getfield 26, 3) := by decide +kernel
theorem dX4_shortenDistances_92 : decode cX4_shortenDistances 92 = .ok (.iload 4, 2) := by decide +kernel
theorem dX4_shortenDistances_94 : decode cX4_shortenDistances 94 = .ok (.aaload, 1) := by decide +kernel
theorem dX4_shortenDistances_95 : decode cX4_shortenDistances 95 = .ok (.iload 5, 2) := by decide +kernel
theorem dX4_shortenDistances_97 : decode cX4_shortenDistances 97 = .ok (.iaload, 1) := by decide +kernel
theorem dX4_shortenDistances_98 : decode cX4_shortenDistances 98 = .ok (.iload 8, 2) := by decide +kernel
theorem dX4_shortenDistances_100 : decode cX4_shortenDistances 100 = .ok (.invokestatic 41, 3) := by decide +kernel
theorem dX4_shortenDistances_103 : decode cX4_shortenDistances 103 = .ok (.iastore, 1) := by decide +kernel
theorem dX4_shortenDistances_104 : decode cX4_shortenDistances 104 = .ok (.iinc 5 1, 3) := by decide +kernel
theorem dX4_shortenDistances_107 : decode cX4_shortenDistances 107 = .ok (.goto (-92), 3) := by decide +kernel
theorem dX4_shortenDistances_110 : decode cX4_shortenDistances 110 = .ok (.iinc 4 1, 3) := by decide +kernel
theorem dX4_shortenDistances_113 : decode cX4_shortenDistances 113 = .ok (.goto (-110), 3) := by decide +kernel
theorem dX4_shortenDistances_116 : decode cX4_shortenDistances 116 = .ok (.return_, 1) := by decide +kernel
theorem dX4_hasWay_0 : decode cX4_hasWay 0 = .ok (.aload_n 0, 1) := by decide +kernel
theorem dX4_hasWay_1 : decode cX4_hasWay 1 = .ok (.getfield 26, 3) := by decide +kernel
theorem dX4_hasWay_4 : decode cX4_hasWay 4 = .ok (.iload_n 1, 1) := by decide +kernel
theorem dX4_hasWay_5 : decode cX4_hasWay 5 = .ok (.aaload, 1) := by decide +kernel
theorem dX4_hasWay_6 : decode cX4_hasWay 6 = .ok (.iload_n 2, 1) := by decide +kernel
theorem dX4_hasWay_7 : decode cX4_hasWay 7 = .ok (.iaload, 1) := by decide +kernel
theorem dX4_hasWay_8 : decode cX4_hasWay 8 = .ok (.ldc 29, 2) := by decide +kernel
theorem dX4_hasWay_10 : decode cX4_hasWay 10 = .ok (.if_icmp .ge 7, 3) := by decide +kernel
theorem dX4_hasWay_13 : decode cX4_hasWay 13 = .ok (.iconst 1, 1) := by decide +kernel
theorem dX4_hasWay_14 : decode cX4_hasWay 14 = .ok (.goto 4, 3) := by decide +kernel
theorem dX4_hasWay_17 : decode cX4_hasWay 17 = .ok (.iconst 0, 1) := by decide +kernel
theorem dX4_hasWay_18 : decode cX4_hasWay 18 = .ok (.ireturn, 1) := by decide +kernel
theorem dX4_roadOfWay_0 : decode cX4_roadOfWay 0 = .ok (.iload_n 1, 1) := by decide +kernel
theorem dX4_roadOfWay_1 : decode cX4_roadOfWay 1 = .ok (.istore 4, 2) := by decide +kernel
theorem dX4_roadOfWay_3 : decode cX4_roadOfWay 3 = .ok (.iconst 0, 1) := by decide +kernel
theorem dX4_roadOfWay_4 : decode cX4_roadOfWay 4 = .ok (.istore 5, 2) := by decide +kernel
theorem dX4_roadOfWay_6 : decode cX4_roadOfWay 6 = .ok (.iload 5, 2) := by decide +kernel
theorem dX4_roadOfWay_8 : decode cX4_roadOfWay 8 = .ok (.bipush 12, 2) := by decide +kernel
theorem dX4_roadOfWay_10 : decode cX4_roadOfWay 10 = .ok (.if_icmp .ge 43, 3) := by decide +kernel
theorem dX4_roadOfWay_13 : decode cX4_roadOfWay 13 = .ok (.aload_n 0, 1) := by decide +kernel
theorem dX4_roadOfWay_14 : decode cX4_roadOfWay 14 = .ok (.iload 4, 2) := by decide +kernel
theorem dX4_roadOfWay_16 : decode cX4_roadOfWay 16 = .ok (.iload_n 2, 1) := by decide +kernel
theorem dX4_roadOfWay_17 : decode cX4_roadOfWay 17 = .ok (.invokevirtual 47, 3) := by decide +kernel
theorem dX4_roadOfWay_20 : decode cX4_roadOfWay 20 = .ok (.istore 6, 2) := by decide +kernel
theorem dX4_roadOfWay_22 : decode cX4_roadOfWay 22 = .ok (.iload 6, 2) := by decide +kernel
theorem dX4_roadOfWay_24 : decode cX4_roadOfWay 24 = .ok (.iconst (-1), 1) := by decide +kernel
theorem dX4_roadOfWay_25 : decode cX4_roadOfWay 25 = .ok (.if_icmp .eq 9, 3) := by decide +kernel
theorem dX4_roadOfWay_28 : decode cX4_roadOfWay 28 = .ok (.iload 5, 2) := by decide +kernel
theorem dX4_roadOfWay_30 : decode cX4_roadOfWay 30 = .ok (.iload_n 3, 1) := by decide +kernel
theorem dX4_roadOfWay_31 : decode cX4_roadOfWay 31 = .ok (.if_icmp .ne 6, 3) := by decide +kernel
theorem dX4_roadOfWay_34 : decode cX4_roadOfWay 34 = .ok (.iload 6, 2) := by decide +kernel
theorem dX4_roadOfWay_36 : decode cX4_roadOfWay 36 = .ok (.ireturn, 1) := by decide +kernel
theorem dX4_roadOfWay_37 : decode cX4_roadOfWay 37 = .ok (.aload_n 0, 1) := by decide +kernel
theorem dX4_roadOfWay_38 : decode cX4_roadOfWay 38 = .ok (.iload 6, 2) := by decide +kernel
theorem dX4_roadOfWay_40 : decode cX4_roadOfWay 40 = .ok (.iload 4, 2) := by decide +kernel
theorem dX4_roadOfWay_42 : decode cX4_roadOfWay 42 = .ok (.invokevirtual 50, 3) := by decide +kernel
theorem dX4_roadOfWay_45 : decode cX4_roadOfWay 45 = .ok (.istore 4, 2) := by decide +kernel
theorem dX4_roadOfWay_47 : decode cX4_roadOfWay 47 = .ok (.iinc 5 1, 3) := by decide +kernel
theorem dX4_roadOfWay_50 : decode cX4_roadOfWay 50 = .ok (.goto (-44), 3) := by decide +kernel
theorem dX4_roadOfWay_53 : decode cX4_roadOfWay 53 = .ok (.iconst (-1), 1) := by decide +kernel
theorem dX4_roadOfWay_54 : decode cX4_roadOfWay 54 = .ok (.ireturn, 1) := by decide +kernel
theorem dX4_roadTowards_0 : decode cX4_roadTowards 0 = .ok (.iconst 0, 1) := by decide +kernel
theorem dX4_roadTowards_1 : decode cX4_roadTowards 1 = .ok (.istore_n 3, 1) := by decide +kernel
theorem dX4_roadTowards_2 : decode cX4_roadTowards 2 = .ok (.iload_n 3, 1) := by decide +kernel
theorem dX4_roadTowards_3 : decode cX4_roadTowards 3 = .ok (.aload_n 0, 1) := by decide +kernel
theorem dX4_roadTowards_4 : decode cX4_roadTowards 4 = .ok (.getfield 34, 3) := by decide +kernel
theorem dX4_roadTowards_7 : decode cX4_roadTowards 7 = .ok (.if_icmp .ge 52, 3) := by decide +kernel
theorem dX4_roadTowards_10 : decode cX4_roadTowards 10 = .ok (.aload_n 0, 1) := by decide +kernel
theorem dX4_roadTowards_11 : decode cX4_roadTowards 11 = .ok (.iload_n 3, 1) := by decide +kernel
theorem dX4_roadTowards_12 : decode cX4_roadTowards 12 = .ok (.iload_n 1, 1) := by decide +kernel
theorem dX4_roadTowards_13 : decode cX4_roadTowards 13 = .ok (.invokevirtual 50, 3) := by decide +kernel
theorem dX4_roadTowards_16 : decode cX4_roadTowards 16 = .ok (.istore 4, 2) := by decide +kernel
theorem dX4_roadTowards_18 : decode cX4_roadTowards 18 = .ok (.iload 4, 2) := by decide +kernel
theorem dX4_roadTowards_20 : decode cX4_roadTowards 20 = .ok (.iconst (-1), 1) := by decide +kernel
theorem dX4_roadTowards_21 : decode cX4_roadTowards 21 = .ok (.if_icmp .eq 32, 3) := by decide +kernel
theorem dX4_roadTowards_24 : decode cX4_roadTowards 24 = .ok (.aload_n 0, 1) := by decide +kernel
theorem dX4_roadTowards_25 : decode cX4_roadTowards 25 = .ok (.getfield 26, 3) := by decide +kernel
theorem dX4_roadTowards_28 : decode cX4_roadTowards 28 = .ok (.iload 4, 2) := by decide +kernel
theorem dX4_roadTowards_30 : decode cX4_roadTowards 30 = .ok (.aaload, 1) := by decide +kernel
theorem dX4_roadTowards_31 : decode cX4_roadTowards 31 = .ok (.iload_n 2, 1) := by decide +kernel
theorem dX4_roadTowards_32 : decode cX4_roadTowards 32 = .ok (.iaload, 1) := by decide +kernel
theorem dX4_roadTowards_33 : decode cX4_roadTowards 33 = .ok (.aload_n 0, 1) := by decide +kernel
theorem dX4_roadTowards_34 : decode cX4_roadTowards 34 = .ok (.getfield 18, 3) := by decide +kernel
theorem dX4_roadTowards_37 : decode cX4_roadTowards 37 = .ok (.iload_n 3, 1) := by decide +kernel
theorem dX4_roadTowards_38 : decode cX4_roadTowards 38 = .ok (.iaload, 1) := by decide +kernel
theorem dX4_roadTowards_39 : decode cX4_roadTowards 39 = .ok (.iadd, 1) := by decide +kernel
theorem dX4_roadTowards_40 : decode cX4_roadTowards 40 = .ok (.aload_n 0, 1) := by decide +kernel
theorem dX4_roadTowards_41 : decode cX4_roadTowards 41 = .ok (.getfield 26, 3) := by decide +kernel
theorem dX4_roadTowards_44 : decode cX4_roadTowards 44 = .ok (.iload_n 1, 1) := by decide +kernel
theorem dX4_roadTowards_45 : decode cX4_roadTowards 45 = .ok (.aaload, 1) := by decide +kernel
theorem dX4_roadTowards_46 : decode cX4_roadTowards 46 = .ok (.iload_n 2, 1) := by decide +kernel
theorem dX4_roadTowards_47 : decode cX4_roadTowards 47 = .ok (.iaload, 1) := by decide +kernel
theorem dX4_roadTowards_48 : decode cX4_roadTowards 48 = .ok (.if_icmp .ne 5, 3) := by decide +kernel
theorem dX4_roadTowards_51 : decode cX4_roadTowards 51 = .ok (.iload_n 3, 1) := by decide +kernel
theorem dX4_roadTowards_52 : decode cX4_roadTowards 52 = .ok (.ireturn, 1) := by decide +kernel
theorem dX4_roadTowards_53 : decode cX4_roadTowards 53 = .ok (.iinc 3 1, 3) := by decide +kernel
theorem dX4_roadTowards_56 : decode cX4_roadTowards 56 = .ok (.goto (-54), 3) := by decide +kernel
theorem dX4_roadTowards_59 : decode cX4_roadTowards 59 = .ok (.iconst (-1), 1) := by decide +kernel
theorem dX4_roadTowards_60 : decode cX4_roadTowards 60 = .ok (.ireturn, 1) := by decide +kernel
theorem dX4_otherEnd_0 : decode cX4_otherEnd 0 = .ok (.aload_n 0, 1) := by decide +kernel
theorem dX4_otherEnd_1 : decode cX4_otherEnd 1 = .ok (.getfield 9, 3) := by decide +kernel
theorem dX4_otherEnd_4 : decode cX4_otherEnd 4 = .ok (.iload_n 1, 1) := by decide +kernel
theorem dX4_otherEnd_5 : decode cX4_otherEnd 5 = .ok (.iaload, 1) := by decide +kernel
theorem dX4_otherEnd_6 : decode cX4_otherEnd 6 = .ok (.iload_n 2, 1) := by decide +kernel
theorem dX4_otherEnd_7 : decode cX4_otherEnd 7 = .ok (.if_icmp .ne 10, 3) := by decide +kernel
theorem dX4_otherEnd_10 : decode cX4_otherEnd 10 = .ok (.aload_n 0, 1) := by decide +kernel
theorem dX4_otherEnd_11 : decode cX4_otherEnd 11 = .ok (.getfield 15, 3) := by decide +kernel
theorem dX4_otherEnd_14 : decode cX4_otherEnd 14 = .ok (.iload_n 1, 1) := by decide +kernel
theorem dX4_otherEnd_15 : decode cX4_otherEnd 15 = .ok (.iaload, 1) := by decide +kernel
theorem dX4_otherEnd_16 : decode cX4_otherEnd 16 = .ok (.ireturn, 1) := by decide +kernel
theorem dX4_otherEnd_17 : decode cX4_otherEnd 17 = .ok (.aload_n 0, 1) := by decide +kernel
theorem dX4_otherEnd_18 : decode cX4_otherEnd 18 = .ok (.getfield 15, 3) := by decide +kernel
theorem dX4_otherEnd_21 : decode cX4_otherEnd 21 = .ok (.iload_n 1, 1) := by decide +kernel
theorem dX4_otherEnd_22 : decode cX4_otherEnd 22 = .ok (.iaload, 1) := by decide +kernel
theorem dX4_otherEnd_23 : decode cX4_otherEnd 23 = .ok (.iload_n 2, 1) := by decide +kernel
theorem dX4_otherEnd_24 : decode cX4_otherEnd 24 = .ok (.if_icmp .ne 12, 3) := by decide +kernel
theorem dX4_otherEnd_27 : decode cX4_otherEnd 27 = .ok (.aload_n 0, 1) := by decide +kernel
theorem dX4_otherEnd_28 : decode cX4_otherEnd 28 = .ok (.getfield 9, 3) := by decide +kernel
theorem dX4_otherEnd_31 : decode cX4_otherEnd 31 = .ok (.iload_n 1, 1) := by decide +kernel
theorem dX4_otherEnd_32 : decode cX4_otherEnd 32 = .ok (.iaload, 1) := by decide +kernel
theorem dX4_otherEnd_33 : decode cX4_otherEnd 33 = .ok (.goto 4, 3) := by decide +kernel
theorem dX4_otherEnd_36 : decode cX4_otherEnd 36 = .ok (.iconst (-1), 1) := by decide +kernel
theorem dX4_otherEnd_37 : decode cX4_otherEnd 37 = .ok (.ireturn, 1) := by decide +kernel
theorem dX5_init_0 : decode cX5_init 0 = .ok (.aload_n 0, 1) := by decide +kernel
theorem dX5_init_1 : decode cX5_init 1 = .ok (.invokespecial 3, 3) := by decide +kernel
theorem dX5_init_4 : decode cX5_init 4 = .ok (.aload_n 0, 1) := by decide +kernel
theorem dX5_init_5 : decode cX5_init 5 = .ok (.iconst 3, 1) := by decide +kernel
theorem dX5_init_6 : decode cX5_init 6 = .ok (.newarray .int, 2) := by decide +kernel
theorem dX5_init_8 : decode cX5_init 8 = .ok (.putfield 9, 3) := by decide +kernel
theorem dX5_init_11 : decode cX5_init 11 = .ok (.aload_n 0, 1) := by decide +kernel
theorem dX5_init_12 : decode cX5_init 12 = .ok (.iconst 3, 1) := by decide +kernel
theorem dX5_init_13 : decode cX5_init 13 = .ok (.newarray .int, 2) := by decide +kernel
theorem dX5_init_15 : decode cX5_init 15 = .ok (.putfield 15, 3) := by decide +kernel
theorem dX5_init_18 : decode cX5_init 18 = .ok (.iconst 0, 1) := by decide +kernel
theorem dX5_init_19 : decode cX5_init 19 = .ok (.istore_n 1, 1) := by decide +kernel
theorem dX5_init_20 : decode cX5_init 20 = .ok (.iload_n 1, 1) := by decide +kernel
theorem dX5_init_21 : decode cX5_init 21 = .ok (.iconst 3, 1) := by decide +kernel
theorem dX5_init_22 : decode cX5_init 22 = .ok (.if_icmp .ge 26, 3) := by decide +kernel
theorem dX5_init_25 : decode cX5_init 25 = .ok (.aload_n 0, 1) := by decide +kernel
theorem dX5_init_26 : decode cX5_init 26 = .ok (.getfield 9, 3) := by decide +kernel
theorem dX5_init_29 : decode cX5_init 29 = .ok (.iload_n 1, 1) := by decide +kernel
theorem dX5_init_30 : decode cX5_init 30 = .ok (.bipush 10, 2) := by decide +kernel
theorem dX5_init_32 : decode cX5_init 32 = .ok (.iastore, 1) := by decide +kernel
theorem dX5_init_33 : decode cX5_init 33 = .ok (.aload_n 0, 1) := by decide +kernel
theorem dX5_init_34 : decode cX5_init 34 = .ok (.getfield 15, 3) := by decide +kernel
theorem dX5_init_37 : decode cX5_init 37 = .ok (.iload_n 1, 1) := by decide +kernel
theorem dX5_init_38 : decode cX5_init 38 = .ok (.sipush 150, 3) := by decide +kernel
theorem dX5_init_41 : decode cX5_init 41 = .ok (.iastore, 1) := by decide +kernel
theorem dX5_init_42 : decode cX5_init 42 = .ok (.iinc 1 1, 3) := by decide +kernel
theorem dX5_init_45 : decode cX5_init 45 = .ok (.goto (-25), 3) := by decide +kernel
theorem dX5_init_48 : decode cX5_init 48 = .ok (.aload_n 0, 1) := by decide +kernel
theorem dX5_init_49 : decode cX5_init 49 = .ok (.sipush 5000, 3) := by decide +kernel
theorem dX5_init_52 : decode cX5_init 52 = .ok (.putfield 18, 3) := by decide +kernel
theorem dX5_init_55 : decode cX5_init 55 = .ok (.return_, 1) := by decide +kernel
theorem dX5_centsFor_0 : decode cX5_centsFor 0 = .ok (.iload_n 3, 1) := by decide +kernel
theorem dX5_centsFor_1 : decode cX5_centsFor 1 = .ok (.invokestatic 22, 3) := by decide +kernel
theorem dX5_centsFor_4 : decode cX5_centsFor 4 = .ok (.ifCond .eq 12, 3) := by decide +kernel
theorem dX5_centsFor_7 : decode cX5_centsFor 7 = .ok (.aload_n 0, 1) := by decide +kernel
theorem dX5_centsFor_8 : decode cX5_centsFor 8 = .ok (.getfield 15, 3) := by decide +kernel
theorem dX5_centsFor_11 : decode cX5_centsFor 11 = .ok (.iload_n 2, 1) := by decide +kernel
theorem dX5_centsFor_12 : decode cX5_centsFor 12 = .ok (.iaload, 1) := by decide +kernel
theorem dX5_centsFor_13 : decode cX5_centsFor 13 = .ok (.goto 5, 3) := by decide +kernel
theorem dX5_centsFor_16 : decode cX5_centsFor 16 = .ok (.bipush 100, 2) := by decide +kernel
theorem dX5_centsFor_18 : decode cX5_centsFor 18 = .ok (.istore 4, 2) := by decide +kernel
theorem dX5_centsFor_20 : decode cX5_centsFor 20 = .ok (.iload_n 1, 1) := by decide +kernel
theorem dX5_centsFor_21 : decode cX5_centsFor 21 = .ok (.aload_n 0, 1) := by decide +kernel
theorem dX5_centsFor_22 : decode cX5_centsFor 22 = .ok (.getfield 9, 3) := by decide +kernel
theorem dX5_centsFor_25 : decode cX5_centsFor 25 = .ok (.iload_n 2, 1) := by decide +kernel
theorem dX5_centsFor_26 : decode cX5_centsFor 26 = .ok (.iaload, 1) := by decide +kernel
theorem dX5_centsFor_27 : decode cX5_centsFor 27 = .ok (.imul, 1) := by decide +kernel
theorem dX5_centsFor_28 : decode cX5_centsFor 28 = .ok (.iload 4, 2) := by decide +kernel
theorem dX5_centsFor_30 : decode cX5_centsFor 30 = .ok (.imul, 1) := by decide +kernel
theorem dX5_centsFor_31 : decode cX5_centsFor 31 = .ok (.bipush 100, 2) := by decide +kernel
theorem dX5_centsFor_33 : decode cX5_centsFor 33 = .ok (.idiv, 1) := by decide +kernel
theorem dX5_centsFor_34 : decode cX5_centsFor 34 = .ok (.ireturn, 1) := by decide +kernel
theorem dX5_isBusy_0 : decode cX5_isBusy 0 = .ok (.iload_n 0, 1) := by decide +kernel
theorem dX5_isBusy_1 : decode cX5_isBusy 1 = .ok (.bipush 60, 2) := by decide +kernel
theorem dX5_isBusy_3 : decode cX5_isBusy 3 = .ok (.idiv, 1) := by decide +kernel
theorem dX5_isBusy_4 : decode cX5_isBusy 4 = .ok (.bipush 24, 2) := by decide +kernel
theorem dX5_isBusy_6 : decode cX5_isBusy 6 = .ok (.irem, 1) := by decide +kernel
theorem dX5_isBusy_7 : decode cX5_isBusy 7 = .ok (.istore_n 1, 1) := by decide +kernel
theorem dX5_isBusy_8 : decode cX5_isBusy 8 = .ok (.iload_n 1, 1) := by decide +kernel
theorem dX5_isBusy_9 : decode cX5_isBusy 9 = .ok (.bipush 7, 2) := by decide +kernel
theorem dX5_isBusy_11 : decode cX5_isBusy 11 = .ok (.if_icmp .eq 21, 3) := by decide +kernel
theorem dX5_isBusy_14 : decode cX5_isBusy 14 = .ok (.iload_n 1, 1) := by decide +kernel
theorem dX5_isBusy_15 : decode cX5_isBusy 15 = .ok (.bipush 8, 2) := by decide +kernel
theorem dX5_isBusy_17 : decode cX5_isBusy 17 = .ok (.if_icmp .eq 15, 3) := by decide +kernel
theorem dX5_isBusy_20 : decode cX5_isBusy 20 = .ok (.iload_n 1, 1) := by decide +kernel
theorem dX5_isBusy_21 : decode cX5_isBusy 21 = .ok (.bipush 16, 2) := by decide +kernel
theorem dX5_isBusy_23 : decode cX5_isBusy 23 = .ok (.if_icmp .eq 9, 3) := by decide +kernel
theorem dX5_isBusy_26 : decode cX5_isBusy 26 = .ok (.iload_n 1, 1) := by decide +kernel
theorem dX5_isBusy_27 : decode cX5_isBusy 27 = .ok (.bipush 17, 2) := by decide +kernel
theorem dX5_isBusy_29 : decode cX5_isBusy 29 = .ok (.if_icmp .ne 7, 3) := by decide +kernel
theorem dX5_isBusy_32 : decode cX5_isBusy 32 = .ok (.iconst 1, 1) := by decide +kernel
theorem dX5_isBusy_33 : decode cX5_isBusy 33 = .ok (.goto 4, 3) := by decide +kernel
theorem dX5_isBusy_36 : decode cX5_isBusy 36 = .ok (.iconst 0, 1) := by decide +kernel
theorem dX5_isBusy_37 : decode cX5_isBusy 37 = .ok (.ireturn, 1) := by decide +kernel
