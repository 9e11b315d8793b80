theorem dX6_init_0 : decode cX6_init 0 = .ok (.aload_n 0, 1) := by decide +kernel
theorem dX6_init_1 : decode cX6_init 1 = .ok (.invokespecial 1, 3) := by decide +kernel
theorem dX6_init_4 : decode cX6_init 4 = .ok (.aload_n 0, 1) := by decide +kernel
theorem dX6_init_5 : decode cX6_init 5 = .ok (.new 7, 3) := by decide +kernel
theorem dX6_init_8 : decode cX6_init 8 = .ok (.dup, 1) := by decide +kernel
theorem dX6_init_9 : decode cX6_init 9 = .ok (.invokespecial 9, 3) := by decide +kernel
theorem dX6_init_12 : decode cX6_init 12 = .ok (.putfield 10, 3) := by decide +kernel
theorem dX6_init_15 : decode cX6_init 15 = .ok (.aload_n 0, 1) := by decide +kernel
theorem dX6_init_16 : decode cX6_init 16 = .ok (.new 16, 3) := by decide +kernel
theorem dX6_init_19 : decode cX6_init 19 = .ok (.dup, 1) := by decide +kernel
theorem dX6_init_20 : decode cX6_init 20 = .ok (.invokespecial 18, 3) := by decide +kernel
theorem dX6_init_23 : decode cX6_init 23 = .ok (.putfield 19, 3) := by decide +kernel
theorem dX6_init_26 : decode cX6_init 26 = .ok (.aload_n 0, 1) := by decide +kernel
theorem dX6_init_27 : decode cX6_init 27 = .ok (.new 23, 3) := by decide +kernel
theorem dX6_init_30 : decode cX6_init 30 = .ok (.dup, 1) := by decide +kernel
theorem dX6_init_31 : decode cX6_init 31 = .ok (.invokespecial 25, 3) := by decide +kernel
theorem dX6_init_34 : decode cX6_init 34 = .ok (.putfield 26, 3) := by decide +kernel
theorem dX6_init_37 : decode cX6_init 37 = .ok (.aload_n 0, 1) := by decide +kernel
theorem dX6_init_38 : decode cX6_init 38 = .ok (.new 30, 3) := by decide +kernel
theorem dX6_init_41 : decode cX6_init 41 = .ok (.dup, 1) := by decide +kernel
theorem dX6_init_42 : decode cX6_init 42 = .ok (.invokespecial 32, 3) := by decide +kernel
theorem dX6_init_45 : decode cX6_init 45 = .ok (.putfield 33, 3) := by decide +kernel
theorem dX6_init_48 : decode cX6_init 48 = .ok (.aload_n 0, 1) := by decide +kernel
theorem dX6_init_49 : decode cX6_init 49 = .ok (.new 37, 3) := by decide +kernel
theorem dX6_init_52 : decode cX6_init 52 = .ok (.dup, 1) := by decide +kernel
theorem dX6_init_53 : decode cX6_init 53 = .ok (.invokespecial 39, 3) := by decide +kernel
theorem dX6_init_56 : decode cX6_init 56 = .ok (.putfield 40, 3) := by decide +kernel
theorem dX6_init_59 : decode cX6_init 59 = .ok (.aload_n 0, 1) := by decide +kernel
theorem dX6_init_60 : decode cX6_init 60 = .ok (.new 44, 3) := by decide +kernel
theorem dX6_init_63 : decode cX6_init 63 = .ok (.dup, 1) := by decide +kernel
theorem dX6_init_64 : decode cX6_init 64 = .ok (.invokespecial 46, 3) := by decide +kernel
theorem dX6_init_67 : decode cX6_init 67 = .ok (.putfield 47, 3) := by decide +kernel
theorem dX6_init_70 : decode cX6_init 70 = .ok (.aload_n 0, 1) := by decide +kernel
theorem dX6_init_71 : decode cX6_init 71 = .ok (.iconst 0, 1) := by decide +kernel
theorem dX6_init_72 : decode cX6_init 72 = .ok (.putfield 51, 3) := by decide +kernel
theorem dX6_init_75 : decode cX6_init 75 = .ok (.return_, 1) := by decide +kernel
theorem dX6_gate_0 : decode cX6_gate 0 = .ok (.aload_n 0, 1) := by decide +kernel
theorem dX6_gate_1 : decode cX6_gate 1 = .ok (.getfield 10, 3) := by decide +kernel
theorem dX6_gate_4 : decode cX6_gate 4 = .ok (.getfield 55, 3) := by decide +kernel
theorem dX6_gate_7 : decode cX6_gate 7 = .ok (.bipush 12, 2) := by decide +kernel
theorem dX6_gate_9 : decode cX6_gate 9 = .ok (.if_icmp .lt 13, 3) := by decide +kernel
theorem dX6_gate_12 : decode cX6_gate 12 = .ok (.new 58, 3) := by decide +kernel
theorem dX6_gate_15 : decode cX6_gate 15 = .ok (.dup, 1) := by decide +kernel
theorem dX6_gate_16 : decode cX6_gate 16 = .ok (.ldc 60, 2) := by decide +kernel
theorem dX6_gate_18 : decode cX6_gate 18 = .ok (.invokespecial 62, 3) := by decide +kernel
theorem dX6_gate_21 : decode cX6_gate 21 = .ok (.athrow, 1) := by decide +kernel
theorem dX6_gate_22 : decode cX6_gate 22 = .ok (.aload_n 0, 1) := by decide +kernel
theorem dX6_gate_23 : decode cX6_gate 23 = .ok (.getfield 10, 3) := by decide +kernel
theorem dX6_gate_26 : decode cX6_gate 26 = .ok (.invokevirtual 65, 3) := by decide +kernel
theorem dX6_gate_29 : decode cX6_gate 29 = .ok (.ireturn, 1) := by decide +kernel
theorem dX6_road_0 : decode cX6_road 0 = .ok (.aload_n 0, 1) := by decide +kernel
theorem dX6_road_1 : decode cX6_road 1 = .ok (.iload_n 1, 1) := by decide +kernel
theorem dX6_road_2 : decode cX6_road 2 = .ok (.invokevirtual 69, 3) := by decide +kernel
theorem dX6_road_5 : decode cX6_road 5 = .ok (.aload_n 0, 1) := by decide +kernel
theorem dX6_road_6 : decode cX6_road 6 = .ok (.iload_n 2, 1) := by decide +kernel
theorem dX6_road_7 : decode cX6_road 7 = .ok (.invokevirtual 69, 3) := by decide +kernel
theorem dX6_road_10 : decode cX6_road 10 = .ok (.iload_n 3, 1) := by decide +kernel
theorem dX6_road_11 : decode cX6_road 11 = .ok (.iconst 1, 1) := by decide +kernel
theorem dX6_road_12 : decode cX6_road 12 = .ok (.bipush 50, 2) := by decide +kernel
theorem dX6_road_14 : decode cX6_road 14 = .ok (.invokestatic 73, 3) := by decide +kernel
theorem dX6_road_17 : decode cX6_road 17 = .ok (.iload 4, 2) := by decide +kernel
theorem dX6_road_19 : decode cX6_road 19 = .ok (.iconst 0, 1) := by decide +kernel
theorem dX6_road_20 : decode cX6_road 20 = .ok (.iconst 3, 1) := by decide +kernel
theorem dX6_road_21 : decode cX6_road 21 = .ok (.invokestatic 73, 3) := by decide +kernel
theorem dX6_road_24 : decode cX6_road 24 = .ok (.iload_n 1, 1) := by decide +kernel
theorem dX6_road_25 : decode cX6_road 25 = .ok (.iload_n 2, 1) := by decide +kernel
theorem dX6_road_26 : decode cX6_road 26 = .ok (.if_icmp .ne 13, 3) := by decide +kernel
theorem dX6_road_29 : decode cX6_road 29 = .ok (.new 77, 3) := by decide +kernel
theorem dX6_road_32 : decode cX6_road 32 = .ok (.dup, 1) := by decide +kernel
theorem dX6_road_33 : decode cX6_road 33 = .ok (.ldc 79, 2) := by decide +kernel
theorem dX6_road_35 : decode cX6_road 35 = .ok (.invokespecial 81, 3) := by decide +kernel
theorem dX6_road_38 : decode cX6_road 38 = .ok (.athrow, 1) := by decide +kernel
theorem dX6_road_39 : decode cX6_road 39 = .ok (.aload_n 0, 1) := by decide +kernel
theorem dX6_road_40 : decode cX6_road 40 = .ok (.getfield 10, 3) := by decide +kernel
theorem dX6_road_43 : decode cX6_road 43 = .ok (.getfield 82, 3) := by decide +kernel
theorem dX6_road_46 : decode cX6_road 46 = .ok (.bipush 24, 2) := by decide +kernel
theorem dX6_road_48 : decode cX6_road 48 = .ok (.if_icmp .lt 13, 3) := by decide +kernel
theorem dX6_road_51 : decode cX6_road 51 = .ok (.new 58, 3) := by decide +kernel
theorem dX6_road_54 : decode cX6_road 54 = .ok (.dup, 1) := by decide +kernel
theorem dX6_road_55 : decode cX6_road 55 = .ok (.ldc 85, 2) := by decide +kernel
theorem dX6_road_57 : decode cX6_road 57 = .ok (.invokespecial 62, 3) := by decide +kernel
theorem dX6_road_60 : decode cX6_road 60 = .ok (.athrow, 1) := by decide +kernel
theorem dX6_road_61 : decode cX6_road 61 = .ok (.aload_n 0, 1) := by decide +kernel
theorem dX6_road_62 : decode cX6_road 62 = .ok (.getfield 10, 3) := by decide +kernel
theorem dX6_road_65 : decode cX6_road 65 = .ok (.iload_n 1, 1) := by decide +kernel
theorem dX6_road_66 : decode cX6_road 66 = .ok (.iload_n 2, 1) := by decide +kernel
theorem dX6_road_67 : decode cX6_road 67 = .ok (.iload_n 3, 1) := by decide +kernel
theorem dX6_road_68 : decode cX6_road 68 = .ok (.iload 4, 2) := by decide +kernel
theorem dX6_road_70 : decode cX6_road 70 = .ok (.invokevirtual 87, 3) := by decide +kernel
theorem dX6_road_73 : decode cX6_road 73 = .ok (.ireturn, 1) := by decide +kernel
theorem dX6_rate_0 : decode cX6_rate 0 = .ok (.iload_n 1, 1) := by decide +kernel
theorem dX6_rate_1 : decode cX6_rate 1 = .ok (.iconst 0, 1) := by decide +kernel
theorem dX6_rate_2 : decode cX6_rate 2 = .ok (.iconst 2, 1) := by decide +kernel
theorem dX6_rate_3 : decode cX6_rate 3 = .ok (.invokestatic 73, 3) := by decide +kernel
theorem dX6_rate_6 : decode cX6_rate 6 = .ok (.iload_n 2, 1) := by decide +kernel
theorem dX6_rate_7 : decode cX6_rate 7 = .ok (.iconst 0, 1) := by decide +kernel
theorem dX6_rate_8 : decode cX6_rate 8 = .ok (.bipush 100, 2) := by decide +kernel
theorem dX6_rate_10 : decode cX6_rate 10 = .ok (.invokestatic 73, 3) := by decide +kernel
theorem dX6_rate_13 : decode cX6_rate 13 = .ok (.iload_n 3, 1) := by decide +kernel
theorem dX6_rate_14 : decode cX6_rate 14 = .ok (.iconst 0, 1) := by decide +kernel
theorem dX6_rate_15 : decode cX6_rate 15 = .ok (.sipush 300, 3) := by decide +kernel
theorem dX6_rate_18 : decode cX6_rate 18 = .ok (.invokestatic 73, 3) := by decide +kernel
theorem dX6_rate_21 : decode cX6_rate 21 = .ok (.aload_n 0, 1) := by decide +kernel
theorem dX6_rate_22 : decode cX6_rate 22 = .ok (.getfield 19, 3) := by decide +kernel
theorem dX6_rate_25 : decode cX6_rate 25 = .ok (.getfield 91, 3) := by decide +kernel
theorem dX6_rate_28 : decode cX6_rate 28 = .ok (.iload_n 1, 1) := by decide +kernel
theorem dX6_rate_29 : decode cX6_rate 29 = .ok (.iload_n 2, 1) := by decide +kernel
theorem dX6_rate_30 : decode cX6_rate 30 = .ok (.iastore, 1) := by decide +kernel
theorem dX6_rate_31 : decode cX6_rate 31 = .ok (.aload_n 0, 1) := by decide +kernel
theorem dX6_rate_32 : decode cX6_rate 32 = .ok (.getfield 19, 3) := by decide +kernel
theorem dX6_rate_35 : decode cX6_rate 35 = .ok (.getfield 95, 3) := by decide +kernel
theorem dX6_rate_38 : decode cX6_rate 38 = .ok (.iload_n 1, 1) := by decide +kernel
theorem dX6_rate_39 : decode cX6_rate 39 = .ok (.iload_n 3, 1) := by decide +kernel
theorem dX6_rate_40 : decode cX6_rate 40 = .ok (.iastore, 1) := by decide +kernel
theorem dX6_rate_41 : decode cX6_rate 41 = .ok (.return_, 1) := by decide +kernel
theorem dX6_most_0 : decode cX6_most 0 = .ok (.iload_n 1, 1) := by decide +kernel
theorem dX6_most_1 : decode cX6_most 1 = .ok (.iconst 0, 1) := by decide +kernel
theorem dX6_most_2 : decode cX6_most 2 = .ok (.ldc 98, 2) := by decide +kernel
theorem dX6_most_4 : decode cX6_most 4 = .ok (.invokestatic 73, 3) := by decide +kernel
theorem dX6_most_7 : decode cX6_most 7 = .ok (.aload_n 0, 1) := by decide +kernel
theorem dX6_most_8 : decode cX6_most 8 = .ok (.getfield 19, 3) := by decide +kernel
theorem dX6_most_11 : decode cX6_most 11 = .ok (.getfield 99, 3) := by decide +kernel
theorem dX6_most_14 : decode cX6_most 14 = .ok (.istore_n 2, 1) := by decide +kernel
theorem dX6_most_15 : decode cX6_most 15 = .ok (.aload_n 0, 1) := by decide +kernel
theorem dX6_most_16 : decode cX6_most 16 = .ok (.getfield 19, 3) := by decide +kernel
theorem dX6_most_19 : decode cX6_most 19 = .ok (.iload_n 1, 1) := by decide +kernel
theorem dX6_most_20 : decode cX6_most 20 = .ok (.putfield 99, 3) := by decide +kernel
theorem dX6_most_23 : decode cX6_most 23 = .ok (.iload_n 2, 1) := by decide +kernel
theorem dX6_most_24 : decode cX6_most 24 = .ok (.ireturn, 1) := by decide +kernel
theorem dX6_plate_0 : decode cX6_plate 0 = .ok (.iload_n 1, 1) := by decide +kernel
theorem dX6_plate_1 : decode cX6_plate 1 = .ok (.invokestatic 102, 3) := by decide +kernel
theorem dX6_plate_4 : decode cX6_plate 4 = .ok (.iload_n 2, 1) := by decide +kernel
theorem dX6_plate_5 : decode cX6_plate 5 = .ok (.iconst 0, 1) := by decide +kernel
theorem dX6_plate_6 : decode cX6_plate 6 = .ok (.iconst 2, 1) := by decide +kernel
theorem dX6_plate_7 : decode cX6_plate 7 = .ok (.invokestatic 73, 3) := by decide +kernel
theorem dX6_plate_10 : decode cX6_plate 10 = .ok (.iload_n 3, 1) := by decide +kernel
theorem dX6_plate_11 : decode cX6_plate 11 = .ok (.iconst (-1), 1) := by decide +kernel
theorem dX6_plate_12 : decode cX6_plate 12 = .ok (.if_icmp .eq 9, 3) := by decide +kernel
theorem dX6_plate_15 : decode cX6_plate 15 = .ok (.iload_n 3, 1) := by decide +kernel
theorem dX6_plate_16 : decode cX6_plate 16 = .ok (.iconst 0, 1) := by decide +kernel
theorem dX6_plate_17 : decode cX6_plate 17 = .ok (.iconst 5, 1) := by decide +kernel
theorem dX6_plate_18 : decode cX6_plate 18 = .ok (.invokestatic 73, 3) := by decide +kernel
theorem dX6_plate_21 : decode cX6_plate 21 = .ok (.aload_n 0, 1) := by decide +kernel
theorem dX6_plate_22 : decode cX6_plate 22 = .ok (.getfield 26, 3) := by decide +kernel
theorem dX6_plate_25 : decode cX6_plate 25 = .ok (.getfield 105, 3) := by decide +kernel
theorem dX6_plate_28 : decode cX6_plate 28 = .ok (.iload_n 1, 1) := by decide +kernel
theorem dX6_plate_29 : decode cX6_plate 29 = .ok (.iload_n 2, 1) := by decide +kernel
theorem dX6_plate_30 : decode cX6_plate 30 = .ok (.iastore, 1) := by decide +kernel
theorem dX6_plate_31 : decode cX6_plate 31 = .ok (.aload_n 0, 1) := by decide +kernel
theorem dX6_plate_32 : decode cX6_plate 32 = .ok (.getfield 26, 3) := by decide +kernel
theorem dX6_plate_35 : decode cX6_plate 35 = .ok (.getfield 108, 3) := by decide +kernel
theorem dX6_plate_38 : decode cX6_plate 38 = .ok (.iload_n 1, 1) := by decide +kernel
theorem dX6_plate_39 : decode cX6_plate 39 = .ok (.iload_n 3, 1) := by decide +kernel
theorem dX6_plate_40 : decode cX6_plate 40 = .ok (.iastore, 1) := by decide +kernel
theorem dX6_plate_41 : decode cX6_plate 41 = .ok (.return_, 1) := by decide +kernel
theorem dX6_top_0 : decode cX6_top 0 = .ok (.iload_n 1, 1) := by decide +kernel
theorem dX6_top_1 : decode cX6_top 1 = .ok (.invokestatic 111, 3) := by decide +kernel
theorem dX6_top_4 : decode cX6_top 4 = .ok (.iload_n 2, 1) := by decide +kernel
theorem dX6_top_5 : decode cX6_top 5 = .ok (.iconst 1, 1) := by decide +kernel
theorem dX6_top_6 : decode cX6_top 6 = .ok (.ldc 98, 2) := by decide +kernel
theorem dX6_top_8 : decode cX6_top 8 = .ok (.invokestatic 73, 3) := by decide +kernel
theorem dX6_top_11 : decode cX6_top 11 = .ok (.aload_n 0, 1) := by decide +kernel
theorem dX6_top_12 : decode cX6_top 12 = .ok (.getfield 47, 3) := by decide +kernel
theorem dX6_top_15 : decode cX6_top 15 = .ok (.getfield 114, 3) := by decide +kernel
theorem dX6_top_18 : decode cX6_top 18 = .ok (.iload_n 1, 1) := by decide +kernel
theorem dX6_top_19 : decode cX6_top 19 = .ok (.dup2, 1) := by decide +kernel
theorem dX6_top_20 : decode cX6_top 20 = .ok (.laload, 1) := by decide +kernel
theorem dX6_top_21 : decode cX6_top 21 = .ok (.iload_n 2, 1) := by decide +kernel
theorem dX6_top_22 : decode cX6_top 22 = .ok (.i2l, 1) := by decide +kernel
theorem dX6_top_23 : decode cX6_top 23 = .ok (.ladd, 1) := by decide +kernel
theorem dX6_top_24 : decode cX6_top 24 = .ok (.lastore, 1) := by decide +kernel
theorem dX6_top_25 : decode cX6_top 25 = .ok (.aload_n 0, 1) := by decide +kernel
theorem dX6_top_26 : decode cX6_top 26 = .ok (.getfield 47, 3) := by decide +kernel
theorem dX6_top_29 : decode cX6_top 29 = .ok (.getfield 114, 3) := by decide +kernel
theorem dX6_top_32 : decode cX6_top 32 = .ok (.iload_n 1, 1) := by decide +kernel
theorem dX6_top_33 : decode cX6_top 33 = .ok (.laload, 1) := by decide +kernel
theorem dX6_top_34 : decode cX6_top 34 = .ok (.lreturn, 1) := by decide +kernel
theorem dX6_exempt_0 : decode cX6_exempt 0 = .ok (.iload_n 1, 1) := by decide +kernel
theorem dX6_exempt_1 : decode cX6_exempt 1 = .ok (.invokestatic 102, 3) := by decide +kernel
theorem dX6_exempt_4 : decode cX6_exempt 4 = .ok (.iload_n 2, 1) := by decide +kernel
theorem dX6_exempt_5 : decode cX6_exempt 5 = .ok (.iconst 0, 1) := by decide +kernel
theorem dX6_exempt_6 : decode cX6_exempt 6 = .ok (.ldc 98, 2) := by decide +kernel
theorem dX6_exempt_8 : decode cX6_exempt 8 = .ok (.invokestatic 73, 3) := by decide +kernel
theorem dX6_exempt_11 : decode cX6_exempt 11 = .ok (.iload_n 3, 1) := by decide +kernel
theorem dX6_exempt_12 : decode cX6_exempt 12 = .ok (.iload_n 2, 1) := by decide +kernel
theorem dX6_exempt_13 : decode cX6_exempt 13 = .ok (.ldc 98, 2) := by decide +kernel
theorem dX6_exempt_15 : decode cX6_exempt 15 = .ok (.invokestatic 73, 3) := by decide +kernel
theorem dX6_exempt_18 : decode cX6_exempt 18 = .ok (.aload_n 0, 1) := by decide +kernel
theorem dX6_exempt_19 : decode cX6_exempt 19 = .ok (.getfield 26, 3) := by decide +kernel
theorem dX6_exempt_22 : decode cX6_exempt 22 = .ok (.getfield 118, 3) := by decide +kernel
theorem dX6_exempt_25 : decode cX6_exempt 25 = .ok (.bipush 20, 2) := by decide +kernel
theorem dX6_exempt_27 : decode cX6_exempt 27 = .ok (.if_icmp .lt 13, 3) := by decide +kernel
theorem dX6_exempt_30 : decode cX6_exempt 30 = .ok (.new 58, 3) := by decide +kernel
theorem dX6_exempt_33 : decode cX6_exempt 33 = .ok (.dup, 1) := by decide +kernel
theorem dX6_exempt_34 : decode cX6_exempt 34 = .ok (.ldc 121, 2) := by decide +kernel
theorem dX6_exempt_36 : decode cX6_exempt 36 = .ok (.invokespecial 62, 3) := by decide +kernel
theorem dX6_exempt_39 : decode cX6_exempt 39 = .ok (.athrow, 1) := by decide +kernel
theorem dX6_exempt_40 : decode cX6_exempt 40 = .ok (.aload_n 0, 1) := by decide +kernel
theorem dX6_exempt_41 : decode cX6_exempt 41 = .ok (.getfield 26, 3) := by decide +kernel
theorem dX6_exempt_44 : decode cX6_exempt 44 = .ok (.iload_n 1, 1) := by decide +kernel
theorem dX6_exempt_45 : decode cX6_exempt 45 = .ok (.iload_n 2, 1) := by decide +kernel
theorem dX6_exempt_46 : decode cX6_exempt 46 = .ok (.iload_n 3, 1) := by decide +kernel
theorem dX6_exempt_47 : decode cX6_exempt 47 = .ok (.invokevirtual 123, 3) := by decide +kernel
theorem dX6_exempt_50 : decode cX6_exempt 50 = .ok (.ireturn, 1) := by decide +kernel
theorem dX6_read_0 : decode cX6_read 0 = .ok (.aload_n 0, 1) := by decide +kernel
theorem dX6_read_1 : decode cX6_read 1 = .ok (.iload_n 1, 1) := by decide +kernel
theorem dX6_read_2 : decode cX6_read 2 = .ok (.invokevirtual 69, 3) := by decide +kernel
theorem dX6_read_5 : decode cX6_read 5 = .ok (.iload_n 2, 1) := by decide +kernel
theorem dX6_read_6 : decode cX6_read 6 = .ok (.invokestatic 102, 3) := by decide +kernel
theorem dX6_read_9 : decode cX6_read 9 = .ok (.iload_n 3, 1) := by decide +kernel
theorem dX6_read_10 : decode cX6_read 10 = .ok (.iconst 0, 1) := by decide +kernel
theorem dX6_read_11 : decode cX6_read 11 = .ok (.aload_n 0, 1) := by decide +kernel
theorem dX6_read_12 : decode cX6_read 12 = .ok (.getfield 51, 3) := by decide +kernel
theorem dX6_read_15 : decode cX6_read 15 = .ok (.invokestatic 73, 3) := by decide +kernel
theorem dX6_read_18 : decode cX6_read 18 = .ok (.aload_n 0, 1) := by decide +kernel
theorem dX6_read_19 : decode cX6_read 19 = .ok (.getfield 33, 3) := by decide +kernel
theorem dX6_read_22 : decode cX6_read 22 = .ok (.getfield 127, 3) := by decide +kernel
theorem dX6_read_25 : decode cX6_read 25 = .ok (.bipush 100, 2) := by decide +kernel
theorem dX6_read_27 : decode cX6_read 27 = .ok (.if_icmp .lt 13, 3) := by decide +kernel
theorem dX6_read_30 : decode cX6_read 30 = .ok (.new 58, 3) := by decide +kernel
theorem dX6_read_33 : decode cX6_read 33 = .ok (.dup, 1) := by decide +kernel
theorem dX6_read_34 : decode cX6_read 34 = .ok (.ldc 130, 2) := by decide +kernel
theorem dX6_read_36 : decode cX6_read 36 = .ok (.invokespecial 62, 3) := by decide +kernel
theorem dX6_read_39 : decode cX6_read 39 = .ok (.athrow, 1) := by decide +kernel
theorem dX6_read_40 : decode cX6_read 40 = .ok (.aload_n 0, 1) := by decide +kernel
theorem dX6_read_41 : decode cX6_read 41 = .ok (.getfield 33, 3) := by decide +kernel
theorem dX6_read_44 : decode cX6_read 44 = .ok (.iload_n 1, 1) := by decide +kernel
theorem dX6_read_45 : decode cX6_read 45 = .ok (.iload_n 2, 1) := by decide +kernel
theorem dX6_read_46 : decode cX6_read 46 = .ok (.iload_n 3, 1) := by decide +kernel
theorem dX6_read_47 : decode cX6_read 47 = .ok (.invokevirtual 132, 3) := by decide +kernel
theorem dX6_read_50 : decode cX6_read 50 = .ok (.ireturn, 1) := by decide +kernel
theorem dX6_strike_0 : decode cX6_strike 0 = .ok (.aload_n 0, 1) := by decide +kernel
theorem dX6_strike_1 : decode cX6_strike 1 = .ok (.iload_n 1, 1) := by decide +kernel
theorem dX6_strike_2 : decode cX6_strike 2 = .ok (.invokevirtual 135, 3) := by decide +kernel
theorem dX6_strike_5 : decode cX6_strike 5 = .ok (.aload_n 0, 1) := by decide +kernel
theorem dX6_strike_6 : decode cX6_strike 6 = .ok (.getfield 33, 3) := by decide +kernel
theorem dX6_strike_9 : decode cX6_strike 9 = .ok (.getfield 138, 3) := by decide +kernel
theorem dX6_strike_12 : decode cX6_strike 12 = .ok (.iload_n 1, 1) := by decide +kernel
theorem dX6_strike_13 : decode cX6_strike 13 = .ok (.baload, 1) := by decide +kernel
theorem dX6_strike_14 : decode cX6_strike 14 = .ok (.ifCond .eq 13, 3) := by decide +kernel
theorem dX6_strike_17 : decode cX6_strike 17 = .ok (.new 58, 3) := by decide +kernel
theorem dX6_strike_20 : decode cX6_strike 20 = .ok (.dup, 1) := by decide +kernel
theorem dX6_strike_21 : decode cX6_strike 21 = .ok (.ldc 142, 2) := by decide +kernel
theorem dX6_strike_23 : decode cX6_strike 23 = .ok (.invokespecial 62, 3) := by decide +kernel
theorem dX6_strike_26 : decode cX6_strike 26 = .ok (.athrow, 1) := by decide +kernel
theorem dX6_strike_27 : decode cX6_strike 27 = .ok (.aload_n 0, 1) := by decide +kernel
theorem dX6_strike_28 : decode cX6_strike 28 = .ok (.getfield 33, 3) := by decide +kernel
theorem dX6_strike_31 : decode cX6_strike 31 = .ok (.getfield 138, 3) := by decide +kernel
theorem dX6_strike_34 : decode cX6_strike 34 = .ok (.iload_n 1, 1) := by decide +kernel
theorem dX6_strike_35 : decode cX6_strike 35 = .ok (.iconst 1, 1) := by decide +kernel
theorem dX6_strike_36 : decode cX6_strike 36 = .ok (.bastore, 1) := by decide +kernel
theorem dX6_strike_37 : decode cX6_strike 37 = .ok (.return_, 1) := by decide +kernel
theorem dX6_pass_0 : decode cX6_pass 0 = .ok (.iload_n 1, 1) := by decide +kernel
theorem dX6_pass_1 : decode cX6_pass 1 = .ok (.iconst 1, 1) := by decide +kernel
theorem dX6_pass_2 : decode cX6_pass 2 = .ok (.sipush 1440, 3) := by decide +kernel
theorem dX6_pass_5 : decode cX6_pass 5 = .ok (.invokestatic 73, 3) := by decide +kernel
theorem dX6_pass_8 : decode cX6_pass 8 = .ok (.aload_n 0, 1) := by decide +kernel
theorem dX6_pass_9 : decode cX6_pass 9 = .ok (.getfield 51, 3) := by decide +kernel
theorem dX6_pass_12 : decode cX6_pass 12 = .ok (.iload_n 1, 1) := by decide +kernel
theorem dX6_pass_13 : decode cX6_pass 13 = .ok (.iadd, 1) := by decide +kernel
theorem dX6_pass_14 : decode cX6_pass 14 = .ok (.ldc 98, 2) := by decide +kernel
theorem dX6_pass_16 : decode cX6_pass 16 = .ok (.if_icmp .le 13, 3) := by decide +kernel
theorem dX6_pass_19 : decode cX6_pass 19 = .ok (.new 58, 3) := by decide +kernel
theorem dX6_pass_22 : decode cX6_pass 22 = .ok (.dup, 1) := by decide +kernel
theorem dX6_pass_23 : decode cX6_pass 23 = .ok (.ldc 144, 2) := by decide +kernel
theorem dX6_pass_25 : decode cX6_pass 25 = .ok (.invokespecial 62, 3) := by decide +kernel
theorem dX6_pass_28 : decode cX6_pass 28 = .ok (.athrow, 1) := by decide +kernel
theorem dX6_pass_29 : decode cX6_pass 29 = .ok (.aload_n 0, 1) := by decide +kernel
theorem dX6_pass_30 : decode cX6_pass 30 = .ok (.dup, 1) := by decide +kernel
theorem dX6_pass_31 : decode cX6_pass 31 = .ok (.getfield 51, 3) := by decide +kernel
theorem dX6_pass_34 : decode cX6_pass 34 = .ok (.iload_n 1, 1) := by decide +kernel
theorem dX6_pass_35 : decode cX6_pass 35 = .ok (.iadd, 1) := by decide +kernel
theorem dX6_pass_36 : decode cX6_pass 36 = .ok (.putfield 51, 3) := by decide +kernel
theorem dX6_pass_39 : decode cX6_pass 39 = .ok (.aload_n 0, 1) := by decide +kernel
theorem dX6_pass_40 : decode cX6_pass 40 = .ok (.getfield 51, 3) := by decide +kernel
theorem dX6_pass_43 : decode cX6_pass 43 = .ok (.ireturn, 1) := by decide +kernel
theorem dX6_bill_0 : decode cX6_bill 0 = .ok (.lconst 0, 1) := by decide +kernel
theorem dX6_bill_1 : decode cX6_bill 1 = .ok (.lstore_n 1, 1) := by decide +kernel
theorem dX6_bill_2 : decode cX6_bill 2 = .ok (.aload_n 0, 1) := by decide +kernel
theorem dX6_bill_3 : decode cX6_bill 3 = .ok (.getfield 47, 3) := by decide +kernel
theorem dX6_bill_6 : decode cX6_bill 6 = .ok (.invokevirtual 146, 3) := by decide +kernel
theorem dX6_bill_9 : decode cX6_bill 9 = .ok (.iconst 0, 1) := by decide +kernel
theorem dX6_bill_10 : decode cX6_bill 10 = .ok (.istore_n 3, 1) := by decide +kernel
theorem dX6_bill_11 : decode cX6_bill 11 = .ok (.iload_n 3, 1) := by decide +kernel
theorem dX6_bill_12 : decode cX6_bill 12 = .ok (.bipush 10, 2) := by decide +kernel
theorem dX6_bill_14 : decode cX6_bill 14 = .ok (.if_icmp .ge 104, 3) := by decide +kernel
theorem dX6_bill_17 : decode cX6_bill 17 = .ok (.aload_n 0, 1) := by decide +kernel
theorem dX6_bill_18 : decode cX6_bill 18 = .ok (.iload_n 3, 1) := by decide +kernel
theorem dX6_bill_19 : decode cX6_bill 19 = .ok (.invokevirtual 149, 3) := by decide +kernel
theorem dX6_bill_22 : decode cX6_bill 22 = .ok (.aload_n 0, 1) := by decide +kernel
theorem dX6_bill_23 : decode cX6_bill 23 = .ok (.getfield 40, 3) := by decide +kernel
theorem dX6_bill_26 : decode cX6_bill 26 = .ok (.aload_n 0, 1) := by decide +kernel
theorem dX6_bill_27 : decode cX6_bill 27 = .ok (.getfield 51, 3) := by decide +kernel
theorem dX6_bill_30 : decode cX6_bill 30 = .ok (.aload_n 0, 1) := by decide +kernel
theorem dX6_bill_31 : decode cX6_bill 31 = .ok (.getfield 19, 3) := by decide +kernel
theorem dX6_bill_34 : decode cX6_bill 34 = .ok (.getfield 99, 3) := by decide +kernel
theorem dX6_bill_37 : decode cX6_bill 37 = .ok (.invokevirtual 152, 3) := by decide +kernel
theorem dX6_bill_40 : decode cX6_bill 40 = .ok (.lstore 4, 2) := by decide +kernel
theorem dX6_bill_42 : decode cX6_bill 42 = .ok (.lload_n 1, 1) := by decide +kernel
theorem dX6_bill_43 : decode cX6_bill 43 = .ok (.aload_n 0, 1) := by decide +kernel
theorem dX6_bill_44 : decode cX6_bill 44 = .ok (.getfield 47, 3) := by decide +kernel
theorem dX6_bill_47 : decode cX6_bill 47 = .ok (.iload_n 3, 1) := by decide +kernel
theorem dX6_bill_48 : decode cX6_bill 48 = .ok (.aload_n 0, 1) := by decide +kernel
theorem dX6_bill_49 : decode cX6_bill 49 = .ok (.getfield 26, 3) := by decide +kernel
theorem dX6_bill_52 : decode cX6_bill 52 = .ok (.getfield 108, 3) := by decide +kernel
theorem dX6_bill_55 : decode cX6_bill 55 = .ok (.iload_n 3, 1) := by decide +kernel
theorem dX6_bill_56 : decode cX6_bill 56 = .ok (.iaload, 1) := by decide +kernel
theorem dX6_bill_57 : decode cX6_bill 57 = .ok (.lload 4, 2) := by decide +kernel
theorem dX6_bill_59 : decode cX6_bill 59 = .ok (.invokevirtual 156, 3) := by decide +kernel
theorem dX6_bill_62 : decode cX6_bill 62 = .ok (.ladd, 1) := by decide +kernel
theorem dX6_bill_63 : decode cX6_bill 63 = .ok (.lstore_n 1, 1) := by decide +kernel
theorem dX6_bill_64 : decode cX6_bill 64 = .ok (.iconst 0, 1) := by decide +kernel
theorem dX6_bill_65 : decode cX6_bill 65 = .ok (.istore 6, 2) := by decide +kernel
theorem dX6_bill_67 : decode cX6_bill 67 = .ok (.iload 6, 2) := by decide +kernel
theorem dX6_bill_69 : decode cX6_bill 69 = .ok (.iconst 4, 1) := by decide +kernel
theorem dX6_bill_70 : decode cX6_bill 70 = .ok (.if_icmp .ge 42, 3) := by decide +kernel
theorem dX6_bill_73 : decode cX6_bill 73 = .ok (.aload_n 0, 1) := by decide +kernel
theorem dX6_bill_74 : decode cX6_bill 74 = .ok (.getfield 47, 3) := by decide +kernel
theorem dX6_bill_77 : decode cX6_bill 77 = .ok (.getfield 160, 3) := by decide +kernel
theorem dX6_bill_80 : decode cX6_bill 80 = .ok (.iload 6, 2) := by decide +kernel
theorem dX6_bill_82 : decode cX6_bill 82 = .ok (.dup2, 1) := by decide +kernel
theorem dX6_bill_83 : decode cX6_bill 83 = .ok (.laload, 1) := by decide +kernel
theorem dX6_bill_84 : decode cX6_bill 84 = .ok (.aload_n 0, 1) := by decide +kernel
theorem dX6_bill_85 : decode cX6_bill 85 = .ok (.getfield 40, 3) := by decide +kernel
theorem dX6_bill_88 : decode cX6_bill 88 = .ok (.iload 6, 2) := by decide +kernel
theorem dX6_bill_90 : decode cX6_bill 90 = .ok (.aload_n 0, 1) := by decide +kernel
theorem dX6_bill_91 : decode cX6_bill 91 = .ok (.getfield 51, 3) := by decide +kernel
theorem dX6_bill_94 : decode cX6_bill 94 = .ok (.aload_n 0, 1) := by decide +kernel
theorem dX6_bill_95 : decode cX6_bill 95 = .ok (.getfield 19, 3) := by decide +kernel
theorem dX6_bill_98 : decode cX6_bill 98 = .ok (.getfield 99, 3) := by decide +kernel
theorem dX6_bill_101 : decode cX6_bill 101 = .ok (.invokevirtual 163, 3) := by decide +kernel
theorem dX6_bill_104 : decode cX6_bill 104 = .ok (.ladd, 1) := by decide +kernel
theorem dX6_bill_105 : decode cX6_bill 105 = .ok (.lastore, 1) := by decide +kernel
theorem dX6_bill_106 : decode cX6_bill 106 = .ok (.iinc 6 1, 3) := by decide +kernel
theorem dX6_bill_109 : decode cX6_bill 109 = .ok (.goto (-42), 3) := by decide +kernel
theorem dX6_bill_112 : decode cX6_bill 112 = .ok (.iinc 3 1, 3) := by decide +kernel
theorem dX6_bill_115 : decode cX6_bill 115 = .ok (.goto (-104), 3) := by decide +kernel
theorem dX6_bill_118 : decode cX6_bill 118 = .ok (.lload_n 1, 1) := by decide +kernel
theorem dX6_bill_119 : decode cX6_bill 119 = .ok (.lreturn, 1) := by decide +kernel
theorem dX6_distance_0 : decode cX6_distance 0 = .ok (.aload_n 0, 1) := by decide +kernel
theorem dX6_distance_1 : decode cX6_distance 1 = .ok (.iload_n 1, 1) := by decide +kernel
theorem dX6_distance_2 : decode cX6_distance 2 = .ok (.invokevirtual 69, 3) := by decide +kernel
theorem dX6_distance_5 : decode cX6_distance 5 = .ok (.aload_n 0, 1) := by decide +kernel
theorem dX6_distance_6 : decode cX6_distance 6 = .ok (.iload_n 2, 1) := by decide +kernel
theorem dX6_distance_7 : decode cX6_distance 7 = .ok (.invokevirtual 69, 3) := by decide +kernel
theorem dX6_distance_10 : decode cX6_distance 10 = .ok (.aload_n 0, 1) := by decide +kernel
theorem dX6_distance_11 : decode cX6_distance 11 = .ok (.getfield 10, 3) := by decide +kernel
theorem dX6_distance_14 : decode cX6_distance 14 = .ok (.iload_n 1, 1) := by decide +kernel
theorem dX6_distance_15 : decode cX6_distance 15 = .ok (.iload_n 2, 1) := by decide +kernel
theorem dX6_distance_16 : decode cX6_distance 16 = .ok (.invokevirtual 167, 3) := by decide +kernel
theorem dX6_distance_19 : decode cX6_distance 19 = .ok (.ifCond .eq 17, 3) := by decide +kernel
theorem dX6_distance_22 : decode cX6_distance 22 = .ok (.aload_n 0, 1) := by decide +kernel
theorem dX6_distance_23 : decode cX6_distance 23 = .ok (.getfield 10, 3) := by decide +kernel
theorem dX6_distance_26 : decode cX6_distance 26 = .ok (.getfield 171, 3) := by decide +kernel
theorem dX6_distance_29 : decode cX6_distance 29 = .ok (.iload_n 1, 1) := by decide +kernel
theorem dX6_distance_30 : decode cX6_distance 30 = .ok (.aaload, 1) := by decide +kernel
theorem dX6_distance_31 : decode cX6_distance 31 = .ok (.iload_n 2, 1) := by decide +kernel
theorem dX6_distance_32 : decode cX6_distance 32 = .ok (.iaload, 1) := by decide +kernel
theorem dX6_distance_33 : decode cX6_distance 33 = .ok (.goto 4, 3) := by decide +kernel
theorem dX6_distance_36 : decode cX6_distance 36 = .ok (.iconst (-1), 1) := by decide +kernel
theorem dX6_distance_37 : decode cX6_distance 37 = .ok (.ireturn, 1) := by decide +kernel
theorem dX6_way_0 : decode cX6_way 0 = .ok (.aload_n 0, 1) := by decide +kernel
theorem dX6_way_1 : decode cX6_way 1 = .ok (.iload_n 1, 1) := by decide +kernel
theorem dX6_way_2 : decode cX6_way 2 = .ok (.invokevirtual 69, 3) := by decide +kernel
theorem dX6_way_5 : decode cX6_way 5 = .ok (.aload_n 0, 1) := by decide +kernel
theorem dX6_way_6 : decode cX6_way 6 = .ok (.iload_n 2, 1) := by decide +kernel
theorem dX6_way_7 : decode cX6_way 7 = .ok (.invokevirtual 69, 3) := by decide +kernel
theorem dX6_way_10 : decode cX6_way 10 = .ok (.iload_n 3, 1) := by decide +kernel
theorem dX6_way_11 : decode cX6_way 11 = .ok (.ifCond .ge 13, 3) := by decide +kernel
theorem dX6_way_14 : decode cX6_way 14 = .ok (.new 175, 3) := by decide +kernel
theorem dX6_way_17 : decode cX6_way 17 = .ok (.dup, 1) := by decide +kernel
theorem dX6_way_18 : decode cX6_way 18 = .ok (.ldc 177, 2) := by decide +kernel
theorem dX6_way_20 : decode cX6_way 20 = .ok (.invokespecial 179, 3) := by decide +kernel
theorem dX6_way_23 : decode cX6_way 23 = .ok (.athrow, 1) := by decide +kernel
theorem dX6_way_24 : decode cX6_way 24 = .ok (.aload_n 0, 1) := by decide +kernel
theorem dX6_way_25 : decode cX6_way 25 = .ok (.getfield 10, 3) := by decide +kernel
theorem dX6_way_28 : decode cX6_way 28 = .ok (.iload_n 1, 1) := by decide +kernel
theorem dX6_way_29 : decode cX6_way 29 = .ok (.iload_n 2, 1) := by decide +kernel
theorem dX6_way_30 : decode cX6_way 30 = .ok (.iload_n 3, 1) := by decide +kernel
theorem dX6_way_31 : decode cX6_way 31 = .ok (.invokevirtual 180, 3) := by decide +kernel
theorem dX6_way_34 : decode cX6_way 34 = .ok (.ireturn, 1) := by decide +kernel
theorem dX6_journeys_0 : decode cX6_journeys 0 = .ok (.iload_n 1, 1) := by decide +kernel
theorem dX6_journeys_1 : decode cX6_journeys 1 = .ok (.invokestatic 102, 3) := by decide +kernel
theorem dX6_journeys_4 : decode cX6_journeys 4 = .ok (.aload_n 0, 1) := by decide +kernel
theorem dX6_journeys_5 : decode cX6_journeys 5 = .ok (.iload_n 1, 1) := by decide +kernel
theorem dX6_journeys_6 : decode cX6_journeys 6 = .ok (.invokevirtual 149, 3) := by decide +kernel
theorem dX6_journeys_9 : decode cX6_journeys 9 = .ok (.aload_n 0, 1) := by decide +kernel
theorem dX6_journeys_10 : decode cX6_journeys 10 = .ok (.getfield 40, 3) := by decide +kernel
theorem dX6_journeys_13 : decode cX6_journeys 13 = .ok (.getfield 183, 3) := by decide +kernel
theorem dX6_journeys_16 : decode cX6_journeys 16 = .ok (.ireturn, 1) := by decide +kernel
theorem dX6_journey_0 : decode cX6_journey 0 = .ok (.iload_n 1, 1) := by decide +kernel
theorem dX6_journey_1 : decode cX6_journey 1 = .ok (.invokestatic 102, 3) := by decide +kernel
theorem dX6_journey_4 : decode cX6_journey 4 = .ok (.aload_n 0, 1) := by decide +kernel
theorem dX6_journey_5 : decode cX6_journey 5 = .ok (.iload_n 1, 1) := by decide +kernel
theorem dX6_journey_6 : decode cX6_journey 6 = .ok (.invokevirtual 149, 3) := by decide +kernel
theorem dX6_journey_9 : decode cX6_journey 9 = .ok (.iload_n 2, 1) := by decide +kernel
theorem dX6_journey_10 : decode cX6_journey 10 = .ok (.ifCond .lt 14, 3) := by decide +kernel
theorem dX6_journey_13 : decode cX6_journey 13 = .ok (.iload_n 2, 1) := by decide +kernel
theorem dX6_journey_14 : decode cX6_journey 14 = .ok (.aload_n 0, 1) := by decide +kernel
theorem dX6_journey_15 : decode cX6_journey 15 = .ok (.getfield 40, 3) := by decide +kernel
theorem dX6_journey_18 : decode cX6_journey 18 = .ok (.getfield 183, 3) := by decide +kernel
theorem dX6_journey_21 : decode cX6_journey 21 = .ok (.if_icmp .lt 13, 3) := by decide +kernel
theorem dX6_journey_24 : decode cX6_journey 24 = .ok (.new 175, 3) := by decide +kernel
theorem dX6_journey_27 : decode cX6_journey 27 = .ok (.dup, 1) := by decide +kernel
theorem dX6_journey_28 : decode cX6_journey 28 = .ok (.ldc 184, 2) := by decide +kernel
theorem dX6_journey_30 : decode cX6_journey 30 = .ok (.invokespecial 179, 3) := by decide +kernel
theorem dX6_journey_33 : decode cX6_journey 33 = .ok (.athrow, 1) := by decide +kernel
theorem dX6_journey_34 : decode cX6_journey 34 = .ok (.iload_n 3, 1) := by decide +kernel
theorem dX6_journey_35 : decode cX6_journey 35 = .ok (.iconst 0, 1) := by decide +kernel
theorem dX6_journey_36 : decode cX6_journey 36 = .ok (.bipush 8, 2) := by decide +kernel
theorem dX6_journey_38 : decode cX6_journey 38 = .ok (.invokestatic 73, 3) := by decide +kernel
theorem dX6_journey_41 : decode cX6_journey 41 = .ok (.iload_n 3, 1) := by decide +kernel
theorem dX6_journey_42 : decode cX6_journey 42 = .ok (.tableswitch 101 0 4 #[34, 44, 54, 64, 80], 34) := by decide +kernel
theorem dX6_journey_76 : decode cX6_journey 76 = .ok (.aload_n 0, 1) := by decide +kernel
theorem dX6_journey_77 : decode cX6_journey 77 = .ok (.getfield 40, 3) := by decide +kernel
theorem dX6_journey_80 : decode cX6_journey 80 = .ok (.getfield 186, 3) := by decide +kernel
theorem dX6_journey_83 : decode cX6_journey 83 = .ok (.iload_n 2, 1) := by decide +kernel
theorem dX6_journey_84 : decode cX6_journey 84 = .ok (.iaload, 1) := by decide +kernel
theorem dX6_journey_85 : decode cX6_journey 85 = .ok (.ireturn, 1) := by decide +kernel
theorem dX6_journey_86 : decode cX6_journey 86 = .ok (.aload_n 0, 1) := by decide +kernel
theorem dX6_journey_87 : decode cX6_journey 87 = .ok (.getfield 40, 3) := by decide +kernel
theorem dX6_journey_90 : decode cX6_journey 90 = .ok (.getfield 189, 3) := by decide +kernel
theorem dX6_journey_93 : decode cX6_journey 93 = .ok (.iload_n 2, 1) := by decide +kernel
theorem dX6_journey_94 : decode cX6_journey 94 = .ok (.iaload, 1) := by decide +kernel
theorem dX6_journey_95 : decode cX6_journey 95 = .ok (.ireturn, 1) := by decide +kernel
theorem dX6_journey_96 : decode cX6_journey 96 = .ok (.aload_n 0, 1) := by decide +kernel
theorem dX6_journey_97 : decode cX6_journey 97 = .ok (.getfield 40, 3) := by decide +kernel
theorem dX6_journey_100 : decode cX6_journey 100 = .ok (.getfield 192, 3) := by decide +kernel
theorem dX6_journey_103 : decode cX6_journey 103 = .ok (.iload_n 2, 1) := by decide +kernel
theorem dX6_journey_104 : decode cX6_journey 104 = .ok (.iaload, 1) := by decide +kernel
theorem dX6_journey_105 : decode cX6_journey 105 = .ok (.ireturn, 1) := by decide +kernel
theorem dX6_journey_106 : decode cX6_journey 106 = .ok (.aload_n 0, 1) := by decide +kernel
theorem dX6_journey_107 : decode cX6_journey 107 = .ok (.getfield 40, 3) := by decide +kernel
theorem dX6_journey_110 : decode cX6_journey 110 = .ok (.iload_n 2, 1) := by decide +kernel
theorem dX6_journey_111 : decode cX6_journey 111 = .ok (.aload_n 0, 1) := by decide +kernel
theorem dX6_journey_112 : decode cX6_journey 112 = .ok (.getfield 19, 3) := by decide +kernel
theorem dX6_journey_115 : decode cX6_journey 115 = .ok (.getfield 99, 3) := by decide +kernel
theorem dX6_journey_118 : decode cX6_journey 118 = .ok (.invokevirtual 195, 3) := by decide +kernel
theorem dX6_journey_121 : decode cX6_journey 121 = .ok (.ireturn, 1) := by decide +kernel
theorem dX6_journey_122 : decode cX6_journey 122 = .ok (.aload_n 0, 1) := by decide +kernel
theorem dX6_journey_123 : decode cX6_journey 123 = .ok (.getfield 40, 3) := by decide +kernel
theorem dX6_journey_126 : decode cX6_journey 126 = .ok (.iload_n 2, 1) := by decide +kernel
theorem dX6_journey_127 : decode cX6_journey 127 = .ok (.aload_n 0, 1) := by decide +kernel
theorem dX6_journey_128 : decode cX6_journey 128 = .ok (.getfield 51, 3) := by decide +kernel
theorem dX6_journey_131 : decode cX6_journey 131 = .ok (.invokevirtual 199, 3) := by decide +kernel
theorem dX6_journey_134 : decode cX6_journey 134 = .ok (.ifCond .eq 7, 3) := by decide +kernel
theorem dX6_journey_137 : decode cX6_journey 137 = .ok (.iconst 1, 1) := by decide +kernel
theorem dX6_journey_138 : decode cX6_journey 138 = .ok (.goto 4, 3) := by decide +kernel
theorem dX6_journey_141 : decode cX6_journey 141 = .ok (.iconst 0, 1) := by decide +kernel
theorem dX6_journey_142 : decode cX6_journey 142 = .ok (.ireturn, 1) := by decide +kernel
theorem dX6_journey_143 : decode cX6_journey 143 = .ok (.aload_n 0, 1) := by decide +kernel
theorem dX6_journey_144 : decode cX6_journey 144 = .ok (.getfield 40, 3) := by decide +kernel
theorem dX6_journey_147 : decode cX6_journey 147 = .ok (.iload_n 2, 1) := by decide +kernel
theorem dX6_journey_148 : decode cX6_journey 148 = .ok (.iload_n 3, 1) := by decide +kernel
theorem dX6_journey_149 : decode cX6_journey 149 = .ok (.iconst 5, 1) := by decide +kernel
theorem dX6_journey_150 : decode cX6_journey 150 = .ok (.isub, 1) := by decide +kernel
theorem dX6_journey_151 : decode cX6_journey 151 = .ok (.aload_n 0, 1) := by decide +kernel
theorem dX6_journey_152 : decode cX6_journey 152 = .ok (.getfield 19, 3) := by decide +kernel
theorem dX6_journey_155 : decode cX6_journey 155 = .ok (.getfield 99, 3) := by decide +kernel
theorem dX6_journey_158 : decode cX6_journey 158 = .ok (.invokevirtual 202, 3) := by decide +kernel
theorem dX6_journey_161 : decode cX6_journey 161 = .ok (.ireturn, 1) := by decide +kernel
theorem dX6_ofReading_0 : decode cX6_ofReading 0 = .ok (.aload_n 0, 1) := by decide +kernel
theorem dX6_ofReading_1 : decode cX6_ofReading 1 = .ok (.iload_n 1, 1) := by decide +kernel
theorem dX6_ofReading_2 : decode cX6_ofReading 2 = .ok (.invokevirtual 135, 3) := by decide +kernel
theorem dX6_ofReading_5 : decode cX6_ofReading 5 = .ok (.iload_n 2, 1) := by decide +kernel
theorem dX6_ofReading_6 : decode cX6_ofReading 6 = .ok (.iconst 0, 1) := by decide +kernel
theorem dX6_ofReading_7 : decode cX6_ofReading 7 = .ok (.iconst 5, 1) := by decide +kernel
theorem dX6_ofReading_8 : decode cX6_ofReading 8 = .ok (.invokestatic 73, 3) := by decide +kernel
theorem dX6_ofReading_11 : decode cX6_ofReading 11 = .ok (.iload_n 2, 1) := by decide +kernel
theorem dX6_ofReading_12 : decode cX6_ofReading 12 = .ok (.tableswitch 98 0 4 #[36, 46, 56, 66, 84], 36) := by decide +kernel
theorem dX6_ofReading_48 : decode cX6_ofReading 48 = .ok (.aload_n 0, 1) := by decide +kernel
theorem dX6_ofReading_49 : decode cX6_ofReading 49 = .ok (.getfield 33, 3) := by decide +kernel
theorem dX6_ofReading_52 : decode cX6_ofReading 52 = .ok (.getfield 205, 3) := by decide +kernel
theorem dX6_ofReading_55 : decode cX6_ofReading 55 = .ok (.iload_n 1, 1) := by decide +kernel
theorem dX6_ofReading_56 : decode cX6_ofReading 56 = .ok (.iaload, 1) := by decide +kernel
theorem dX6_ofReading_57 : decode cX6_ofReading 57 = .ok (.ireturn, 1) := by decide +kernel
theorem dX6_ofReading_58 : decode cX6_ofReading 58 = .ok (.aload_n 0, 1) := by decide +kernel
theorem dX6_ofReading_59 : decode cX6_ofReading 59 = .ok (.getfield 33, 3) := by decide +kernel
theorem dX6_ofReading_62 : decode cX6_ofReading 62 = .ok (.getfield 208, 3) := by decide +kernel
theorem dX6_ofReading_65 : decode cX6_ofReading 65 = .ok (.iload_n 1, 1) := by decide +kernel
theorem dX6_ofReading_66 : decode cX6_ofReading 66 = .ok (.iaload, 1) := by decide +kernel
theorem dX6_ofReading_67 : decode cX6_ofReading 67 = .ok (.ireturn, 1) := by decide +kernel
theorem dX6_ofReading_68 : decode cX6_ofReading 68 = .ok (.aload_n 0, 1) := by decide +kernel
theorem dX6_ofReading_69 : decode cX6_ofReading 69 = .ok (.getfield 33, 3) := by decide +kernel
theorem dX6_ofReading_72 : decode cX6_ofReading 72 = .ok (.getfield 211, 3) := by decide +kernel
theorem dX6_ofReading_75 : decode cX6_ofReading 75 = .ok (.iload_n 1, 1) := by decide +kernel
theorem dX6_ofReading_76 : decode cX6_ofReading 76 = .ok (.iaload, 1) := by decide +kernel
theorem dX6_ofReading_77 : decode cX6_ofReading 77 = .ok (.ireturn, 1) := by decide +kernel
theorem dX6_ofReading_78 : decode cX6_ofReading 78 = .ok (.aload_n 0, 1) := by decide +kernel
theorem dX6_ofReading_79 : decode cX6_ofReading 79 = .ok (.getfield 33, 3) := by decide +kernel
theorem dX6_ofReading_82 : decode cX6_ofReading 82 = .ok (.getfield 138, 3) := by decide +kernel
theorem dX6_ofReading_85 : decode cX6_ofReading 85 = .ok (.iload_n 1, 1) := by decide +kernel
theorem dX6_ofReading_86 : decode cX6_ofReading 86 = .ok (.baload, 1) := by decide +kernel
theorem dX6_ofReading_87 : decode cX6_ofReading 87 = .ok (.ifCond .eq 7, 3) := by decide +kernel
theorem dX6_ofReading_90 : decode cX6_ofReading 90 = .ok (.iconst 1, 1) := by decide +kernel
theorem dX6_ofReading_91 : decode cX6_ofReading 91 = .ok (.goto 4, 3) := by decide +kernel
theorem dX6_ofReading_94 : decode cX6_ofReading 94 = .ok (.iconst 0, 1) := by decide +kernel
theorem dX6_ofReading_95 : decode cX6_ofReading 95 = .ok (.ireturn, 1) := by decide +kernel
theorem dX6_ofReading_96 : decode cX6_ofReading 96 = .ok (.aload_n 0, 1) := by decide +kernel
theorem dX6_ofReading_97 : decode cX6_ofReading 97 = .ok (.iload_n 1, 1) := by decide +kernel
theorem dX6_ofReading_98 : decode cX6_ofReading 98 = .ok (.invokevirtual 214, 3) := by decide +kernel
theorem dX6_ofReading_101 : decode cX6_ofReading 101 = .ok (.ifCond .eq 7, 3) := by decide +kernel
theorem dX6_ofReading_104 : decode cX6_ofReading 104 = .ok (.iconst 1, 1) := by decide +kernel
theorem dX6_ofReading_105 : decode cX6_ofReading 105 = .ok (.goto 4, 3) := by decide +kernel
theorem dX6_ofReading_108 : decode cX6_ofReading 108 = .ok (.iconst 0, 1) := by decide +kernel
theorem dX6_ofReading_109 : decode cX6_ofReading 109 = .ok (.ireturn, 1) := by decide +kernel
theorem dX6_ofReading_110 : decode cX6_ofReading 110 = .ok (.aload_n 0, 1) := by decide +kernel
theorem dX6_ofReading_111 : decode cX6_ofReading 111 = .ok (.iload_n 1, 1) := by decide +kernel
theorem dX6_ofReading_112 : decode cX6_ofReading 112 = .ok (.invokevirtual 218, 3) := by decide +kernel
theorem dX6_ofReading_115 : decode cX6_ofReading 115 = .ok (.ireturn, 1) := by decide +kernel
theorem dX6_due_0 : decode cX6_due 0 = .ok (.iload_n 1, 1) := by decide +kernel
theorem dX6_due_1 : decode cX6_due 1 = .ok (.invokestatic 102, 3) := by decide +kernel
theorem dX6_due_4 : decode cX6_due 4 = .ok (.aload_n 0, 1) := by decide +kernel
theorem dX6_due_5 : decode cX6_due 5 = .ok (.iload_n 1, 1) := by decide +kernel
theorem dX6_due_6 : decode cX6_due 6 = .ok (.invokevirtual 149, 3) := by decide +kernel
theorem dX6_due_9 : decode cX6_due 9 = .ok (.aload_n 0, 1) := by decide +kernel
theorem dX6_due_10 : decode cX6_due 10 = .ok (.getfield 40, 3) := by decide +kernel
theorem dX6_due_13 : decode cX6_due 13 = .ok (.aload_n 0, 1) := by decide +kernel
theorem dX6_due_14 : decode cX6_due 14 = .ok (.getfield 51, 3) := by decide +kernel
theorem dX6_due_17 : decode cX6_due 17 = .ok (.aload_n 0, 1) := by decide +kernel
theorem dX6_due_18 : decode cX6_due 18 = .ok (.getfield 19, 3) := by decide +kernel
theorem dX6_due_21 : decode cX6_due 21 = .ok (.getfield 99, 3) := by decide +kernel
theorem dX6_due_24 : decode cX6_due 24 = .ok (.invokevirtual 152, 3) := by decide +kernel
theorem dX6_due_27 : decode cX6_due 27 = .ok (.lreturn, 1) := by decide +kernel
theorem dX6_billed_0 : decode cX6_billed 0 = .ok (.iload_n 1, 1) := by decide +kernel
theorem dX6_billed_1 : decode cX6_billed 1 = .ok (.invokestatic 102, 3) := by decide +kernel
theorem dX6_billed_4 : decode cX6_billed 4 = .ok (.aload_n 0, 1) := by decide +kernel
theorem dX6_billed_5 : decode cX6_billed 5 = .ok (.getfield 47, 3) := by decide +kernel
theorem dX6_billed_8 : decode cX6_billed 8 = .ok (.getfield 222, 3) := by decide +kernel
theorem dX6_billed_11 : decode cX6_billed 11 = .ok (.iload_n 1, 1) := by decide +kernel
theorem dX6_billed_12 : decode cX6_billed 12 = .ok (.laload, 1) := by decide +kernel
theorem dX6_billed_13 : decode cX6_billed 13 = .ok (.lreturn, 1) := by decide +kernel
theorem dX6_wallet_0 : decode cX6_wallet 0 = .ok (.iload_n 1, 1) := by decide +kernel
theorem dX6_wallet_1 : decode cX6_wallet 1 = .ok (.invokestatic 111, 3) := by decide +kernel
theorem dX6_wallet_4 : decode cX6_wallet 4 = .ok (.aload_n 0, 1) := by decide +kernel
theorem dX6_wallet_5 : decode cX6_wallet 5 = .ok (.getfield 47, 3) := by decide +kernel
theorem dX6_wallet_8 : decode cX6_wallet 8 = .ok (.getfield 114, 3) := by decide +kernel
theorem dX6_wallet_11 : decode cX6_wallet 11 = .ok (.iload_n 1, 1) := by decide +kernel
theorem dX6_wallet_12 : decode cX6_wallet 12 = .ok (.laload, 1) := by decide +kernel
theorem dX6_wallet_13 : decode cX6_wallet 13 = .ok (.lreturn, 1) := by decide +kernel
theorem dX6_own_0 : decode cX6_own 0 = .ok (.iload_n 1, 1) := by decide +kernel
theorem dX6_own_1 : decode cX6_own 1 = .ok (.invokestatic 102, 3) := by decide +kernel
theorem dX6_own_4 : decode cX6_own 4 = .ok (.aload_n 0, 1) := by decide +kernel
theorem dX6_own_5 : decode cX6_own 5 = .ok (.getfield 47, 3) := by decide +kernel
theorem dX6_own_8 : decode cX6_own 8 = .ok (.getfield 225, 3) := by decide +kernel
theorem dX6_own_11 : decode cX6_own 11 = .ok (.iload_n 1, 1) := by decide +kernel
theorem dX6_own_12 : decode cX6_own 12 = .ok (.laload, 1) := by decide +kernel
theorem dX6_own_13 : decode cX6_own 13 = .ok (.lreturn, 1) := by decide +kernel
theorem dX6_share_0 : decode cX6_share 0 = .ok (.iload_n 1, 1) := by decide +kernel
theorem dX6_share_1 : decode cX6_share 1 = .ok (.ifCond .lt 8, 3) := by decide +kernel
theorem dX6_share_4 : decode cX6_share 4 = .ok (.iload_n 1, 1) := by decide +kernel
theorem dX6_share_5 : decode cX6_share 5 = .ok (.iconst 4, 1) := by decide +kernel
theorem dX6_share_6 : decode cX6_share 6 = .ok (.if_icmp .lt 13, 3) := by decide +kernel
theorem dX6_share_9 : decode cX6_share 9 = .ok (.new 175, 3) := by decide +kernel
theorem dX6_share_12 : decode cX6_share 12 = .ok (.dup, 1) := by decide +kernel
theorem dX6_share_13 : decode cX6_share 13 = .ok (.ldc 228, 2) := by decide +kernel
theorem dX6_share_15 : decode cX6_share 15 = .ok (.invokespecial 179, 3) := by decide +kernel
theorem dX6_share_18 : decode cX6_share 18 = .ok (.athrow, 1) := by decide +kernel
theorem dX6_share_19 : decode cX6_share 19 = .ok (.iload_n 2, 1) := by decide +kernel
theorem dX6_share_20 : decode cX6_share 20 = .ok (.ifCond .eq 11, 3) := by decide +kernel
theorem dX6_share_23 : decode cX6_share 23 = .ok (.aload_n 0, 1) := by decide +kernel
theorem dX6_share_24 : decode cX6_share 24 = .ok (.iload_n 1, 1) := by decide +kernel
theorem dX6_share_25 : decode cX6_share 25 = .ok (.invokevirtual 230, 3) := by decide +kernel
theorem dX6_share_28 : decode cX6_share 28 = .ok (.goto 12, 3) := by decide +kernel
theorem dX6_share_31 : decode cX6_share 31 = .ok (.aload_n 0, 1) := by decide +kernel
theorem dX6_share_32 : decode cX6_share 32 = .ok (.getfield 47, 3) := by decide +kernel
theorem dX6_share_35 : decode cX6_share 35 = .ok (.getfield 160, 3) := by decide +kernel
theorem dX6_share_38 : decode cX6_share 38 = .ok (.iload_n 1, 1) := by decide +kernel
theorem dX6_share_39 : decode cX6_share 39 = .ok (.laload, 1) := by decide +kernel
theorem dX6_share_40 : decode cX6_share 40 = .ok (.lreturn, 1) := by decide +kernel
theorem dX6_requireGate_0 : decode cX6_requireGate 0 = .ok (.iload_n 1, 1) := by decide +kernel
theorem dX6_requireGate_1 : decode cX6_requireGate 1 = .ok (.ifCond .lt 14, 3) := by decide +kernel
theorem dX6_requireGate_4 : decode cX6_requireGate 4 = .ok (.iload_n 1, 1) := by decide +kernel
theorem dX6_requireGate_5 : decode cX6_requireGate 5 = .ok (.aload_n 0, 1) := by decide +kernel
theorem dX6_requireGate_6 : decode cX6_requireGate 6 = .ok (.getfield 10, 3) := by decide +kernel
theorem dX6_requireGate_9 : decode cX6_requireGate 9 = .ok (.getfield 55, 3) := by decide +kernel
theorem dX6_requireGate_12 : decode cX6_requireGate 12 = .ok (.if_icmp .lt 13, 3) := by decide +kernel
theorem dX6_requireGate_15 : decode cX6_requireGate 15 = .ok (.new 175, 3) := by decide +kernel
theorem dX6_requireGate_18 : decode cX6_requireGate 18 = .ok (.dup, 1) := by decide +kernel
theorem dX6_requireGate_19 : decode cX6_requireGate 19 = .ok (.ldc 234, 2) := by decide +kernel
theorem dX6_requireGate_21 : decode cX6_requireGate 21 = .ok (.invokespecial 179, 3) := by decide +kernel
theorem dX6_requireGate_24 : decode cX6_requireGate 24 = .ok (.athrow, 1) := by decide +kernel
theorem dX6_requireGate_25 : decode cX6_requireGate 25 = .ok (.return_, 1) := by decide +kernel
theorem dX6_requireReading_0 : decode cX6_requireReading 0 = .ok (.iload_n 1, 1) := by decide +kernel
theorem dX6_requireReading_1 : decode cX6_requireReading 1 = .ok (.ifCond .lt 14, 3) := by decide +kernel
theorem dX6_requireReading_4 : decode cX6_requireReading 4 = .ok (.iload_n 1, 1) := by decide +kernel
theorem dX6_requireReading_5 : decode cX6_requireReading 5 = .ok (.aload_n 0, 1) := by decide +kernel
theorem dX6_requireReading_6 : decode cX6_requireReading 6 = .ok (.getfield 33, 3) := by decide +kernel
theorem dX6_requireReading_9 : decode cX6_requireReading 9 = .ok (.getfield 127, 3) := by decide +kernel
theorem dX6_requireReading_12 : decode cX6_requireReading 12 = .ok (.if_icmp .lt 13, 3) := by decide +kernel
theorem dX6_requireReading_15 : decode cX6_requireReading 15 = .ok (.new 175, 3) := by decide +kernel
theorem dX6_requireReading_18 : decode cX6_requireReading 18 = .ok (.dup, 1) := by decide +kernel
theorem dX6_requireReading_19 : decode cX6_requireReading 19 = .ok (.ldc 236, 2) := by decide +kernel
theorem dX6_requireReading_21 : decode cX6_requireReading 21 = .ok (.invokespecial 179, 3) := by decide +kernel
theorem dX6_requireReading_24 : decode cX6_requireReading 24 = .ok (.athrow, 1) := by decide +kernel
theorem dX6_requireReading_25 : decode cX6_requireReading 25 = .ok (.return_, 1) := by decide +kernel
theorem dX6_requirePlate_0 : decode cX6_requirePlate 0 = .ok (.iload_n 0, 1) := by decide +kernel
theorem dX6_requirePlate_1 : decode cX6_requirePlate 1 = .ok (.ifCond .lt 9, 3) := by decide +kernel
theorem dX6_requirePlate_4 : decode cX6_requirePlate 4 = .ok (.iload_n 0, 1) := by decide +kernel
theorem dX6_requirePlate_5 : decode cX6_requirePlate 5 = .ok (.bipush 10, 2) := by decide +kernel
theorem dX6_requirePlate_7 : decode cX6_requirePlate 7 = .ok (.if_icmp .lt 13, 3) := by decide +kernel
theorem dX6_requirePlate_10 : decode cX6_requirePlate 10 = .ok (.new 175, 3) := by decide +kernel
theorem dX6_requirePlate_13 : decode cX6_requirePlate 13 = .ok (.dup, 1) := by decide +kernel
theorem dX6_requirePlate_14 : decode cX6_requirePlate 14 = .ok (.ldc 238, 2) := by decide +kernel
theorem dX6_requirePlate_16 : decode cX6_requirePlate 16 = .ok (.invokespecial 179, 3) := by decide +kernel
theorem dX6_requirePlate_19 : decode cX6_requirePlate 19 = .ok (.athrow, 1) := by decide +kernel
theorem dX6_requirePlate_20 : decode cX6_requirePlate 20 = .ok (.return_, 1) := by decide +kernel
theorem dX6_requireHolder_0 : decode cX6_requireHolder 0 = .ok (.iload_n 0, 1) := by decide +kernel
theorem dX6_requireHolder_1 : decode cX6_requireHolder 1 = .ok (.ifCond .lt 9, 3) := by decide +kernel
theorem dX6_requireHolder_4 : decode cX6_requireHolder 4 = .ok (.iload_n 0, 1) := by decide +kernel
theorem dX6_requireHolder_5 : decode cX6_requireHolder 5 = .ok (.bipush 6, 2) := by decide +kernel
theorem dX6_requireHolder_7 : decode cX6_requireHolder 7 = .ok (.if_icmp .lt 13, 3) := by decide +kernel
theorem dX6_requireHolder_10 : decode cX6_requireHolder 10 = .ok (.new 175, 3) := by decide +kernel
theorem dX6_requireHolder_13 : decode cX6_requireHolder 13 = .ok (.dup, 1) := by decide +kernel
theorem dX6_requireHolder_14 : decode cX6_requireHolder 14 = .ok (.ldc 240, 2) := by decide +kernel
theorem dX6_requireHolder_16 : decode cX6_requireHolder 16 = .ok (.invokespecial 179, 3) := by decide +kernel
theorem dX6_requireHolder_19 : decode cX6_requireHolder 19 = .ok (.athrow, 1) := by decide +kernel
theorem dX6_requireHolder_20 : decode cX6_requireHolder 20 = .ok (.return_, 1) := by decide +kernel
theorem dX6_requireRange_0 : decode cX6_requireRange 0 = .ok (.iload_n 0, 1) := by decide +kernel
theorem dX6_requireRange_1 : decode cX6_requireRange 1 = .ok (.iload_n 1, 1) := by decide +kernel
theorem dX6_requireRange_2 : decode cX6_requireRange 2 = .ok (.if_icmp .lt 8, 3) := by decide +kernel
theorem dX6_requireRange_5 : decode cX6_requireRange 5 = .ok (.iload_n 0, 1) := by decide +kernel
theorem dX6_requireRange_6 : decode cX6_requireRange 6 = .ok (.iload_n 2, 1) := by decide +kernel
theorem dX6_requireRange_7 : decode cX6_requireRange 7 = .ok (.if_icmp .le 13, 3) := by decide +kernel
theorem dX6_requireRange_10 : decode cX6_requireRange 10 = .ok (.new 77, 3) := by decide +kernel
theorem dX6_requireRange_13 : decode cX6_requireRange 13 = .ok (.dup, 1) := by decide +kernel
theorem dX6_requireRange_14 : decode cX6_requireRange 14 = .ok (.ldc 242, 2) := by decide +kernel
theorem dX6_requireRange_16 : decode cX6_requireRange 16 = .ok (.invokespecial 81, 3) := by decide +kernel
theorem dX6_requireRange_19 : decode cX6_requireRange 19 = .ok (.athrow, 1) := by decide +kernel
theorem dX6_requireRange_20 : decode cX6_requireRange 20 = .ok (.return_, 1) := by decide +kernel
theorem dX6_findJourneys_0 : decode cX6_findJourneys 0 = .ok (.aload_n 0, 1) := by decide +kernel
theorem dX6_findJourneys_1 : decode cX6_findJourneys 1 = .ok (.getfield 40, 3) := by decide +kernel
theorem dX6_findJourneys_4 : decode cX6_findJourneys 4 = .ok (.invokevirtual 244, 3) := by decide +kernel
theorem dX6_findJourneys_7 : decode cX6_findJourneys 7 = .ok (.iconst (-1), 1) := by decide +kernel
theorem dX6_findJourneys_8 : decode cX6_findJourneys 8 = .ok (.istore_n 2, 1) := by decide +kernel
theorem dX6_findJourneys_9 : decode cX6_findJourneys 9 = .ok (.iconst 0, 1) := by decide +kernel
theorem dX6_findJourneys_10 : decode cX6_findJourneys 10 = .ok (.istore_n 3, 1) := by decide +kernel
theorem dX6_findJourneys_11 : decode cX6_findJourneys 11 = .ok (.iload_n 3, 1) := by decide +kernel
theorem dX6_findJourneys_12 : decode cX6_findJourneys 12 = .ok (.aload_n 0, 1) := by decide +kernel
theorem dX6_findJourneys_13 : decode cX6_findJourneys 13 = .ok (.getfield 33, 3) := by decide +kernel
theorem dX6_findJourneys_16 : decode cX6_findJourneys 16 = .ok (.getfield 127, 3) := by decide +kernel
theorem dX6_findJourneys_19 : decode cX6_findJourneys 19 = .ok (.if_icmp .ge 55, 3) := by decide +kernel
theorem dX6_findJourneys_22 : decode cX6_findJourneys 22 = .ok (.aload_n 0, 1) := by decide +kernel
theorem dX6_findJourneys_23 : decode cX6_findJourneys 23 = .ok (.getfield 33, 3) := by decide +kernel
theorem dX6_findJourneys_26 : decode cX6_findJourneys 26 = .ok (.getfield 247, 3) := by decide +kernel
theorem dX6_findJourneys_29 : decode cX6_findJourneys 29 = .ok (.iload_n 3, 1) := by decide +kernel
theorem dX6_findJourneys_30 : decode cX6_findJourneys 30 = .ok (.iaload, 1) := by decide +kernel
theorem dX6_findJourneys_31 : decode cX6_findJourneys 31 = .ok (.istore 4, 2) := by decide +kernel
theorem dX6_findJourneys_33 : decode cX6_findJourneys 33 = .ok (.aload_n 0, 1) := by decide +kernel
theorem dX6_findJourneys_34 : decode cX6_findJourneys 34 = .ok (.getfield 33, 3) := by decide +kernel
theorem dX6_findJourneys_37 : decode cX6_findJourneys 37 = .ok (.getfield 208, 3) := by decide +kernel
theorem dX6_findJourneys_40 : decode cX6_findJourneys 40 = .ok (.iload 4, 2) := by decide +kernel
theorem dX6_findJourneys_42 : decode cX6_findJourneys 42 = .ok (.iaload, 1) := by decide +kernel
theorem dX6_findJourneys_43 : decode cX6_findJourneys 43 = .ok (.iload_n 1, 1) := by decide +kernel
theorem dX6_findJourneys_44 : decode cX6_findJourneys 44 = .ok (.if_icmp .ne 24, 3) := by decide +kernel
theorem dX6_findJourneys_47 : decode cX6_findJourneys 47 = .ok (.aload_n 0, 1) := by decide +kernel
theorem dX6_findJourneys_48 : decode cX6_findJourneys 48 = .ok (.getfield 33, 3) := by decide +kernel
theorem dX6_findJourneys_51 : decode cX6_findJourneys 51 = .ok (.getfield 138, 3) := by decide +kernel
theorem dX6_findJourneys_54 : decode cX6_findJourneys 54 = .ok (.iload 4, 2) := by decide +kernel
theorem dX6_findJourneys_56 : decode cX6_findJourneys 56 = .ok (.baload, 1) := by decide +kernel
theorem dX6_findJourneys_57 : decode cX6_findJourneys 57 = .ok (.ifCond .ne 11, 3) := by decide +kernel
theorem dX6_findJourneys_60 : decode cX6_findJourneys 60 = .ok (.aload_n 0, 1) := by decide +kernel
theorem dX6_findJourneys_61 : decode cX6_findJourneys 61 = .ok (.iload 4, 2) := by decide +kernel
theorem dX6_findJourneys_63 : decode cX6_findJourneys 63 = .ok (.iload_n 2, 1) := by decide +kernel
theorem dX6_findJourneys_64 : decode cX6_findJourneys 64 = .ok (.invokevirtual 250, 3) := by decide +kernel
theorem dX6_findJourneys_67 : decode cX6_findJourneys 67 = .ok (.istore_n 2, 1) := by decide +kernel
theorem dX6_findJourneys_68 : decode cX6_findJourneys 68 = .ok (.iinc 3 1, 3) := by decide +kernel
theorem dX6_findJourneys_71 : decode cX6_findJourneys 71 = .ok (.goto (-60), 3) := by decide +kernel
theorem dX6_findJourneys_74 : decode cX6_findJourneys 74 = .ok (.return_, 1) := by decide +kernel
theorem dX6_placeReading_0 : decode cX6_placeReading 0 = .ok (.aload_n 0, 1) := by decide +kernel
theorem dX6_placeReading_1 : decode cX6_placeReading 1 = .ok (.getfield 33, 3) := by decide +kernel
theorem dX6_placeReading_4 : decode cX6_placeReading 4 = .ok (.getfield 211, 3) := by decide +kernel
theorem dX6_placeReading_7 : decode cX6_placeReading 7 = .ok (.iload_n 1, 1) := by decide +kernel
theorem dX6_placeReading_8 : decode cX6_placeReading 8 = .ok (.iaload, 1) := by decide +kernel
theorem dX6_placeReading_9 : decode cX6_placeReading 9 = .ok (.istore_n 3, 1) := by decide +kernel
theorem dX6_placeReading_10 : decode cX6_placeReading 10 = .ok (.iload_n 2, 1) := by decide +kernel
theorem dX6_placeReading_11 : decode cX6_placeReading 11 = .ok (.iconst (-1), 1) := by decide +kernel
theorem dX6_placeReading_12 : decode cX6_placeReading 12 = .ok (.if_icmp .ne 14, 3) := by decide +kernel
theorem dX6_placeReading_15 : decode cX6_placeReading 15 = .ok (.aload_n 0, 1) := by decide +kernel
theorem dX6_placeReading_16 : decode cX6_placeReading 16 = .ok (.getfield 40, 3) := by decide +kernel
theorem dX6_placeReading_19 : decode cX6_placeReading 19 = .ok (.iload_n 1, 1) := by decide +kernel
theorem dX6_placeReading_20 : decode cX6_placeReading 20 = .ok (.iload_n 3, 1) := by decide +kernel
theorem dX6_placeReading_21 : decode cX6_placeReading 21 = .ok (.invokevirtual 253, 3) := by decide +kernel
theorem dX6_placeReading_24 : decode cX6_placeReading 24 = .ok (.iload_n 1, 1) := by decide +kernel
theorem dX6_placeReading_25 : decode cX6_placeReading 25 = .ok (.ireturn, 1) := by decide +kernel
theorem dX6_placeReading_26 : decode cX6_placeReading 26 = .ok (.aload_n 0, 1) := by decide +kernel
theorem dX6_placeReading_27 : decode cX6_placeReading 27 = .ok (.getfield 40, 3) := by decide +kernel
theorem dX6_placeReading_30 : decode cX6_placeReading 30 = .ok (.getfield 257, 3) := by decide +kernel
theorem dX6_placeReading_33 : decode cX6_placeReading 33 = .ok (.iload_n 2, 1) := by decide +kernel
theorem dX6_placeReading_34 : decode cX6_placeReading 34 = .ok (.iaload, 1) := by decide +kernel
theorem dX6_placeReading_35 : decode cX6_placeReading 35 = .ok (.istore 4, 2) := by decide +kernel
theorem dX6_placeReading_37 : decode cX6_placeReading 37 = .ok (.aload_n 0, 1) := by decide +kernel
theorem dX6_placeReading_38 : decode cX6_placeReading 38 = .ok (.iload_n 1, 1) := by decide +kernel
theorem dX6_placeReading_39 : decode cX6_placeReading 39 = .ok (.iload_n 2, 1) := by decide +kernel
theorem dX6_placeReading_40 : decode cX6_placeReading 40 = .ok (.invokevirtual 260, 3) := by decide +kernel
theorem dX6_placeReading_43 : decode cX6_placeReading 43 = .ok (.ifCond .eq 15, 3) := by decide +kernel
theorem dX6_placeReading_46 : decode cX6_placeReading 46 = .ok (.aload_n 0, 1) := by decide +kernel
theorem dX6_placeReading_47 : decode cX6_placeReading 47 = .ok (.getfield 40, 3) := by decide +kernel
theorem dX6_placeReading_50 : decode cX6_placeReading 50 = .ok (.iload_n 1, 1) := by decide +kernel
theorem dX6_placeReading_51 : decode cX6_placeReading 51 = .ok (.iload 4, 2) := by decide +kernel
theorem dX6_placeReading_53 : decode cX6_placeReading 53 = .ok (.invokevirtual 263, 3) := by decide +kernel
theorem dX6_placeReading_56 : decode cX6_placeReading 56 = .ok (.iload_n 2, 1) := by decide +kernel
theorem dX6_placeReading_57 : decode cX6_placeReading 57 = .ok (.ireturn, 1) := by decide +kernel
theorem dX6_placeReading_58 : decode cX6_placeReading 58 = .ok (.aload_n 0, 1) := by decide +kernel
theorem dX6_placeReading_59 : decode cX6_placeReading 59 = .ok (.iload_n 2, 1) := by decide +kernel
theorem dX6_placeReading_60 : decode cX6_placeReading 60 = .ok (.iload_n 1, 1) := by decide +kernel
theorem dX6_placeReading_61 : decode cX6_placeReading 61 = .ok (.invokevirtual 266, 3) := by decide +kernel
theorem dX6_placeReading_64 : decode cX6_placeReading 64 = .ok (.ifCond .eq 25, 3) := by decide +kernel
theorem dX6_placeReading_67 : decode cX6_placeReading 67 = .ok (.aload_n 0, 1) := by decide +kernel
theorem dX6_placeReading_68 : decode cX6_placeReading 68 = .ok (.getfield 40, 3) := by decide +kernel
theorem dX6_placeReading_71 : decode cX6_placeReading 71 = .ok (.iload_n 1, 1) := by decide +kernel
theorem dX6_placeReading_72 : decode cX6_placeReading 72 = .ok (.iload 4, 2) := by decide +kernel
theorem dX6_placeReading_74 : decode cX6_placeReading 74 = .ok (.iload_n 3, 1) := by decide +kernel
theorem dX6_placeReading_75 : decode cX6_placeReading 75 = .ok (.invokevirtual 269, 3) := by decide +kernel
theorem dX6_placeReading_78 : decode cX6_placeReading 78 = .ok (.aload_n 0, 1) := by decide +kernel
theorem dX6_placeReading_79 : decode cX6_placeReading 79 = .ok (.iload_n 2, 1) := by decide +kernel
theorem dX6_placeReading_80 : decode cX6_placeReading 80 = .ok (.iload_n 1, 1) := by decide +kernel
theorem dX6_placeReading_81 : decode cX6_placeReading 81 = .ok (.iload 4, 2) := by decide +kernel
theorem dX6_placeReading_83 : decode cX6_placeReading 83 = .ok (.invokevirtual 272, 3) := by decide +kernel
theorem dX6_placeReading_86 : decode cX6_placeReading 86 = .ok (.goto 12, 3) := by decide +kernel
theorem dX6_placeReading_89 : decode cX6_placeReading 89 = .ok (.aload_n 0, 1) := by decide +kernel
theorem dX6_placeReading_90 : decode cX6_placeReading 90 = .ok (.getfield 40, 3) := by decide +kernel
theorem dX6_placeReading_93 : decode cX6_placeReading 93 = .ok (.iload_n 1, 1) := by decide +kernel
theorem dX6_placeReading_94 : decode cX6_placeReading 94 = .ok (.iload_n 3, 1) := by decide +kernel
theorem dX6_placeReading_95 : decode cX6_placeReading 95 = .ok (.invokevirtual 253, 3) := by decide +kernel
theorem dX6_placeReading_98 : decode cX6_placeReading 98 = .ok (.iload_n 1, 1) := by decide +kernel
theorem dX6_placeReading_99 : decode cX6_placeReading 99 = .ok (.ireturn, 1) := by decide +kernel
theorem dX6_isDoubleOf_0 : decode cX6_isDoubleOf 0 = .ok (.aload_n 0, 1) := by decide +kernel
theorem dX6_isDoubleOf_1 : decode cX6_isDoubleOf 1 = .ok (.getfield 33, 3) := by decide +kernel
theorem dX6_isDoubleOf_4 : decode cX6_isDoubleOf 4 = .ok (.getfield 205, 3) := by decide +kernel
theorem dX6_isDoubleOf_7 : decode cX6_isDoubleOf 7 = .ok (.iload_n 1, 1) := by decide +kernel
theorem dX6_isDoubleOf_8 : decode cX6_isDoubleOf 8 = .ok (.iaload, 1) := by decide +kernel
theorem dX6_isDoubleOf_9 : decode cX6_isDoubleOf 9 = .ok (.aload_n 0, 1) := by decide +kernel
theorem dX6_isDoubleOf_10 : decode cX6_isDoubleOf 10 = .ok (.getfield 33, 3) := by decide +kernel
theorem dX6_isDoubleOf_13 : decode cX6_isDoubleOf 13 = .ok (.getfield 205, 3) := by decide +kernel
theorem dX6_isDoubleOf_16 : decode cX6_isDoubleOf 16 = .ok (.iload_n 2, 1) := by decide +kernel
theorem dX6_isDoubleOf_17 : decode cX6_isDoubleOf 17 = .ok (.iaload, 1) := by decide +kernel
theorem dX6_isDoubleOf_18 : decode cX6_isDoubleOf 18 = .ok (.if_icmp .ne 20, 3) := by decide +kernel
theorem dX6_isDoubleOf_21 : decode cX6_isDoubleOf 21 = .ok (.aload_n 0, 1) := by decide +kernel
theorem dX6_isDoubleOf_22 : decode cX6_isDoubleOf 22 = .ok (.getfield 33, 3) := by decide +kernel
theorem dX6_isDoubleOf_25 : decode cX6_isDoubleOf 25 = .ok (.iload_n 2, 1) := by decide +kernel
theorem dX6_isDoubleOf_26 : decode cX6_isDoubleOf 26 = .ok (.iload_n 1, 1) := by decide +kernel
theorem dX6_isDoubleOf_27 : decode cX6_isDoubleOf 27 = .ok (.invokevirtual 275, 3) := by decide +kernel
theorem dX6_isDoubleOf_30 : decode cX6_isDoubleOf 30 = .ok (.iconst 5, 1) := by decide +kernel
theorem dX6_isDoubleOf_31 : decode cX6_isDoubleOf 31 = .ok (.if_icmp .gt 7, 3) := by decide +kernel
theorem dX6_isDoubleOf_34 : decode cX6_isDoubleOf 34 = .ok (.iconst 1, 1) := by decide +kernel
theorem dX6_isDoubleOf_35 : decode cX6_isDoubleOf 35 = .ok (.goto 4, 3) := by decide +kernel
theorem dX6_isDoubleOf_38 : decode cX6_isDoubleOf 38 = .ok (.iconst 0, 1) := by decide +kernel
theorem dX6_isDoubleOf_39 : decode cX6_isDoubleOf 39 = .ok (.ireturn, 1) := by decide +kernel
theorem dX6_goesOnFrom_0 : decode cX6_goesOnFrom 0 = .ok (.aload_n 0, 1) := by decide +kernel
theorem dX6_goesOnFrom_1 : decode cX6_goesOnFrom 1 = .ok (.getfield 33, 3) := by decide +kernel
theorem dX6_goesOnFrom_4 : decode cX6_goesOnFrom 4 = .ok (.getfield 205, 3) := by decide +kernel
theorem dX6_goesOnFrom_7 : decode cX6_goesOnFrom 7 = .ok (.iload_n 1, 1) := by decide +kernel
theorem dX6_goesOnFrom_8 : decode cX6_goesOnFrom 8 = .ok (.iaload, 1) := by decide +kernel
theorem dX6_goesOnFrom_9 : decode cX6_goesOnFrom 9 = .ok (.istore_n 3, 1) := by decide +kernel
theorem dX6_goesOnFrom_10 : decode cX6_goesOnFrom 10 = .ok (.aload_n 0, 1) := by decide +kernel
theorem dX6_goesOnFrom_11 : decode cX6_goesOnFrom 11 = .ok (.getfield 33, 3) := by decide +kernel
theorem dX6_goesOnFrom_14 : decode cX6_goesOnFrom 14 = .ok (.getfield 205, 3) := by decide +kernel
theorem dX6_goesOnFrom_17 : decode cX6_goesOnFrom 17 = .ok (.iload_n 2, 1) := by decide +kernel
theorem dX6_goesOnFrom_18 : decode cX6_goesOnFrom 18 = .ok (.iaload, 1) := by decide +kernel
theorem dX6_goesOnFrom_19 : decode cX6_goesOnFrom 19 = .ok (.istore 4, 2) := by decide +kernel
theorem dX6_goesOnFrom_21 : decode cX6_goesOnFrom 21 = .ok (.aload_n 0, 1) := by decide +kernel
theorem dX6_goesOnFrom_22 : decode cX6_goesOnFrom 22 = .ok (.getfield 10, 3) := by decide +kernel
theorem dX6_goesOnFrom_25 : decode cX6_goesOnFrom 25 = .ok (.iload_n 3, 1) := by decide +kernel
theorem dX6_goesOnFrom_26 : decode cX6_goesOnFrom 26 = .ok (.iload 4, 2) := by decide +kernel
theorem dX6_goesOnFrom_28 : decode cX6_goesOnFrom 28 = .ok (.invokevirtual 167, 3) := by decide +kernel
theorem dX6_goesOnFrom_31 : decode cX6_goesOnFrom 31 = .ok (.ifCond .ne 5, 3) := by decide +kernel
theorem dX6_goesOnFrom_34 : decode cX6_goesOnFrom 34 = .ok (.iconst 0, 1) := by decide +kernel
theorem dX6_goesOnFrom_35 : decode cX6_goesOnFrom 35 = .ok (.ireturn, 1) := by decide +kernel
theorem dX6_goesOnFrom_36 : decode cX6_goesOnFrom 36 = .ok (.aload_n 0, 1) := by decide +kernel
theorem dX6_goesOnFrom_37 : decode cX6_goesOnFrom 37 = .ok (.getfield 10, 3) := by decide +kernel
theorem dX6_goesOnFrom_40 : decode cX6_goesOnFrom 40 = .ok (.getfield 171, 3) := by decide +kernel
theorem dX6_goesOnFrom_43 : decode cX6_goesOnFrom 43 = .ok (.iload_n 3, 1) := by decide +kernel
theorem dX6_goesOnFrom_44 : decode cX6_goesOnFrom 44 = .ok (.aaload, 1) := by decide +kernel
theorem dX6_goesOnFrom_45 : decode cX6_goesOnFrom 45 = .ok (.iload 4, 2) := by decide +kernel
theorem dX6_goesOnFrom_47 : decode cX6_goesOnFrom 47 = .ok (.iaload, 1) := by decide +kernel
theorem dX6_goesOnFrom_48 : decode cX6_goesOnFrom 48 = .ok (.istore 5, 2) := by decide +kernel
theorem dX6_goesOnFrom_50 : decode cX6_goesOnFrom 50 = .ok (.aload_n 0, 1) := by decide +kernel
theorem dX6_goesOnFrom_51 : decode cX6_goesOnFrom 51 = .ok (.getfield 33, 3) := by decide +kernel
theorem dX6_goesOnFrom_54 : decode cX6_goesOnFrom 54 = .ok (.iload_n 1, 1) := by decide +kernel
theorem dX6_goesOnFrom_55 : decode cX6_goesOnFrom 55 = .ok (.iload_n 2, 1) := by decide +kernel
theorem dX6_goesOnFrom_56 : decode cX6_goesOnFrom 56 = .ok (.invokevirtual 275, 3) := by decide +kernel
theorem dX6_goesOnFrom_59 : decode cX6_goesOnFrom 59 = .ok (.istore 6, 2) := by decide +kernel
theorem dX6_goesOnFrom_61 : decode cX6_goesOnFrom 61 = .ok (.iload 6, 2) := by decide +kernel
theorem dX6_goesOnFrom_63 : decode cX6_goesOnFrom 63 = .ok (.iload 5, 2) := by decide +kernel
theorem dX6_goesOnFrom_65 : decode cX6_goesOnFrom 65 = .ok (.if_icmp .lt 19, 3) := by decide +kernel
theorem dX6_goesOnFrom_68 : decode cX6_goesOnFrom 68 = .ok (.iload 6, 2) := by decide +kernel
theorem dX6_goesOnFrom_70 : decode cX6_goesOnFrom 70 = .ok (.iconst 3, 1) := by decide +kernel
theorem dX6_goesOnFrom_71 : decode cX6_goesOnFrom 71 = .ok (.iload 5, 2) := by decide +kernel
theorem dX6_goesOnFrom_73 : decode cX6_goesOnFrom 73 = .ok (.imul, 1) := by decide +kernel
theorem dX6_goesOnFrom_74 : decode cX6_goesOnFrom 74 = .ok (.bipush 10, 2) := by decide +kernel
theorem dX6_goesOnFrom_76 : decode cX6_goesOnFrom 76 = .ok (.iadd, 1) := by decide +kernel
theorem dX6_goesOnFrom_77 : decode cX6_goesOnFrom 77 = .ok (.if_icmp .gt 7, 3) := by decide +kernel
theorem dX6_goesOnFrom_80 : decode cX6_goesOnFrom 80 = .ok (.iconst 1, 1) := by decide +kernel
theorem dX6_goesOnFrom_81 : decode cX6_goesOnFrom 81 = .ok (.goto 4, 3) := by decide +kernel
theorem dX6_goesOnFrom_84 : decode cX6_goesOnFrom 84 = .ok (.iconst 0, 1) := by decide +kernel
theorem dX6_goesOnFrom_85 : decode cX6_goesOnFrom 85 = .ok (.ireturn, 1) := by decide +kernel
theorem dX6_payWay_0 : decode cX6_payWay 0 = .ok (.aload_n 0, 1) := by decide +kernel
theorem dX6_payWay_1 : decode cX6_payWay 1 = .ok (.getfield 33, 3) := by decide +kernel
theorem dX6_payWay_4 : decode cX6_payWay 4 = .ok (.getfield 208, 3) := by decide +kernel
theorem dX6_payWay_7 : decode cX6_payWay 7 = .ok (.iload_n 1, 1) := by decide +kernel
theorem dX6_payWay_8 : decode cX6_payWay 8 = .ok (.iaload, 1) := by decide +kernel
theorem dX6_payWay_9 : decode cX6_payWay 9 = .ok (.istore 4, 2) := by decide +kernel
theorem dX6_payWay_11 : decode cX6_payWay 11 = .ok (.aload_n 0, 1) := by decide +kernel
theorem dX6_payWay_12 : decode cX6_payWay 12 = .ok (.getfield 33, 3) := by decide +kernel
theorem dX6_payWay_15 : decode cX6_payWay 15 = .ok (.getfield 211, 3) := by decide +kernel
theorem dX6_payWay_18 : decode cX6_payWay 18 = .ok (.iload_n 1, 1) := by decide +kernel
theorem dX6_payWay_19 : decode cX6_payWay 19 = .ok (.iaload, 1) := by decide +kernel
theorem dX6_payWay_20 : decode cX6_payWay 20 = .ok (.istore 5, 2) := by decide +kernel
theorem dX6_payWay_22 : decode cX6_payWay 22 = .ok (.aload_n 0, 1) := by decide +kernel
theorem dX6_payWay_23 : decode cX6_payWay 23 = .ok (.getfield 26, 3) := by decide +kernel
theorem dX6_payWay_26 : decode cX6_payWay 26 = .ok (.iload 4, 2) := by decide +kernel
theorem dX6_payWay_28 : decode cX6_payWay 28 = .ok (.iload 5, 2) := by decide +kernel
theorem dX6_payWay_30 : decode cX6_payWay 30 = .ok (.invokevirtual 278, 3) := by decide +kernel
theorem dX6_payWay_33 : decode cX6_payWay 33 = .ok (.ifCond .eq 4, 3) := by decide +kernel
theorem dX6_payWay_36 : decode cX6_payWay 36 = .ok (.return_, 1) := by decide +kernel
theorem dX6_payWay_37 : decode cX6_payWay 37 = .ok (.aload_n 0, 1) := by decide +kernel
theorem dX6_payWay_38 : decode cX6_payWay 38 = .ok (.getfield 33, 3) := by decide +kernel
theorem dX6_payWay_41 : decode cX6_payWay 41 = .ok (.getfield 205, 3) := by decide +kernel
theorem dX6_payWay_44 : decode cX6_payWay 44 = .ok (.iload_n 2, 1) := by decide +kernel
theorem dX6_payWay_45 : decode cX6_payWay 45 = .ok (.iaload, 1) := by decide +kernel
theorem dX6_payWay_46 : decode cX6_payWay 46 = .ok (.istore 6, 2) := by decide +kernel
theorem dX6_payWay_48 : decode cX6_payWay 48 = .ok (.aload_n 0, 1) := by decide +kernel
theorem dX6_payWay_49 : decode cX6_payWay 49 = .ok (.getfield 33, 3) := by decide +kernel
theorem dX6_payWay_52 : decode cX6_payWay 52 = .ok (.getfield 205, 3) := by decide +kernel
theorem dX6_payWay_55 : decode cX6_payWay 55 = .ok (.iload_n 1, 1) := by decide +kernel
theorem dX6_payWay_56 : decode cX6_payWay 56 = .ok (.iaload, 1) := by decide +kernel
theorem dX6_payWay_57 : decode cX6_payWay 57 = .ok (.istore 7, 2) := by decide +kernel
theorem dX6_payWay_59 : decode cX6_payWay 59 = .ok (.iconst 0, 1) := by decide +kernel
theorem dX6_payWay_60 : decode cX6_payWay 60 = .ok (.istore 8, 2) := by decide +kernel
theorem dX6_payWay_62 : decode cX6_payWay 62 = .ok (.iload 8, 2) := by decide +kernel
theorem dX6_payWay_64 : decode cX6_payWay 64 = .ok (.bipush 12, 2) := by decide +kernel
theorem dX6_payWay_66 : decode cX6_payWay 66 = .ok (.if_icmp .ge 93, 3) := by decide +kernel
theorem dX6_payWay_69 : decode cX6_payWay 69 = .ok (.aload_n 0, 1) := by decide +kernel
theorem dX6_payWay_70 : decode cX6_payWay 70 = .ok (.getfield 10, 3) := by decide +kernel
theorem dX6_payWay_73 : decode cX6_payWay 73 = .ok (.iload 7, 2) := by decide +kernel
theorem dX6_payWay_75 : decode cX6_payWay 75 = .ok (.iload 6, 2) := by decide +kernel
theorem dX6_payWay_77 : decode cX6_payWay 77 = .ok (.invokevirtual 281, 3) := by decide +kernel
theorem dX6_payWay_80 : decode cX6_payWay 80 = .ok (.istore 9, 2) := by decide +kernel
theorem dX6_payWay_82 : decode cX6_payWay 82 = .ok (.iload 9, 2) := by decide +kernel
theorem dX6_payWay_84 : decode cX6_payWay 84 = .ok (.iconst (-1), 1) := by decide +kernel
theorem dX6_payWay_85 : decode cX6_payWay 85 = .ok (.if_icmp .ne 4, 3) := by decide +kernel
theorem dX6_payWay_88 : decode cX6_payWay 88 = .ok (.return_, 1) := by decide +kernel
theorem dX6_payWay_89 : decode cX6_payWay 89 = .ok (.aload_n 0, 1) := by decide +kernel
theorem dX6_payWay_90 : decode cX6_payWay 90 = .ok (.getfield 19, 3) := by decide +kernel
theorem dX6_payWay_93 : decode cX6_payWay 93 = .ok (.aload_n 0, 1) := by decide +kernel
theorem dX6_payWay_94 : decode cX6_payWay 94 = .ok (.getfield 10, 3) := by decide +kernel
theorem dX6_payWay_97 : decode cX6_payWay 97 = .ok (.getfield 284, 3) := by decide +kernel
theorem dX6_payWay_100 : decode cX6_payWay 100 = .ok (.iload 9, 2) := by decide +kernel
theorem dX6_payWay_102 : decode cX6_payWay 102 = .ok (.iaload, 1) := by decide +kernel
theorem dX6_payWay_103 : decode cX6_payWay 103 = .ok (.aload_n 0, 1) := by decide +kernel
theorem dX6_payWay_104 : decode cX6_payWay 104 = .ok (.getfield 26, 3) := by decide +kernel
theorem dX6_payWay_107 : decode cX6_payWay 107 = .ok (.getfield 105, 3) := by decide +kernel
theorem dX6_payWay_110 : decode cX6_payWay 110 = .ok (.iload 4, 2) := by decide +kernel
theorem dX6_payWay_112 : decode cX6_payWay 112 = .ok (.iaload, 1) := by decide +kernel
theorem dX6_payWay_113 : decode cX6_payWay 113 = .ok (.iload 5, 2) := by decide +kernel
theorem dX6_payWay_115 : decode cX6_payWay 115 = .ok (.invokevirtual 287, 3) := by decide +kernel
theorem dX6_payWay_118 : decode cX6_payWay 118 = .ok (.istore 10, 2) := by decide +kernel
theorem dX6_payWay_120 : decode cX6_payWay 120 = .ok (.aload_n 0, 1) := by decide +kernel
theorem dX6_payWay_121 : decode cX6_payWay 121 = .ok (.getfield 40, 3) := by decide +kernel
theorem dX6_payWay_124 : decode cX6_payWay 124 = .ok (.iload_n 3, 1) := by decide +kernel
theorem dX6_payWay_125 : decode cX6_payWay 125 = .ok (.aload_n 0, 1) := by decide +kernel
theorem dX6_payWay_126 : decode cX6_payWay 126 = .ok (.getfield 10, 3) := by decide +kernel
theorem dX6_payWay_129 : decode cX6_payWay 129 = .ok (.getfield 290, 3) := by decide +kernel
theorem dX6_payWay_132 : decode cX6_payWay 132 = .ok (.iload 9, 2) := by decide +kernel
theorem dX6_payWay_134 : decode cX6_payWay 134 = .ok (.iaload, 1) := by decide +kernel
theorem dX6_payWay_135 : decode cX6_payWay 135 = .ok (.iload 10, 2) := by decide +kernel
theorem dX6_payWay_137 : decode cX6_payWay 137 = .ok (.invokevirtual 293, 3) := by decide +kernel
theorem dX6_payWay_140 : decode cX6_payWay 140 = .ok (.aload_n 0, 1) := by decide +kernel
theorem dX6_payWay_141 : decode cX6_payWay 141 = .ok (.getfield 10, 3) := by decide +kernel
theorem dX6_payWay_144 : decode cX6_payWay 144 = .ok (.iload 9, 2) := by decide +kernel
theorem dX6_payWay_146 : decode cX6_payWay 146 = .ok (.iload 7, 2) := by decide +kernel
theorem dX6_payWay_148 : decode cX6_payWay 148 = .ok (.invokevirtual 296, 3) := by decide +kernel
theorem dX6_payWay_151 : decode cX6_payWay 151 = .ok (.istore 7, 2) := by decide +kernel
theorem dX6_payWay_153 : decode cX6_payWay 153 = .ok (.iinc 8 1, 3) := by decide +kernel
theorem dX6_payWay_156 : decode cX6_payWay 156 = .ok (.goto (-94), 3) := by decide +kernel
theorem dX6_payWay_159 : decode cX6_payWay 159 = .ok (.return_, 1) := by decide +kernel
theorem dX6_isDoubleNow_0 : decode cX6_isDoubleNow 0 = .ok (.aload_n 0, 1) := by decide +kernel
theorem dX6_isDoubleNow_1 : decode cX6_isDoubleNow 1 = .ok (.getfield 33, 3) := by decide +kernel
theorem dX6_isDoubleNow_4 : decode cX6_isDoubleNow 4 = .ok (.getfield 138, 3) := by decide +kernel
theorem dX6_isDoubleNow_7 : decode cX6_isDoubleNow 7 = .ok (.iload_n 1, 1) := by decide +kernel
theorem dX6_isDoubleNow_8 : decode cX6_isDoubleNow 8 = .ok (.baload, 1) := by decide +kernel
theorem dX6_isDoubleNow_9 : decode cX6_isDoubleNow 9 = .ok (.ifCond .eq 5, 3) := by decide +kernel
theorem dX6_isDoubleNow_12 : decode cX6_isDoubleNow 12 = .ok (.iconst 0, 1) := by decide +kernel
theorem dX6_isDoubleNow_13 : decode cX6_isDoubleNow 13 = .ok (.ireturn, 1) := by decide +kernel
theorem dX6_isDoubleNow_14 : decode cX6_isDoubleNow 14 = .ok (.aload_n 0, 1) := by decide +kernel
theorem dX6_isDoubleNow_15 : decode cX6_isDoubleNow 15 = .ok (.aload_n 0, 1) := by decide +kernel
theorem dX6_isDoubleNow_16 : decode cX6_isDoubleNow 16 = .ok (.getfield 33, 3) := by decide +kernel
theorem dX6_isDoubleNow_19 : decode cX6_isDoubleNow 19 = .ok (.getfield 208, 3) := by decide +kernel
theorem dX6_isDoubleNow_22 : decode cX6_isDoubleNow 22 = .ok (.iload_n 1, 1) := by decide +kernel
theorem dX6_isDoubleNow_23 : decode cX6_isDoubleNow 23 = .ok (.iaload, 1) := by decide +kernel
theorem dX6_isDoubleNow_24 : decode cX6_isDoubleNow 24 = .ok (.invokevirtual 149, 3) := by decide +kernel
theorem dX6_isDoubleNow_27 : decode cX6_isDoubleNow 27 = .ok (.aload_n 0, 1) := by decide +kernel
theorem dX6_isDoubleNow_28 : decode cX6_isDoubleNow 28 = .ok (.getfield 40, 3) := by decide +kernel
theorem dX6_isDoubleNow_31 : decode cX6_isDoubleNow 31 = .ok (.getfield 299, 3) := by decide +kernel
theorem dX6_isDoubleNow_34 : decode cX6_isDoubleNow 34 = .ok (.iload_n 1, 1) := by decide +kernel
theorem dX6_isDoubleNow_35 : decode cX6_isDoubleNow 35 = .ok (.baload, 1) := by decide +kernel
theorem dX6_isDoubleNow_36 : decode cX6_isDoubleNow 36 = .ok (.ireturn, 1) := by decide +kernel
theorem dX6_journeyNow_0 : decode cX6_journeyNow 0 = .ok (.aload_n 0, 1) := by decide +kernel
theorem dX6_journeyNow_1 : decode cX6_journeyNow 1 = .ok (.getfield 33, 3) := by decide +kernel
theorem dX6_journeyNow_4 : decode cX6_journeyNow 4 = .ok (.getfield 138, 3) := by decide +kernel
theorem dX6_journeyNow_7 : decode cX6_journeyNow 7 = .ok (.iload_n 1, 1) := by decide +kernel
theorem dX6_journeyNow_8 : decode cX6_journeyNow 8 = .ok (.baload, 1) := by decide +kernel
theorem dX6_journeyNow_9 : decode cX6_journeyNow 9 = .ok (.ifCond .eq 5, 3) := by decide +kernel
theorem dX6_journeyNow_12 : decode cX6_journeyNow 12 = .ok (.iconst (-1), 1) := by decide +kernel
theorem dX6_journeyNow_13 : decode cX6_journeyNow 13 = .ok (.ireturn, 1) := by decide +kernel
theorem dX6_journeyNow_14 : decode cX6_journeyNow 14 = .ok (.aload_n 0, 1) := by decide +kernel
theorem dX6_journeyNow_15 : decode cX6_journeyNow 15 = .ok (.aload_n 0, 1) := by decide +kernel
theorem dX6_journeyNow_16 : decode cX6_journeyNow 16 = .ok (.getfield 33, 3) := by decide +kernel
theorem dX6_journeyNow_19 : decode cX6_journeyNow 19 = .ok (.getfield 208, 3) := by decide +kernel
theorem dX6_journeyNow_22 : decode cX6_journeyNow 22 = .ok (.iload_n 1, 1) := by decide +kernel
theorem dX6_journeyNow_23 : decode cX6_journeyNow 23 = .ok (.iaload, 1) := by decide +kernel
theorem dX6_journeyNow_24 : decode cX6_journeyNow 24 = .ok (.invokevirtual 149, 3) := by decide +kernel
theorem dX6_journeyNow_27 : decode cX6_journeyNow 27 = .ok (.aload_n 0, 1) := by decide +kernel
theorem dX6_journeyNow_28 : decode cX6_journeyNow 28 = .ok (.getfield 40, 3) := by decide +kernel
theorem dX6_journeyNow_31 : decode cX6_journeyNow 31 = .ok (.getfield 257, 3) := by decide +kernel
theorem dX6_journeyNow_34 : decode cX6_journeyNow 34 = .ok (.iload_n 1, 1) := by decide +kernel
theorem dX6_journeyNow_35 : decode cX6_journeyNow 35 = .ok (.iaload, 1) := by decide +kernel
theorem dX6_journeyNow_36 : decode cX6_journeyNow 36 = .ok (.ireturn, 1) := by decide +kernel
theorem dX6_dueToOwner_0 : decode cX6_dueToOwner 0 = .ok (.lconst 0, 1) := by decide +kernel
theorem dX6_dueToOwner_1 : decode cX6_dueToOwner 1 = .ok (.lstore_n 2, 1) := by decide +kernel
theorem dX6_dueToOwner_2 : decode cX6_dueToOwner 2 = .ok (.iconst 0, 1) := by decide +kernel
theorem dX6_dueToOwner_3 : decode cX6_dueToOwner 3 = .ok (.istore 4, 2) := by decide +kernel
theorem dX6_dueToOwner_5 : decode cX6_dueToOwner 5 = .ok (.iload 4, 2) := by decide +kernel
theorem dX6_dueToOwner_7 : decode cX6_dueToOwner 7 = .ok (.bipush 10, 2) := by decide +kernel
theorem dX6_dueToOwner_9 : decode cX6_dueToOwner 9 = .ok (.if_icmp .ge 37, 3) := by decide +kernel
theorem dX6_dueToOwner_12 : decode cX6_dueToOwner 12 = .ok (.aload_n 0, 1) := by decide +kernel
theorem dX6_dueToOwner_13 : decode cX6_dueToOwner 13 = .ok (.iload 4, 2) := by decide +kernel
theorem dX6_dueToOwner_15 : decode cX6_dueToOwner 15 = .ok (.invokevirtual 149, 3) := by decide +kernel
theorem dX6_dueToOwner_18 : decode cX6_dueToOwner 18 = .ok (.lload_n 2, 1) := by decide +kernel
theorem dX6_dueToOwner_19 : decode cX6_dueToOwner 19 = .ok (.aload_n 0, 1) := by decide +kernel
theorem dX6_dueToOwner_20 : decode cX6_dueToOwner 20 = .ok (.getfield 40, 3) := by decide +kernel
theorem dX6_dueToOwner_23 : decode cX6_dueToOwner 23 = .ok (.iload_n 1, 1) := by decide +kernel
theorem dX6_dueToOwner_24 : decode cX6_dueToOwner 24 = .ok (.aload_n 0, 1) := by decide +kernel
theorem dX6_dueToOwner_25 : decode cX6_dueToOwner 25 = .ok (.getfield 51, 3) := by decide +kernel
theorem dX6_dueToOwner_28 : decode cX6_dueToOwner 28 = .ok (.aload_n 0, 1) := by decide +kernel
theorem dX6_dueToOwner_29 : decode cX6_dueToOwner 29 = .ok (.getfield 19, 3) := by decide +kernel
theorem dX6_dueToOwner_32 : decode cX6_dueToOwner 32 = .ok (.getfield 99, 3) := by decide +kernel
theorem dX6_dueToOwner_35 : decode cX6_dueToOwner 35 = .ok (.invokevirtual 163, 3) := by decide +kernel
theorem dX6_dueToOwner_38 : decode cX6_dueToOwner 38 = .ok (.ladd, 1) := by decide +kernel
theorem dX6_dueToOwner_39 : decode cX6_dueToOwner 39 = .ok (.lstore_n 2, 1) := by decide +kernel
theorem dX6_dueToOwner_40 : decode cX6_dueToOwner 40 = .ok (.iinc 4 1, 3) := by decide +kernel
theorem dX6_dueToOwner_43 : decode cX6_dueToOwner 43 = .ok (.goto (-38), 3) := by decide +kernel
theorem dX6_dueToOwner_46 : decode cX6_dueToOwner 46 = .ok (.lload_n 2, 1) := by decide +kernel
theorem dX6_dueToOwner_47 : decode cX6_dueToOwner 47 = .ok (.lreturn, 1) := by decide +kernel
