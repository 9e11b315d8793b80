theorem dL_gate_0 : decode cL_gate 0 = .ok (.aload_n 1, 1) := by decide +kernel
theorem dL_gate_1 : decode cL_gate 1 = .ok (.iconst 0, 1) := by decide +kernel
theorem dL_gate_2 : decode cL_gate 2 = .ok (.aload_n 0, 1) := by decide +kernel
theorem dL_gate_3 : decode cL_gate 3 = .ok (.invokevirtual 7, 3) := by decide +kernel
theorem dL_gate_6 : decode cL_gate 6 = .ok (.i2l, 1) := by decide +kernel
theorem dL_gate_7 : decode cL_gate 7 = .ok (.lastore, 1) := by decide +kernel
theorem dL_gate_8 : decode cL_gate 8 = .ok (.goto 6, 3) := by decide +kernel
theorem dL_gate_11 : decode cL_gate 11 = .ok (.astore_n 2, 1) := by decide +kernel
theorem dL_gate_12 : decode cL_gate 12 = .ok (.iconst 1, 1) := by decide +kernel
theorem dL_gate_13 : decode cL_gate 13 = .ok (.ireturn, 1) := by decide +kernel
theorem dL_gate_14 : decode cL_gate 14 = .ok (.iconst 0, 1) := by decide +kernel
theorem dL_gate_15 : decode cL_gate 15 = .ok (.ireturn, 1) := by decide +kernel
theorem dL_road_0 : decode cL_road 0 = .ok (.aload 5, 2) := by decide +kernel
theorem dL_road_2 : decode cL_road 2 = .ok (.iconst 0, 1) := by decide +kernel
theorem dL_road_3 : decode cL_road 3 = .ok (.aload_n 0, 1) := by decide +kernel
theorem dL_road_4 : decode cL_road 4 = .ok (.iload_n 1, 1) := by decide +kernel
theorem dL_road_5 : decode cL_road 5 = .ok (.iload_n 2, 1) := by decide +kernel
theorem dL_road_6 : decode cL_road 6 = .ok (.iload_n 3, 1) := by decide +kernel
theorem dL_road_7 : decode cL_road 7 = .ok (.iload 4, 2) := by decide +kernel
theorem dL_road_9 : decode cL_road 9 = .ok (.invokevirtual 15, 3) := by decide +kernel
theorem dL_road_12 : decode cL_road 12 = .ok (.i2l, 1) := by decide +kernel
theorem dL_road_13 : decode cL_road 13 = .ok (.lastore, 1) := by decide +kernel
theorem dL_road_14 : decode cL_road 14 = .ok (.goto 15, 3) := by decide +kernel
theorem dL_road_17 : decode cL_road 17 = .ok (.astore 6, 2) := by decide +kernel
theorem dL_road_19 : decode cL_road 19 = .ok (.iconst 1, 1) := by decide +kernel
theorem dL_road_20 : decode cL_road 20 = .ok (.ireturn, 1) := by decide +kernel
theorem dL_road_21 : decode cL_road 21 = .ok (.astore 6, 2) := by decide +kernel
theorem dL_road_23 : decode cL_road 23 = .ok (.iconst 2, 1) := by decide +kernel
theorem dL_road_24 : decode cL_road 24 = .ok (.ireturn, 1) := by decide +kernel
theorem dL_road_25 : decode cL_road 25 = .ok (.astore 6, 2) := by decide +kernel
theorem dL_road_27 : decode cL_road 27 = .ok (.iconst 3, 1) := by decide +kernel
theorem dL_road_28 : decode cL_road 28 = .ok (.ireturn, 1) := by decide +kernel
theorem dL_road_29 : decode cL_road 29 = .ok (.iconst 0, 1) := by decide +kernel
theorem dL_road_30 : decode cL_road 30 = .ok (.ireturn, 1) := by decide +kernel
theorem dL_rate_0 : decode cL_rate 0 = .ok (.aload_n 0, 1) := by decide +kernel
theorem dL_rate_1 : decode cL_rate 1 = .ok (.iload_n 1, 1) := by decide +kernel
theorem dL_rate_2 : decode cL_rate 2 = .ok (.iload_n 2, 1) := by decide +kernel
theorem dL_rate_3 : decode cL_rate 3 = .ok (.iload_n 3, 1) := by decide +kernel
theorem dL_rate_4 : decode cL_rate 4 = .ok (.invokevirtual 23, 3) := by decide +kernel
theorem dL_rate_7 : decode cL_rate 7 = .ok (.goto 7, 3) := by decide +kernel
theorem dL_rate_10 : decode cL_rate 10 = .ok (.astore 4, 2) := by decide +kernel
theorem dL_rate_12 : decode cL_rate 12 = .ok (.iconst 1, 1) := by decide +kernel
theorem dL_rate_13 : decode cL_rate 13 = .ok (.ireturn, 1) := by decide +kernel
theorem dL_rate_14 : decode cL_rate 14 = .ok (.iconst 0, 1) := by decide +kernel
theorem dL_rate_15 : decode cL_rate 15 = .ok (.ireturn, 1) := by decide +kernel
theorem dL_most_0 : decode cL_most 0 = .ok (.aload_n 2, 1) := by decide +kernel
theorem dL_most_1 : decode cL_most 1 = .ok (.iconst 0, 1) := by decide +kernel
theorem dL_most_2 : decode cL_most 2 = .ok (.aload_n 0, 1) := by decide +kernel
theorem dL_most_3 : decode cL_most 3 = .ok (.iload_n 1, 1) := by decide +kernel
theorem dL_most_4 : decode cL_most 4 = .ok (.invokevirtual 27, 3) := by decide +kernel
theorem dL_most_7 : decode cL_most 7 = .ok (.i2l, 1) := by decide +kernel
theorem dL_most_8 : decode cL_most 8 = .ok (.lastore, 1) := by decide +kernel
theorem dL_most_9 : decode cL_most 9 = .ok (.goto 6, 3) := by decide +kernel
theorem dL_most_12 : decode cL_most 12 = .ok (.astore_n 3, 1) := by decide +kernel
theorem dL_most_13 : decode cL_most 13 = .ok (.iconst 1, 1) := by decide +kernel
theorem dL_most_14 : decode cL_most 14 = .ok (.ireturn, 1) := by decide +kernel
theorem dL_most_15 : decode cL_most 15 = .ok (.iconst 0, 1) := by decide +kernel
theorem dL_most_16 : decode cL_most 16 = .ok (.ireturn, 1) := by decide +kernel
theorem dL_plate_0 : decode cL_plate 0 = .ok (.aload_n 0, 1) := by decide +kernel
theorem dL_plate_1 : decode cL_plate 1 = .ok (.iload_n 1, 1) := by decide +kernel
theorem dL_plate_2 : decode cL_plate 2 = .ok (.iload_n 2, 1) := by decide +kernel
theorem dL_plate_3 : decode cL_plate 3 = .ok (.iload_n 3, 1) := by decide +kernel
theorem dL_plate_4 : decode cL_plate 4 = .ok (.invokevirtual 31, 3) := by decide +kernel
theorem dL_plate_7 : decode cL_plate 7 = .ok (.goto 11, 3) := by decide +kernel
theorem dL_plate_10 : decode cL_plate 10 = .ok (.astore 4, 2) := by decide +kernel
theorem dL_plate_12 : decode cL_plate 12 = .ok (.iconst 1, 1) := by decide +kernel
theorem dL_plate_13 : decode cL_plate 13 = .ok (.ireturn, 1) := by decide +kernel
theorem dL_plate_14 : decode cL_plate 14 = .ok (.astore 4, 2) := by decide +kernel
theorem dL_plate_16 : decode cL_plate 16 = .ok (.iconst 2, 1) := by decide +kernel
theorem dL_plate_17 : decode cL_plate 17 = .ok (.ireturn, 1) := by decide +kernel
theorem dL_plate_18 : decode cL_plate 18 = .ok (.iconst 0, 1) := by decide +kernel
theorem dL_plate_19 : decode cL_plate 19 = .ok (.ireturn, 1) := by decide +kernel
theorem dL_top_0 : decode cL_top 0 = .ok (.aload_n 3, 1) := by decide +kernel
theorem dL_top_1 : decode cL_top 1 = .ok (.iconst 0, 1) := by decide +kernel
theorem dL_top_2 : decode cL_top 2 = .ok (.aload_n 0, 1) := by decide +kernel
theorem dL_top_3 : decode cL_top 3 = .ok (.iload_n 1, 1) := by decide +kernel
theorem dL_top_4 : decode cL_top 4 = .ok (.iload_n 2, 1) := by decide +kernel
theorem dL_top_5 : decode cL_top 5 = .ok (.invokevirtual 34, 3) := by decide +kernel
theorem dL_top_8 : decode cL_top 8 = .ok (.lastore, 1) := by decide +kernel
theorem dL_top_9 : decode cL_top 9 = .ok (.goto 11, 3) := by decide +kernel
theorem dL_top_12 : decode cL_top 12 = .ok (.astore 4, 2) := by decide +kernel
theorem dL_top_14 : decode cL_top 14 = .ok (.iconst 1, 1) := by decide +kernel
theorem dL_top_15 : decode cL_top 15 = .ok (.ireturn, 1) := by decide +kernel
theorem dL_top_16 : decode cL_top 16 = .ok (.astore 4, 2) := by decide +kernel
theorem dL_top_18 : decode cL_top 18 = .ok (.iconst 2, 1) := by decide +kernel
theorem dL_top_19 : decode cL_top 19 = .ok (.ireturn, 1) := by decide +kernel
theorem dL_top_20 : decode cL_top 20 = .ok (.iconst 0, 1) := by decide +kernel
theorem dL_top_21 : decode cL_top 21 = .ok (.ireturn, 1) := by decide +kernel
theorem dL_exempt_0 : decode cL_exempt 0 = .ok (.aload 4, 2) := by decide +kernel
theorem dL_exempt_2 : decode cL_exempt 2 = .ok (.iconst 0, 1) := by decide +kernel
theorem dL_exempt_3 : decode cL_exempt 3 = .ok (.aload_n 0, 1) := by decide +kernel
theorem dL_exempt_4 : decode cL_exempt 4 = .ok (.iload_n 1, 1) := by decide +kernel
theorem dL_exempt_5 : decode cL_exempt 5 = .ok (.iload_n 2, 1) := by decide +kernel
theorem dL_exempt_6 : decode cL_exempt 6 = .ok (.iload_n 3, 1) := by decide +kernel
theorem dL_exempt_7 : decode cL_exempt 7 = .ok (.invokevirtual 38, 3) := by decide +kernel
theorem dL_exempt_10 : decode cL_exempt 10 = .ok (.i2l, 1) := by decide +kernel
theorem dL_exempt_11 : decode cL_exempt 11 = .ok (.lastore, 1) := by decide +kernel
theorem dL_exempt_12 : decode cL_exempt 12 = .ok (.goto 15, 3) := by decide +kernel
theorem dL_exempt_15 : decode cL_exempt 15 = .ok (.astore 5, 2) := by decide +kernel
theorem dL_exempt_17 : decode cL_exempt 17 = .ok (.iconst 1, 1) := by decide +kernel
theorem dL_exempt_18 : decode cL_exempt 18 = .ok (.ireturn, 1) := by decide +kernel
theorem dL_exempt_19 : decode cL_exempt 19 = .ok (.astore 5, 2) := by decide +kernel
theorem dL_exempt_21 : decode cL_exempt 21 = .ok (.iconst 2, 1) := by decide +kernel
theorem dL_exempt_22 : decode cL_exempt 22 = .ok (.ireturn, 1) := by decide +kernel
theorem dL_exempt_23 : decode cL_exempt 23 = .ok (.astore 5, 2) := by decide +kernel
theorem dL_exempt_25 : decode cL_exempt 25 = .ok (.iconst 3, 1) := by decide +kernel
theorem dL_exempt_26 : decode cL_exempt 26 = .ok (.ireturn, 1) := by decide +kernel
theorem dL_exempt_27 : decode cL_exempt 27 = .ok (.iconst 0, 1) := by decide +kernel
theorem dL_exempt_28 : decode cL_exempt 28 = .ok (.ireturn, 1) := by decide +kernel
theorem dL_read_0 : decode cL_read 0 = .ok (.aload 4, 2) := by decide +kernel
theorem dL_read_2 : decode cL_read 2 = .ok (.iconst 0, 1) := by decide +kernel
theorem dL_read_3 : decode cL_read 3 = .ok (.aload_n 0, 1) := by decide +kernel
theorem dL_read_4 : decode cL_read 4 = .ok (.iload_n 1, 1) := by decide +kernel
theorem dL_read_5 : decode cL_read 5 = .ok (.iload_n 2, 1) := by decide +kernel
theorem dL_read_6 : decode cL_read 6 = .ok (.iload_n 3, 1) := by decide +kernel
theorem dL_read_7 : decode cL_read 7 = .ok (.invokevirtual 42, 3) := by decide +kernel
theorem dL_read_10 : decode cL_read 10 = .ok (.i2l, 1) := by decide +kernel
theorem dL_read_11 : decode cL_read 11 = .ok (.lastore, 1) := by decide +kernel
theorem dL_read_12 : decode cL_read 12 = .ok (.goto 15, 3) := by decide +kernel
theorem dL_read_15 : decode cL_read 15 = .ok (.astore 5, 2) := by decide +kernel
theorem dL_read_17 : decode cL_read 17 = .ok (.iconst 1, 1) := by decide +kernel
theorem dL_read_18 : decode cL_read 18 = .ok (.ireturn, 1) := by decide +kernel
theorem dL_read_19 : decode cL_read 19 = .ok (.astore 5, 2) := by decide +kernel
theorem dL_read_21 : decode cL_read 21 = .ok (.iconst 2, 1) := by decide +kernel
theorem dL_read_22 : decode cL_read 22 = .ok (.ireturn, 1) := by decide +kernel
theorem dL_read_23 : decode cL_read 23 = .ok (.astore 5, 2) := by decide +kernel
theorem dL_read_25 : decode cL_read 25 = .ok (.iconst 3, 1) := by decide +kernel
theorem dL_read_26 : decode cL_read 26 = .ok (.ireturn, 1) := by decide +kernel
theorem dL_read_27 : decode cL_read 27 = .ok (.iconst 0, 1) := by decide +kernel
theorem dL_read_28 : decode cL_read 28 = .ok (.ireturn, 1) := by decide +kernel
theorem dL_strike_0 : decode cL_strike 0 = .ok (.aload_n 0, 1) := by decide +kernel
theorem dL_strike_1 : decode cL_strike 1 = .ok (.iload_n 1, 1) := by decide +kernel
theorem dL_strike_2 : decode cL_strike 2 = .ok (.invokevirtual 45, 3) := by decide +kernel
theorem dL_strike_5 : decode cL_strike 5 = .ok (.goto 9, 3) := by decide +kernel
theorem dL_strike_8 : decode cL_strike 8 = .ok (.astore_n 2, 1) := by decide +kernel
theorem dL_strike_9 : decode cL_strike 9 = .ok (.iconst 1, 1) := by decide +kernel
theorem dL_strike_10 : decode cL_strike 10 = .ok (.ireturn, 1) := by decide +kernel
theorem dL_strike_11 : decode cL_strike 11 = .ok (.astore_n 2, 1) := by decide +kernel
theorem dL_strike_12 : decode cL_strike 12 = .ok (.iconst 2, 1) := by decide +kernel
theorem dL_strike_13 : decode cL_strike 13 = .ok (.ireturn, 1) := by decide +kernel
theorem dL_strike_14 : decode cL_strike 14 = .ok (.iconst 0, 1) := by decide +kernel
theorem dL_strike_15 : decode cL_strike 15 = .ok (.ireturn, 1) := by decide +kernel
theorem dL_pass_0 : decode cL_pass 0 = .ok (.aload_n 2, 1) := by decide +kernel
theorem dL_pass_1 : decode cL_pass 1 = .ok (.iconst 0, 1) := by decide +kernel
theorem dL_pass_2 : decode cL_pass 2 = .ok (.aload_n 0, 1) := by decide +kernel
theorem dL_pass_3 : decode cL_pass 3 = .ok (.iload_n 1, 1) := by decide +kernel
theorem dL_pass_4 : decode cL_pass 4 = .ok (.invokevirtual 49, 3) := by decide +kernel
theorem dL_pass_7 : decode cL_pass 7 = .ok (.i2l, 1) := by decide +kernel
theorem dL_pass_8 : decode cL_pass 8 = .ok (.lastore, 1) := by decide +kernel
theorem dL_pass_9 : decode cL_pass 9 = .ok (.goto 9, 3) := by decide +kernel
theorem dL_pass_12 : decode cL_pass 12 = .ok (.astore_n 3, 1) := by decide +kernel
theorem dL_pass_13 : decode cL_pass 13 = .ok (.iconst 1, 1) := by decide +kernel
theorem dL_pass_14 : decode cL_pass 14 = .ok (.ireturn, 1) := by decide +kernel
theorem dL_pass_15 : decode cL_pass 15 = .ok (.astore_n 3, 1) := by decide +kernel
theorem dL_pass_16 : decode cL_pass 16 = .ok (.iconst 2, 1) := by decide +kernel
theorem dL_pass_17 : decode cL_pass 17 = .ok (.ireturn, 1) := by decide +kernel
theorem dL_pass_18 : decode cL_pass 18 = .ok (.iconst 0, 1) := by decide +kernel
theorem dL_pass_19 : decode cL_pass 19 = .ok (.ireturn, 1) := by decide +kernel
theorem dL_distance_0 : decode cL_distance 0 = .ok (.aload_n 3, 1) := by decide +kernel
theorem dL_distance_1 : decode cL_distance 1 = .ok (.iconst 0, 1) := by decide +kernel
theorem dL_distance_2 : decode cL_distance 2 = .ok (.aload_n 0, 1) := by decide +kernel
theorem dL_distance_3 : decode cL_distance 3 = .ok (.iload_n 1, 1) := by decide +kernel
theorem dL_distance_4 : decode cL_distance 4 = .ok (.iload_n 2, 1) := by decide +kernel
theorem dL_distance_5 : decode cL_distance 5 = .ok (.invokevirtual 52, 3) := by decide +kernel
theorem dL_distance_8 : decode cL_distance 8 = .ok (.i2l, 1) := by decide +kernel
theorem dL_distance_9 : decode cL_distance 9 = .ok (.lastore, 1) := by decide +kernel
theorem dL_distance_10 : decode cL_distance 10 = .ok (.goto 7, 3) := by decide +kernel
theorem dL_distance_13 : decode cL_distance 13 = .ok (.astore 4, 2) := by decide +kernel
theorem dL_distance_15 : decode cL_distance 15 = .ok (.iconst 1, 1) := by decide +kernel
theorem dL_distance_16 : decode cL_distance 16 = .ok (.ireturn, 1) := by decide +kernel
theorem dL_distance_17 : decode cL_distance 17 = .ok (.iconst 0, 1) := by decide +kernel
theorem dL_distance_18 : decode cL_distance 18 = .ok (.ireturn, 1) := by decide +kernel
theorem dL_way_0 : decode cL_way 0 = .ok (.aload 4, 2) := by decide +kernel
theorem dL_way_2 : decode cL_way 2 = .ok (.iconst 0, 1) := by decide +kernel
theorem dL_way_3 : decode cL_way 3 = .ok (.aload_n 0, 1) := by decide +kernel
theorem dL_way_4 : decode cL_way 4 = .ok (.iload_n 1, 1) := by decide +kernel
theorem dL_way_5 : decode cL_way 5 = .ok (.iload_n 2, 1) := by decide +kernel
theorem dL_way_6 : decode cL_way 6 = .ok (.iload_n 3, 1) := by decide +kernel
theorem dL_way_7 : decode cL_way 7 = .ok (.invokevirtual 56, 3) := by decide +kernel
theorem dL_way_10 : decode cL_way 10 = .ok (.i2l, 1) := by decide +kernel
theorem dL_way_11 : decode cL_way 11 = .ok (.lastore, 1) := by decide +kernel
theorem dL_way_12 : decode cL_way 12 = .ok (.goto 7, 3) := by decide +kernel
theorem dL_way_15 : decode cL_way 15 = .ok (.astore 5, 2) := by decide +kernel
theorem dL_way_17 : decode cL_way 17 = .ok (.iconst 1, 1) := by decide +kernel
theorem dL_way_18 : decode cL_way 18 = .ok (.ireturn, 1) := by decide +kernel
theorem dL_way_19 : decode cL_way 19 = .ok (.iconst 0, 1) := by decide +kernel
theorem dL_way_20 : decode cL_way 20 = .ok (.ireturn, 1) := by decide +kernel
theorem dL_journeys_0 : decode cL_journeys 0 = .ok (.aload_n 2, 1) := by decide +kernel
theorem dL_journeys_1 : decode cL_journeys 1 = .ok (.iconst 0, 1) := by decide +kernel
theorem dL_journeys_2 : decode cL_journeys 2 = .ok (.aload_n 0, 1) := by decide +kernel
theorem dL_journeys_3 : decode cL_journeys 3 = .ok (.iload_n 1, 1) := by decide +kernel
theorem dL_journeys_4 : decode cL_journeys 4 = .ok (.invokevirtual 59, 3) := by decide +kernel
theorem dL_journeys_7 : decode cL_journeys 7 = .ok (.i2l, 1) := by decide +kernel
theorem dL_journeys_8 : decode cL_journeys 8 = .ok (.lastore, 1) := by decide +kernel
theorem dL_journeys_9 : decode cL_journeys 9 = .ok (.goto 6, 3) := by decide +kernel
theorem dL_journeys_12 : decode cL_journeys 12 = .ok (.astore_n 3, 1) := by decide +kernel
theorem dL_journeys_13 : decode cL_journeys 13 = .ok (.iconst 1, 1) := by decide +kernel
theorem dL_journeys_14 : decode cL_journeys 14 = .ok (.ireturn, 1) := by decide +kernel
theorem dL_journeys_15 : decode cL_journeys 15 = .ok (.iconst 0, 1) := by decide +kernel
theorem dL_journeys_16 : decode cL_journeys 16 = .ok (.ireturn, 1) := by decide +kernel
theorem dL_journey_0 : decode cL_journey 0 = .ok (.aload 4, 2) := by decide +kernel
theorem dL_journey_2 : decode cL_journey 2 = .ok (.iconst 0, 1) := by decide +kernel
theorem dL_journey_3 : decode cL_journey 3 = .ok (.aload_n 0, 1) := by decide +kernel
theorem dL_journey_4 : decode cL_journey 4 = .ok (.iload_n 1, 1) := by decide +kernel
theorem dL_journey_5 : decode cL_journey 5 = .ok (.iload_n 2, 1) := by decide +kernel
theorem dL_journey_6 : decode cL_journey 6 = .ok (.iload_n 3, 1) := by decide +kernel
theorem dL_journey_7 : decode cL_journey 7 = .ok (.invokevirtual 62, 3) := by decide +kernel
theorem dL_journey_10 : decode cL_journey 10 = .ok (.i2l, 1) := by decide +kernel
theorem dL_journey_11 : decode cL_journey 11 = .ok (.lastore, 1) := by decide +kernel
theorem dL_journey_12 : decode cL_journey 12 = .ok (.goto 11, 3) := by decide +kernel
theorem dL_journey_15 : decode cL_journey 15 = .ok (.astore 5, 2) := by decide +kernel
theorem dL_journey_17 : decode cL_journey 17 = .ok (.iconst 1, 1) := by decide +kernel
theorem dL_journey_18 : decode cL_journey 18 = .ok (.ireturn, 1) := by decide +kernel
theorem dL_journey_19 : decode cL_journey 19 = .ok (.astore 5, 2) := by decide +kernel
theorem dL_journey_21 : decode cL_journey 21 = .ok (.iconst 2, 1) := by decide +kernel
theorem dL_journey_22 : decode cL_journey 22 = .ok (.ireturn, 1) := by decide +kernel
theorem dL_journey_23 : decode cL_journey 23 = .ok (.iconst 0, 1) := by decide +kernel
theorem dL_journey_24 : decode cL_journey 24 = .ok (.ireturn, 1) := by decide +kernel
theorem dL_ofReading_0 : decode cL_ofReading 0 = .ok (.aload_n 3, 1) := by decide +kernel
theorem dL_ofReading_1 : decode cL_ofReading 1 = .ok (.iconst 0, 1) := by decide +kernel
theorem dL_ofReading_2 : decode cL_ofReading 2 = .ok (.aload_n 0, 1) := by decide +kernel
theorem dL_ofReading_3 : decode cL_ofReading 3 = .ok (.iload_n 1, 1) := by decide +kernel
theorem dL_ofReading_4 : decode cL_ofReading 4 = .ok (.iload_n 2, 1) := by decide +kernel
theorem dL_ofReading_5 : decode cL_ofReading 5 = .ok (.invokevirtual 65, 3) := by decide +kernel
theorem dL_ofReading_8 : decode cL_ofReading 8 = .ok (.i2l, 1) := by decide +kernel
theorem dL_ofReading_9 : decode cL_ofReading 9 = .ok (.lastore, 1) := by decide +kernel
theorem dL_ofReading_10 : decode cL_ofReading 10 = .ok (.goto 11, 3) := by decide +kernel
theorem dL_ofReading_13 : decode cL_ofReading 13 = .ok (.astore 4, 2) := by decide +kernel
theorem dL_ofReading_15 : decode cL_ofReading 15 = .ok (.iconst 1, 1) := by decide +kernel
theorem dL_ofReading_16 : decode cL_ofReading 16 = .ok (.ireturn, 1) := by decide +kernel
theorem dL_ofReading_17 : decode cL_ofReading 17 = .ok (.astore 4, 2) := by decide +kernel
theorem dL_ofReading_19 : decode cL_ofReading 19 = .ok (.iconst 2, 1) := by decide +kernel
theorem dL_ofReading_20 : decode cL_ofReading 20 = .ok (.ireturn, 1) := by decide +kernel
theorem dL_ofReading_21 : decode cL_ofReading 21 = .ok (.iconst 0, 1) := by decide +kernel
theorem dL_ofReading_22 : decode cL_ofReading 22 = .ok (.ireturn, 1) := by decide +kernel
theorem dL_due_0 : decode cL_due 0 = .ok (.aload_n 2, 1) := by decide +kernel
theorem dL_due_1 : decode cL_due 1 = .ok (.iconst 0, 1) := by decide +kernel
theorem dL_due_2 : decode cL_due 2 = .ok (.aload_n 0, 1) := by decide +kernel
theorem dL_due_3 : decode cL_due 3 = .ok (.iload_n 1, 1) := by decide +kernel
theorem dL_due_4 : decode cL_due 4 = .ok (.invokevirtual 68, 3) := by decide +kernel
theorem dL_due_7 : decode cL_due 7 = .ok (.lastore, 1) := by decide +kernel
theorem dL_due_8 : decode cL_due 8 = .ok (.goto 6, 3) := by decide +kernel
theorem dL_due_11 : decode cL_due 11 = .ok (.astore_n 3, 1) := by decide +kernel
theorem dL_due_12 : decode cL_due 12 = .ok (.iconst 1, 1) := by decide +kernel
theorem dL_due_13 : decode cL_due 13 = .ok (.ireturn, 1) := by decide +kernel
theorem dL_due_14 : decode cL_due 14 = .ok (.iconst 0, 1) := by decide +kernel
theorem dL_due_15 : decode cL_due 15 = .ok (.ireturn, 1) := by decide +kernel
theorem dL_billed_0 : decode cL_billed 0 = .ok (.aload_n 2, 1) := by decide +kernel
theorem dL_billed_1 : decode cL_billed 1 = .ok (.iconst 0, 1) := by decide +kernel
theorem dL_billed_2 : decode cL_billed 2 = .ok (.aload_n 0, 1) := by decide +kernel
theorem dL_billed_3 : decode cL_billed 3 = .ok (.iload_n 1, 1) := by decide +kernel
theorem dL_billed_4 : decode cL_billed 4 = .ok (.invokevirtual 72, 3) := by decide +kernel
theorem dL_billed_7 : decode cL_billed 7 = .ok (.lastore, 1) := by decide +kernel
theorem dL_billed_8 : decode cL_billed 8 = .ok (.goto 6, 3) := by decide +kernel
theorem dL_billed_11 : decode cL_billed 11 = .ok (.astore_n 3, 1) := by decide +kernel
theorem dL_billed_12 : decode cL_billed 12 = .ok (.iconst 1, 1) := by decide +kernel
theorem dL_billed_13 : decode cL_billed 13 = .ok (.ireturn, 1) := by decide +kernel
theorem dL_billed_14 : decode cL_billed 14 = .ok (.iconst 0, 1) := by decide +kernel
theorem dL_billed_15 : decode cL_billed 15 = .ok (.ireturn, 1) := by decide +kernel
theorem dL_wallet_0 : decode cL_wallet 0 = .ok (.aload_n 2, 1) := by decide +kernel
theorem dL_wallet_1 : decode cL_wallet 1 = .ok (.iconst 0, 1) := by decide +kernel
theorem dL_wallet_2 : decode cL_wallet 2 = .ok (.aload_n 0, 1) := by decide +kernel
theorem dL_wallet_3 : decode cL_wallet 3 = .ok (.iload_n 1, 1) := by decide +kernel
theorem dL_wallet_4 : decode cL_wallet 4 = .ok (.invokevirtual 75, 3) := by decide +kernel
theorem dL_wallet_7 : decode cL_wallet 7 = .ok (.lastore, 1) := by decide +kernel
theorem dL_wallet_8 : decode cL_wallet 8 = .ok (.goto 6, 3) := by decide +kernel
theorem dL_wallet_11 : decode cL_wallet 11 = .ok (.astore_n 3, 1) := by decide +kernel
theorem dL_wallet_12 : decode cL_wallet 12 = .ok (.iconst 1, 1) := by decide +kernel
theorem dL_wallet_13 : decode cL_wallet 13 = .ok (.ireturn, 1) := by decide +kernel
theorem dL_wallet_14 : decode cL_wallet 14 = .ok (.iconst 0, 1) := by decide +kernel
theorem dL_wallet_15 : decode cL_wallet 15 = .ok (.ireturn, 1) := by decide +kernel
theorem dL_own_0 : decode cL_own 0 = .ok (.aload_n 2, 1) := by decide +kernel
theorem dL_own_1 : decode cL_own 1 = .ok (.iconst 0, 1) := by decide +kernel
theorem dL_own_2 : decode cL_own 2 = .ok (.aload_n 0, 1) := by decide +kernel
theorem dL_own_3 : decode cL_own 3 = .ok (.iload_n 1, 1) := by decide +kernel
theorem dL_own_4 : decode cL_own 4 = .ok (.invokevirtual 78, 3) := by decide +kernel
theorem dL_own_7 : decode cL_own 7 = .ok (.lastore, 1) := by decide +kernel
theorem dL_own_8 : decode cL_own 8 = .ok (.goto 6, 3) := by decide +kernel
theorem dL_own_11 : decode cL_own 11 = .ok (.astore_n 3, 1) := by decide +kernel
theorem dL_own_12 : decode cL_own 12 = .ok (.iconst 1, 1) := by decide +kernel
theorem dL_own_13 : decode cL_own 13 = .ok (.ireturn, 1) := by decide +kernel
theorem dL_own_14 : decode cL_own 14 = .ok (.iconst 0, 1) := by decide +kernel
theorem dL_own_15 : decode cL_own 15 = .ok (.ireturn, 1) := by decide +kernel
theorem dL_share_0 : decode cL_share 0 = .ok (.aload_n 3, 1) := by decide +kernel
theorem dL_share_1 : decode cL_share 1 = .ok (.iconst 0, 1) := by decide +kernel
theorem dL_share_2 : decode cL_share 2 = .ok (.aload_n 0, 1) := by decide +kernel
theorem dL_share_3 : decode cL_share 3 = .ok (.iload_n 1, 1) := by decide +kernel
theorem dL_share_4 : decode cL_share 4 = .ok (.iload_n 2, 1) := by decide +kernel
theorem dL_share_5 : decode cL_share 5 = .ok (.invokevirtual 81, 3) := by decide +kernel
theorem dL_share_8 : decode cL_share 8 = .ok (.lastore, 1) := by decide +kernel
theorem dL_share_9 : decode cL_share 9 = .ok (.goto 7, 3) := by decide +kernel
theorem dL_share_12 : decode cL_share 12 = .ok (.astore 4, 2) := by decide +kernel
theorem dL_share_14 : decode cL_share 14 = .ok (.iconst 1, 1) := by decide +kernel
theorem dL_share_15 : decode cL_share 15 = .ok (.ireturn, 1) := by decide +kernel
theorem dL_share_16 : decode cL_share 16 = .ok (.iconst 0, 1) := by decide +kernel
theorem dL_share_17 : decode cL_share 17 = .ok (.ireturn, 1) := by decide +kernel
