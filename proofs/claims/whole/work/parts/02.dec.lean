theorem dX0_init_0 : decode cX0_init 0 = .ok (.aload_n 0, 1) := by decide +kernel
theorem dX0_init_1 : decode cX0_init 1 = .ok (.iload_n 1, 1) := by decide +kernel
theorem dX0_init_2 : decode cX0_init 2 = .ok (.iload_n 2, 1) := by decide +kernel
theorem dX0_init_3 : decode cX0_init 3 = .ok (.iload_n 3, 1) := by decide +kernel
theorem dX0_init_4 : decode cX0_init 4 = .ok (.iload 4, 2) := by decide +kernel
theorem dX0_init_6 : decode cX0_init 6 = .ok (.invokespecial 1, 3) := by decide +kernel
theorem dX0_init_9 : decode cX0_init 9 = .ok (.return_, 1) := by decide +kernel
theorem dX0_mayThrowOn_0 : decode cX0_mayThrowOn 0 = .ok (.iload_n 1, 1) := by decide +kernel
theorem dX0_mayThrowOn_1 : decode cX0_mayThrowOn 1 = .ok (.aload_n 0, 1) := by decide +kernel
theorem dX0_mayThrowOn_2 : decode cX0_mayThrowOn 2 = .ok (.getfield 7, 3) := by decide +kernel
theorem dX0_mayThrowOn_5 : decode cX0_mayThrowOn 5 = .ok (.if_icmp .ne 7, 3) := by decide +kernel
theorem dX0_mayThrowOn_8 : decode cX0_mayThrowOn 8 = .ok (.iconst 1, 1) := by decide +kernel
theorem dX0_mayThrowOn_9 : decode cX0_mayThrowOn 9 = .ok (.goto 4, 3) := by decide +kernel
theorem dX0_mayThrowOn_12 : decode cX0_mayThrowOn 12 = .ok (.iconst 0, 1) := by decide +kernel
theorem dX0_mayThrowOn_13 : decode cX0_mayThrowOn 13 = .ok (.ireturn, 1) := by decide +kernel
theorem dX0_turns_0 : decode cX0_turns 0 = .ok (.aload_n 2, 1) := by decide +kernel
theorem dX0_turns_1 : decode cX0_turns 1 = .ok (.bipush 21, 2) := by decide +kernel
theorem dX0_turns_3 : decode cX0_turns 3 = .ok (.invokevirtual 13, 3) := by decide +kernel
theorem dX0_turns_6 : decode cX0_turns 6 = .ok (.aload_n 0, 1) := by decide +kernel
theorem dX0_turns_7 : decode cX0_turns 7 = .ok (.iload_n 1, 1) := by decide +kernel
theorem dX0_turns_8 : decode cX0_turns 8 = .ok (.aload_n 2, 1) := by decide +kernel
theorem dX0_turns_9 : decode cX0_turns 9 = .ok (.invokespecial 19, 3) := by decide +kernel
theorem dX0_turns_12 : decode cX0_turns 12 = .ok (.ineg, 1) := by decide +kernel
theorem dX0_turns_13 : decode cX0_turns 13 = .ok (.ireturn, 1) := by decide +kernel
theorem dX1_init_0 : decode cX1_init 0 = .ok (.aload_n 0, 1) := by decide +kernel
theorem dX1_init_1 : decode cX1_init 1 = .ok (.iload_n 1, 1) := by decide +kernel
theorem dX1_init_2 : decode cX1_init 2 = .ok (.iload_n 2, 1) := by decide +kernel
theorem dX1_init_3 : decode cX1_init 3 = .ok (.iload_n 3, 1) := by decide +kernel
theorem dX1_init_4 : decode cX1_init 4 = .ok (.iload 4, 2) := by decide +kernel
theorem dX1_init_6 : decode cX1_init 6 = .ok (.invokespecial 1, 3) := by decide +kernel
theorem dX1_init_9 : decode cX1_init 9 = .ok (.return_, 1) := by decide +kernel
theorem dX1_mayThrowOn_0 : decode cX1_mayThrowOn 0 = .ok (.aload_n 0, 1) := by decide +kernel
theorem dX1_mayThrowOn_1 : decode cX1_mayThrowOn 1 = .ok (.iload_n 1, 1) := by decide +kernel
theorem dX1_mayThrowOn_2 : decode cX1_mayThrowOn 2 = .ok (.iload_n 2, 1) := by decide +kernel
theorem dX1_mayThrowOn_3 : decode cX1_mayThrowOn 3 = .ok (.iload_n 3, 1) := by decide +kernel
theorem dX1_mayThrowOn_4 : decode cX1_mayThrowOn 4 = .ok (.invokespecial 7, 3) := by decide +kernel
theorem dX1_mayThrowOn_7 : decode cX1_mayThrowOn 7 = .ok (.ifCond .eq 23, 3) := by decide +kernel
theorem dX1_mayThrowOn_10 : decode cX1_mayThrowOn 10 = .ok (.aload_n 0, 1) := by decide +kernel
theorem dX1_mayThrowOn_11 : decode cX1_mayThrowOn 11 = .ok (.getfield 11, 3) := by decide +kernel
theorem dX1_mayThrowOn_14 : decode cX1_mayThrowOn 14 = .ok (.iload_n 2, 1) := by decide +kernel
theorem dX1_mayThrowOn_15 : decode cX1_mayThrowOn 15 = .ok (.isub, 1) := by decide +kernel
theorem dX1_mayThrowOn_16 : decode cX1_mayThrowOn 16 = .ok (.invokestatic 17, 3) := by decide +kernel
theorem dX1_mayThrowOn_19 : decode cX1_mayThrowOn 19 = .ok (.aload_n 0, 1) := by decide +kernel
theorem dX1_mayThrowOn_20 : decode cX1_mayThrowOn 20 = .ok (.getfield 23, 3) := by decide +kernel
theorem dX1_mayThrowOn_23 : decode cX1_mayThrowOn 23 = .ok (.if_icmp .lt 7, 3) := by decide +kernel
theorem dX1_mayThrowOn_26 : decode cX1_mayThrowOn 26 = .ok (.iconst 1, 1) := by decide +kernel
theorem dX1_mayThrowOn_27 : decode cX1_mayThrowOn 27 = .ok (.goto 4, 3) := by decide +kernel
theorem dX1_mayThrowOn_30 : decode cX1_mayThrowOn 30 = .ok (.iconst 0, 1) := by decide +kernel
theorem dX1_mayThrowOn_31 : decode cX1_mayThrowOn 31 = .ok (.ireturn, 1) := by decide +kernel
theorem dX1_light_0 : decode cX1_light 0 = .ok (.iconst 2, 1) := by decide +kernel
theorem dX1_light_1 : decode cX1_light 1 = .ok (.aload_n 0, 1) := by decide +kernel
theorem dX1_light_2 : decode cX1_light 2 = .ok (.getfield 26, 3) := by decide +kernel
theorem dX1_light_5 : decode cX1_light 5 = .ok (.imul, 1) := by decide +kernel
theorem dX1_light_6 : decode cX1_light 6 = .ok (.ireturn, 1) := by decide +kernel
theorem dX1_tells_0 : decode cX1_tells 0 = .ok (.aload_n 2, 1) := by decide +kernel
theorem dX1_tells_1 : decode cX1_tells 1 = .ok (.bipush 41, 2) := by decide +kernel
theorem dX1_tells_3 : decode cX1_tells 3 = .ok (.invokevirtual 29, 3) := by decide +kernel
theorem dX1_tells_6 : decode cX1_tells 6 = .ok (.aload_n 0, 1) := by decide +kernel
theorem dX1_tells_7 : decode cX1_tells 7 = .ok (.iload_n 1, 1) := by decide +kernel
theorem dX1_tells_8 : decode cX1_tells 8 = .ok (.iconst 1, 1) := by decide +kernel
theorem dX1_tells_9 : decode cX1_tells 9 = .ok (.isub, 1) := by decide +kernel
theorem dX1_tells_10 : decode cX1_tells 10 = .ok (.aload_n 2, 1) := by decide +kernel
theorem dX1_tells_11 : decode cX1_tells 11 = .ok (.invokespecial 35, 3) := by decide +kernel
theorem dX1_tells_14 : decode cX1_tells 14 = .ok (.aload_n 0, 1) := by decide +kernel
theorem dX1_tells_15 : decode cX1_tells 15 = .ok (.iconst 2, 1) := by decide +kernel
theorem dX1_tells_16 : decode cX1_tells 16 = .ok (.aload_n 2, 1) := by decide +kernel
theorem dX1_tells_17 : decode cX1_tells 17 = .ok (.invokevirtual 39, 3) := by decide +kernel
theorem dX1_tells_20 : decode cX1_tells 20 = .ok (.iadd, 1) := by decide +kernel
theorem dX1_tells_21 : decode cX1_tells 21 = .ok (.ireturn, 1) := by decide +kernel
theorem dX2_init_0 : decode cX2_init 0 = .ok (.aload_n 0, 1) := by decide +kernel
theorem dX2_init_1 : decode cX2_init 1 = .ok (.invokespecial 3, 3) := by decide +kernel
theorem dX2_init_4 : decode cX2_init 4 = .ok (.aload_n 0, 1) := by decide +kernel
theorem dX2_init_5 : decode cX2_init 5 = .ok (.iload_n 1, 1) := by decide +kernel
theorem dX2_init_6 : decode cX2_init 6 = .ok (.putfield 9, 3) := by decide +kernel
theorem dX2_init_9 : decode cX2_init 9 = .ok (.aload_n 0, 1) := by decide +kernel
theorem dX2_init_10 : decode cX2_init 10 = .ok (.iload_n 2, 1) := by decide +kernel
theorem dX2_init_11 : decode cX2_init 11 = .ok (.putfield 15, 3) := by decide +kernel
theorem dX2_init_14 : decode cX2_init 14 = .ok (.aload_n 0, 1) := by decide +kernel
theorem dX2_init_15 : decode cX2_init 15 = .ok (.iload_n 3, 1) := by decide +kernel
theorem dX2_init_16 : decode cX2_init 16 = .ok (.bipush 100, 2) := by decide +kernel
theorem dX2_init_18 : decode cX2_init 18 = .ok (.idiv, 1) := by decide +kernel
theorem dX2_init_19 : decode cX2_init 19 = .ok (.putfield 18, 3) := by decide +kernel
theorem dX2_init_22 : decode cX2_init 22 = .ok (.aload_n 0, 1) := by decide +kernel
theorem dX2_init_23 : decode cX2_init 23 = .ok (.iload_n 3, 1) := by decide +kernel
theorem dX2_init_24 : decode cX2_init 24 = .ok (.bipush 100, 2) := by decide +kernel
theorem dX2_init_26 : decode cX2_init 26 = .ok (.irem, 1) := by decide +kernel
theorem dX2_init_27 : decode cX2_init 27 = .ok (.putfield 21, 3) := by decide +kernel
theorem dX2_init_30 : decode cX2_init 30 = .ok (.aload_n 0, 1) := by decide +kernel
theorem dX2_init_31 : decode cX2_init 31 = .ok (.iload 4, 2) := by decide +kernel
theorem dX2_init_33 : decode cX2_init 33 = .ok (.sipush 10000, 3) := by decide +kernel
theorem dX2_init_36 : decode cX2_init 36 = .ok (.idiv, 1) := by decide +kernel
theorem dX2_init_37 : decode cX2_init 37 = .ok (.putfield 24, 3) := by decide +kernel
theorem dX2_init_40 : decode cX2_init 40 = .ok (.aload_n 0, 1) := by decide +kernel
theorem dX2_init_41 : decode cX2_init 41 = .ok (.iload 4, 2) := by decide +kernel
theorem dX2_init_43 : decode cX2_init 43 = .ok (.bipush 100, 2) := by decide +kernel
theorem dX2_init_45 : decode cX2_init 45 = .ok (.idiv, 1) := by decide +kernel
theorem dX2_init_46 : decode cX2_init 46 = .ok (.bipush 100, 2) := by decide +kernel
theorem dX2_init_48 : decode cX2_init 48 = .ok (.irem, 1) := by decide +kernel
theorem dX2_init_49 : decode cX2_init 49 = .ok (.putfield 27, 3) := by decide +kernel
theorem dX2_init_52 : decode cX2_init 52 = .ok (.aload_n 0, 1) := by decide +kernel
theorem dX2_init_53 : decode cX2_init 53 = .ok (.iload 4, 2) := by decide +kernel
theorem dX2_init_55 : decode cX2_init 55 = .ok (.bipush 10, 2) := by decide +kernel
theorem dX2_init_57 : decode cX2_init 57 = .ok (.idiv, 1) := by decide +kernel
theorem dX2_init_58 : decode cX2_init 58 = .ok (.bipush 10, 2) := by decide +kernel
theorem dX2_init_60 : decode cX2_init 60 = .ok (.irem, 1) := by decide +kernel
theorem dX2_init_61 : decode cX2_init 61 = .ok (.putfield 30, 3) := by decide +kernel
theorem dX2_init_64 : decode cX2_init 64 = .ok (.aload_n 0, 1) := by decide +kernel
theorem dX2_init_65 : decode cX2_init 65 = .ok (.iload 4, 2) := by decide +kernel
theorem dX2_init_67 : decode cX2_init 67 = .ok (.bipush 10, 2) := by decide +kernel
theorem dX2_init_69 : decode cX2_init 69 = .ok (.irem, 1) := by decide +kernel
theorem dX2_init_70 : decode cX2_init 70 = .ok (.putfield 33, 3) := by decide +kernel
theorem dX2_init_73 : decode cX2_init 73 = .ok (.return_, 1) := by decide +kernel
theorem dX2_part_0 : decode cX2_part 0 = .ok (.iload_n 1, 1) := by decide +kernel
theorem dX2_part_1 : decode cX2_part 1 = .ok (.tableswitch 78 0 6 #[43, 48, 53, 58, 63, 68, 73], 43) := by decide +kernel
theorem dX2_part_44 : decode cX2_part 44 = .ok (.aload_n 0, 1) := by decide +kernel
theorem dX2_part_45 : decode cX2_part 45 = .ok (.getfield 9, 3) := by decide +kernel
theorem dX2_part_48 : decode cX2_part 48 = .ok (.ireturn, 1) := by decide +kernel
theorem dX2_part_49 : decode cX2_part 49 = .ok (.aload_n 0, 1) := by decide +kernel
theorem dX2_part_50 : decode cX2_part 50 = .ok (.getfield 18, 3) := by decide +kernel
theorem dX2_part_53 : decode cX2_part 53 = .ok (.ireturn, 1) := by decide +kernel
theorem dX2_part_54 : decode cX2_part 54 = .ok (.aload_n 0, 1) := by decide +kernel
theorem dX2_part_55 : decode cX2_part 55 = .ok (.getfield 21, 3) := by decide +kernel
theorem dX2_part_58 : decode cX2_part 58 = .ok (.ireturn, 1) := by decide +kernel
theorem dX2_part_59 : decode cX2_part 59 = .ok (.aload_n 0, 1) := by decide +kernel
theorem dX2_part_60 : decode cX2_part 60 = .ok (.getfield 27, 3) := by decide +kernel
theorem dX2_part_63 : decode cX2_part 63 = .ok (.ireturn, 1) := by decide +kernel
theorem dX2_part_64 : decode cX2_part 64 = .ok (.aload_n 0, 1) := by decide +kernel
theorem dX2_part_65 : decode cX2_part 65 = .ok (.getfield 30, 3) := by decide +kernel
theorem dX2_part_68 : decode cX2_part 68 = .ok (.ireturn, 1) := by decide +kernel
theorem dX2_part_69 : decode cX2_part 69 = .ok (.aload_n 0, 1) := by decide +kernel
theorem dX2_part_70 : decode cX2_part 70 = .ok (.getfield 24, 3) := by decide +kernel
theorem dX2_part_73 : decode cX2_part 73 = .ok (.ireturn, 1) := by decide +kernel
theorem dX2_part_74 : decode cX2_part 74 = .ok (.aload_n 0, 1) := by decide +kernel
theorem dX2_part_75 : decode cX2_part 75 = .ok (.getfield 33, 3) := by decide +kernel
theorem dX2_part_78 : decode cX2_part 78 = .ok (.ireturn, 1) := by decide +kernel
theorem dX2_part_79 : decode cX2_part 79 = .ok (.iconst (-1), 1) := by decide +kernel
theorem dX2_part_80 : decode cX2_part 80 = .ok (.ireturn, 1) := by decide +kernel
theorem dX2_mayThrowOn_0 : decode cX2_mayThrowOn 0 = .ok (.iconst 1, 1) := by decide +kernel
theorem dX2_mayThrowOn_1 : decode cX2_mayThrowOn 1 = .ok (.ireturn, 1) := by decide +kernel
theorem dX2_light_0 : decode cX2_light 0 = .ok (.aload_n 0, 1) := by decide +kernel
theorem dX2_light_1 : decode cX2_light 1 = .ok (.getfield 30, 3) := by decide +kernel
theorem dX2_light_4 : decode cX2_light 4 = .ok (.ireturn, 1) := by decide +kernel
theorem dX2_casts_0 : decode cX2_casts 0 = .ok (.aload_n 2, 1) := by decide +kernel
theorem dX2_casts_1 : decode cX2_casts 1 = .ok (.iconst 1, 1) := by decide +kernel
theorem dX2_casts_2 : decode cX2_casts 2 = .ok (.invokevirtual 36, 3) := by decide +kernel
theorem dX2_casts_5 : decode cX2_casts 5 = .ok (.iload_n 1, 1) := by decide +kernel
theorem dX2_casts_6 : decode cX2_casts 6 = .ok (.aload_n 0, 1) := by decide +kernel
theorem dX2_casts_7 : decode cX2_casts 7 = .ok (.getfield 15, 3) := by decide +kernel
theorem dX2_casts_10 : decode cX2_casts 10 = .ok (.iadd, 1) := by decide +kernel
theorem dX2_casts_11 : decode cX2_casts 11 = .ok (.ireturn, 1) := by decide +kernel
theorem dX2_turns_0 : decode cX2_turns 0 = .ok (.aload_n 2, 1) := by decide +kernel
theorem dX2_turns_1 : decode cX2_turns 1 = .ok (.iconst 2, 1) := by decide +kernel
theorem dX2_turns_2 : decode cX2_turns 2 = .ok (.invokevirtual 36, 3) := by decide +kernel
theorem dX2_turns_5 : decode cX2_turns 5 = .ok (.aload_n 0, 1) := by decide +kernel
theorem dX2_turns_6 : decode cX2_turns 6 = .ok (.iload_n 1, 1) := by decide +kernel
theorem dX2_turns_7 : decode cX2_turns 7 = .ok (.aload_n 2, 1) := by decide +kernel
theorem dX2_turns_8 : decode cX2_turns 8 = .ok (.invokevirtual 42, 3) := by decide +kernel
theorem dX2_turns_11 : decode cX2_turns 11 = .ok (.aload_n 0, 1) := by decide +kernel
theorem dX2_turns_12 : decode cX2_turns 12 = .ok (.getfield 33, 3) := by decide +kernel
theorem dX2_turns_15 : decode cX2_turns 15 = .ok (.isub, 1) := by decide +kernel
theorem dX2_turns_16 : decode cX2_turns 16 = .ok (.ireturn, 1) := by decide +kernel
theorem dX2_tells_0 : decode cX2_tells 0 = .ok (.aload_n 2, 1) := by decide +kernel
theorem dX2_tells_1 : decode cX2_tells 1 = .ok (.iconst 3, 1) := by decide +kernel
theorem dX2_tells_2 : decode cX2_tells 2 = .ok (.invokevirtual 36, 3) := by decide +kernel
theorem dX2_tells_5 : decode cX2_tells 5 = .ok (.aload_n 0, 1) := by decide +kernel
theorem dX2_tells_6 : decode cX2_tells 6 = .ok (.iload_n 1, 1) := by decide +kernel
theorem dX2_tells_7 : decode cX2_tells 7 = .ok (.aload_n 2, 1) := by decide +kernel
theorem dX2_tells_8 : decode cX2_tells 8 = .ok (.invokevirtual 46, 3) := by decide +kernel
theorem dX2_tells_11 : decode cX2_tells 11 = .ok (.iconst 2, 1) := by decide +kernel
theorem dX2_tells_12 : decode cX2_tells 12 = .ok (.imul, 1) := by decide +kernel
theorem dX2_tells_13 : decode cX2_tells 13 = .ok (.ireturn, 1) := by decide +kernel
theorem dX3_init_0 : decode cX3_init 0 = .ok (.aload_n 0, 1) := by decide +kernel
theorem dX3_init_1 : decode cX3_init 1 = .ok (.iload_n 1, 1) := by decide +kernel
theorem dX3_init_2 : decode cX3_init 2 = .ok (.iload_n 2, 1) := by decide +kernel
theorem dX3_init_3 : decode cX3_init 3 = .ok (.iload_n 3, 1) := by decide +kernel
theorem dX3_init_4 : decode cX3_init 4 = .ok (.iload 4, 2) := by decide +kernel
theorem dX3_init_6 : decode cX3_init 6 = .ok (.invokespecial 1, 3) := by decide +kernel
theorem dX3_init_9 : decode cX3_init 9 = .ok (.return_, 1) := by decide +kernel
theorem dX3_mayThrowOn_0 : decode cX3_mayThrowOn 0 = .ok (.aload_n 0, 1) := by decide +kernel
theorem dX3_mayThrowOn_1 : decode cX3_mayThrowOn 1 = .ok (.iload_n 1, 1) := by decide +kernel
theorem dX3_mayThrowOn_2 : decode cX3_mayThrowOn 2 = .ok (.iload_n 2, 1) := by decide +kernel
theorem dX3_mayThrowOn_3 : decode cX3_mayThrowOn 3 = .ok (.iload_n 3, 1) := by decide +kernel
theorem dX3_mayThrowOn_4 : decode cX3_mayThrowOn 4 = .ok (.invokespecial 7, 3) := by decide +kernel
theorem dX3_mayThrowOn_7 : decode cX3_mayThrowOn 7 = .ok (.ifCond .eq 23, 3) := by decide +kernel
theorem dX3_mayThrowOn_10 : decode cX3_mayThrowOn 10 = .ok (.aload_n 0, 1) := by decide +kernel
theorem dX3_mayThrowOn_11 : decode cX3_mayThrowOn 11 = .ok (.getfield 11, 3) := by decide +kernel
theorem dX3_mayThrowOn_14 : decode cX3_mayThrowOn 14 = .ok (.iload_n 3, 1) := by decide +kernel
theorem dX3_mayThrowOn_15 : decode cX3_mayThrowOn 15 = .ok (.isub, 1) := by decide +kernel
theorem dX3_mayThrowOn_16 : decode cX3_mayThrowOn 16 = .ok (.invokestatic 17, 3) := by decide +kernel
theorem dX3_mayThrowOn_19 : decode cX3_mayThrowOn 19 = .ok (.aload_n 0, 1) := by decide +kernel
theorem dX3_mayThrowOn_20 : decode cX3_mayThrowOn 20 = .ok (.getfield 23, 3) := by decide +kernel
theorem dX3_mayThrowOn_23 : decode cX3_mayThrowOn 23 = .ok (.if_icmp .gt 7, 3) := by decide +kernel
theorem dX3_mayThrowOn_26 : decode cX3_mayThrowOn 26 = .ok (.iconst 1, 1) := by decide +kernel
theorem dX3_mayThrowOn_27 : decode cX3_mayThrowOn 27 = .ok (.goto 4, 3) := by decide +kernel
theorem dX3_mayThrowOn_30 : decode cX3_mayThrowOn 30 = .ok (.iconst 0, 1) := by decide +kernel
theorem dX3_mayThrowOn_31 : decode cX3_mayThrowOn 31 = .ok (.ireturn, 1) := by decide +kernel
theorem dX3_tells_0 : decode cX3_tells 0 = .ok (.aload_n 2, 1) := by decide +kernel
theorem dX3_tells_1 : decode cX3_tells 1 = .ok (.bipush 31, 2) := by decide +kernel
theorem dX3_tells_3 : decode cX3_tells 3 = .ok (.invokevirtual 26, 3) := by decide +kernel
theorem dX3_tells_6 : decode cX3_tells 6 = .ok (.aload_n 0, 1) := by decide +kernel
theorem dX3_tells_7 : decode cX3_tells 7 = .ok (.iload_n 1, 1) := by decide +kernel
theorem dX3_tells_8 : decode cX3_tells 8 = .ok (.aload_n 2, 1) := by decide +kernel
theorem dX3_tells_9 : decode cX3_tells 9 = .ok (.invokespecial 32, 3) := by decide +kernel
theorem dX3_tells_12 : decode cX3_tells 12 = .ok (.bipush 7, 2) := by decide +kernel
theorem dX3_tells_14 : decode cX3_tells 14 = .ok (.ixor, 1) := by decide +kernel
theorem dX3_tells_15 : decode cX3_tells 15 = .ok (.ireturn, 1) := by decide +kernel
theorem dX4_init_0 : decode cX4_init 0 = .ok (.aload_n 0, 1) := by decide +kernel
theorem dX4_init_1 : decode cX4_init 1 = .ok (.iload_n 1, 1) := by decide +kernel
theorem dX4_init_2 : decode cX4_init 2 = .ok (.iload_n 2, 1) := by decide +kernel
theorem dX4_init_3 : decode cX4_init 3 = .ok (.iload_n 3, 1) := by decide +kernel
theorem dX4_init_4 : decode cX4_init 4 = .ok (.iload 4, 2) := by decide +kernel
theorem dX4_init_6 : decode cX4_init 6 = .ok (.invokespecial 1, 3) := by decide +kernel
theorem dX4_init_9 : decode cX4_init 9 = .ok (.return_, 1) := by decide +kernel
theorem dX4_casts_0 : decode cX4_casts 0 = .ok (.aload_n 2, 1) := by decide +kernel
theorem dX4_casts_1 : decode cX4_casts 1 = .ok (.bipush 51, 2) := by decide +kernel
theorem dX4_casts_3 : decode cX4_casts 3 = .ok (.invokevirtual 7, 3) := by decide +kernel
theorem dX4_casts_6 : decode cX4_casts 6 = .ok (.aload_n 0, 1) := by decide +kernel
theorem dX4_casts_7 : decode cX4_casts 7 = .ok (.iload_n 1, 1) := by decide +kernel
theorem dX4_casts_8 : decode cX4_casts 8 = .ok (.aload_n 2, 1) := by decide +kernel
theorem dX4_casts_9 : decode cX4_casts 9 = .ok (.invokespecial 13, 3) := by decide +kernel
theorem dX4_casts_12 : decode cX4_casts 12 = .ok (.aload_n 0, 1) := by decide +kernel
theorem dX4_casts_13 : decode cX4_casts 13 = .ok (.getfield 17, 3) := by decide +kernel
theorem dX4_casts_16 : decode cX4_casts 16 = .ok (.ixor, 1) := by decide +kernel
theorem dX4_casts_17 : decode cX4_casts 17 = .ok (.ireturn, 1) := by decide +kernel
theorem dX5_init_0 : decode cX5_init 0 = .ok (.aload_n 0, 1) := by decide +kernel
theorem dX5_init_1 : decode cX5_init 1 = .ok (.invokespecial 3, 3) := by decide +kernel
theorem dX5_init_4 : decode cX5_init 4 = .ok (.aload_n 0, 1) := by decide +kernel
theorem dX5_init_5 : decode cX5_init 5 = .ok (.bipush 6, 2) := by decide +kernel
theorem dX5_init_7 : decode cX5_init 7 = .ok (.anewarray 9, 3) := by decide +kernel
theorem dX5_init_10 : decode cX5_init 10 = .ok (.putfield 11, 3) := by decide +kernel
theorem dX5_init_13 : decode cX5_init 13 = .ok (.aload_n 0, 1) := by decide +kernel
theorem dX5_init_14 : decode cX5_init 14 = .ok (.iconst 0, 1) := by decide +kernel
theorem dX5_init_15 : decode cX5_init 15 = .ok (.putfield 17, 3) := by decide +kernel
theorem dX5_init_18 : decode cX5_init 18 = .ok (.aload_n 0, 1) := by decide +kernel
theorem dX5_init_19 : decode cX5_init 19 = .ok (.bipush 6, 2) := by decide +kernel
theorem dX5_init_21 : decode cX5_init 21 = .ok (.iconst 4, 1) := by decide +kernel
theorem dX5_init_22 : decode cX5_init 22 = .ok (.multianewarray 21 2, 4) := by decide +kernel
theorem dX5_init_26 : decode cX5_init 26 = .ok (.putfield 23, 3) := by decide +kernel
theorem dX5_init_29 : decode cX5_init 29 = .ok (.aload_n 0, 1) := by decide +kernel
theorem dX5_init_30 : decode cX5_init 30 = .ok (.iconst 0, 1) := by decide +kernel
theorem dX5_init_31 : decode cX5_init 31 = .ok (.putfield 26, 3) := by decide +kernel
theorem dX5_init_34 : decode cX5_init 34 = .ok (.aload_n 0, 1) := by decide +kernel
theorem dX5_init_35 : decode cX5_init 35 = .ok (.bipush 8, 2) := by decide +kernel
theorem dX5_init_37 : decode cX5_init 37 = .ok (.anewarray 29, 3) := by decide +kernel
theorem dX5_init_40 : decode cX5_init 40 = .ok (.putfield 31, 3) := by decide +kernel
theorem dX5_init_43 : decode cX5_init 43 = .ok (.aload_n 0, 1) := by decide +kernel
theorem dX5_init_44 : decode cX5_init 44 = .ok (.iconst 0, 1) := by decide +kernel
theorem dX5_init_45 : decode cX5_init 45 = .ok (.putfield 35, 3) := by decide +kernel
theorem dX5_init_48 : decode cX5_init 48 = .ok (.aload_n 0, 1) := by decide +kernel
theorem dX5_init_49 : decode cX5_init 49 = .ok (.bipush 120, 2) := by decide +kernel
theorem dX5_init_51 : decode cX5_init 51 = .ok (.newarray .byte, 2) := by decide +kernel
theorem dX5_init_53 : decode cX5_init 53 = .ok (.putfield 38, 3) := by decide +kernel
theorem dX5_init_56 : decode cX5_init 56 = .ok (.aload_n 0, 1) := by decide +kernel
theorem dX5_init_57 : decode cX5_init 57 = .ok (.iconst 0, 1) := by decide +kernel
theorem dX5_init_58 : decode cX5_init 58 = .ok (.putfield 42, 3) := by decide +kernel
theorem dX5_init_61 : decode cX5_init 61 = .ok (.aload_n 0, 1) := by decide +kernel
theorem dX5_init_62 : decode cX5_init 62 = .ok (.new 45, 3) := by decide +kernel
theorem dX5_init_65 : decode cX5_init 65 = .ok (.dup, 1) := by decide +kernel
theorem dX5_init_66 : decode cX5_init 66 = .ok (.invokespecial 47, 3) := by decide +kernel
theorem dX5_init_69 : decode cX5_init 69 = .ok (.putfield 48, 3) := by decide +kernel
theorem dX5_init_72 : decode cX5_init 72 = .ok (.aload_n 0, 1) := by decide +kernel
theorem dX5_init_73 : decode cX5_init 73 = .ok (.iconst 0, 1) := by decide +kernel
theorem dX5_init_74 : decode cX5_init 74 = .ok (.putfield 52, 3) := by decide +kernel
theorem dX5_init_77 : decode cX5_init 77 = .ok (.aload_n 0, 1) := by decide +kernel
theorem dX5_init_78 : decode cX5_init 78 = .ok (.bipush 6, 2) := by decide +kernel
theorem dX5_init_80 : decode cX5_init 80 = .ok (.bipush 8, 2) := by decide +kernel
theorem dX5_init_82 : decode cX5_init 82 = .ok (.multianewarray 21 2, 4) := by decide +kernel
theorem dX5_init_86 : decode cX5_init 86 = .ok (.putfield 55, 3) := by decide +kernel
theorem dX5_init_89 : decode cX5_init 89 = .ok (.aload_n 0, 1) := by decide +kernel
theorem dX5_init_90 : decode cX5_init 90 = .ok (.iconst 0, 1) := by decide +kernel
theorem dX5_init_91 : decode cX5_init 91 = .ok (.putfield 58, 3) := by decide +kernel
theorem dX5_init_94 : decode cX5_init 94 = .ok (.aload_n 0, 1) := by decide +kernel
theorem dX5_init_95 : decode cX5_init 95 = .ok (.bipush 6, 2) := by decide +kernel
theorem dX5_init_97 : decode cX5_init 97 = .ok (.bipush 6, 2) := by decide +kernel
theorem dX5_init_99 : decode cX5_init 99 = .ok (.multianewarray 21 2, 4) := by decide +kernel
theorem dX5_init_103 : decode cX5_init 103 = .ok (.putfield 61, 3) := by decide +kernel
theorem dX5_init_106 : decode cX5_init 106 = .ok (.aload_n 0, 1) := by decide +kernel
theorem dX5_init_107 : decode cX5_init 107 = .ok (.iconst 0, 1) := by decide +kernel
theorem dX5_init_108 : decode cX5_init 108 = .ok (.putfield 64, 3) := by decide +kernel
theorem dX5_init_111 : decode cX5_init 111 = .ok (.aload_n 0, 1) := by decide +kernel
theorem dX5_init_112 : decode cX5_init 112 = .ok (.iconst 0, 1) := by decide +kernel
theorem dX5_init_113 : decode cX5_init 113 = .ok (.putfield 67, 3) := by decide +kernel
theorem dX5_init_116 : decode cX5_init 116 = .ok (.iconst 0, 1) := by decide +kernel
theorem dX5_init_117 : decode cX5_init 117 = .ok (.istore_n 1, 1) := by decide +kernel
theorem dX5_init_118 : decode cX5_init 118 = .ok (.iload_n 1, 1) := by decide +kernel
theorem dX5_init_119 : decode cX5_init 119 = .ok (.bipush 6, 2) := by decide +kernel
theorem dX5_init_121 : decode cX5_init 121 = .ok (.if_icmp .ge 19, 3) := by decide +kernel
theorem dX5_init_124 : decode cX5_init 124 = .ok (.aload_n 0, 1) := by decide +kernel
theorem dX5_init_125 : decode cX5_init 125 = .ok (.getfield 55, 3) := by decide +kernel
theorem dX5_init_128 : decode cX5_init 128 = .ok (.iload_n 1, 1) := by decide +kernel
theorem dX5_init_129 : decode cX5_init 129 = .ok (.aaload, 1) := by decide +kernel
theorem dX5_init_130 : decode cX5_init 130 = .ok (.iconst (-1), 1) := by decide +kernel
theorem dX5_init_131 : decode cX5_init 131 = .ok (.invokestatic 70, 3) := by decide +kernel
theorem dX5_init_134 : decode cX5_init 134 = .ok (.iinc 1 1, 3) := by decide +kernel
theorem dX5_init_137 : decode cX5_init 137 = .ok (.goto (-19), 3) := by decide +kernel
theorem dX5_init_140 : decode cX5_init 140 = .ok (.return_, 1) := by decide +kernel
theorem dX5_copyFrom_0 : decode cX5_copyFrom 0 = .ok (.aload_n 1, 1) := by decide +kernel
theorem dX5_copyFrom_1 : decode cX5_copyFrom 1 = .ok (.getfield 11, 3) := by decide +kernel
theorem dX5_copyFrom_4 : decode cX5_copyFrom 4 = .ok (.iconst 0, 1) := by decide +kernel
theorem dX5_copyFrom_5 : decode cX5_copyFrom 5 = .ok (.aload_n 0, 1) := by decide +kernel
theorem dX5_copyFrom_6 : decode cX5_copyFrom 6 = .ok (.getfield 11, 3) := by decide +kernel
theorem dX5_copyFrom_9 : decode cX5_copyFrom 9 = .ok (.iconst 0, 1) := by decide +kernel
theorem dX5_copyFrom_10 : decode cX5_copyFrom 10 = .ok (.bipush 6, 2) := by decide +kernel
theorem dX5_copyFrom_12 : decode cX5_copyFrom 12 = .ok (.invokestatic 76, 3) := by decide +kernel
theorem dX5_copyFrom_15 : decode cX5_copyFrom 15 = .ok (.aload_n 0, 1) := by decide +kernel
theorem dX5_copyFrom_16 : decode cX5_copyFrom 16 = .ok (.aload_n 1, 1) := by decide +kernel
theorem dX5_copyFrom_17 : decode cX5_copyFrom 17 = .ok (.getfield 17, 3) := by decide +kernel
theorem dX5_copyFrom_20 : decode cX5_copyFrom 20 = .ok (.putfield 17, 3) := by decide +kernel
theorem dX5_copyFrom_23 : decode cX5_copyFrom 23 = .ok (.aload_n 1, 1) := by decide +kernel
theorem dX5_copyFrom_24 : decode cX5_copyFrom 24 = .ok (.getfield 23, 3) := by decide +kernel
theorem dX5_copyFrom_27 : decode cX5_copyFrom 27 = .ok (.aload_n 0, 1) := by decide +kernel
theorem dX5_copyFrom_28 : decode cX5_copyFrom 28 = .ok (.getfield 23, 3) := by decide +kernel
theorem dX5_copyFrom_31 : decode cX5_copyFrom 31 = .ok (.invokestatic 82, 3) := by decide +kernel
theorem dX5_copyFrom_34 : decode cX5_copyFrom 34 = .ok (.aload_n 0, 1) := by decide +kernel
theorem dX5_copyFrom_35 : decode cX5_copyFrom 35 = .ok (.aload_n 1, 1) := by decide +kernel
theorem dX5_copyFrom_36 : decode cX5_copyFrom 36 = .ok (.getfield 26, 3) := by decide +kernel
theorem dX5_copyFrom_39 : decode cX5_copyFrom 39 = .ok (.putfield 26, 3) := by decide +kernel
theorem dX5_copyFrom_42 : decode cX5_copyFrom 42 = .ok (.aload_n 1, 1) := by decide +kernel
theorem dX5_copyFrom_43 : decode cX5_copyFrom 43 = .ok (.getfield 31, 3) := by decide +kernel
theorem dX5_copyFrom_46 : decode cX5_copyFrom 46 = .ok (.iconst 0, 1) := by decide +kernel
theorem dX5_copyFrom_47 : decode cX5_copyFrom 47 = .ok (.aload_n 0, 1) := by decide +kernel
theorem dX5_copyFrom_48 : decode cX5_copyFrom 48 = .ok (.getfield 31, 3) := by decide +kernel
theorem dX5_copyFrom_51 : decode cX5_copyFrom 51 = .ok (.iconst 0, 1) := by decide +kernel
theorem dX5_copyFrom_52 : decode cX5_copyFrom 52 = .ok (.bipush 8, 2) := by decide +kernel
theorem dX5_copyFrom_54 : decode cX5_copyFrom 54 = .ok (.invokestatic 76, 3) := by decide +kernel
theorem dX5_copyFrom_57 : decode cX5_copyFrom 57 = .ok (.aload_n 0, 1) := by decide +kernel
theorem dX5_copyFrom_58 : decode cX5_copyFrom 58 = .ok (.aload_n 1, 1) := by decide +kernel
theorem dX5_copyFrom_59 : decode cX5_copyFrom 59 = .ok (.getfield 35, 3) := by decide +kernel
theorem dX5_copyFrom_62 : decode cX5_copyFrom 62 = .ok (.putfield 35, 3) := by decide +kernel
theorem dX5_copyFrom_65 : decode cX5_copyFrom 65 = .ok (.aload_n 1, 1) := by decide +kernel
theorem dX5_copyFrom_66 : decode cX5_copyFrom 66 = .ok (.getfield 38, 3) := by decide +kernel
theorem dX5_copyFrom_69 : decode cX5_copyFrom 69 = .ok (.iconst 0, 1) := by decide +kernel
theorem dX5_copyFrom_70 : decode cX5_copyFrom 70 = .ok (.aload_n 0, 1) := by decide +kernel
theorem dX5_copyFrom_71 : decode cX5_copyFrom 71 = .ok (.getfield 38, 3) := by decide +kernel
theorem dX5_copyFrom_74 : decode cX5_copyFrom 74 = .ok (.iconst 0, 1) := by decide +kernel
theorem dX5_copyFrom_75 : decode cX5_copyFrom 75 = .ok (.bipush 120, 2) := by decide +kernel
theorem dX5_copyFrom_77 : decode cX5_copyFrom 77 = .ok (.invokestatic 76, 3) := by decide +kernel
theorem dX5_copyFrom_80 : decode cX5_copyFrom 80 = .ok (.aload_n 0, 1) := by decide +kernel
theorem dX5_copyFrom_81 : decode cX5_copyFrom 81 = .ok (.aload_n 1, 1) := by decide +kernel
theorem dX5_copyFrom_82 : decode cX5_copyFrom 82 = .ok (.getfield 42, 3) := by decide +kernel
theorem dX5_copyFrom_85 : decode cX5_copyFrom 85 = .ok (.putfield 42, 3) := by decide +kernel
theorem dX5_copyFrom_88 : decode cX5_copyFrom 88 = .ok (.aload_n 0, 1) := by decide +kernel
theorem dX5_copyFrom_89 : decode cX5_copyFrom 89 = .ok (.aload_n 1, 1) := by decide +kernel
theorem dX5_copyFrom_90 : decode cX5_copyFrom 90 = .ok (.getfield 48, 3) := by decide +kernel
theorem dX5_copyFrom_93 : decode cX5_copyFrom 93 = .ok (.putfield 48, 3) := by decide +kernel
theorem dX5_copyFrom_96 : decode cX5_copyFrom 96 = .ok (.aload_n 0, 1) := by decide +kernel
theorem dX5_copyFrom_97 : decode cX5_copyFrom 97 = .ok (.aload_n 1, 1) := by decide +kernel
theorem dX5_copyFrom_98 : decode cX5_copyFrom 98 = .ok (.getfield 52, 3) := by decide +kernel
theorem dX5_copyFrom_101 : decode cX5_copyFrom 101 = .ok (.putfield 52, 3) := by decide +kernel
theorem dX5_copyFrom_104 : decode cX5_copyFrom 104 = .ok (.aload_n 1, 1) := by decide +kernel
theorem dX5_copyFrom_105 : decode cX5_copyFrom 105 = .ok (.getfield 55, 3) := by decide +kernel
theorem dX5_copyFrom_108 : decode cX5_copyFrom 108 = .ok (.aload_n 0, 1) := by decide +kernel
theorem dX5_copyFrom_109 : decode cX5_copyFrom 109 = .ok (.getfield 55, 3) := by decide +kernel
theorem dX5_copyFrom_112 : decode cX5_copyFrom 112 = .ok (.invokestatic 82, 3) := by decide +kernel
theorem dX5_copyFrom_115 : decode cX5_copyFrom 115 = .ok (.aload_n 0, 1) := by decide +kernel
theorem dX5_copyFrom_116 : decode cX5_copyFrom 116 = .ok (.aload_n 1, 1) := by decide +kernel
theorem dX5_copyFrom_117 : decode cX5_copyFrom 117 = .ok (.getfield 58, 3) := by decide +kernel
theorem dX5_copyFrom_120 : decode cX5_copyFrom 120 = .ok (.putfield 58, 3) := by decide +kernel
theorem dX5_copyFrom_123 : decode cX5_copyFrom 123 = .ok (.aload_n 1, 1) := by decide +kernel
theorem dX5_copyFrom_124 : decode cX5_copyFrom 124 = .ok (.getfield 61, 3) := by decide +kernel
theorem dX5_copyFrom_127 : decode cX5_copyFrom 127 = .ok (.aload_n 0, 1) := by decide +kernel
theorem dX5_copyFrom_128 : decode cX5_copyFrom 128 = .ok (.getfield 61, 3) := by decide +kernel
theorem dX5_copyFrom_131 : decode cX5_copyFrom 131 = .ok (.invokestatic 82, 3) := by decide +kernel
theorem dX5_copyFrom_134 : decode cX5_copyFrom 134 = .ok (.aload_n 0, 1) := by decide +kernel
theorem dX5_copyFrom_135 : decode cX5_copyFrom 135 = .ok (.aload_n 1, 1) := by decide +kernel
theorem dX5_copyFrom_136 : decode cX5_copyFrom 136 = .ok (.getfield 64, 3) := by decide +kernel
theorem dX5_copyFrom_139 : decode cX5_copyFrom 139 = .ok (.putfield 64, 3) := by decide +kernel
theorem dX5_copyFrom_142 : decode cX5_copyFrom 142 = .ok (.aload_n 0, 1) := by decide +kernel
theorem dX5_copyFrom_143 : decode cX5_copyFrom 143 = .ok (.aload_n 1, 1) := by decide +kernel
theorem dX5_copyFrom_144 : decode cX5_copyFrom 144 = .ok (.getfield 67, 3) := by decide +kernel
theorem dX5_copyFrom_147 : decode cX5_copyFrom 147 = .ok (.putfield 67, 3) := by decide +kernel
theorem dX5_copyFrom_150 : decode cX5_copyFrom 150 = .ok (.return_, 1) := by decide +kernel
theorem dX5_copyRows_0 : decode cX5_copyRows 0 = .ok (.iconst 0, 1) := by decide +kernel
theorem dX5_copyRows_1 : decode cX5_copyRows 1 = .ok (.istore_n 2, 1) := by decide +kernel
theorem dX5_copyRows_2 : decode cX5_copyRows 2 = .ok (.iload_n 2, 1) := by decide +kernel
theorem dX5_copyRows_3 : decode cX5_copyRows 3 = .ok (.aload_n 0, 1) := by decide +kernel
theorem dX5_copyRows_4 : decode cX5_copyRows 4 = .ok (.arraylength, 1) := by decide +kernel
theorem dX5_copyRows_5 : decode cX5_copyRows 5 = .ok (.if_icmp .ge 37, 3) := by decide +kernel
theorem dX5_copyRows_8 : decode cX5_copyRows 8 = .ok (.iload_n 2, 1) := by decide +kernel
theorem dX5_copyRows_9 : decode cX5_copyRows 9 = .ok (.aload_n 1, 1) := by decide +kernel
theorem dX5_copyRows_10 : decode cX5_copyRows 10 = .ok (.arraylength, 1) := by decide +kernel
theorem dX5_copyRows_11 : decode cX5_copyRows 11 = .ok (.if_icmp .ge 31, 3) := by decide +kernel
theorem dX5_copyRows_14 : decode cX5_copyRows 14 = .ok (.aload_n 0, 1) := by decide +kernel
theorem dX5_copyRows_15 : decode cX5_copyRows 15 = .ok (.iload_n 2, 1) := by decide +kernel
theorem dX5_copyRows_16 : decode cX5_copyRows 16 = .ok (.aaload, 1) := by decide +kernel
theorem dX5_copyRows_17 : decode cX5_copyRows 17 = .ok (.iconst 0, 1) := by decide +kernel
theorem dX5_copyRows_18 : decode cX5_copyRows 18 = .ok (.aload_n 1, 1) := by decide +kernel
theorem dX5_copyRows_19 : decode cX5_copyRows 19 = .ok (.iload_n 2, 1) := by decide +kernel
theorem dX5_copyRows_20 : decode cX5_copyRows 20 = .ok (.aaload, 1) := by decide +kernel
theorem dX5_copyRows_21 : decode cX5_copyRows 21 = .ok (.iconst 0, 1) := by decide +kernel
theorem dX5_copyRows_22 : decode cX5_copyRows 22 = .ok (.aload_n 0, 1) := by decide +kernel
theorem dX5_copyRows_23 : decode cX5_copyRows 23 = .ok (.iload_n 2, 1) := by decide +kernel
theorem dX5_copyRows_24 : decode cX5_copyRows 24 = .ok (.aaload, 1) := by decide +kernel
theorem dX5_copyRows_25 : decode cX5_copyRows 25 = .ok (.arraylength, 1) := by decide +kernel
theorem dX5_copyRows_26 : decode cX5_copyRows 26 = .ok (.aload_n 1, 1) := by decide +kernel
theorem dX5_copyRows_27 : decode cX5_copyRows 27 = .ok (.iload_n 2, 1) := by decide +kernel
theorem dX5_copyRows_28 : decode cX5_copyRows 28 = .ok (.aaload, 1) := by decide +kernel
theorem dX5_copyRows_29 : decode cX5_copyRows 29 = .ok (.arraylength, 1) := by decide +kernel
theorem dX5_copyRows_30 : decode cX5_copyRows 30 = .ok (.invokestatic 86, 3) := by decide +kernel
theorem dX5_copyRows_33 : decode cX5_copyRows 33 = .ok (.invokestatic 76, 3) := by decide +kernel
theorem dX5_copyRows_36 : decode cX5_copyRows 36 = .ok (.iinc 2 1, 3) := by decide +kernel
theorem dX5_copyRows_39 : decode cX5_copyRows 39 = .ok (.goto (-37), 3) := by decide +kernel
theorem dX5_copyRows_42 : decode cX5_copyRows 42 = .ok (.return_, 1) := by decide +kernel
theorem dX5_mirrorAt_0 : decode cX5_mirrorAt 0 = .ok (.iload_n 1, 1) := by decide +kernel
theorem dX5_mirrorAt_1 : decode cX5_mirrorAt 1 = .ok (.ifCond .lt 20, 3) := by decide +kernel
theorem dX5_mirrorAt_4 : decode cX5_mirrorAt 4 = .ok (.iload_n 1, 1) := by decide +kernel
theorem dX5_mirrorAt_5 : decode cX5_mirrorAt 5 = .ok (.aload_n 0, 1) := by decide +kernel
theorem dX5_mirrorAt_6 : decode cX5_mirrorAt 6 = .ok (.getfield 17, 3) := by decide +kernel
theorem dX5_mirrorAt_9 : decode cX5_mirrorAt 9 = .ok (.if_icmp .ge 12, 3) := by decide +kernel
theorem dX5_mirrorAt_12 : decode cX5_mirrorAt 12 = .ok (.aload_n 0, 1) := by decide +kernel
theorem dX5_mirrorAt_13 : decode cX5_mirrorAt 13 = .ok (.getfield 11, 3) := by decide +kernel
theorem dX5_mirrorAt_16 : decode cX5_mirrorAt 16 = .ok (.iload_n 1, 1) := by decide +kernel
theorem dX5_mirrorAt_17 : decode cX5_mirrorAt 17 = .ok (.aaload, 1) := by decide +kernel
theorem dX5_mirrorAt_18 : decode cX5_mirrorAt 18 = .ok (.goto 4, 3) := by decide +kernel
theorem dX5_mirrorAt_21 : decode cX5_mirrorAt 21 = .ok (.aconst_null, 1) := by decide +kernel
theorem dX5_mirrorAt_22 : decode cX5_mirrorAt 22 = .ok (.areturn, 1) := by decide +kernel
theorem dX5_hasPatch_0 : decode cX5_hasPatch 0 = .ok (.iload_n 1, 1) := by decide +kernel
theorem dX5_hasPatch_1 : decode cX5_hasPatch 1 = .ok (.ifCond .lt 15, 3) := by decide +kernel
theorem dX5_hasPatch_4 : decode cX5_hasPatch 4 = .ok (.iload_n 1, 1) := by decide +kernel
theorem dX5_hasPatch_5 : decode cX5_hasPatch 5 = .ok (.aload_n 0, 1) := by decide +kernel
theorem dX5_hasPatch_6 : decode cX5_hasPatch 6 = .ok (.getfield 26, 3) := by decide +kernel
theorem dX5_hasPatch_9 : decode cX5_hasPatch 9 = .ok (.if_icmp .ge 7, 3) := by decide +kernel
theorem dX5_hasPatch_12 : decode cX5_hasPatch 12 = .ok (.iconst 1, 1) := by decide +kernel
theorem dX5_hasPatch_13 : decode cX5_hasPatch 13 = .ok (.goto 4, 3) := by decide +kernel
theorem dX5_hasPatch_16 : decode cX5_hasPatch 16 = .ok (.iconst 0, 1) := by decide +kernel
theorem dX5_hasPatch_17 : decode cX5_hasPatch 17 = .ok (.ireturn, 1) := by decide +kernel
theorem dX5_hasNewPatch_0 : decode cX5_hasNewPatch 0 = .ok (.aload_n 0, 1) := by decide +kernel
theorem dX5_hasNewPatch_1 : decode cX5_hasNewPatch 1 = .ok (.getfield 64, 3) := by decide +kernel
theorem dX5_hasNewPatch_4 : decode cX5_hasNewPatch 4 = .ok (.ifCond .le 18, 3) := by decide +kernel
theorem dX5_hasNewPatch_7 : decode cX5_hasNewPatch 7 = .ok (.aload_n 0, 1) := by decide +kernel
theorem dX5_hasNewPatch_8 : decode cX5_hasNewPatch 8 = .ok (.getfield 26, 3) := by decide +kernel
theorem dX5_hasNewPatch_11 : decode cX5_hasNewPatch 11 = .ok (.aload_n 0, 1) := by decide +kernel
theorem dX5_hasNewPatch_12 : decode cX5_hasNewPatch 12 = .ok (.getfield 67, 3) := by decide +kernel
theorem dX5_hasNewPatch_15 : decode cX5_hasNewPatch 15 = .ok (.if_icmp .eq 7, 3) := by decide +kernel
theorem dX5_hasNewPatch_18 : decode cX5_hasNewPatch 18 = .ok (.iconst 1, 1) := by decide +kernel
theorem dX5_hasNewPatch_19 : decode cX5_hasNewPatch 19 = .ok (.goto 4, 3) := by decide +kernel
theorem dX5_hasNewPatch_22 : decode cX5_hasNewPatch 22 = .ok (.iconst 0, 1) := by decide +kernel
theorem dX5_hasNewPatch_23 : decode cX5_hasNewPatch 23 = .ok (.ireturn, 1) := by decide +kernel
theorem dX5_isWallBetween_0 : decode cX5_isWallBetween 0 = .ok (.iconst 0, 1) := by decide +kernel
theorem dX5_isWallBetween_1 : decode cX5_isWallBetween 1 = .ok (.istore 5, 2) := by decide +kernel
theorem dX5_isWallBetween_3 : decode cX5_isWallBetween 3 = .ok (.iload 5, 2) := by decide +kernel
theorem dX5_isWallBetween_5 : decode cX5_isWallBetween 5 = .ok (.aload_n 0, 1) := by decide +kernel
theorem dX5_isWallBetween_6 : decode cX5_isWallBetween 6 = .ok (.getfield 35, 3) := by decide +kernel
theorem dX5_isWallBetween_9 : decode cX5_isWallBetween 9 = .ok (.if_icmp .ge 29, 3) := by decide +kernel
theorem dX5_isWallBetween_12 : decode cX5_isWallBetween 12 = .ok (.aload_n 0, 1) := by decide +kernel
theorem dX5_isWallBetween_13 : decode cX5_isWallBetween 13 = .ok (.getfield 31, 3) := by decide +kernel
theorem dX5_isWallBetween_16 : decode cX5_isWallBetween 16 = .ok (.iload 5, 2) := by decide +kernel
theorem dX5_isWallBetween_18 : decode cX5_isWallBetween 18 = .ok (.aaload, 1) := by decide +kernel
theorem dX5_isWallBetween_19 : decode cX5_isWallBetween 19 = .ok (.aload_n 1, 1) := by decide +kernel
theorem dX5_isWallBetween_20 : decode cX5_isWallBetween 20 = .ok (.iload_n 2, 1) := by decide +kernel
theorem dX5_isWallBetween_21 : decode cX5_isWallBetween 21 = .ok (.iload_n 3, 1) := by decide +kernel
theorem dX5_isWallBetween_22 : decode cX5_isWallBetween 22 = .ok (.iload 4, 2) := by decide +kernel
theorem dX5_isWallBetween_24 : decode cX5_isWallBetween 24 = .ok (.invokevirtual 92, 3) := by decide +kernel
theorem dX5_isWallBetween_27 : decode cX5_isWallBetween 27 = .ok (.ifCond .eq 5, 3) := by decide +kernel
theorem dX5_isWallBetween_30 : decode cX5_isWallBetween 30 = .ok (.iconst 1, 1) := by decide +kernel
theorem dX5_isWallBetween_31 : decode cX5_isWallBetween 31 = .ok (.ireturn, 1) := by decide +kernel
theorem dX5_isWallBetween_32 : decode cX5_isWallBetween 32 = .ok (.iinc 5 1, 3) := by decide +kernel
theorem dX5_isWallBetween_35 : decode cX5_isWallBetween 35 = .ok (.goto (-32), 3) := by decide +kernel
theorem dX5_isWallBetween_38 : decode cX5_isWallBetween 38 = .ok (.iconst 0, 1) := by decide +kernel
theorem dX5_isWallBetween_39 : decode cX5_isWallBetween 39 = .ok (.ireturn, 1) := by decide +kernel
theorem dX5_isWayFree_0 : decode cX5_isWayFree 0 = .ok (.aload_n 0, 1) := by decide +kernel
theorem dX5_isWayFree_1 : decode cX5_isWayFree 1 = .ok (.aload_n 1, 1) := by decide +kernel
theorem dX5_isWayFree_2 : decode cX5_isWayFree 2 = .ok (.aload_n 0, 1) := by decide +kernel
theorem dX5_isWayFree_3 : decode cX5_isWayFree 3 = .ok (.getfield 23, 3) := by decide +kernel
theorem dX5_isWayFree_6 : decode cX5_isWayFree 6 = .ok (.iload_n 2, 1) := by decide +kernel
theorem dX5_isWayFree_7 : decode cX5_isWayFree 7 = .ok (.aaload, 1) := by decide +kernel
theorem dX5_isWayFree_8 : decode cX5_isWayFree 8 = .ok (.iconst 0, 1) := by decide +kernel
theorem dX5_isWayFree_9 : decode cX5_isWayFree 9 = .ok (.iaload, 1) := by decide +kernel
theorem dX5_isWayFree_10 : decode cX5_isWayFree 10 = .ok (.aload_n 0, 1) := by decide +kernel
theorem dX5_isWayFree_11 : decode cX5_isWayFree 11 = .ok (.getfield 23, 3) := by decide +kernel
theorem dX5_isWayFree_14 : decode cX5_isWayFree 14 = .ok (.iload_n 2, 1) := by decide +kernel
theorem dX5_isWayFree_15 : decode cX5_isWayFree 15 = .ok (.aaload, 1) := by decide +kernel
theorem dX5_isWayFree_16 : decode cX5_isWayFree 16 = .ok (.iconst 1, 1) := by decide +kernel
theorem dX5_isWayFree_17 : decode cX5_isWayFree 17 = .ok (.iaload, 1) := by decide +kernel
theorem dX5_isWayFree_18 : decode cX5_isWayFree 18 = .ok (.iconst 0, 1) := by decide +kernel
theorem dX5_isWayFree_19 : decode cX5_isWayFree 19 = .ok (.invokevirtual 96, 3) := by decide +kernel
theorem dX5_isWayFree_22 : decode cX5_isWayFree 22 = .ok (.ifCond .ne 7, 3) := by decide +kernel
theorem dX5_isWayFree_25 : decode cX5_isWayFree 25 = .ok (.iconst 1, 1) := by decide +kernel
theorem dX5_isWayFree_26 : decode cX5_isWayFree 26 = .ok (.goto 4, 3) := by decide +kernel
theorem dX5_isWayFree_29 : decode cX5_isWayFree 29 = .ok (.iconst 0, 1) := by decide +kernel
theorem dX5_isWayFree_30 : decode cX5_isWayFree 30 = .ok (.ireturn, 1) := by decide +kernel
theorem dX5_litQuarters_0 : decode cX5_litQuarters 0 = .ok (.aload_n 0, 1) := by decide +kernel
theorem dX5_litQuarters_1 : decode cX5_litQuarters 1 = .ok (.getfield 48, 3) := by decide +kernel
theorem dX5_litQuarters_4 : decode cX5_litQuarters 4 = .ok (.iconst 0, 1) := by decide +kernel
theorem dX5_litQuarters_5 : decode cX5_litQuarters 5 = .ok (.aload_n 1, 1) := by decide +kernel
theorem dX5_litQuarters_6 : decode cX5_litQuarters 6 = .ok (.getfield 99, 3) := by decide +kernel
theorem dX5_litQuarters_9 : decode cX5_litQuarters 9 = .ok (.bipush 99, 2) := by decide +kernel
theorem dX5_litQuarters_11 : decode cX5_litQuarters 11 = .ok (.aload_n 0, 1) := by decide +kernel
theorem dX5_litQuarters_12 : decode cX5_litQuarters 12 = .ok (.getfield 58, 3) := by decide +kernel
theorem dX5_litQuarters_15 : decode cX5_litQuarters 15 = .ok (.aload_n 1, 1) := by decide +kernel
theorem dX5_litQuarters_16 : decode cX5_litQuarters 16 = .ok (.getfield 102, 3) := by decide +kernel
theorem dX5_litQuarters_19 : decode cX5_litQuarters 19 = .ok (.invokevirtual 105, 3) := by decide +kernel
theorem dX5_litQuarters_22 : decode cX5_litQuarters 22 = .ok (.ireturn, 1) := by decide +kernel
theorem dX5_ownQuarters_0 : decode cX5_ownQuarters 0 = .ok (.aload_n 0, 1) := by decide +kernel
theorem dX5_ownQuarters_1 : decode cX5_ownQuarters 1 = .ok (.getfield 48, 3) := by decide +kernel
theorem dX5_ownQuarters_4 : decode cX5_ownQuarters 4 = .ok (.iconst 2, 1) := by decide +kernel
theorem dX5_ownQuarters_5 : decode cX5_ownQuarters 5 = .ok (.bipush 99, 2) := by decide +kernel
theorem dX5_ownQuarters_7 : decode cX5_ownQuarters 7 = .ok (.iload_n 1, 1) := by decide +kernel
theorem dX5_ownQuarters_8 : decode cX5_ownQuarters 8 = .ok (.iload_n 2, 1) := by decide +kernel
theorem dX5_ownQuarters_9 : decode cX5_ownQuarters 9 = .ok (.iconst 0, 1) := by decide +kernel
theorem dX5_ownQuarters_10 : decode cX5_ownQuarters 10 = .ok (.invokevirtual 105, 3) := by decide +kernel
theorem dX5_ownQuarters_13 : decode cX5_ownQuarters 13 = .ok (.ireturn, 1) := by decide +kernel
theorem dX5_canQuarters_0 : decode cX5_canQuarters 0 = .ok (.aload_n 1, 1) := by decide +kernel
theorem dX5_canQuarters_1 : decode cX5_canQuarters 1 = .ok (.iload_n 2, 1) := by decide +kernel
theorem dX5_canQuarters_2 : decode cX5_canQuarters 2 = .ok (.aload_n 0, 1) := by decide +kernel
theorem dX5_canQuarters_3 : decode cX5_canQuarters 3 = .ok (.getfield 23, 3) := by decide +kernel
theorem dX5_canQuarters_6 : decode cX5_canQuarters 6 = .ok (.iload_n 2, 1) := by decide +kernel
theorem dX5_canQuarters_7 : decode cX5_canQuarters 7 = .ok (.aaload, 1) := by decide +kernel
theorem dX5_canQuarters_8 : decode cX5_canQuarters 8 = .ok (.iconst 0, 1) := by decide +kernel
theorem dX5_canQuarters_9 : decode cX5_canQuarters 9 = .ok (.iaload, 1) := by decide +kernel
theorem dX5_canQuarters_10 : decode cX5_canQuarters 10 = .ok (.aload_n 0, 1) := by decide +kernel
theorem dX5_canQuarters_11 : decode cX5_canQuarters 11 = .ok (.getfield 23, 3) := by decide +kernel
theorem dX5_canQuarters_14 : decode cX5_canQuarters 14 = .ok (.iload_n 2, 1) := by decide +kernel
theorem dX5_canQuarters_15 : decode cX5_canQuarters 15 = .ok (.aaload, 1) := by decide +kernel
theorem dX5_canQuarters_16 : decode cX5_canQuarters 16 = .ok (.iconst 1, 1) := by decide +kernel
theorem dX5_canQuarters_17 : decode cX5_canQuarters 17 = .ok (.iaload, 1) := by decide +kernel
theorem dX5_canQuarters_18 : decode cX5_canQuarters 18 = .ok (.invokevirtual 109, 3) := by decide +kernel
theorem dX5_canQuarters_21 : decode cX5_canQuarters 21 = .ok (.ifCond .ne 5, 3) := by decide +kernel
theorem dX5_canQuarters_24 : decode cX5_canQuarters 24 = .ok (.iconst 0, 1) := by decide +kernel
theorem dX5_canQuarters_25 : decode cX5_canQuarters 25 = .ok (.ireturn, 1) := by decide +kernel
theorem dX5_canQuarters_26 : decode cX5_canQuarters 26 = .ok (.aload_n 0, 1) := by decide +kernel
theorem dX5_canQuarters_27 : decode cX5_canQuarters 27 = .ok (.aload_n 1, 1) := by decide +kernel
theorem dX5_canQuarters_28 : decode cX5_canQuarters 28 = .ok (.iload_n 2, 1) := by decide +kernel
theorem dX5_canQuarters_29 : decode cX5_canQuarters 29 = .ok (.invokevirtual 113, 3) := by decide +kernel
theorem dX5_canQuarters_32 : decode cX5_canQuarters 32 = .ok (.ifCond .ne 5, 3) := by decide +kernel
theorem dX5_canQuarters_35 : decode cX5_canQuarters 35 = .ok (.iconst 0, 1) := by decide +kernel
theorem dX5_canQuarters_36 : decode cX5_canQuarters 36 = .ok (.ireturn, 1) := by decide +kernel
theorem dX5_canQuarters_37 : decode cX5_canQuarters 37 = .ok (.aload_n 0, 1) := by decide +kernel
theorem dX5_canQuarters_38 : decode cX5_canQuarters 38 = .ok (.getfield 48, 3) := by decide +kernel
theorem dX5_canQuarters_41 : decode cX5_canQuarters 41 = .ok (.iconst 0, 1) := by decide +kernel
theorem dX5_canQuarters_42 : decode cX5_canQuarters 42 = .ok (.aload_n 1, 1) := by decide +kernel
theorem dX5_canQuarters_43 : decode cX5_canQuarters 43 = .ok (.getfield 99, 3) := by decide +kernel
theorem dX5_canQuarters_46 : decode cX5_canQuarters 46 = .ok (.bipush 99, 2) := by decide +kernel
theorem dX5_canQuarters_48 : decode cX5_canQuarters 48 = .ok (.iload_n 3, 1) := by decide +kernel
theorem dX5_canQuarters_49 : decode cX5_canQuarters 49 = .ok (.aload_n 1, 1) := by decide +kernel
theorem dX5_canQuarters_50 : decode cX5_canQuarters 50 = .ok (.getfield 102, 3) := by decide +kernel
theorem dX5_canQuarters_53 : decode cX5_canQuarters 53 = .ok (.invokevirtual 105, 3) := by decide +kernel
theorem dX5_canQuarters_56 : decode cX5_canQuarters 56 = .ok (.istore 4, 2) := by decide +kernel
theorem dX5_canQuarters_58 : decode cX5_canQuarters 58 = .ok (.aload_n 0, 1) := by decide +kernel
theorem dX5_canQuarters_59 : decode cX5_canQuarters 59 = .ok (.getfield 48, 3) := by decide +kernel
theorem dX5_canQuarters_62 : decode cX5_canQuarters 62 = .ok (.iconst 1, 1) := by decide +kernel
theorem dX5_canQuarters_63 : decode cX5_canQuarters 63 = .ok (.aload_n 1, 1) := by decide +kernel
theorem dX5_canQuarters_64 : decode cX5_canQuarters 64 = .ok (.getfield 99, 3) := by decide +kernel
theorem dX5_canQuarters_67 : decode cX5_canQuarters 67 = .ok (.iload_n 2, 1) := by decide +kernel
theorem dX5_canQuarters_68 : decode cX5_canQuarters 68 = .ok (.iload_n 3, 1) := by decide +kernel
theorem dX5_canQuarters_69 : decode cX5_canQuarters 69 = .ok (.aload_n 1, 1) := by decide +kernel
theorem dX5_canQuarters_70 : decode cX5_canQuarters 70 = .ok (.getfield 102, 3) := by decide +kernel
theorem dX5_canQuarters_73 : decode cX5_canQuarters 73 = .ok (.invokevirtual 105, 3) := by decide +kernel
theorem dX5_canQuarters_76 : decode cX5_canQuarters 76 = .ok (.istore 5, 2) := by decide +kernel
theorem dX5_canQuarters_78 : decode cX5_canQuarters 78 = .ok (.iload 4, 2) := by decide +kernel
theorem dX5_canQuarters_80 : decode cX5_canQuarters 80 = .ok (.iload 5, 2) := by decide +kernel
theorem dX5_canQuarters_82 : decode cX5_canQuarters 82 = .ok (.iconst (-1), 1) := by decide +kernel
theorem dX5_canQuarters_83 : decode cX5_canQuarters 83 = .ok (.ixor, 1) := by decide +kernel
theorem dX5_canQuarters_84 : decode cX5_canQuarters 84 = .ok (.iand, 1) := by decide +kernel
theorem dX5_canQuarters_85 : decode cX5_canQuarters 85 = .ok (.ireturn, 1) := by decide +kernel
theorem dX5_planQuarters_0 : decode cX5_planQuarters 0 = .ok (.iconst 0, 1) := by decide +kernel
theorem dX5_planQuarters_1 : decode cX5_planQuarters 1 = .ok (.istore_n 3, 1) := by decide +kernel
theorem dX5_planQuarters_2 : decode cX5_planQuarters 2 = .ok (.iconst 0, 1) := by decide +kernel
theorem dX5_planQuarters_3 : decode cX5_planQuarters 3 = .ok (.istore 4, 2) := by decide +kernel
theorem dX5_planQuarters_5 : decode cX5_planQuarters 5 = .ok (.iload 4, 2) := by decide +kernel
theorem dX5_planQuarters_7 : decode cX5_planQuarters 7 = .ok (.bipush 8, 2) := by decide +kernel
theorem dX5_planQuarters_9 : decode cX5_planQuarters 9 = .ok (.if_icmp .ge 29, 3) := by decide +kernel
theorem dX5_planQuarters_12 : decode cX5_planQuarters 12 = .ok (.aload_n 0, 1) := by decide +kernel
theorem dX5_planQuarters_13 : decode cX5_planQuarters 13 = .ok (.getfield 55, 3) := by decide +kernel
theorem dX5_planQuarters_16 : decode cX5_planQuarters 16 = .ok (.iload_n 1, 1) := by decide +kernel
theorem dX5_planQuarters_17 : decode cX5_planQuarters 17 = .ok (.aaload, 1) := by decide +kernel
theorem dX5_planQuarters_18 : decode cX5_planQuarters 18 = .ok (.iload 4, 2) := by decide +kernel
theorem dX5_planQuarters_20 : decode cX5_planQuarters 20 = .ok (.iaload, 1) := by decide +kernel
theorem dX5_planQuarters_21 : decode cX5_planQuarters 21 = .ok (.iload_n 2, 1) := by decide +kernel
theorem dX5_planQuarters_22 : decode cX5_planQuarters 22 = .ok (.if_icmp .ne 10, 3) := by decide +kernel
theorem dX5_planQuarters_25 : decode cX5_planQuarters 25 = .ok (.iload_n 3, 1) := by decide +kernel
theorem dX5_planQuarters_26 : decode cX5_planQuarters 26 = .ok (.iconst 1, 1) := by decide +kernel
theorem dX5_planQuarters_27 : decode cX5_planQuarters 27 = .ok (.iload 4, 2) := by decide +kernel
theorem dX5_planQuarters_29 : decode cX5_planQuarters 29 = .ok (.ishl, 1) := by decide +kernel
theorem dX5_planQuarters_30 : decode cX5_planQuarters 30 = .ok (.ior, 1) := by decide +kernel
theorem dX5_planQuarters_31 : decode cX5_planQuarters 31 = .ok (.istore_n 3, 1) := by decide +kernel
theorem dX5_planQuarters_32 : decode cX5_planQuarters 32 = .ok (.iinc 4 1, 3) := by decide +kernel
theorem dX5_planQuarters_35 : decode cX5_planQuarters 35 = .ok (.goto (-30), 3) := by decide +kernel
theorem dX5_planQuarters_38 : decode cX5_planQuarters 38 = .ok (.iload_n 3, 1) := by decide +kernel
theorem dX5_planQuarters_39 : decode cX5_planQuarters 39 = .ok (.ireturn, 1) := by decide +kernel
theorem dX5_thrownQuarters_0 : decode cX5_thrownQuarters 0 = .ok (.aload_n 0, 1) := by decide +kernel
theorem dX5_thrownQuarters_1 : decode cX5_thrownQuarters 1 = .ok (.iload_n 1, 1) := by decide +kernel
theorem dX5_thrownQuarters_2 : decode cX5_thrownQuarters 2 = .ok (.iload_n 2, 1) := by decide +kernel
theorem dX5_thrownQuarters_3 : decode cX5_thrownQuarters 3 = .ok (.invokevirtual 117, 3) := by decide +kernel
theorem dX5_thrownQuarters_6 : decode cX5_thrownQuarters 6 = .ok (.istore 4, 2) := by decide +kernel
theorem dX5_thrownQuarters_8 : decode cX5_thrownQuarters 8 = .ok (.iload 4, 2) := by decide +kernel
theorem dX5_thrownQuarters_10 : decode cX5_thrownQuarters 10 = .ok (.ifCond .ne 7, 3) := by decide +kernel
theorem dX5_thrownQuarters_13 : decode cX5_thrownQuarters 13 = .ok (.iconst 0, 1) := by decide +kernel
theorem dX5_thrownQuarters_14 : decode cX5_thrownQuarters 14 = .ok (.goto 18, 3) := by decide +kernel
theorem dX5_thrownQuarters_17 : decode cX5_thrownQuarters 17 = .ok (.iload 4, 2) := by decide +kernel
theorem dX5_thrownQuarters_19 : decode cX5_thrownQuarters 19 = .ok (.aload_n 0, 1) := by decide +kernel
theorem dX5_thrownQuarters_20 : decode cX5_thrownQuarters 20 = .ok (.aload_n 0, 1) := by decide +kernel
theorem dX5_thrownQuarters_21 : decode cX5_thrownQuarters 21 = .ok (.getfield 11, 3) := by decide +kernel
theorem dX5_thrownQuarters_24 : decode cX5_thrownQuarters 24 = .ok (.iload_n 1, 1) := by decide +kernel
theorem dX5_thrownQuarters_25 : decode cX5_thrownQuarters 25 = .ok (.aaload, 1) := by decide +kernel
theorem dX5_thrownQuarters_26 : decode cX5_thrownQuarters 26 = .ok (.iload_n 2, 1) := by decide +kernel
theorem dX5_thrownQuarters_27 : decode cX5_thrownQuarters 27 = .ok (.iload_n 3, 1) := by decide +kernel
theorem dX5_thrownQuarters_28 : decode cX5_thrownQuarters 28 = .ok (.invokevirtual 120, 3) := by decide +kernel
theorem dX5_thrownQuarters_31 : decode cX5_thrownQuarters 31 = .ok (.iand, 1) := by decide +kernel
theorem dX5_thrownQuarters_32 : decode cX5_thrownQuarters 32 = .ok (.ireturn, 1) := by decide +kernel
theorem dX5_lightQuarters_0 : decode cX5_lightQuarters 0 = .ok (.iconst 0, 1) := by decide +kernel
theorem dX5_lightQuarters_1 : decode cX5_lightQuarters 1 = .ok (.istore_n 3, 1) := by decide +kernel
theorem dX5_lightQuarters_2 : decode cX5_lightQuarters 2 = .ok (.iconst 0, 1) := by decide +kernel
theorem dX5_lightQuarters_3 : decode cX5_lightQuarters 3 = .ok (.istore 4, 2) := by decide +kernel
theorem dX5_lightQuarters_5 : decode cX5_lightQuarters 5 = .ok (.iload 4, 2) := by decide +kernel
theorem dX5_lightQuarters_7 : decode cX5_lightQuarters 7 = .ok (.aload_n 0, 1) := by decide +kernel
theorem dX5_lightQuarters_8 : decode cX5_lightQuarters 8 = .ok (.getfield 17, 3) := by decide +kernel
theorem dX5_lightQuarters_11 : decode cX5_lightQuarters 11 = .ok (.if_icmp .ge 20, 3) := by decide +kernel
theorem dX5_lightQuarters_14 : decode cX5_lightQuarters 14 = .ok (.iload_n 3, 1) := by decide +kernel
theorem dX5_lightQuarters_15 : decode cX5_lightQuarters 15 = .ok (.aload_n 0, 1) := by decide +kernel
theorem dX5_lightQuarters_16 : decode cX5_lightQuarters 16 = .ok (.iload 4, 2) := by decide +kernel
theorem dX5_lightQuarters_18 : decode cX5_lightQuarters 18 = .ok (.iload_n 1, 1) := by decide +kernel
theorem dX5_lightQuarters_19 : decode cX5_lightQuarters 19 = .ok (.iload_n 2, 1) := by decide +kernel
theorem dX5_lightQuarters_20 : decode cX5_lightQuarters 20 = .ok (.invokevirtual 124, 3) := by decide +kernel
theorem dX5_lightQuarters_23 : decode cX5_lightQuarters 23 = .ok (.ior, 1) := by decide +kernel
theorem dX5_lightQuarters_24 : decode cX5_lightQuarters 24 = .ok (.istore_n 3, 1) := by decide +kernel
theorem dX5_lightQuarters_25 : decode cX5_lightQuarters 25 = .ok (.iinc 4 1, 3) := by decide +kernel
theorem dX5_lightQuarters_28 : decode cX5_lightQuarters 28 = .ok (.goto (-23), 3) := by decide +kernel
theorem dX5_lightQuarters_31 : decode cX5_lightQuarters 31 = .ok (.iload_n 3, 1) := by decide +kernel
theorem dX5_lightQuarters_32 : decode cX5_lightQuarters 32 = .ok (.ireturn, 1) := by decide +kernel
theorem dX5_lightOf_0 : decode cX5_lightOf 0 = .ok (.iconst 0, 1) := by decide +kernel
theorem dX5_lightOf_1 : decode cX5_lightOf 1 = .ok (.istore_n 2, 1) := by decide +kernel
theorem dX5_lightOf_2 : decode cX5_lightOf 2 = .ok (.iconst 0, 1) := by decide +kernel
theorem dX5_lightOf_3 : decode cX5_lightOf 3 = .ok (.istore_n 3, 1) := by decide +kernel
theorem dX5_lightOf_4 : decode cX5_lightOf 4 = .ok (.iload_n 3, 1) := by decide +kernel
theorem dX5_lightOf_5 : decode cX5_lightOf 5 = .ok (.aload_n 0, 1) := by decide +kernel
theorem dX5_lightOf_6 : decode cX5_lightOf 6 = .ok (.getfield 17, 3) := by decide +kernel
theorem dX5_lightOf_9 : decode cX5_lightOf 9 = .ok (.if_icmp .ge 35, 3) := by decide +kernel
theorem dX5_lightOf_12 : decode cX5_lightOf 12 = .ok (.iload_n 2, 1) := by decide +kernel
theorem dX5_lightOf_13 : decode cX5_lightOf 13 = .ok (.aload_n 0, 1) := by decide +kernel
theorem dX5_lightOf_14 : decode cX5_lightOf 14 = .ok (.iload_n 3, 1) := by decide +kernel
theorem dX5_lightOf_15 : decode cX5_lightOf 15 = .ok (.iload_n 1, 1) := by decide +kernel
theorem dX5_lightOf_16 : decode cX5_lightOf 16 = .ok (.aload_n 0, 1) := by decide +kernel
theorem dX5_lightOf_17 : decode cX5_lightOf 17 = .ok (.getfield 58, 3) := by decide +kernel
theorem dX5_lightOf_20 : decode cX5_lightOf 20 = .ok (.invokevirtual 124, 3) := by decide +kernel
theorem dX5_lightOf_23 : decode cX5_lightOf 23 = .ok (.invokestatic 128, 3) := by decide +kernel
theorem dX5_lightOf_26 : decode cX5_lightOf 26 = .ok (.aload_n 0, 1) := by decide +kernel
theorem dX5_lightOf_27 : decode cX5_lightOf 27 = .ok (.getfield 11, 3) := by decide +kernel
theorem dX5_lightOf_30 : decode cX5_lightOf 30 = .ok (.iload_n 3, 1) := by decide +kernel
theorem dX5_lightOf_31 : decode cX5_lightOf 31 = .ok (.aaload, 1) := by decide +kernel
theorem dX5_lightOf_32 : decode cX5_lightOf 32 = .ok (.invokevirtual 134, 3) := by decide +kernel
theorem dX5_lightOf_35 : decode cX5_lightOf 35 = .ok (.imul, 1) := by decide +kernel
theorem dX5_lightOf_36 : decode cX5_lightOf 36 = .ok (.iadd, 1) := by decide +kernel
theorem dX5_lightOf_37 : decode cX5_lightOf 37 = .ok (.istore_n 2, 1) := by decide +kernel
theorem dX5_lightOf_38 : decode cX5_lightOf 38 = .ok (.iinc 3 1, 3) := by decide +kernel
theorem dX5_lightOf_41 : decode cX5_lightOf 41 = .ok (.goto (-37), 3) := by decide +kernel
theorem dX5_lightOf_44 : decode cX5_lightOf 44 = .ok (.iload_n 2, 1) := by decide +kernel
theorem dX5_lightOf_45 : decode cX5_lightOf 45 = .ok (.ireturn, 1) := by decide +kernel
theorem dX5_snowBehind_0 : decode cX5_snowBehind 0 = .ok (.aload_n 0, 1) := by decide +kernel
theorem dX5_snowBehind_1 : decode cX5_snowBehind 1 = .ok (.iload_n 1, 1) := by decide +kernel
theorem dX5_snowBehind_2 : decode cX5_snowBehind 2 = .ok (.iload_n 3, 1) := by decide +kernel
theorem dX5_snowBehind_3 : decode cX5_snowBehind 3 = .ok (.invokevirtual 138, 3) := by decide +kernel
theorem dX5_snowBehind_6 : decode cX5_snowBehind 6 = .ok (.aload_n 0, 1) := by decide +kernel
theorem dX5_snowBehind_7 : decode cX5_snowBehind 7 = .ok (.iload_n 1, 1) := by decide +kernel
theorem dX5_snowBehind_8 : decode cX5_snowBehind 8 = .ok (.iload_n 3, 1) := by decide +kernel
theorem dX5_snowBehind_9 : decode cX5_snowBehind 9 = .ok (.invokevirtual 141, 3) := by decide +kernel
theorem dX5_snowBehind_12 : decode cX5_snowBehind 12 = .ok (.ior, 1) := by decide +kernel
theorem dX5_snowBehind_13 : decode cX5_snowBehind 13 = .ok (.istore 4, 2) := by decide +kernel
theorem dX5_snowBehind_15 : decode cX5_snowBehind 15 = .ok (.iconst 0, 1) := by decide +kernel
theorem dX5_snowBehind_16 : decode cX5_snowBehind 16 = .ok (.iload_n 2, 1) := by decide +kernel
theorem dX5_snowBehind_17 : decode cX5_snowBehind 17 = .ok (.iload 4, 2) := by decide +kernel
theorem dX5_snowBehind_19 : decode cX5_snowBehind 19 = .ok (.invokestatic 128, 3) := by decide +kernel
theorem dX5_snowBehind_22 : decode cX5_snowBehind 22 = .ok (.isub, 1) := by decide +kernel
theorem dX5_snowBehind_23 : decode cX5_snowBehind 23 = .ok (.invokestatic 144, 3) := by decide +kernel
theorem dX5_snowBehind_26 : decode cX5_snowBehind 26 = .ok (.ireturn, 1) := by decide +kernel
theorem dX6_init_0 : decode cX6_init 0 = .ok (.aload_n 0, 1) := by decide +kernel
theorem dX6_init_1 : decode cX6_init 1 = .ok (.iload_n 1, 1) := by decide +kernel
theorem dX6_init_2 : decode cX6_init 2 = .ok (.iload_n 2, 1) := by decide +kernel
theorem dX6_init_3 : decode cX6_init 3 = .ok (.iload_n 3, 1) := by decide +kernel
theorem dX6_init_4 : decode cX6_init 4 = .ok (.iload 4, 2) := by decide +kernel
theorem dX6_init_6 : decode cX6_init 6 = .ok (.invokespecial 1, 3) := by decide +kernel
theorem dX6_init_9 : decode cX6_init 9 = .ok (.return_, 1) := by decide +kernel
theorem dX6_mayThrowOn_0 : decode cX6_mayThrowOn 0 = .ok (.iload_n 1, 1) := by decide +kernel
theorem dX6_mayThrowOn_1 : decode cX6_mayThrowOn 1 = .ok (.aload_n 0, 1) := by decide +kernel
theorem dX6_mayThrowOn_2 : decode cX6_mayThrowOn 2 = .ok (.getfield 7, 3) := by decide +kernel
theorem dX6_mayThrowOn_5 : decode cX6_mayThrowOn 5 = .ok (.if_icmp .eq 7, 3) := by decide +kernel
theorem dX6_mayThrowOn_8 : decode cX6_mayThrowOn 8 = .ok (.iconst 1, 1) := by decide +kernel
theorem dX6_mayThrowOn_9 : decode cX6_mayThrowOn 9 = .ok (.goto 4, 3) := by decide +kernel
theorem dX6_mayThrowOn_12 : decode cX6_mayThrowOn 12 = .ok (.iconst 0, 1) := by decide +kernel
theorem dX6_mayThrowOn_13 : decode cX6_mayThrowOn 13 = .ok (.ireturn, 1) := by decide +kernel
theorem dX6_turns_0 : decode cX6_turns 0 = .ok (.aload_n 2, 1) := by decide +kernel
theorem dX6_turns_1 : decode cX6_turns 1 = .ok (.bipush 61, 2) := by decide +kernel
theorem dX6_turns_3 : decode cX6_turns 3 = .ok (.invokevirtual 13, 3) := by decide +kernel
theorem dX6_turns_6 : decode cX6_turns 6 = .ok (.aload_n 0, 1) := by decide +kernel
theorem dX6_turns_7 : decode cX6_turns 7 = .ok (.iload_n 1, 1) := by decide +kernel
theorem dX6_turns_8 : decode cX6_turns 8 = .ok (.aload_n 2, 1) := by decide +kernel
theorem dX6_turns_9 : decode cX6_turns 9 = .ok (.invokespecial 19, 3) := by decide +kernel
theorem dX6_turns_12 : decode cX6_turns 12 = .ok (.aload_n 0, 1) := by decide +kernel
theorem dX6_turns_13 : decode cX6_turns 13 = .ok (.getfield 7, 3) := by decide +kernel
theorem dX6_turns_16 : decode cX6_turns 16 = .ok (.iadd, 1) := by decide +kernel
theorem dX6_turns_17 : decode cX6_turns 17 = .ok (.ireturn, 1) := by decide +kernel
theorem dX7_init_0 : decode cX7_init 0 = .ok (.aload_n 0, 1) := by decide +kernel
theorem dX7_init_1 : decode cX7_init 1 = .ok (.invokespecial 3, 3) := by decide +kernel
theorem dX7_init_4 : decode cX7_init 4 = .ok (.aload_n 0, 1) := by decide +kernel
theorem dX7_init_5 : decode cX7_init 5 = .ok (.bipush 20, 2) := by decide +kernel
theorem dX7_init_7 : decode cX7_init 7 = .ok (.newarray .int, 2) := by decide +kernel
theorem dX7_init_9 : decode cX7_init 9 = .ok (.putfield 9, 3) := by decide +kernel
theorem dX7_init_12 : decode cX7_init 12 = .ok (.aload_n 0, 1) := by decide +kernel
theorem dX7_init_13 : decode cX7_init 13 = .ok (.iconst 0, 1) := by decide +kernel
theorem dX7_init_14 : decode cX7_init 14 = .ok (.putfield 15, 3) := by decide +kernel
theorem dX7_init_17 : decode cX7_init 17 = .ok (.return_, 1) := by decide +kernel
theorem dX7_begin_0 : decode cX7_begin 0 = .ok (.aload_n 0, 1) := by decide +kernel
theorem dX7_begin_1 : decode cX7_begin 1 = .ok (.iconst 0, 1) := by decide +kernel
theorem dX7_begin_2 : decode cX7_begin 2 = .ok (.putfield 15, 3) := by decide +kernel
theorem dX7_begin_5 : decode cX7_begin 5 = .ok (.return_, 1) := by decide +kernel
theorem dX7_add_0 : decode cX7_add 0 = .ok (.aload_n 0, 1) := by decide +kernel
theorem dX7_add_1 : decode cX7_add 1 = .ok (.getfield 15, 3) := by decide +kernel
theorem dX7_add_4 : decode cX7_add 4 = .ok (.bipush 20, 2) := by decide +kernel
theorem dX7_add_6 : decode cX7_add 6 = .ok (.if_icmp .ge 13, 3) := by decide +kernel
theorem dX7_add_9 : decode cX7_add 9 = .ok (.aload_n 0, 1) := by decide +kernel
theorem dX7_add_10 : decode cX7_add 10 = .ok (.getfield 9, 3) := by decide +kernel
theorem dX7_add_13 : decode cX7_add 13 = .ok (.aload_n 0, 1) := by decide +kernel
theorem dX7_add_14 : decode cX7_add 14 = .ok (.getfield 15, 3) := by decide +kernel
theorem dX7_add_17 : decode cX7_add 17 = .ok (.iload_n 1, 1) := by decide +kernel
theorem dX7_add_18 : decode cX7_add 18 = .ok (.iastore, 1) := by decide +kernel
theorem dX7_add_19 : decode cX7_add 19 = .ok (.aload_n 0, 1) := by decide +kernel
theorem dX7_add_20 : decode cX7_add 20 = .ok (.dup, 1) := by decide +kernel
theorem dX7_add_21 : decode cX7_add 21 = .ok (.getfield 15, 3) := by decide +kernel
theorem dX7_add_24 : decode cX7_add 24 = .ok (.iconst 1, 1) := by decide +kernel
theorem dX7_add_25 : decode cX7_add 25 = .ok (.iadd, 1) := by decide +kernel
theorem dX7_add_26 : decode cX7_add 26 = .ok (.putfield 15, 3) := by decide +kernel
theorem dX7_add_29 : decode cX7_add 29 = .ok (.return_, 1) := by decide +kernel
theorem dX8_init_0 : decode cX8_init 0 = .ok (.aload_n 0, 1) := by decide +kernel
theorem dX8_init_1 : decode cX8_init 1 = .ok (.iload_n 1, 1) := by decide +kernel
theorem dX8_init_2 : decode cX8_init 2 = .ok (.iload_n 2, 1) := by decide +kernel
theorem dX8_init_3 : decode cX8_init 3 = .ok (.iload_n 3, 1) := by decide +kernel
theorem dX8_init_4 : decode cX8_init 4 = .ok (.iload 4, 2) := by decide +kernel
theorem dX8_init_6 : decode cX8_init 6 = .ok (.invokespecial 1, 3) := by decide +kernel
theorem dX8_init_9 : decode cX8_init 9 = .ok (.return_, 1) := by decide +kernel
theorem dX8_mayThrowOn_0 : decode cX8_mayThrowOn 0 = .ok (.aload_n 0, 1) := by decide +kernel
theorem dX8_mayThrowOn_1 : decode cX8_mayThrowOn 1 = .ok (.getfield 7, 3) := by decide +kernel
theorem dX8_mayThrowOn_4 : decode cX8_mayThrowOn 4 = .ok (.iload_n 2, 1) := by decide +kernel
theorem dX8_mayThrowOn_5 : decode cX8_mayThrowOn 5 = .ok (.if_icmp .ne 11, 3) := by decide +kernel
theorem dX8_mayThrowOn_8 : decode cX8_mayThrowOn 8 = .ok (.aload_n 0, 1) := by decide +kernel
theorem dX8_mayThrowOn_9 : decode cX8_mayThrowOn 9 = .ok (.getfield 13, 3) := by decide +kernel
theorem dX8_mayThrowOn_12 : decode cX8_mayThrowOn 12 = .ok (.iload_n 3, 1) := by decide +kernel
theorem dX8_mayThrowOn_13 : decode cX8_mayThrowOn 13 = .ok (.if_icmp .eq 7, 3) := by decide +kernel
theorem dX8_mayThrowOn_16 : decode cX8_mayThrowOn 16 = .ok (.iconst 1, 1) := by decide +kernel
theorem dX8_mayThrowOn_17 : decode cX8_mayThrowOn 17 = .ok (.goto 4, 3) := by decide +kernel
theorem dX8_mayThrowOn_20 : decode cX8_mayThrowOn 20 = .ok (.iconst 0, 1) := by decide +kernel
theorem dX8_mayThrowOn_21 : decode cX8_mayThrowOn 21 = .ok (.ireturn, 1) := by decide +kernel
theorem dX8_casts_0 : decode cX8_casts 0 = .ok (.aload_n 2, 1) := by decide +kernel
theorem dX8_casts_1 : decode cX8_casts 1 = .ok (.bipush 11, 2) := by decide +kernel
theorem dX8_casts_3 : decode cX8_casts 3 = .ok (.invokevirtual 16, 3) := by decide +kernel
theorem dX8_casts_6 : decode cX8_casts 6 = .ok (.aload_n 0, 1) := by decide +kernel
theorem dX8_casts_7 : decode cX8_casts 7 = .ok (.iload_n 1, 1) := by decide +kernel
theorem dX8_casts_8 : decode cX8_casts 8 = .ok (.iconst 3, 1) := by decide +kernel
theorem dX8_casts_9 : decode cX8_casts 9 = .ok (.imul, 1) := by decide +kernel
theorem dX8_casts_10 : decode cX8_casts 10 = .ok (.aload_n 2, 1) := by decide +kernel
theorem dX8_casts_11 : decode cX8_casts 11 = .ok (.invokespecial 22, 3) := by decide +kernel
theorem dX8_casts_14 : decode cX8_casts 14 = .ok (.ireturn, 1) := by decide +kernel
theorem dX9_init_0 : decode cX9_init 0 = .ok (.aload_n 0, 1) := by decide +kernel
theorem dX9_init_1 : decode cX9_init 1 = .ok (.invokespecial 3, 3) := by decide +kernel
theorem dX9_init_4 : decode cX9_init 4 = .ok (.aload_n 0, 1) := by decide +kernel
theorem dX9_init_5 : decode cX9_init 5 = .ok (.bipush 120, 2) := by decide +kernel
theorem dX9_init_7 : decode cX9_init 7 = .ok (.newarray .int, 2) := by decide +kernel
theorem dX9_init_9 : decode cX9_init 9 = .ok (.putfield 9, 3) := by decide +kernel
theorem dX9_init_12 : decode cX9_init 12 = .ok (.aload_n 0, 1) := by decide +kernel
theorem dX9_init_13 : decode cX9_init 13 = .ok (.iconst 0, 1) := by decide +kernel
theorem dX9_init_14 : decode cX9_init 14 = .ok (.putfield 15, 3) := by decide +kernel
theorem dX9_init_17 : decode cX9_init 17 = .ok (.aload_n 0, 1) := by decide +kernel
theorem dX9_init_18 : decode cX9_init 18 = .ok (.bipush 10, 2) := by decide +kernel
theorem dX9_init_20 : decode cX9_init 20 = .ok (.newarray .int, 2) := by decide +kernel
theorem dX9_init_22 : decode cX9_init 22 = .ok (.putfield 19, 3) := by decide +kernel
theorem dX9_init_25 : decode cX9_init 25 = .ok (.aload_n 0, 1) := by decide +kernel
theorem dX9_init_26 : decode cX9_init 26 = .ok (.bipush 10, 2) := by decide +kernel
theorem dX9_init_28 : decode cX9_init 28 = .ok (.newarray .int, 2) := by decide +kernel
theorem dX9_init_30 : decode cX9_init 30 = .ok (.putfield 22, 3) := by decide +kernel
theorem dX9_init_33 : decode cX9_init 33 = .ok (.aload_n 0, 1) := by decide +kernel
theorem dX9_init_34 : decode cX9_init 34 = .ok (.iconst 0, 1) := by decide +kernel
theorem dX9_init_35 : decode cX9_init 35 = .ok (.putfield 25, 3) := by decide +kernel
theorem dX9_init_38 : decode cX9_init 38 = .ok (.aload_n 0, 1) := by decide +kernel
theorem dX9_init_39 : decode cX9_init 39 = .ok (.ldc 28, 2) := by decide +kernel
theorem dX9_init_41 : decode cX9_init 41 = .ok (.invokevirtual 30, 3) := by decide +kernel
theorem dX9_init_44 : decode cX9_init 44 = .ok (.newarray .int, 2) := by decide +kernel
theorem dX9_init_46 : decode cX9_init 46 = .ok (.putfield 36, 3) := by decide +kernel
theorem dX9_init_49 : decode cX9_init 49 = .ok (.aload_n 0, 1) := by decide +kernel
theorem dX9_init_50 : decode cX9_init 50 = .ok (.bipush 13, 2) := by decide +kernel
theorem dX9_init_52 : decode cX9_init 52 = .ok (.newarray .int, 2) := by decide +kernel
theorem dX9_init_54 : decode cX9_init 54 = .ok (.putfield 39, 3) := by decide +kernel
theorem dX9_init_57 : decode cX9_init 57 = .ok (.aload_n 0, 1) := by decide +kernel
theorem dX9_init_58 : decode cX9_init 58 = .ok (.iconst 0, 1) := by decide +kernel
theorem dX9_init_59 : decode cX9_init 59 = .ok (.putfield 42, 3) := by decide +kernel
theorem dX9_init_62 : decode cX9_init 62 = .ok (.aload_n 0, 1) := by decide +kernel
theorem dX9_init_63 : decode cX9_init 63 = .ok (.bipush 9, 2) := by decide +kernel
theorem dX9_init_65 : decode cX9_init 65 = .ok (.putfield 45, 3) := by decide +kernel
theorem dX9_init_68 : decode cX9_init 68 = .ok (.aload_n 0, 1) := by decide +kernel
theorem dX9_init_69 : decode cX9_init 69 = .ok (.aconst_null, 1) := by decide +kernel
theorem dX9_init_70 : decode cX9_init 70 = .ok (.putfield 48, 3) := by decide +kernel
theorem dX9_init_73 : decode cX9_init 73 = .ok (.aload_n 0, 1) := by decide +kernel
theorem dX9_init_74 : decode cX9_init 74 = .ok (.iconst 0, 1) := by decide +kernel
theorem dX9_init_75 : decode cX9_init 75 = .ok (.putfield 52, 3) := by decide +kernel
theorem dX9_init_78 : decode cX9_init 78 = .ok (.aload_n 0, 1) := by decide +kernel
theorem dX9_init_79 : decode cX9_init 79 = .ok (.iconst 0, 1) := by decide +kernel
theorem dX9_init_80 : decode cX9_init 80 = .ok (.putfield 55, 3) := by decide +kernel
theorem dX9_init_83 : decode cX9_init 83 = .ok (.aload_n 0, 1) := by decide +kernel
theorem dX9_init_84 : decode cX9_init 84 = .ok (.iconst (-1), 1) := by decide +kernel
theorem dX9_init_85 : decode cX9_init 85 = .ok (.putfield 58, 3) := by decide +kernel
theorem dX9_init_88 : decode cX9_init 88 = .ok (.return_, 1) := by decide +kernel
theorem dX9_quartersOf_0 : decode cX9_quartersOf 0 = .ok (.aload_n 0, 1) := by decide +kernel
theorem dX9_quartersOf_1 : decode cX9_quartersOf 1 = .ok (.getfield 36, 3) := by decide +kernel
theorem dX9_quartersOf_4 : decode cX9_quartersOf 4 = .ok (.iconst 0, 1) := by decide +kernel
theorem dX9_quartersOf_5 : decode cX9_quartersOf 5 = .ok (.iload_n 2, 1) := by decide +kernel
theorem dX9_quartersOf_6 : decode cX9_quartersOf 6 = .ok (.iastore, 1) := by decide +kernel
theorem dX9_quartersOf_7 : decode cX9_quartersOf 7 = .ok (.aload_n 0, 1) := by decide +kernel
theorem dX9_quartersOf_8 : decode cX9_quartersOf 8 = .ok (.getfield 36, 3) := by decide +kernel
theorem dX9_quartersOf_11 : decode cX9_quartersOf 11 = .ok (.iconst 1, 1) := by decide +kernel
theorem dX9_quartersOf_12 : decode cX9_quartersOf 12 = .ok (.iload_n 3, 1) := by decide +kernel
theorem dX9_quartersOf_13 : decode cX9_quartersOf 13 = .ok (.iastore, 1) := by decide +kernel
theorem dX9_quartersOf_14 : decode cX9_quartersOf 14 = .ok (.aload_n 0, 1) := by decide +kernel
theorem dX9_quartersOf_15 : decode cX9_quartersOf 15 = .ok (.getfield 36, 3) := by decide +kernel
theorem dX9_quartersOf_18 : decode cX9_quartersOf 18 = .ok (.iconst 3, 1) := by decide +kernel
theorem dX9_quartersOf_19 : decode cX9_quartersOf 19 = .ok (.iload 4, 2) := by decide +kernel
theorem dX9_quartersOf_21 : decode cX9_quartersOf 21 = .ok (.iastore, 1) := by decide +kernel
theorem dX9_quartersOf_22 : decode cX9_quartersOf 22 = .ok (.aload_n 0, 1) := by decide +kernel
theorem dX9_quartersOf_23 : decode cX9_quartersOf 23 = .ok (.getfield 36, 3) := by decide +kernel
theorem dX9_quartersOf_26 : decode cX9_quartersOf 26 = .ok (.iconst 4, 1) := by decide +kernel
theorem dX9_quartersOf_27 : decode cX9_quartersOf 27 = .ok (.iload 5, 2) := by decide +kernel
theorem dX9_quartersOf_29 : decode cX9_quartersOf 29 = .ok (.iastore, 1) := by decide +kernel
theorem dX9_quartersOf_30 : decode cX9_quartersOf 30 = .ok (.iconst 0, 1) := by decide +kernel
theorem dX9_quartersOf_31 : decode cX9_quartersOf 31 = .ok (.istore 6, 2) := by decide +kernel
theorem dX9_quartersOf_33 : decode cX9_quartersOf 33 = .ok (.iconst 0, 1) := by decide +kernel
theorem dX9_quartersOf_34 : decode cX9_quartersOf 34 = .ok (.istore 7, 2) := by decide +kernel
theorem dX9_quartersOf_36 : decode cX9_quartersOf 36 = .ok (.iconst 0, 1) := by decide +kernel
theorem dX9_quartersOf_37 : decode cX9_quartersOf 37 = .ok (.istore 8, 2) := by decide +kernel
theorem dX9_quartersOf_39 : decode cX9_quartersOf 39 = .ok (.iload 8, 2) := by decide +kernel
theorem dX9_quartersOf_41 : decode cX9_quartersOf 41 = .ok (.aload_n 0, 1) := by decide +kernel
theorem dX9_quartersOf_42 : decode cX9_quartersOf 42 = .ok (.getfield 25, 3) := by decide +kernel
theorem dX9_quartersOf_45 : decode cX9_quartersOf 45 = .ok (.if_icmp .ge 47, 3) := by decide +kernel
theorem dX9_quartersOf_48 : decode cX9_quartersOf 48 = .ok (.aload_n 0, 1) := by decide +kernel
theorem dX9_quartersOf_49 : decode cX9_quartersOf 49 = .ok (.getfield 19, 3) := by decide +kernel
theorem dX9_quartersOf_52 : decode cX9_quartersOf 52 = .ok (.iload 8, 2) := by decide +kernel
theorem dX9_quartersOf_54 : decode cX9_quartersOf 54 = .ok (.iaload, 1) := by decide +kernel
theorem dX9_quartersOf_55 : decode cX9_quartersOf 55 = .ok (.iload_n 1, 1) := by decide +kernel
theorem dX9_quartersOf_56 : decode cX9_quartersOf 56 = .ok (.if_icmp .ne 21, 3) := by decide +kernel
theorem dX9_quartersOf_59 : decode cX9_quartersOf 59 = .ok (.iload 6, 2) := by decide +kernel
theorem dX9_quartersOf_61 : decode cX9_quartersOf 61 = .ok (.aload_n 0, 1) := by decide +kernel
theorem dX9_quartersOf_62 : decode cX9_quartersOf 62 = .ok (.iload 7, 2) := by decide +kernel
theorem dX9_quartersOf_64 : decode cX9_quartersOf 64 = .ok (.aload_n 0, 1) := by decide +kernel
theorem dX9_quartersOf_65 : decode cX9_quartersOf 65 = .ok (.getfield 22, 3) := by decide +kernel
theorem dX9_quartersOf_68 : decode cX9_quartersOf 68 = .ok (.iload 8, 2) := by decide +kernel
theorem dX9_quartersOf_70 : decode cX9_quartersOf 70 = .ok (.iaload, 1) := by decide +kernel
theorem dX9_quartersOf_71 : decode cX9_quartersOf 71 = .ok (.invokevirtual 61, 3) := by decide +kernel
theorem dX9_quartersOf_74 : decode cX9_quartersOf 74 = .ok (.ior, 1) := by decide +kernel
theorem dX9_quartersOf_75 : decode cX9_quartersOf 75 = .ok (.istore 6, 2) := by decide +kernel
theorem dX9_quartersOf_77 : decode cX9_quartersOf 77 = .ok (.aload_n 0, 1) := by decide +kernel
theorem dX9_quartersOf_78 : decode cX9_quartersOf 78 = .ok (.getfield 22, 3) := by decide +kernel
theorem dX9_quartersOf_81 : decode cX9_quartersOf 81 = .ok (.iload 8, 2) := by decide +kernel
theorem dX9_quartersOf_83 : decode cX9_quartersOf 83 = .ok (.iaload, 1) := by decide +kernel
theorem dX9_quartersOf_84 : decode cX9_quartersOf 84 = .ok (.istore 7, 2) := by decide +kernel
theorem dX9_quartersOf_86 : decode cX9_quartersOf 86 = .ok (.iinc 8 1, 3) := by decide +kernel
theorem dX9_quartersOf_89 : decode cX9_quartersOf 89 = .ok (.goto (-50), 3) := by decide +kernel
theorem dX9_quartersOf_92 : decode cX9_quartersOf 92 = .ok (.iload 6, 2) := by decide +kernel
theorem dX9_quartersOf_94 : decode cX9_quartersOf 94 = .ok (.ireturn, 1) := by decide +kernel
theorem dX9_run_0 : decode cX9_run 0 = .ok (.iconst 0, 1) := by decide +kernel
theorem dX9_run_1 : decode cX9_run 1 = .ok (.istore_n 3, 1) := by decide +kernel
theorem dX9_run_2 : decode cX9_run 2 = .ok (.iload_n 1, 1) := by decide +kernel
theorem dX9_run_3 : decode cX9_run 3 = .ok (.istore 4, 2) := by decide +kernel
theorem dX9_run_5 : decode cX9_run 5 = .ok (.iload 4, 2) := by decide +kernel
theorem dX9_run_7 : decode cX9_run 7 = .ok (.iload_n 2, 1) := by decide +kernel
theorem dX9_run_8 : decode cX9_run 8 = .ok (.if_icmp .ge 139, 3) := by decide +kernel
theorem dX9_run_11 : decode cX9_run 11 = .ok (.aload_n 0, 1) := by decide +kernel
theorem dX9_run_12 : decode cX9_run 12 = .ok (.getfield 9, 3) := by decide +kernel
theorem dX9_run_15 : decode cX9_run 15 = .ok (.iload 4, 2) := by decide +kernel
theorem dX9_run_17 : decode cX9_run 17 = .ok (.iaload, 1) := by decide +kernel
theorem dX9_run_18 : decode cX9_run 18 = .ok (.istore 5, 2) := by decide +kernel
theorem dX9_run_20 : decode cX9_run 20 = .ok (.iload_n 3, 1) := by decide +kernel
theorem dX9_run_21 : decode cX9_run 21 = .ok (.iload 5, 2) := by decide +kernel
theorem dX9_run_23 : decode cX9_run 23 = .ok (.invokestatic 65, 3) := by decide +kernel
theorem dX9_run_26 : decode cX9_run 26 = .ok (.isub, 1) := by decide +kernel
theorem dX9_run_27 : decode cX9_run 27 = .ok (.istore 6, 2) := by decide +kernel
theorem dX9_run_29 : decode cX9_run 29 = .ok (.iload 6, 2) := by decide +kernel
theorem dX9_run_31 : decode cX9_run 31 = .ok (.ifCond .lt 13, 3) := by decide +kernel
theorem dX9_run_34 : decode cX9_run 34 = .ok (.iload 6, 2) := by decide +kernel
theorem dX9_run_36 : decode cX9_run 36 = .ok (.aload_n 0, 1) := by decide +kernel
theorem dX9_run_37 : decode cX9_run 37 = .ok (.getfield 39, 3) := by decide +kernel
theorem dX9_run_40 : decode cX9_run 40 = .ok (.arraylength, 1) := by decide +kernel
theorem dX9_run_41 : decode cX9_run 41 = .ok (.if_icmp .lt 5, 3) := by decide +kernel
theorem dX9_run_44 : decode cX9_run 44 = .ok (.iconst 0, 1) := by decide +kernel
theorem dX9_run_45 : decode cX9_run 45 = .ok (.ireturn, 1) := by decide +kernel
theorem dX9_run_46 : decode cX9_run 46 = .ok (.iload 5, 2) := by decide +kernel
theorem dX9_run_48 : decode cX9_run 48 = .ok (.ifCond .lt 19, 3) := by decide +kernel
theorem dX9_run_51 : decode cX9_run 51 = .ok (.aload_n 0, 1) := by decide +kernel
theorem dX9_run_52 : decode cX9_run 52 = .ok (.getfield 39, 3) := by decide +kernel
theorem dX9_run_55 : decode cX9_run 55 = .ok (.iload 6, 2) := by decide +kernel
theorem dX9_run_57 : decode cX9_run 57 = .ok (.aload_n 0, 1) := by decide +kernel
theorem dX9_run_58 : decode cX9_run 58 = .ok (.iload 5, 2) := by decide +kernel
theorem dX9_run_60 : decode cX9_run 60 = .ok (.invokevirtual 69, 3) := by decide +kernel
theorem dX9_run_63 : decode cX9_run 63 = .ok (.iastore, 1) := by decide +kernel
theorem dX9_run_64 : decode cX9_run 64 = .ok (.goto 72, 3) := by decide +kernel
theorem dX9_run_67 : decode cX9_run 67 = .ok (.iload 5, 2) := by decide +kernel
theorem dX9_run_69 : decode cX9_run 69 = .ok (.iconst (-1), 1) := by decide +kernel
theorem dX9_run_70 : decode cX9_run 70 = .ok (.if_icmp .ne 19, 3) := by decide +kernel
theorem dX9_run_73 : decode cX9_run 73 = .ok (.aload_n 0, 1) := by decide +kernel
theorem dX9_run_74 : decode cX9_run 74 = .ok (.getfield 39, 3) := by decide +kernel
theorem dX9_run_77 : decode cX9_run 77 = .ok (.iload 6, 2) := by decide +kernel
theorem dX9_run_79 : decode cX9_run 79 = .ok (.dup2, 1) := by decide +kernel
theorem dX9_run_80 : decode cX9_run 80 = .ok (.iaload, 1) := by decide +kernel
theorem dX9_run_81 : decode cX9_run 81 = .ok (.sipush 255, 3) := by decide +kernel
theorem dX9_run_84 : decode cX9_run 84 = .ok (.ixor, 1) := by decide +kernel
theorem dX9_run_85 : decode cX9_run 85 = .ok (.iastore, 1) := by decide +kernel
theorem dX9_run_86 : decode cX9_run 86 = .ok (.goto 50, 3) := by decide +kernel
theorem dX9_run_89 : decode cX9_run 89 = .ok (.aload_n 0, 1) := by decide +kernel
theorem dX9_run_90 : decode cX9_run 90 = .ok (.getfield 39, 3) := by decide +kernel
theorem dX9_run_93 : decode cX9_run 93 = .ok (.iload_n 3, 1) := by decide +kernel
theorem dX9_run_94 : decode cX9_run 94 = .ok (.iconst 1, 1) := by decide +kernel
theorem dX9_run_95 : decode cX9_run 95 = .ok (.isub, 1) := by decide +kernel
theorem dX9_run_96 : decode cX9_run 96 = .ok (.iaload, 1) := by decide +kernel
theorem dX9_run_97 : decode cX9_run 97 = .ok (.istore 7, 2) := by decide +kernel
theorem dX9_run_99 : decode cX9_run 99 = .ok (.aload_n 0, 1) := by decide +kernel
theorem dX9_run_100 : decode cX9_run 100 = .ok (.getfield 39, 3) := by decide +kernel
theorem dX9_run_103 : decode cX9_run 103 = .ok (.iload 6, 2) := by decide +kernel
theorem dX9_run_105 : decode cX9_run 105 = .ok (.iload 5, 2) := by decide +kernel
theorem dX9_run_107 : decode cX9_run 107 = .ok (.bipush (-2), 2) := by decide +kernel
theorem dX9_run_109 : decode cX9_run 109 = .ok (.if_icmp .ne 16, 3) := by decide +kernel
theorem dX9_run_112 : decode cX9_run 112 = .ok (.aload_n 0, 1) := by decide +kernel
theorem dX9_run_113 : decode cX9_run 113 = .ok (.getfield 39, 3) := by decide +kernel
theorem dX9_run_116 : decode cX9_run 116 = .ok (.iload 6, 2) := by decide +kernel
theorem dX9_run_118 : decode cX9_run 118 = .ok (.iaload, 1) := by decide +kernel
theorem dX9_run_119 : decode cX9_run 119 = .ok (.iload 7, 2) := by decide +kernel
theorem dX9_run_121 : decode cX9_run 121 = .ok (.iand, 1) := by decide +kernel
theorem dX9_run_122 : decode cX9_run 122 = .ok (.goto 13, 3) := by decide +kernel
theorem dX9_run_125 : decode cX9_run 125 = .ok (.aload_n 0, 1) := by decide +kernel
theorem dX9_run_126 : decode cX9_run 126 = .ok (.getfield 39, 3) := by decide +kernel
theorem dX9_run_129 : decode cX9_run 129 = .ok (.iload 6, 2) := by decide +kernel
theorem dX9_run_131 : decode cX9_run 131 = .ok (.iaload, 1) := by decide +kernel
theorem dX9_run_132 : decode cX9_run 132 = .ok (.iload 7, 2) := by decide +kernel
theorem dX9_run_134 : decode cX9_run 134 = .ok (.ior, 1) := by decide +kernel
theorem dX9_run_135 : decode cX9_run 135 = .ok (.iastore, 1) := by decide +kernel
theorem dX9_run_136 : decode cX9_run 136 = .ok (.iload 6, 2) := by decide +kernel
theorem dX9_run_138 : decode cX9_run 138 = .ok (.iconst 1, 1) := by decide +kernel
theorem dX9_run_139 : decode cX9_run 139 = .ok (.iadd, 1) := by decide +kernel
theorem dX9_run_140 : decode cX9_run 140 = .ok (.istore_n 3, 1) := by decide +kernel
theorem dX9_run_141 : decode cX9_run 141 = .ok (.iinc 4 1, 3) := by decide +kernel
theorem dX9_run_144 : decode cX9_run 144 = .ok (.goto (-139), 3) := by decide +kernel
theorem dX9_run_147 : decode cX9_run 147 = .ok (.aload_n 0, 1) := by decide +kernel
theorem dX9_run_148 : decode cX9_run 148 = .ok (.getfield 39, 3) := by decide +kernel
theorem dX9_run_151 : decode cX9_run 151 = .ok (.iconst 0, 1) := by decide +kernel
theorem dX9_run_152 : decode cX9_run 152 = .ok (.iaload, 1) := by decide +kernel
theorem dX9_run_153 : decode cX9_run 153 = .ok (.ireturn, 1) := by decide +kernel
theorem dX9_partsOf_0 : decode cX9_partsOf 0 = .ok (.iload_n 0, 1) := by decide +kernel
theorem dX9_partsOf_1 : decode cX9_partsOf 1 = .ok (.ifCond .lt 7, 3) := by decide +kernel
theorem dX9_partsOf_4 : decode cX9_partsOf 4 = .ok (.iconst 0, 1) := by decide +kernel
theorem dX9_partsOf_5 : decode cX9_partsOf 5 = .ok (.goto 13, 3) := by decide +kernel
theorem dX9_partsOf_8 : decode cX9_partsOf 8 = .ok (.iload_n 0, 1) := by decide +kernel
theorem dX9_partsOf_9 : decode cX9_partsOf 9 = .ok (.iconst (-1), 1) := by decide +kernel
theorem dX9_partsOf_10 : decode cX9_partsOf 10 = .ok (.if_icmp .ne 7, 3) := by decide +kernel
theorem dX9_partsOf_13 : decode cX9_partsOf 13 = .ok (.iconst 1, 1) := by decide +kernel
theorem dX9_partsOf_14 : decode cX9_partsOf 14 = .ok (.goto 4, 3) := by decide +kernel
theorem dX9_partsOf_17 : decode cX9_partsOf 17 = .ok (.iconst 2, 1) := by decide +kernel
theorem dX9_partsOf_18 : decode cX9_partsOf 18 = .ok (.ireturn, 1) := by decide +kernel
theorem dX9_quartersOfTest_0 : decode cX9_quartersOfTest 0 = .ok (.iload_n 1, 1) := by decide +kernel
theorem dX9_quartersOfTest_1 : decode cX9_quartersOfTest 1 = .ok (.sipush 300, 3) := by decide +kernel
theorem dX9_quartersOfTest_4 : decode cX9_quartersOfTest 4 = .ok (.idiv, 1) := by decide +kernel
theorem dX9_quartersOfTest_5 : decode cX9_quartersOfTest 5 = .ok (.istore_n 2, 1) := by decide +kernel
theorem dX9_quartersOfTest_6 : decode cX9_quartersOfTest 6 = .ok (.iload_n 1, 1) := by decide +kernel
theorem dX9_quartersOfTest_7 : decode cX9_quartersOfTest 7 = .ok (.bipush 100, 2) := by decide +kernel
theorem dX9_quartersOfTest_9 : decode cX9_quartersOfTest 9 = .ok (.idiv, 1) := by decide +kernel
theorem dX9_quartersOfTest_10 : decode cX9_quartersOfTest 10 = .ok (.iconst 3, 1) := by decide +kernel
theorem dX9_quartersOfTest_11 : decode cX9_quartersOfTest 11 = .ok (.irem, 1) := by decide +kernel
theorem dX9_quartersOfTest_12 : decode cX9_quartersOfTest 12 = .ok (.istore_n 3, 1) := by decide +kernel
theorem dX9_quartersOfTest_13 : decode cX9_quartersOfTest 13 = .ok (.iload_n 1, 1) := by decide +kernel
theorem dX9_quartersOfTest_14 : decode cX9_quartersOfTest 14 = .ok (.bipush 100, 2) := by decide +kernel
theorem dX9_quartersOfTest_16 : decode cX9_quartersOfTest 16 = .ok (.irem, 1) := by decide +kernel
theorem dX9_quartersOfTest_17 : decode cX9_quartersOfTest 17 = .ok (.istore 4, 2) := by decide +kernel
theorem dX9_quartersOfTest_19 : decode cX9_quartersOfTest 19 = .ok (.iconst 0, 1) := by decide +kernel
theorem dX9_quartersOfTest_20 : decode cX9_quartersOfTest 20 = .ok (.istore 5, 2) := by decide +kernel
theorem dX9_quartersOfTest_22 : decode cX9_quartersOfTest 22 = .ok (.iconst 0, 1) := by decide +kernel
theorem dX9_quartersOfTest_23 : decode cX9_quartersOfTest 23 = .ok (.istore 6, 2) := by decide +kernel
theorem dX9_quartersOfTest_25 : decode cX9_quartersOfTest 25 = .ok (.iload 6, 2) := by decide +kernel
theorem dX9_quartersOfTest_27 : decode cX9_quartersOfTest 27 = .ok (.bipush 8, 2) := by decide +kernel
theorem dX9_quartersOfTest_29 : decode cX9_quartersOfTest 29 = .ok (.if_icmp .ge 67, 3) := by decide +kernel
theorem dX9_quartersOfTest_32 : decode cX9_quartersOfTest 32 = .ok (.iload_n 2, 1) := by decide +kernel
theorem dX9_quartersOfTest_33 : decode cX9_quartersOfTest 33 = .ok (.iconst 2, 1) := by decide +kernel
theorem dX9_quartersOfTest_34 : decode cX9_quartersOfTest 34 = .ok (.if_icmp .ne 8, 3) := by decide +kernel
theorem dX9_quartersOfTest_37 : decode cX9_quartersOfTest 37 = .ok (.iload 6, 2) := by decide +kernel
theorem dX9_quartersOfTest_39 : decode cX9_quartersOfTest 39 = .ok (.goto 9, 3) := by decide +kernel
theorem dX9_quartersOfTest_42 : decode cX9_quartersOfTest 42 = .ok (.aload_n 0, 1) := by decide +kernel
theorem dX9_quartersOfTest_43 : decode cX9_quartersOfTest 43 = .ok (.getfield 36, 3) := by decide +kernel
theorem dX9_quartersOfTest_46 : decode cX9_quartersOfTest 46 = .ok (.iload_n 2, 1) := by decide +kernel
theorem dX9_quartersOfTest_47 : decode cX9_quartersOfTest 47 = .ok (.iaload, 1) := by decide +kernel
theorem dX9_quartersOfTest_48 : decode cX9_quartersOfTest 48 = .ok (.istore 7, 2) := by decide +kernel
theorem dX9_quartersOfTest_50 : decode cX9_quartersOfTest 50 = .ok (.iload 7, 2) := by decide +kernel
theorem dX9_quartersOfTest_52 : decode cX9_quartersOfTest 52 = .ok (.iload 4, 2) := by decide +kernel
theorem dX9_quartersOfTest_54 : decode cX9_quartersOfTest 54 = .ok (.if_icmp .ge 7, 3) := by decide +kernel
theorem dX9_quartersOfTest_57 : decode cX9_quartersOfTest 57 = .ok (.iconst 0, 1) := by decide +kernel
theorem dX9_quartersOfTest_58 : decode cX9_quartersOfTest 58 = .ok (.goto 15, 3) := by decide +kernel
theorem dX9_quartersOfTest_61 : decode cX9_quartersOfTest 61 = .ok (.iload 7, 2) := by decide +kernel
theorem dX9_quartersOfTest_63 : decode cX9_quartersOfTest 63 = .ok (.iload 4, 2) := by decide +kernel
theorem dX9_quartersOfTest_65 : decode cX9_quartersOfTest 65 = .ok (.if_icmp .ne 7, 3) := by decide +kernel
theorem dX9_quartersOfTest_68 : decode cX9_quartersOfTest 68 = .ok (.iconst 1, 1) := by decide +kernel
theorem dX9_quartersOfTest_69 : decode cX9_quartersOfTest 69 = .ok (.goto 4, 3) := by decide +kernel
theorem dX9_quartersOfTest_72 : decode cX9_quartersOfTest 72 = .ok (.iconst 2, 1) := by decide +kernel
theorem dX9_quartersOfTest_73 : decode cX9_quartersOfTest 73 = .ok (.istore 8, 2) := by decide +kernel
theorem dX9_quartersOfTest_75 : decode cX9_quartersOfTest 75 = .ok (.iload 8, 2) := by decide +kernel
theorem dX9_quartersOfTest_77 : decode cX9_quartersOfTest 77 = .ok (.iload_n 3, 1) := by decide +kernel
theorem dX9_quartersOfTest_78 : decode cX9_quartersOfTest 78 = .ok (.if_icmp .ne 12, 3) := by decide +kernel
theorem dX9_quartersOfTest_81 : decode cX9_quartersOfTest 81 = .ok (.iload 5, 2) := by decide +kernel
theorem dX9_quartersOfTest_83 : decode cX9_quartersOfTest 83 = .ok (.iconst 1, 1) := by decide +kernel
theorem dX9_quartersOfTest_84 : decode cX9_quartersOfTest 84 = .ok (.iload 6, 2) := by decide +kernel
theorem dX9_quartersOfTest_86 : decode cX9_quartersOfTest 86 = .ok (.ishl, 1) := by decide +kernel
theorem dX9_quartersOfTest_87 : decode cX9_quartersOfTest 87 = .ok (.ior, 1) := by decide +kernel
theorem dX9_quartersOfTest_88 : decode cX9_quartersOfTest 88 = .ok (.istore 5, 2) := by decide +kernel
theorem dX9_quartersOfTest_90 : decode cX9_quartersOfTest 90 = .ok (.iinc 6 1, 3) := by decide +kernel
theorem dX9_quartersOfTest_93 : decode cX9_quartersOfTest 93 = .ok (.goto (-68), 3) := by decide +kernel
theorem dX9_quartersOfTest_96 : decode cX9_quartersOfTest 96 = .ok (.iload 5, 2) := by decide +kernel
theorem dX9_quartersOfTest_98 : decode cX9_quartersOfTest 98 = .ok (.ireturn, 1) := by decide +kernel
theorem dX9_faultOf_0 : decode cX9_faultOf 0 = .ok (.aload_n 0, 1) := by decide +kernel
theorem dX9_faultOf_1 : decode cX9_faultOf 1 = .ok (.aload_n 1, 1) := by decide +kernel
theorem dX9_faultOf_2 : decode cX9_faultOf 2 = .ok (.putfield 48, 3) := by decide +kernel
theorem dX9_faultOf_5 : decode cX9_faultOf 5 = .ok (.aload_n 0, 1) := by decide +kernel
theorem dX9_faultOf_6 : decode cX9_faultOf 6 = .ok (.iload_n 2, 1) := by decide +kernel
theorem dX9_faultOf_7 : decode cX9_faultOf 7 = .ok (.aload_n 1, 1) := by decide +kernel
theorem dX9_faultOf_8 : decode cX9_faultOf 8 = .ok (.arraylength, 1) := by decide +kernel
theorem dX9_faultOf_9 : decode cX9_faultOf 9 = .ok (.invokestatic 72, 3) := by decide +kernel
theorem dX9_faultOf_12 : decode cX9_faultOf 12 = .ok (.putfield 52, 3) := by decide +kernel
theorem dX9_faultOf_15 : decode cX9_faultOf 15 = .ok (.aload_n 0, 1) := by decide +kernel
theorem dX9_faultOf_16 : decode cX9_faultOf 16 = .ok (.iconst (-1), 1) := by decide +kernel
theorem dX9_faultOf_17 : decode cX9_faultOf 17 = .ok (.putfield 55, 3) := by decide +kernel
theorem dX9_faultOf_20 : decode cX9_faultOf 20 = .ok (.aload_n 0, 1) := by decide +kernel
theorem dX9_faultOf_21 : decode cX9_faultOf 21 = .ok (.invokevirtual 77, 3) := by decide +kernel
theorem dX9_faultOf_24 : decode cX9_faultOf 24 = .ok (.aload_n 0, 1) := by decide +kernel
theorem dX9_faultOf_25 : decode cX9_faultOf 25 = .ok (.invokevirtual 80, 3) := by decide +kernel
theorem dX9_faultOf_28 : decode cX9_faultOf 28 = .ok (.istore_n 3, 1) := by decide +kernel
theorem dX9_faultOf_29 : decode cX9_faultOf 29 = .ok (.iconst 1, 1) := by decide +kernel
theorem dX9_faultOf_30 : decode cX9_faultOf 30 = .ok (.istore 4, 2) := by decide +kernel
theorem dX9_faultOf_32 : decode cX9_faultOf 32 = .ok (.iload 4, 2) := by decide +kernel
theorem dX9_faultOf_34 : decode cX9_faultOf 34 = .ok (.bipush 10, 2) := by decide +kernel
theorem dX9_faultOf_36 : decode cX9_faultOf 36 = .ok (.if_icmp .ge 27, 3) := by decide +kernel
theorem dX9_faultOf_39 : decode cX9_faultOf 39 = .ok (.iload_n 3, 1) := by decide +kernel
theorem dX9_faultOf_40 : decode cX9_faultOf 40 = .ok (.ifCond .eq 23, 3) := by decide +kernel
theorem dX9_faultOf_43 : decode cX9_faultOf 43 = .ok (.aload_n 0, 1) := by decide +kernel
theorem dX9_faultOf_44 : decode cX9_faultOf 44 = .ok (.bipush 59, 2) := by decide +kernel
theorem dX9_faultOf_46 : decode cX9_faultOf 46 = .ok (.invokevirtual 84, 3) := by decide +kernel
theorem dX9_faultOf_49 : decode cX9_faultOf 49 = .ok (.ifCond .eq 14, 3) := by decide +kernel
theorem dX9_faultOf_52 : decode cX9_faultOf 52 = .ok (.aload_n 0, 1) := by decide +kernel
theorem dX9_faultOf_53 : decode cX9_faultOf 53 = .ok (.invokevirtual 80, 3) := by decide +kernel
theorem dX9_faultOf_56 : decode cX9_faultOf 56 = .ok (.istore_n 3, 1) := by decide +kernel
theorem dX9_faultOf_57 : decode cX9_faultOf 57 = .ok (.iinc 4 1, 3) := by decide +kernel
theorem dX9_faultOf_60 : decode cX9_faultOf 60 = .ok (.goto (-28), 3) := by decide +kernel
theorem dX9_faultOf_63 : decode cX9_faultOf 63 = .ok (.iload_n 3, 1) := by decide +kernel
theorem dX9_faultOf_64 : decode cX9_faultOf 64 = .ok (.ifCond .eq 18, 3) := by decide +kernel
theorem dX9_faultOf_67 : decode cX9_faultOf 67 = .ok (.aload_n 0, 1) := by decide +kernel
theorem dX9_faultOf_68 : decode cX9_faultOf 68 = .ok (.getfield 55, 3) := by decide +kernel
theorem dX9_faultOf_71 : decode cX9_faultOf 71 = .ok (.aload_n 0, 1) := by decide +kernel
theorem dX9_faultOf_72 : decode cX9_faultOf 72 = .ok (.getfield 52, 3) := by decide +kernel
theorem dX9_faultOf_75 : decode cX9_faultOf 75 = .ok (.if_icmp .ne 7, 3) := by decide +kernel
theorem dX9_faultOf_78 : decode cX9_faultOf 78 = .ok (.iconst (-1), 1) := by decide +kernel
theorem dX9_faultOf_79 : decode cX9_faultOf 79 = .ok (.goto 7, 3) := by decide +kernel
theorem dX9_faultOf_82 : decode cX9_faultOf 82 = .ok (.aload_n 0, 1) := by decide +kernel
theorem dX9_faultOf_83 : decode cX9_faultOf 83 = .ok (.getfield 55, 3) := by decide +kernel
theorem dX9_faultOf_86 : decode cX9_faultOf 86 = .ok (.ireturn, 1) := by decide +kernel
theorem dX9_move_0 : decode cX9_move 0 = .ok (.aload_n 0, 1) := by decide +kernel
theorem dX9_move_1 : decode cX9_move 1 = .ok (.dup, 1) := by decide +kernel
theorem dX9_move_2 : decode cX9_move 2 = .ok (.getfield 55, 3) := by decide +kernel
theorem dX9_move_5 : decode cX9_move 5 = .ok (.iconst 1, 1) := by decide +kernel
theorem dX9_move_6 : decode cX9_move 6 = .ok (.iadd, 1) := by decide +kernel
theorem dX9_move_7 : decode cX9_move 7 = .ok (.putfield 55, 3) := by decide +kernel
theorem dX9_move_10 : decode cX9_move 10 = .ok (.aload_n 0, 1) := by decide +kernel
theorem dX9_move_11 : decode cX9_move 11 = .ok (.aload_n 0, 1) := by decide +kernel
theorem dX9_move_12 : decode cX9_move 12 = .ok (.getfield 55, 3) := by decide +kernel
theorem dX9_move_15 : decode cX9_move 15 = .ok (.aload_n 0, 1) := by decide +kernel
theorem dX9_move_16 : decode cX9_move 16 = .ok (.getfield 52, 3) := by decide +kernel
theorem dX9_move_19 : decode cX9_move 19 = .ok (.if_icmp .ge 19, 3) := by decide +kernel
theorem dX9_move_22 : decode cX9_move 22 = .ok (.aload_n 0, 1) := by decide +kernel
theorem dX9_move_23 : decode cX9_move 23 = .ok (.getfield 48, 3) := by decide +kernel
theorem dX9_move_26 : decode cX9_move 26 = .ok (.aload_n 0, 1) := by decide +kernel
theorem dX9_move_27 : decode cX9_move 27 = .ok (.getfield 55, 3) := by decide +kernel
theorem dX9_move_30 : decode cX9_move 30 = .ok (.baload, 1) := by decide +kernel
theorem dX9_move_31 : decode cX9_move 31 = .ok (.sipush 255, 3) := by decide +kernel
theorem dX9_move_34 : decode cX9_move 34 = .ok (.iand, 1) := by decide +kernel
theorem dX9_move_35 : decode cX9_move 35 = .ok (.goto 4, 3) := by decide +kernel
theorem dX9_move_38 : decode cX9_move 38 = .ok (.iconst (-1), 1) := by decide +kernel
theorem dX9_move_39 : decode cX9_move 39 = .ok (.putfield 58, 3) := by decide +kernel
theorem dX9_move_42 : decode cX9_move 42 = .ok (.return_, 1) := by decide +kernel
theorem dX9_reads_0 : decode cX9_reads 0 = .ok (.aload_n 0, 1) := by decide +kernel
theorem dX9_reads_1 : decode cX9_reads 1 = .ok (.getfield 58, 3) := by decide +kernel
theorem dX9_reads_4 : decode cX9_reads 4 = .ok (.iload_n 1, 1) := by decide +kernel
theorem dX9_reads_5 : decode cX9_reads 5 = .ok (.if_icmp .eq 5, 3) := by decide +kernel
theorem dX9_reads_8 : decode cX9_reads 8 = .ok (.iconst 0, 1) := by decide +kernel
theorem dX9_reads_9 : decode cX9_reads 9 = .ok (.ireturn, 1) := by decide +kernel
theorem dX9_reads_10 : decode cX9_reads 10 = .ok (.aload_n 0, 1) := by decide +kernel
theorem dX9_reads_11 : decode cX9_reads 11 = .ok (.invokevirtual 77, 3) := by decide +kernel
theorem dX9_reads_14 : decode cX9_reads 14 = .ok (.iconst 1, 1) := by decide +kernel
theorem dX9_reads_15 : decode cX9_reads 15 = .ok (.ireturn, 1) := by decide +kernel
theorem dX9_readWord_0 : decode cX9_readWord 0 = .ok (.iconst 0, 1) := by decide +kernel
theorem dX9_readWord_1 : decode cX9_readWord 1 = .ok (.istore_n 2, 1) := by decide +kernel
theorem dX9_readWord_2 : decode cX9_readWord 2 = .ok (.iload_n 2, 1) := by decide +kernel
theorem dX9_readWord_3 : decode cX9_readWord 3 = .ok (.aload_n 1, 1) := by decide +kernel
theorem dX9_readWord_4 : decode cX9_readWord 4 = .ok (.invokevirtual 30, 3) := by decide +kernel
theorem dX9_readWord_7 : decode cX9_readWord 7 = .ok (.if_icmp .ge 23, 3) := by decide +kernel
theorem dX9_readWord_10 : decode cX9_readWord 10 = .ok (.aload_n 0, 1) := by decide +kernel
theorem dX9_readWord_11 : decode cX9_readWord 11 = .ok (.aload_n 1, 1) := by decide +kernel
theorem dX9_readWord_12 : decode cX9_readWord 12 = .ok (.iload_n 2, 1) := by decide +kernel
theorem dX9_readWord_13 : decode cX9_readWord 13 = .ok (.invokevirtual 88, 3) := by decide +kernel
theorem dX9_readWord_16 : decode cX9_readWord 16 = .ok (.invokevirtual 84, 3) := by decide +kernel
theorem dX9_readWord_19 : decode cX9_readWord 19 = .ok (.ifCond .ne 5, 3) := by decide +kernel
theorem dX9_readWord_22 : decode cX9_readWord 22 = .ok (.iconst 0, 1) := by decide +kernel
theorem dX9_readWord_23 : decode cX9_readWord 23 = .ok (.ireturn, 1) := by decide +kernel
theorem dX9_readWord_24 : decode cX9_readWord 24 = .ok (.iinc 2 1, 3) := by decide +kernel
theorem dX9_readWord_27 : decode cX9_readWord 27 = .ok (.goto (-25), 3) := by decide +kernel
theorem dX9_readWord_30 : decode cX9_readWord 30 = .ok (.iconst 1, 1) := by decide +kernel
theorem dX9_readWord_31 : decode cX9_readWord 31 = .ok (.ireturn, 1) := by decide +kernel
theorem dX9_readClause_0 : decode cX9_readClause 0 = .ok (.aload_n 0, 1) := by decide +kernel
theorem dX9_readClause_1 : decode cX9_readClause 1 = .ok (.getfield 58, 3) := by decide +kernel
theorem dX9_readClause_4 : decode cX9_readClause 4 = .ok (.lookupswitch 165 #[(99, 121), (101, 75), (108, 52), (111, 98), (116, 143)], 52) := by decide +kernel
theorem dX9_readClause_56 : decode cX9_readClause 56 = .ok (.aload_n 0, 1) := by decide +kernel
theorem dX9_readClause_57 : decode cX9_readClause 57 = .ok (.ldc 92, 2) := by decide +kernel
theorem dX9_readClause_59 : decode cX9_readClause 59 = .ok (.invokevirtual 94, 3) := by decide +kernel
theorem dX9_readClause_62 : decode cX9_readClause 62 = .ok (.ifCond .eq 15, 3) := by decide +kernel
theorem dX9_readClause_65 : decode cX9_readClause 65 = .ok (.aload_n 0, 1) := by decide +kernel
theorem dX9_readClause_66 : decode cX9_readClause 66 = .ok (.iconst 0, 1) := by decide +kernel
theorem dX9_readClause_67 : decode cX9_readClause 67 = .ok (.invokevirtual 98, 3) := by decide +kernel
theorem dX9_readClause_70 : decode cX9_readClause 70 = .ok (.ifCond .eq 7, 3) := by decide +kernel
theorem dX9_readClause_73 : decode cX9_readClause 73 = .ok (.iconst 1, 1) := by decide +kernel
theorem dX9_readClause_74 : decode cX9_readClause 74 = .ok (.goto 4, 3) := by decide +kernel
theorem dX9_readClause_77 : decode cX9_readClause 77 = .ok (.iconst 0, 1) := by decide +kernel
theorem dX9_readClause_78 : decode cX9_readClause 78 = .ok (.ireturn, 1) := by decide +kernel
theorem dX9_readClause_79 : decode cX9_readClause 79 = .ok (.aload_n 0, 1) := by decide +kernel
theorem dX9_readClause_80 : decode cX9_readClause 80 = .ok (.ldc 102, 2) := by decide +kernel
theorem dX9_readClause_82 : decode cX9_readClause 82 = .ok (.invokevirtual 94, 3) := by decide +kernel
theorem dX9_readClause_85 : decode cX9_readClause 85 = .ok (.ifCond .eq 15, 3) := by decide +kernel
theorem dX9_readClause_88 : decode cX9_readClause 88 = .ok (.aload_n 0, 1) := by decide +kernel
theorem dX9_readClause_89 : decode cX9_readClause 89 = .ok (.iconst 1, 1) := by decide +kernel
theorem dX9_readClause_90 : decode cX9_readClause 90 = .ok (.invokevirtual 98, 3) := by decide +kernel
theorem dX9_readClause_93 : decode cX9_readClause 93 = .ok (.ifCond .eq 7, 3) := by decide +kernel
theorem dX9_readClause_96 : decode cX9_readClause 96 = .ok (.iconst 1, 1) := by decide +kernel
theorem dX9_readClause_97 : decode cX9_readClause 97 = .ok (.goto 4, 3) := by decide +kernel
theorem dX9_readClause_100 : decode cX9_readClause 100 = .ok (.iconst 0, 1) := by decide +kernel
theorem dX9_readClause_101 : decode cX9_readClause 101 = .ok (.ireturn, 1) := by decide +kernel
theorem dX9_readClause_102 : decode cX9_readClause 102 = .ok (.aload_n 0, 1) := by decide +kernel
theorem dX9_readClause_103 : decode cX9_readClause 103 = .ok (.ldc 104, 2) := by decide +kernel
theorem dX9_readClause_105 : decode cX9_readClause 105 = .ok (.invokevirtual 94, 3) := by decide +kernel
theorem dX9_readClause_108 : decode cX9_readClause 108 = .ok (.ifCond .eq 15, 3) := by decide +kernel
theorem dX9_readClause_111 : decode cX9_readClause 111 = .ok (.aload_n 0, 1) := by decide +kernel
theorem dX9_readClause_112 : decode cX9_readClause 112 = .ok (.iconst 2, 1) := by decide +kernel
theorem dX9_readClause_113 : decode cX9_readClause 113 = .ok (.invokevirtual 98, 3) := by decide +kernel
theorem dX9_readClause_116 : decode cX9_readClause 116 = .ok (.ifCond .eq 7, 3) := by decide +kernel
theorem dX9_readClause_119 : decode cX9_readClause 119 = .ok (.iconst 1, 1) := by decide +kernel
theorem dX9_readClause_120 : decode cX9_readClause 120 = .ok (.goto 4, 3) := by decide +kernel
theorem dX9_readClause_123 : decode cX9_readClause 123 = .ok (.iconst 0, 1) := by decide +kernel
theorem dX9_readClause_124 : decode cX9_readClause 124 = .ok (.ireturn, 1) := by decide +kernel
theorem dX9_readClause_125 : decode cX9_readClause 125 = .ok (.aload_n 0, 1) := by decide +kernel
theorem dX9_readClause_126 : decode cX9_readClause 126 = .ok (.ldc 106, 2) := by decide +kernel
theorem dX9_readClause_128 : decode cX9_readClause 128 = .ok (.invokevirtual 94, 3) := by decide +kernel
theorem dX9_readClause_131 : decode cX9_readClause 131 = .ok (.ifCond .eq 14, 3) := by decide +kernel
theorem dX9_readClause_134 : decode cX9_readClause 134 = .ok (.aload_n 0, 1) := by decide +kernel
theorem dX9_readClause_135 : decode cX9_readClause 135 = .ok (.invokevirtual 108, 3) := by decide +kernel
theorem dX9_readClause_138 : decode cX9_readClause 138 = .ok (.ifCond .eq 7, 3) := by decide +kernel
theorem dX9_readClause_141 : decode cX9_readClause 141 = .ok (.iconst 1, 1) := by decide +kernel
theorem dX9_readClause_142 : decode cX9_readClause 142 = .ok (.goto 4, 3) := by decide +kernel
theorem dX9_readClause_145 : decode cX9_readClause 145 = .ok (.iconst 0, 1) := by decide +kernel
theorem dX9_readClause_146 : decode cX9_readClause 146 = .ok (.ireturn, 1) := by decide +kernel
theorem dX9_readClause_147 : decode cX9_readClause 147 = .ok (.aload_n 0, 1) := by decide +kernel
theorem dX9_readClause_148 : decode cX9_readClause 148 = .ok (.ldc 111, 2) := by decide +kernel
theorem dX9_readClause_150 : decode cX9_readClause 150 = .ok (.invokevirtual 94, 3) := by decide +kernel
theorem dX9_readClause_153 : decode cX9_readClause 153 = .ok (.ifCond .eq 14, 3) := by decide +kernel
theorem dX9_readClause_156 : decode cX9_readClause 156 = .ok (.aload_n 0, 1) := by decide +kernel
theorem dX9_readClause_157 : decode cX9_readClause 157 = .ok (.invokevirtual 113, 3) := by decide +kernel
theorem dX9_readClause_160 : decode cX9_readClause 160 = .ok (.ifCond .eq 7, 3) := by decide +kernel
theorem dX9_readClause_163 : decode cX9_readClause 163 = .ok (.iconst 1, 1) := by decide +kernel
theorem dX9_readClause_164 : decode cX9_readClause 164 = .ok (.goto 4, 3) := by decide +kernel
theorem dX9_readClause_167 : decode cX9_readClause 167 = .ok (.iconst 0, 1) := by decide +kernel
theorem dX9_readClause_168 : decode cX9_readClause 168 = .ok (.ireturn, 1) := by decide +kernel
theorem dX9_readClause_169 : decode cX9_readClause 169 = .ok (.iconst 0, 1) := by decide +kernel
theorem dX9_readClause_170 : decode cX9_readClause 170 = .ok (.ireturn, 1) := by decide +kernel
theorem dX9_readCloud_0 : decode cX9_readCloud 0 = .ok (.aload_n 0, 1) := by decide +kernel
theorem dX9_readCloud_1 : decode cX9_readCloud 1 = .ok (.invokevirtual 116, 3) := by decide +kernel
theorem dX9_readCloud_4 : decode cX9_readCloud 4 = .ok (.istore_n 1, 1) := by decide +kernel
theorem dX9_readCloud_5 : decode cX9_readCloud 5 = .ok (.aload_n 0, 1) := by decide +kernel
theorem dX9_readCloud_6 : decode cX9_readCloud 6 = .ok (.iload_n 1, 1) := by decide +kernel
theorem dX9_readCloud_7 : decode cX9_readCloud 7 = .ok (.bipush 10, 2) := by decide +kernel
theorem dX9_readCloud_9 : decode cX9_readCloud 9 = .ok (.invokestatic 72, 3) := by decide +kernel
theorem dX9_readCloud_12 : decode cX9_readCloud 12 = .ok (.putfield 42, 3) := by decide +kernel
theorem dX9_readCloud_15 : decode cX9_readCloud 15 = .ok (.iload_n 1, 1) := by decide +kernel
theorem dX9_readCloud_16 : decode cX9_readCloud 16 = .ok (.ifCond .lt 7, 3) := by decide +kernel
theorem dX9_readCloud_19 : decode cX9_readCloud 19 = .ok (.iconst 1, 1) := by decide +kernel
theorem dX9_readCloud_20 : decode cX9_readCloud 20 = .ok (.goto 4, 3) := by decide +kernel
theorem dX9_readCloud_23 : decode cX9_readCloud 23 = .ok (.iconst 0, 1) := by decide +kernel
theorem dX9_readCloud_24 : decode cX9_readCloud 24 = .ok (.ireturn, 1) := by decide +kernel
theorem dX9_readTurn_0 : decode cX9_readTurn 0 = .ok (.aload_n 0, 1) := by decide +kernel
theorem dX9_readTurn_1 : decode cX9_readTurn 1 = .ok (.aload_n 0, 1) := by decide +kernel
theorem dX9_readTurn_2 : decode cX9_readTurn 2 = .ok (.invokevirtual 116, 3) := by decide +kernel
theorem dX9_readTurn_5 : decode cX9_readTurn 5 = .ok (.putfield 45, 3) := by decide +kernel
theorem dX9_readTurn_8 : decode cX9_readTurn 8 = .ok (.aload_n 0, 1) := by decide +kernel
theorem dX9_readTurn_9 : decode cX9_readTurn 9 = .ok (.getfield 45, 3) := by decide +kernel
theorem dX9_readTurn_12 : decode cX9_readTurn 12 = .ok (.ifCond .lt 7, 3) := by decide +kernel
theorem dX9_readTurn_15 : decode cX9_readTurn 15 = .ok (.iconst 1, 1) := by decide +kernel
theorem dX9_readTurn_16 : decode cX9_readTurn 16 = .ok (.goto 4, 3) := by decide +kernel
theorem dX9_readTurn_19 : decode cX9_readTurn 19 = .ok (.iconst 0, 1) := by decide +kernel
theorem dX9_readTurn_20 : decode cX9_readTurn 20 = .ok (.ireturn, 1) := by decide +kernel
theorem dX9_readRule_0 : decode cX9_readRule 0 = .ok (.aload_n 0, 1) := by decide +kernel
theorem dX9_readRule_1 : decode cX9_readRule 1 = .ok (.getfield 25, 3) := by decide +kernel
theorem dX9_readRule_4 : decode cX9_readRule 4 = .ok (.bipush 10, 2) := by decide +kernel
theorem dX9_readRule_6 : decode cX9_readRule 6 = .ok (.if_icmp .ge 11, 3) := by decide +kernel
theorem dX9_readRule_9 : decode cX9_readRule 9 = .ok (.aload_n 0, 1) := by decide +kernel
theorem dX9_readRule_10 : decode cX9_readRule 10 = .ok (.iconst 0, 1) := by decide +kernel
theorem dX9_readRule_11 : decode cX9_readRule 11 = .ok (.invokevirtual 119, 3) := by decide +kernel
theorem dX9_readRule_14 : decode cX9_readRule 14 = .ok (.ifCond .ne 5, 3) := by decide +kernel
theorem dX9_readRule_17 : decode cX9_readRule 17 = .ok (.iconst 0, 1) := by decide +kernel
theorem dX9_readRule_18 : decode cX9_readRule 18 = .ok (.ireturn, 1) := by decide +kernel
theorem dX9_readRule_19 : decode cX9_readRule 19 = .ok (.aload_n 0, 1) := by decide +kernel
theorem dX9_readRule_20 : decode cX9_readRule 20 = .ok (.getfield 19, 3) := by decide +kernel
theorem dX9_readRule_23 : decode cX9_readRule 23 = .ok (.aload_n 0, 1) := by decide +kernel
theorem dX9_readRule_24 : decode cX9_readRule 24 = .ok (.getfield 25, 3) := by decide +kernel
theorem dX9_readRule_27 : decode cX9_readRule 27 = .ok (.iload_n 1, 1) := by decide +kernel
theorem dX9_readRule_28 : decode cX9_readRule 28 = .ok (.iastore, 1) := by decide +kernel
theorem dX9_readRule_29 : decode cX9_readRule 29 = .ok (.aload_n 0, 1) := by decide +kernel
theorem dX9_readRule_30 : decode cX9_readRule 30 = .ok (.getfield 22, 3) := by decide +kernel
theorem dX9_readRule_33 : decode cX9_readRule 33 = .ok (.aload_n 0, 1) := by decide +kernel
theorem dX9_readRule_34 : decode cX9_readRule 34 = .ok (.getfield 25, 3) := by decide +kernel
theorem dX9_readRule_37 : decode cX9_readRule 37 = .ok (.aload_n 0, 1) := by decide +kernel
theorem dX9_readRule_38 : decode cX9_readRule 38 = .ok (.getfield 15, 3) := by decide +kernel
theorem dX9_readRule_41 : decode cX9_readRule 41 = .ok (.iastore, 1) := by decide +kernel
theorem dX9_readRule_42 : decode cX9_readRule 42 = .ok (.aload_n 0, 1) := by decide +kernel
theorem dX9_readRule_43 : decode cX9_readRule 43 = .ok (.dup, 1) := by decide +kernel
theorem dX9_readRule_44 : decode cX9_readRule 44 = .ok (.getfield 25, 3) := by decide +kernel
theorem dX9_readRule_47 : decode cX9_readRule 47 = .ok (.iconst 1, 1) := by decide +kernel
theorem dX9_readRule_48 : decode cX9_readRule 48 = .ok (.iadd, 1) := by decide +kernel
theorem dX9_readRule_49 : decode cX9_readRule 49 = .ok (.putfield 25, 3) := by decide +kernel
theorem dX9_readRule_52 : decode cX9_readRule 52 = .ok (.iconst 1, 1) := by decide +kernel
theorem dX9_readRule_53 : decode cX9_readRule 53 = .ok (.ireturn, 1) := by decide +kernel
theorem dX9_readAny_0 : decode cX9_readAny 0 = .ok (.aload_n 0, 1) := by decide +kernel
theorem dX9_readAny_1 : decode cX9_readAny 1 = .ok (.iload_n 1, 1) := by decide +kernel
theorem dX9_readAny_2 : decode cX9_readAny 2 = .ok (.invokevirtual 122, 3) := by decide +kernel
theorem dX9_readAny_5 : decode cX9_readAny 5 = .ok (.ifCond .ne 5, 3) := by decide +kernel
theorem dX9_readAny_8 : decode cX9_readAny 8 = .ok (.iconst 0, 1) := by decide +kernel
theorem dX9_readAny_9 : decode cX9_readAny 9 = .ok (.ireturn, 1) := by decide +kernel
theorem dX9_readAny_10 : decode cX9_readAny 10 = .ok (.iconst 0, 1) := by decide +kernel
theorem dX9_readAny_11 : decode cX9_readAny 11 = .ok (.istore_n 2, 1) := by decide +kernel
theorem dX9_readAny_12 : decode cX9_readAny 12 = .ok (.iload_n 2, 1) := by decide +kernel
theorem dX9_readAny_13 : decode cX9_readAny 13 = .ok (.bipush 120, 2) := by decide +kernel
theorem dX9_readAny_15 : decode cX9_readAny 15 = .ok (.if_icmp .ge 34, 3) := by decide +kernel
theorem dX9_readAny_18 : decode cX9_readAny 18 = .ok (.aload_n 0, 1) := by decide +kernel
theorem dX9_readAny_19 : decode cX9_readAny 19 = .ok (.bipush 124, 2) := by decide +kernel
theorem dX9_readAny_21 : decode cX9_readAny 21 = .ok (.invokevirtual 84, 3) := by decide +kernel
theorem dX9_readAny_24 : decode cX9_readAny 24 = .ok (.ifCond .eq 25, 3) := by decide +kernel
theorem dX9_readAny_27 : decode cX9_readAny 27 = .ok (.aload_n 0, 1) := by decide +kernel
theorem dX9_readAny_28 : decode cX9_readAny 28 = .ok (.iload_n 1, 1) := by decide +kernel
theorem dX9_readAny_29 : decode cX9_readAny 29 = .ok (.invokevirtual 122, 3) := by decide +kernel
theorem dX9_readAny_32 : decode cX9_readAny 32 = .ok (.ifCond .ne 5, 3) := by decide +kernel
theorem dX9_readAny_35 : decode cX9_readAny 35 = .ok (.iconst 0, 1) := by decide +kernel
theorem dX9_readAny_36 : decode cX9_readAny 36 = .ok (.ireturn, 1) := by decide +kernel
theorem dX9_readAny_37 : decode cX9_readAny 37 = .ok (.aload_n 0, 1) := by decide +kernel
theorem dX9_readAny_38 : decode cX9_readAny 38 = .ok (.bipush (-3), 2) := by decide +kernel
theorem dX9_readAny_40 : decode cX9_readAny 40 = .ok (.invokevirtual 125, 3) := by decide +kernel
theorem dX9_readAny_43 : decode cX9_readAny 43 = .ok (.iinc 2 1, 3) := by decide +kernel
theorem dX9_readAny_46 : decode cX9_readAny 46 = .ok (.goto (-34), 3) := by decide +kernel
theorem dX9_readAny_49 : decode cX9_readAny 49 = .ok (.iconst 1, 1) := by decide +kernel
theorem dX9_readAny_50 : decode cX9_readAny 50 = .ok (.ireturn, 1) := by decide +kernel
theorem dX9_readAll_0 : decode cX9_readAll 0 = .ok (.aload_n 0, 1) := by decide +kernel
theorem dX9_readAll_1 : decode cX9_readAll 1 = .ok (.iload_n 1, 1) := by decide +kernel
theorem dX9_readAll_2 : decode cX9_readAll 2 = .ok (.invokevirtual 129, 3) := by decide +kernel
theorem dX9_readAll_5 : decode cX9_readAll 5 = .ok (.ifCond .ne 5, 3) := by decide +kernel
theorem dX9_readAll_8 : decode cX9_readAll 8 = .ok (.iconst 0, 1) := by decide +kernel
theorem dX9_readAll_9 : decode cX9_readAll 9 = .ok (.ireturn, 1) := by decide +kernel
theorem dX9_readAll_10 : decode cX9_readAll 10 = .ok (.iconst 0, 1) := by decide +kernel
theorem dX9_readAll_11 : decode cX9_readAll 11 = .ok (.istore_n 2, 1) := by decide +kernel
theorem dX9_readAll_12 : decode cX9_readAll 12 = .ok (.iload_n 2, 1) := by decide +kernel
theorem dX9_readAll_13 : decode cX9_readAll 13 = .ok (.bipush 120, 2) := by decide +kernel
theorem dX9_readAll_15 : decode cX9_readAll 15 = .ok (.if_icmp .ge 34, 3) := by decide +kernel
theorem dX9_readAll_18 : decode cX9_readAll 18 = .ok (.aload_n 0, 1) := by decide +kernel
theorem dX9_readAll_19 : decode cX9_readAll 19 = .ok (.bipush 38, 2) := by decide +kernel
theorem dX9_readAll_21 : decode cX9_readAll 21 = .ok (.invokevirtual 84, 3) := by decide +kernel
theorem dX9_readAll_24 : decode cX9_readAll 24 = .ok (.ifCond .eq 25, 3) := by decide +kernel
theorem dX9_readAll_27 : decode cX9_readAll 27 = .ok (.aload_n 0, 1) := by decide +kernel
theorem dX9_readAll_28 : decode cX9_readAll 28 = .ok (.iload_n 1, 1) := by decide +kernel
theorem dX9_readAll_29 : decode cX9_readAll 29 = .ok (.invokevirtual 129, 3) := by decide +kernel
theorem dX9_readAll_32 : decode cX9_readAll 32 = .ok (.ifCond .ne 5, 3) := by decide +kernel
theorem dX9_readAll_35 : decode cX9_readAll 35 = .ok (.iconst 0, 1) := by decide +kernel
theorem dX9_readAll_36 : decode cX9_readAll 36 = .ok (.ireturn, 1) := by decide +kernel
theorem dX9_readAll_37 : decode cX9_readAll 37 = .ok (.aload_n 0, 1) := by decide +kernel
theorem dX9_readAll_38 : decode cX9_readAll 38 = .ok (.bipush (-2), 2) := by decide +kernel
theorem dX9_readAll_40 : decode cX9_readAll 40 = .ok (.invokevirtual 125, 3) := by decide +kernel
theorem dX9_readAll_43 : decode cX9_readAll 43 = .ok (.iinc 2 1, 3) := by decide +kernel
theorem dX9_readAll_46 : decode cX9_readAll 46 = .ok (.goto (-34), 3) := by decide +kernel
theorem dX9_readAll_49 : decode cX9_readAll 49 = .ok (.iconst 1, 1) := by decide +kernel
theorem dX9_readAll_50 : decode cX9_readAll 50 = .ok (.ireturn, 1) := by decide +kernel
theorem dX9_readFactor_0 : decode cX9_readFactor 0 = .ok (.aload_n 0, 1) := by decide +kernel
theorem dX9_readFactor_1 : decode cX9_readFactor 1 = .ok (.getfield 58, 3) := by decide +kernel
theorem dX9_readFactor_4 : decode cX9_readFactor 4 = .ok (.bipush 33, 2) := by decide +kernel
theorem dX9_readFactor_6 : decode cX9_readFactor 6 = .ok (.if_icmp .eq 17, 3) := by decide +kernel
theorem dX9_readFactor_9 : decode cX9_readFactor 9 = .ok (.aload_n 0, 1) := by decide +kernel
theorem dX9_readFactor_10 : decode cX9_readFactor 10 = .ok (.getfield 58, 3) := by decide +kernel
theorem dX9_readFactor_13 : decode cX9_readFactor 13 = .ok (.bipush 40, 2) := by decide +kernel
theorem dX9_readFactor_15 : decode cX9_readFactor 15 = .ok (.if_icmp .eq 8, 3) := by decide +kernel
theorem dX9_readFactor_18 : decode cX9_readFactor 18 = .ok (.aload_n 0, 1) := by decide +kernel
theorem dX9_readFactor_19 : decode cX9_readFactor 19 = .ok (.invokevirtual 132, 3) := by decide +kernel
theorem dX9_readFactor_22 : decode cX9_readFactor 22 = .ok (.ireturn, 1) := by decide +kernel
theorem dX9_readFactor_23 : decode cX9_readFactor 23 = .ok (.iload_n 1, 1) := by decide +kernel
theorem dX9_readFactor_24 : decode cX9_readFactor 24 = .ok (.iconst 5, 1) := by decide +kernel
theorem dX9_readFactor_25 : decode cX9_readFactor 25 = .ok (.if_icmp .lt 5, 3) := by decide +kernel
theorem dX9_readFactor_28 : decode cX9_readFactor 28 = .ok (.iconst 0, 1) := by decide +kernel
theorem dX9_readFactor_29 : decode cX9_readFactor 29 = .ok (.ireturn, 1) := by decide +kernel
theorem dX9_readFactor_30 : decode cX9_readFactor 30 = .ok (.aload_n 0, 1) := by decide +kernel
theorem dX9_readFactor_31 : decode cX9_readFactor 31 = .ok (.bipush 40, 2) := by decide +kernel
theorem dX9_readFactor_33 : decode cX9_readFactor 33 = .ok (.invokevirtual 84, 3) := by decide +kernel
theorem dX9_readFactor_36 : decode cX9_readFactor 36 = .ok (.ifCond .eq 28, 3) := by decide +kernel
theorem dX9_readFactor_39 : decode cX9_readFactor 39 = .ok (.aload_n 0, 1) := by decide +kernel
theorem dX9_readFactor_40 : decode cX9_readFactor 40 = .ok (.iload_n 1, 1) := by decide +kernel
theorem dX9_readFactor_41 : decode cX9_readFactor 41 = .ok (.iconst 1, 1) := by decide +kernel
theorem dX9_readFactor_42 : decode cX9_readFactor 42 = .ok (.iadd, 1) := by decide +kernel
theorem dX9_readFactor_43 : decode cX9_readFactor 43 = .ok (.invokevirtual 119, 3) := by decide +kernel
theorem dX9_readFactor_46 : decode cX9_readFactor 46 = .ok (.ifCond .eq 16, 3) := by decide +kernel
theorem dX9_readFactor_49 : decode cX9_readFactor 49 = .ok (.aload_n 0, 1) := by decide +kernel
theorem dX9_readFactor_50 : decode cX9_readFactor 50 = .ok (.bipush 41, 2) := by decide +kernel
theorem dX9_readFactor_52 : decode cX9_readFactor 52 = .ok (.invokevirtual 84, 3) := by decide +kernel
theorem dX9_readFactor_55 : decode cX9_readFactor 55 = .ok (.ifCond .eq 7, 3) := by decide +kernel
theorem dX9_readFactor_58 : decode cX9_readFactor 58 = .ok (.iconst 1, 1) := by decide +kernel
theorem dX9_readFactor_59 : decode cX9_readFactor 59 = .ok (.goto 4, 3) := by decide +kernel
theorem dX9_readFactor_62 : decode cX9_readFactor 62 = .ok (.iconst 0, 1) := by decide +kernel
theorem dX9_readFactor_63 : decode cX9_readFactor 63 = .ok (.ireturn, 1) := by decide +kernel
theorem dX9_readFactor_64 : decode cX9_readFactor 64 = .ok (.aload_n 0, 1) := by decide +kernel
theorem dX9_readFactor_65 : decode cX9_readFactor 65 = .ok (.invokevirtual 77, 3) := by decide +kernel
theorem dX9_readFactor_68 : decode cX9_readFactor 68 = .ok (.aload_n 0, 1) := by decide +kernel
theorem dX9_readFactor_69 : decode cX9_readFactor 69 = .ok (.iload_n 1, 1) := by decide +kernel
theorem dX9_readFactor_70 : decode cX9_readFactor 70 = .ok (.iconst 1, 1) := by decide +kernel
theorem dX9_readFactor_71 : decode cX9_readFactor 71 = .ok (.iadd, 1) := by decide +kernel
theorem dX9_readFactor_72 : decode cX9_readFactor 72 = .ok (.invokevirtual 129, 3) := by decide +kernel
theorem dX9_readFactor_75 : decode cX9_readFactor 75 = .ok (.ifCond .ne 5, 3) := by decide +kernel
theorem dX9_readFactor_78 : decode cX9_readFactor 78 = .ok (.iconst 0, 1) := by decide +kernel
theorem dX9_readFactor_79 : decode cX9_readFactor 79 = .ok (.ireturn, 1) := by decide +kernel
theorem dX9_readFactor_80 : decode cX9_readFactor 80 = .ok (.aload_n 0, 1) := by decide +kernel
theorem dX9_readFactor_81 : decode cX9_readFactor 81 = .ok (.iconst (-1), 1) := by decide +kernel
theorem dX9_readFactor_82 : decode cX9_readFactor 82 = .ok (.invokevirtual 125, 3) := by decide +kernel
theorem dX9_readFactor_85 : decode cX9_readFactor 85 = .ok (.iconst 1, 1) := by decide +kernel
theorem dX9_readFactor_86 : decode cX9_readFactor 86 = .ok (.ireturn, 1) := by decide +kernel
theorem dX9_readTest_0 : decode cX9_readTest 0 = .ok (.aload_n 0, 1) := by decide +kernel
theorem dX9_readTest_1 : decode cX9_readTest 1 = .ok (.ldc 28, 2) := by decide +kernel
theorem dX9_readTest_3 : decode cX9_readTest 3 = .ok (.invokevirtual 135, 3) := by decide +kernel
theorem dX9_readTest_6 : decode cX9_readTest 6 = .ok (.istore_n 1, 1) := by decide +kernel
theorem dX9_readTest_7 : decode cX9_readTest 7 = .ok (.iload_n 1, 1) := by decide +kernel
theorem dX9_readTest_8 : decode cX9_readTest 8 = .ok (.ifCond .ge 5, 3) := by decide +kernel
theorem dX9_readTest_11 : decode cX9_readTest 11 = .ok (.iconst 0, 1) := by decide +kernel
theorem dX9_readTest_12 : decode cX9_readTest 12 = .ok (.ireturn, 1) := by decide +kernel
theorem dX9_readTest_13 : decode cX9_readTest 13 = .ok (.aload_n 0, 1) := by decide +kernel
theorem dX9_readTest_14 : decode cX9_readTest 14 = .ok (.ldc 139, 2) := by decide +kernel
theorem dX9_readTest_16 : decode cX9_readTest 16 = .ok (.invokevirtual 135, 3) := by decide +kernel
theorem dX9_readTest_19 : decode cX9_readTest 19 = .ok (.istore_n 2, 1) := by decide +kernel
theorem dX9_readTest_20 : decode cX9_readTest 20 = .ok (.iload_n 2, 1) := by decide +kernel
theorem dX9_readTest_21 : decode cX9_readTest 21 = .ok (.ifCond .ge 5, 3) := by decide +kernel
theorem dX9_readTest_24 : decode cX9_readTest 24 = .ok (.iconst 0, 1) := by decide +kernel
theorem dX9_readTest_25 : decode cX9_readTest 25 = .ok (.ireturn, 1) := by decide +kernel
theorem dX9_readTest_26 : decode cX9_readTest 26 = .ok (.aload_n 0, 1) := by decide +kernel
theorem dX9_readTest_27 : decode cX9_readTest 27 = .ok (.invokevirtual 116, 3) := by decide +kernel
theorem dX9_readTest_30 : decode cX9_readTest 30 = .ok (.istore_n 3, 1) := by decide +kernel
theorem dX9_readTest_31 : decode cX9_readTest 31 = .ok (.iload_n 3, 1) := by decide +kernel
theorem dX9_readTest_32 : decode cX9_readTest 32 = .ok (.ifCond .ge 5, 3) := by decide +kernel
theorem dX9_readTest_35 : decode cX9_readTest 35 = .ok (.iconst 0, 1) := by decide +kernel
theorem dX9_readTest_36 : decode cX9_readTest 36 = .ok (.ireturn, 1) := by decide +kernel
theorem dX9_readTest_37 : decode cX9_readTest 37 = .ok (.aload_n 0, 1) := by decide +kernel
theorem dX9_readTest_38 : decode cX9_readTest 38 = .ok (.sipush 300, 3) := by decide +kernel
theorem dX9_readTest_41 : decode cX9_readTest 41 = .ok (.iload_n 1, 1) := by decide +kernel
theorem dX9_readTest_42 : decode cX9_readTest 42 = .ok (.imul, 1) := by decide +kernel
theorem dX9_readTest_43 : decode cX9_readTest 43 = .ok (.bipush 100, 2) := by decide +kernel
theorem dX9_readTest_45 : decode cX9_readTest 45 = .ok (.iload_n 2, 1) := by decide +kernel
theorem dX9_readTest_46 : decode cX9_readTest 46 = .ok (.imul, 1) := by decide +kernel
theorem dX9_readTest_47 : decode cX9_readTest 47 = .ok (.iadd, 1) := by decide +kernel
theorem dX9_readTest_48 : decode cX9_readTest 48 = .ok (.iload_n 3, 1) := by decide +kernel
theorem dX9_readTest_49 : decode cX9_readTest 49 = .ok (.iadd, 1) := by decide +kernel
theorem dX9_readTest_50 : decode cX9_readTest 50 = .ok (.invokevirtual 125, 3) := by decide +kernel
theorem dX9_readTest_53 : decode cX9_readTest 53 = .ok (.iconst 1, 1) := by decide +kernel
theorem dX9_readTest_54 : decode cX9_readTest 54 = .ok (.ireturn, 1) := by decide +kernel
theorem dX9_readOneOf_0 : decode cX9_readOneOf 0 = .ok (.aload_n 0, 1) := by decide +kernel
theorem dX9_readOneOf_1 : decode cX9_readOneOf 1 = .ok (.getfield 58, 3) := by decide +kernel
theorem dX9_readOneOf_4 : decode cX9_readOneOf 4 = .ok (.ifCond .ge 7, 3) := by decide +kernel
theorem dX9_readOneOf_7 : decode cX9_readOneOf 7 = .ok (.iconst (-1), 1) := by decide +kernel
theorem dX9_readOneOf_8 : decode cX9_readOneOf 8 = .ok (.goto 12, 3) := by decide +kernel
theorem dX9_readOneOf_11 : decode cX9_readOneOf 11 = .ok (.aload_n 1, 1) := by decide +kernel
theorem dX9_readOneOf_12 : decode cX9_readOneOf 12 = .ok (.aload_n 0, 1) := by decide +kernel
theorem dX9_readOneOf_13 : decode cX9_readOneOf 13 = .ok (.getfield 58, 3) := by decide +kernel
theorem dX9_readOneOf_16 : decode cX9_readOneOf 16 = .ok (.i2c, 1) := by decide +kernel
theorem dX9_readOneOf_17 : decode cX9_readOneOf 17 = .ok (.invokevirtual 141, 3) := by decide +kernel
theorem dX9_readOneOf_20 : decode cX9_readOneOf 20 = .ok (.istore_n 2, 1) := by decide +kernel
theorem dX9_readOneOf_21 : decode cX9_readOneOf 21 = .ok (.iload_n 2, 1) := by decide +kernel
theorem dX9_readOneOf_22 : decode cX9_readOneOf 22 = .ok (.ifCond .lt 7, 3) := by decide +kernel
theorem dX9_readOneOf_25 : decode cX9_readOneOf 25 = .ok (.aload_n 0, 1) := by decide +kernel
theorem dX9_readOneOf_26 : decode cX9_readOneOf 26 = .ok (.invokevirtual 77, 3) := by decide +kernel
theorem dX9_readOneOf_29 : decode cX9_readOneOf 29 = .ok (.iload_n 2, 1) := by decide +kernel
theorem dX9_readOneOf_30 : decode cX9_readOneOf 30 = .ok (.ireturn, 1) := by decide +kernel
theorem dX9_readNumber_0 : decode cX9_readNumber 0 = .ok (.iconst (-1), 1) := by decide +kernel
theorem dX9_readNumber_1 : decode cX9_readNumber 1 = .ok (.istore_n 1, 1) := by decide +kernel
theorem dX9_readNumber_2 : decode cX9_readNumber 2 = .ok (.iconst 0, 1) := by decide +kernel
theorem dX9_readNumber_3 : decode cX9_readNumber 3 = .ok (.istore_n 2, 1) := by decide +kernel
theorem dX9_readNumber_4 : decode cX9_readNumber 4 = .ok (.iload_n 2, 1) := by decide +kernel
theorem dX9_readNumber_5 : decode cX9_readNumber 5 = .ok (.iconst 2, 1) := by decide +kernel
theorem dX9_readNumber_6 : decode cX9_readNumber 6 = .ok (.if_icmp .ge 52, 3) := by decide +kernel
theorem dX9_readNumber_9 : decode cX9_readNumber 9 = .ok (.iload_n 1, 1) := by decide +kernel
theorem dX9_readNumber_10 : decode cX9_readNumber 10 = .ok (.ifCond .eq 48, 3) := by decide +kernel
theorem dX9_readNumber_13 : decode cX9_readNumber 13 = .ok (.aload_n 0, 1) := by decide +kernel
theorem dX9_readNumber_14 : decode cX9_readNumber 14 = .ok (.getfield 58, 3) := by decide +kernel
theorem dX9_readNumber_17 : decode cX9_readNumber 17 = .ok (.bipush 48, 2) := by decide +kernel
theorem dX9_readNumber_19 : decode cX9_readNumber 19 = .ok (.if_icmp .lt 39, 3) := by decide +kernel
theorem dX9_readNumber_22 : decode cX9_readNumber 22 = .ok (.aload_n 0, 1) := by decide +kernel
theorem dX9_readNumber_23 : decode cX9_readNumber 23 = .ok (.getfield 58, 3) := by decide +kernel
theorem dX9_readNumber_26 : decode cX9_readNumber 26 = .ok (.bipush 57, 2) := by decide +kernel
theorem dX9_readNumber_28 : decode cX9_readNumber 28 = .ok (.if_icmp .gt 30, 3) := by decide +kernel
theorem dX9_readNumber_31 : decode cX9_readNumber 31 = .ok (.bipush 10, 2) := by decide +kernel
theorem dX9_readNumber_33 : decode cX9_readNumber 33 = .ok (.iload_n 1, 1) := by decide +kernel
theorem dX9_readNumber_34 : decode cX9_readNumber 34 = .ok (.iconst 0, 1) := by decide +kernel
theorem dX9_readNumber_35 : decode cX9_readNumber 35 = .ok (.invokestatic 144, 3) := by decide +kernel
theorem dX9_readNumber_38 : decode cX9_readNumber 38 = .ok (.imul, 1) := by decide +kernel
theorem dX9_readNumber_39 : decode cX9_readNumber 39 = .ok (.aload_n 0, 1) := by decide +kernel
theorem dX9_readNumber_40 : decode cX9_readNumber 40 = .ok (.getfield 58, 3) := by decide +kernel
theorem dX9_readNumber_43 : decode cX9_readNumber 43 = .ok (.iadd, 1) := by decide +kernel
theorem dX9_readNumber_44 : decode cX9_readNumber 44 = .ok (.bipush 48, 2) := by decide +kernel
theorem dX9_readNumber_46 : decode cX9_readNumber 46 = .ok (.isub, 1) := by decide +kernel
theorem dX9_readNumber_47 : decode cX9_readNumber 47 = .ok (.istore_n 1, 1) := by decide +kernel
theorem dX9_readNumber_48 : decode cX9_readNumber 48 = .ok (.aload_n 0, 1) := by decide +kernel
theorem dX9_readNumber_49 : decode cX9_readNumber 49 = .ok (.invokevirtual 77, 3) := by decide +kernel
theorem dX9_readNumber_52 : decode cX9_readNumber 52 = .ok (.iinc 2 1, 3) := by decide +kernel
theorem dX9_readNumber_55 : decode cX9_readNumber 55 = .ok (.goto (-51), 3) := by decide +kernel
theorem dX9_readNumber_58 : decode cX9_readNumber 58 = .ok (.iload_n 1, 1) := by decide +kernel
theorem dX9_readNumber_59 : decode cX9_readNumber 59 = .ok (.ireturn, 1) := by decide +kernel
theorem dX9_addStep_0 : decode cX9_addStep 0 = .ok (.aload_n 0, 1) := by decide +kernel
theorem dX9_addStep_1 : decode cX9_addStep 1 = .ok (.getfield 15, 3) := by decide +kernel
theorem dX9_addStep_4 : decode cX9_addStep 4 = .ok (.bipush 120, 2) := by decide +kernel
theorem dX9_addStep_6 : decode cX9_addStep 6 = .ok (.if_icmp .lt 4, 3) := by decide +kernel
theorem dX9_addStep_9 : decode cX9_addStep 9 = .ok (.return_, 1) := by decide +kernel
theorem dX9_addStep_10 : decode cX9_addStep 10 = .ok (.aload_n 0, 1) := by decide +kernel
theorem dX9_addStep_11 : decode cX9_addStep 11 = .ok (.getfield 9, 3) := by decide +kernel
theorem dX9_addStep_14 : decode cX9_addStep 14 = .ok (.aload_n 0, 1) := by decide +kernel
theorem dX9_addStep_15 : decode cX9_addStep 15 = .ok (.getfield 15, 3) := by decide +kernel
theorem dX9_addStep_18 : decode cX9_addStep 18 = .ok (.iload_n 1, 1) := by decide +kernel
theorem dX9_addStep_19 : decode cX9_addStep 19 = .ok (.iastore, 1) := by decide +kernel
theorem dX9_addStep_20 : decode cX9_addStep 20 = .ok (.aload_n 0, 1) := by decide +kernel
theorem dX9_addStep_21 : decode cX9_addStep 21 = .ok (.dup, 1) := by decide +kernel
theorem dX9_addStep_22 : decode cX9_addStep 22 = .ok (.getfield 15, 3) := by decide +kernel
theorem dX9_addStep_25 : decode cX9_addStep 25 = .ok (.iconst 1, 1) := by decide +kernel
theorem dX9_addStep_26 : decode cX9_addStep 26 = .ok (.iadd, 1) := by decide +kernel
theorem dX9_addStep_27 : decode cX9_addStep 27 = .ok (.putfield 15, 3) := by decide +kernel
theorem dX9_addStep_30 : decode cX9_addStep 30 = .ok (.return_, 1) := by decide +kernel
theorem dX10_init_0 : decode cX10_init 0 = .ok (.aload_n 0, 1) := by decide +kernel
theorem dX10_init_1 : decode cX10_init 1 = .ok (.invokespecial 1, 3) := by decide +kernel
theorem dX10_init_4 : decode cX10_init 4 = .ok (.aload_n 0, 1) := by decide +kernel
theorem dX10_init_5 : decode cX10_init 5 = .ok (.iload_n 1, 1) := by decide +kernel
theorem dX10_init_6 : decode cX10_init 6 = .ok (.bipush 100, 2) := by decide +kernel
theorem dX10_init_8 : decode cX10_init 8 = .ok (.idiv, 1) := by decide +kernel
theorem dX10_init_9 : decode cX10_init 9 = .ok (.putfield 7, 3) := by decide +kernel
theorem dX10_init_12 : decode cX10_init 12 = .ok (.aload_n 0, 1) := by decide +kernel
theorem dX10_init_13 : decode cX10_init 13 = .ok (.iload_n 1, 1) := by decide +kernel
theorem dX10_init_14 : decode cX10_init 14 = .ok (.bipush 100, 2) := by decide +kernel
theorem dX10_init_16 : decode cX10_init 16 = .ok (.irem, 1) := by decide +kernel
theorem dX10_init_17 : decode cX10_init 17 = .ok (.putfield 13, 3) := by decide +kernel
theorem dX10_init_20 : decode cX10_init 20 = .ok (.aload_n 0, 1) := by decide +kernel
theorem dX10_init_21 : decode cX10_init 21 = .ok (.iload_n 2, 1) := by decide +kernel
theorem dX10_init_22 : decode cX10_init 22 = .ok (.bipush 100, 2) := by decide +kernel
theorem dX10_init_24 : decode cX10_init 24 = .ok (.idiv, 1) := by decide +kernel
theorem dX10_init_25 : decode cX10_init 25 = .ok (.aload_n 0, 1) := by decide +kernel
theorem dX10_init_26 : decode cX10_init 26 = .ok (.getfield 7, 3) := by decide +kernel
theorem dX10_init_29 : decode cX10_init 29 = .ok (.isub, 1) := by decide +kernel
theorem dX10_init_30 : decode cX10_init 30 = .ok (.putfield 16, 3) := by decide +kernel
theorem dX10_init_33 : decode cX10_init 33 = .ok (.aload_n 0, 1) := by decide +kernel
theorem dX10_init_34 : decode cX10_init 34 = .ok (.iload_n 2, 1) := by decide +kernel
theorem dX10_init_35 : decode cX10_init 35 = .ok (.bipush 100, 2) := by decide +kernel
theorem dX10_init_37 : decode cX10_init 37 = .ok (.irem, 1) := by decide +kernel
theorem dX10_init_38 : decode cX10_init 38 = .ok (.aload_n 0, 1) := by decide +kernel
theorem dX10_init_39 : decode cX10_init 39 = .ok (.getfield 13, 3) := by decide +kernel
theorem dX10_init_42 : decode cX10_init 42 = .ok (.isub, 1) := by decide +kernel
theorem dX10_init_43 : decode cX10_init 43 = .ok (.putfield 19, 3) := by decide +kernel
theorem dX10_init_46 : decode cX10_init 46 = .ok (.aload_n 0, 1) := by decide +kernel
theorem dX10_init_47 : decode cX10_init 47 = .ok (.iload_n 3, 1) := by decide +kernel
theorem dX10_init_48 : decode cX10_init 48 = .ok (.putfield 22, 3) := by decide +kernel
theorem dX10_init_51 : decode cX10_init 51 = .ok (.return_, 1) := by decide +kernel
theorem dX10_isBetween_0 : decode cX10_isBetween 0 = .ok (.iload_n 2, 1) := by decide +kernel
theorem dX10_isBetween_1 : decode cX10_isBetween 1 = .ok (.aload_n 1, 1) := by decide +kernel
theorem dX10_isBetween_2 : decode cX10_isBetween 2 = .ok (.getfield 25, 3) := by decide +kernel
theorem dX10_isBetween_5 : decode cX10_isBetween 5 = .ok (.isub, 1) := by decide +kernel
theorem dX10_isBetween_6 : decode cX10_isBetween 6 = .ok (.istore 5, 2) := by decide +kernel
theorem dX10_isBetween_8 : decode cX10_isBetween 8 = .ok (.iload_n 3, 1) := by decide +kernel
theorem dX10_isBetween_9 : decode cX10_isBetween 9 = .ok (.aload_n 1, 1) := by decide +kernel
theorem dX10_isBetween_10 : decode cX10_isBetween 10 = .ok (.getfield 28, 3) := by decide +kernel
theorem dX10_isBetween_13 : decode cX10_isBetween 13 = .ok (.isub, 1) := by decide +kernel
theorem dX10_isBetween_14 : decode cX10_isBetween 14 = .ok (.istore 6, 2) := by decide +kernel
theorem dX10_isBetween_16 : decode cX10_isBetween 16 = .ok (.iload 5, 2) := by decide +kernel
theorem dX10_isBetween_18 : decode cX10_isBetween 18 = .ok (.aload_n 0, 1) := by decide +kernel
theorem dX10_isBetween_19 : decode cX10_isBetween 19 = .ok (.getfield 19, 3) := by decide +kernel
theorem dX10_isBetween_22 : decode cX10_isBetween 22 = .ok (.imul, 1) := by decide +kernel
theorem dX10_isBetween_23 : decode cX10_isBetween 23 = .ok (.iload 6, 2) := by decide +kernel
theorem dX10_isBetween_25 : decode cX10_isBetween 25 = .ok (.aload_n 0, 1) := by decide +kernel
theorem dX10_isBetween_26 : decode cX10_isBetween 26 = .ok (.getfield 16, 3) := by decide +kernel
theorem dX10_isBetween_29 : decode cX10_isBetween 29 = .ok (.imul, 1) := by decide +kernel
theorem dX10_isBetween_30 : decode cX10_isBetween 30 = .ok (.isub, 1) := by decide +kernel
theorem dX10_isBetween_31 : decode cX10_isBetween 31 = .ok (.istore 7, 2) := by decide +kernel
theorem dX10_isBetween_33 : decode cX10_isBetween 33 = .ok (.iload 7, 2) := by decide +kernel
theorem dX10_isBetween_35 : decode cX10_isBetween 35 = .ok (.ifCond .ne 5, 3) := by decide +kernel
theorem dX10_isBetween_38 : decode cX10_isBetween 38 = .ok (.iconst 0, 1) := by decide +kernel
theorem dX10_isBetween_39 : decode cX10_isBetween 39 = .ok (.ireturn, 1) := by decide +kernel
theorem dX10_isBetween_40 : decode cX10_isBetween 40 = .ok (.iload 7, 2) := by decide +kernel
theorem dX10_isBetween_42 : decode cX10_isBetween 42 = .ok (.ifCond .ge 7, 3) := by decide +kernel
theorem dX10_isBetween_45 : decode cX10_isBetween 45 = .ok (.iconst (-1), 1) := by decide +kernel
theorem dX10_isBetween_46 : decode cX10_isBetween 46 = .ok (.goto 4, 3) := by decide +kernel
theorem dX10_isBetween_49 : decode cX10_isBetween 49 = .ok (.iconst 1, 1) := by decide +kernel
theorem dX10_isBetween_50 : decode cX10_isBetween 50 = .ok (.istore 8, 2) := by decide +kernel
theorem dX10_isBetween_52 : decode cX10_isBetween 52 = .ok (.iload 8, 2) := by decide +kernel
theorem dX10_isBetween_54 : decode cX10_isBetween 54 = .ok (.aload_n 0, 1) := by decide +kernel
theorem dX10_isBetween_55 : decode cX10_isBetween 55 = .ok (.getfield 7, 3) := by decide +kernel
theorem dX10_isBetween_58 : decode cX10_isBetween 58 = .ok (.aload_n 1, 1) := by decide +kernel
theorem dX10_isBetween_59 : decode cX10_isBetween 59 = .ok (.getfield 25, 3) := by decide +kernel
theorem dX10_isBetween_62 : decode cX10_isBetween 62 = .ok (.isub, 1) := by decide +kernel
theorem dX10_isBetween_63 : decode cX10_isBetween 63 = .ok (.imul, 1) := by decide +kernel
theorem dX10_isBetween_64 : decode cX10_isBetween 64 = .ok (.istore 9, 2) := by decide +kernel
theorem dX10_isBetween_66 : decode cX10_isBetween 66 = .ok (.iload 8, 2) := by decide +kernel
theorem dX10_isBetween_68 : decode cX10_isBetween 68 = .ok (.aload_n 0, 1) := by decide +kernel
theorem dX10_isBetween_69 : decode cX10_isBetween 69 = .ok (.getfield 13, 3) := by decide +kernel
theorem dX10_isBetween_72 : decode cX10_isBetween 72 = .ok (.aload_n 1, 1) := by decide +kernel
theorem dX10_isBetween_73 : decode cX10_isBetween 73 = .ok (.getfield 28, 3) := by decide +kernel
theorem dX10_isBetween_76 : decode cX10_isBetween 76 = .ok (.isub, 1) := by decide +kernel
theorem dX10_isBetween_77 : decode cX10_isBetween 77 = .ok (.imul, 1) := by decide +kernel
theorem dX10_isBetween_78 : decode cX10_isBetween 78 = .ok (.istore 10, 2) := by decide +kernel
theorem dX10_isBetween_80 : decode cX10_isBetween 80 = .ok (.iload 9, 2) := by decide +kernel
theorem dX10_isBetween_82 : decode cX10_isBetween 82 = .ok (.aload_n 0, 1) := by decide +kernel
theorem dX10_isBetween_83 : decode cX10_isBetween 83 = .ok (.getfield 19, 3) := by decide +kernel
theorem dX10_isBetween_86 : decode cX10_isBetween 86 = .ok (.imul, 1) := by decide +kernel
theorem dX10_isBetween_87 : decode cX10_isBetween 87 = .ok (.iload 10, 2) := by decide +kernel
theorem dX10_isBetween_89 : decode cX10_isBetween 89 = .ok (.aload_n 0, 1) := by decide +kernel
theorem dX10_isBetween_90 : decode cX10_isBetween 90 = .ok (.getfield 16, 3) := by decide +kernel
theorem dX10_isBetween_93 : decode cX10_isBetween 93 = .ok (.imul, 1) := by decide +kernel
theorem dX10_isBetween_94 : decode cX10_isBetween 94 = .ok (.isub, 1) := by decide +kernel
theorem dX10_isBetween_95 : decode cX10_isBetween 95 = .ok (.istore 11, 2) := by decide +kernel
theorem dX10_isBetween_97 : decode cX10_isBetween 97 = .ok (.iload 9, 2) := by decide +kernel
theorem dX10_isBetween_99 : decode cX10_isBetween 99 = .ok (.iload 6, 2) := by decide +kernel
theorem dX10_isBetween_101 : decode cX10_isBetween 101 = .ok (.imul, 1) := by decide +kernel
theorem dX10_isBetween_102 : decode cX10_isBetween 102 = .ok (.iload 10, 2) := by decide +kernel
theorem dX10_isBetween_104 : decode cX10_isBetween 104 = .ok (.iload 5, 2) := by decide +kernel
theorem dX10_isBetween_106 : decode cX10_isBetween 106 = .ok (.imul, 1) := by decide +kernel
theorem dX10_isBetween_107 : decode cX10_isBetween 107 = .ok (.isub, 1) := by decide +kernel
theorem dX10_isBetween_108 : decode cX10_isBetween 108 = .ok (.istore 12, 2) := by decide +kernel
theorem dX10_isBetween_110 : decode cX10_isBetween 110 = .ok (.iload 7, 2) := by decide +kernel
theorem dX10_isBetween_112 : decode cX10_isBetween 112 = .ok (.iload 8, 2) := by decide +kernel
theorem dX10_isBetween_114 : decode cX10_isBetween 114 = .ok (.imul, 1) := by decide +kernel
theorem dX10_isBetween_115 : decode cX10_isBetween 115 = .ok (.istore 7, 2) := by decide +kernel
theorem dX10_isBetween_117 : decode cX10_isBetween 117 = .ok (.iload 11, 2) := by decide +kernel
theorem dX10_isBetween_119 : decode cX10_isBetween 119 = .ok (.ifCond .lt 22, 3) := by decide +kernel
theorem dX10_isBetween_122 : decode cX10_isBetween 122 = .ok (.iload 11, 2) := by decide +kernel
theorem dX10_isBetween_124 : decode cX10_isBetween 124 = .ok (.iload 7, 2) := by decide +kernel
theorem dX10_isBetween_126 : decode cX10_isBetween 126 = .ok (.if_icmp .gt 15, 3) := by decide +kernel
theorem dX10_isBetween_129 : decode cX10_isBetween 129 = .ok (.iload 12, 2) := by decide +kernel
theorem dX10_isBetween_131 : decode cX10_isBetween 131 = .ok (.ifCond .lt 10, 3) := by decide +kernel
theorem dX10_isBetween_134 : decode cX10_isBetween 134 = .ok (.iload 12, 2) := by decide +kernel
theorem dX10_isBetween_136 : decode cX10_isBetween 136 = .ok (.iload 7, 2) := by decide +kernel
theorem dX10_isBetween_138 : decode cX10_isBetween 138 = .ok (.if_icmp .le 5, 3) := by decide +kernel
theorem dX10_isBetween_141 : decode cX10_isBetween 141 = .ok (.iconst 0, 1) := by decide +kernel
theorem dX10_isBetween_142 : decode cX10_isBetween 142 = .ok (.ireturn, 1) := by decide +kernel
theorem dX10_isBetween_143 : decode cX10_isBetween 143 = .ok (.aload_n 1, 1) := by decide +kernel
theorem dX10_isBetween_144 : decode cX10_isBetween 144 = .ok (.getfield 29, 3) := by decide +kernel
theorem dX10_isBetween_147 : decode cX10_isBetween 147 = .ok (.iload 7, 2) := by decide +kernel
theorem dX10_isBetween_149 : decode cX10_isBetween 149 = .ok (.imul, 1) := by decide +kernel
theorem dX10_isBetween_150 : decode cX10_isBetween 150 = .ok (.iload 4, 2) := by decide +kernel
theorem dX10_isBetween_152 : decode cX10_isBetween 152 = .ok (.aload_n 1, 1) := by decide +kernel
theorem dX10_isBetween_153 : decode cX10_isBetween 153 = .ok (.getfield 29, 3) := by decide +kernel
theorem dX10_isBetween_156 : decode cX10_isBetween 156 = .ok (.isub, 1) := by decide +kernel
theorem dX10_isBetween_157 : decode cX10_isBetween 157 = .ok (.iload 11, 2) := by decide +kernel
theorem dX10_isBetween_159 : decode cX10_isBetween 159 = .ok (.imul, 1) := by decide +kernel
theorem dX10_isBetween_160 : decode cX10_isBetween 160 = .ok (.iadd, 1) := by decide +kernel
theorem dX10_isBetween_161 : decode cX10_isBetween 161 = .ok (.aload_n 0, 1) := by decide +kernel
theorem dX10_isBetween_162 : decode cX10_isBetween 162 = .ok (.getfield 22, 3) := by decide +kernel
theorem dX10_isBetween_165 : decode cX10_isBetween 165 = .ok (.iload 7, 2) := by decide +kernel
theorem dX10_isBetween_167 : decode cX10_isBetween 167 = .ok (.imul, 1) := by decide +kernel
theorem dX10_isBetween_168 : decode cX10_isBetween 168 = .ok (.if_icmp .ge 7, 3) := by decide +kernel
theorem dX10_isBetween_171 : decode cX10_isBetween 171 = .ok (.iconst 1, 1) := by decide +kernel
theorem dX10_isBetween_172 : decode cX10_isBetween 172 = .ok (.goto 4, 3) := by decide +kernel
theorem dX10_isBetween_175 : decode cX10_isBetween 175 = .ok (.iconst 0, 1) := by decide +kernel
theorem dX10_isBetween_176 : decode cX10_isBetween 176 = .ok (.ireturn, 1) := by decide +kernel
theorem dX11_init_0 : decode cX11_init 0 = .ok (.aload_n 0, 1) := by decide +kernel
theorem dX11_init_1 : decode cX11_init 1 = .ok (.invokespecial 3, 3) := by decide +kernel
theorem dX11_init_4 : decode cX11_init 4 = .ok (.aload_n 0, 1) := by decide +kernel
theorem dX11_init_5 : decode cX11_init 5 = .ok (.new 9, 3) := by decide +kernel
theorem dX11_init_8 : decode cX11_init 8 = .ok (.dup, 1) := by decide +kernel
theorem dX11_init_9 : decode cX11_init 9 = .ok (.invokespecial 11, 3) := by decide +kernel
theorem dX11_init_12 : decode cX11_init 12 = .ok (.putfield 12, 3) := by decide +kernel
theorem dX11_init_15 : decode cX11_init 15 = .ok (.aload_n 0, 1) := by decide +kernel
theorem dX11_init_16 : decode cX11_init 16 = .ok (.new 9, 3) := by decide +kernel
theorem dX11_init_19 : decode cX11_init 19 = .ok (.dup, 1) := by decide +kernel
theorem dX11_init_20 : decode cX11_init 20 = .ok (.invokespecial 11, 3) := by decide +kernel
theorem dX11_init_23 : decode cX11_init 23 = .ok (.putfield 18, 3) := by decide +kernel
theorem dX11_init_26 : decode cX11_init 26 = .ok (.aload_n 0, 1) := by decide +kernel
theorem dX11_init_27 : decode cX11_init 27 = .ok (.iconst 0, 1) := by decide +kernel
theorem dX11_init_28 : decode cX11_init 28 = .ok (.putfield 21, 3) := by decide +kernel
theorem dX11_init_31 : decode cX11_init 31 = .ok (.aload_n 0, 1) := by decide +kernel
theorem dX11_init_32 : decode cX11_init 32 = .ok (.new 25, 3) := by decide +kernel
theorem dX11_init_35 : decode cX11_init 35 = .ok (.dup, 1) := by decide +kernel
theorem dX11_init_36 : decode cX11_init 36 = .ok (.invokespecial 27, 3) := by decide +kernel
theorem dX11_init_39 : decode cX11_init 39 = .ok (.putfield 28, 3) := by decide +kernel
theorem dX11_init_42 : decode cX11_init 42 = .ok (.aload_n 0, 1) := by decide +kernel
theorem dX11_init_43 : decode cX11_init 43 = .ok (.bipush 6, 2) := by decide +kernel
theorem dX11_init_45 : decode cX11_init 45 = .ok (.newarray .int, 2) := by decide +kernel
theorem dX11_init_47 : decode cX11_init 47 = .ok (.putfield 32, 3) := by decide +kernel
theorem dX11_init_50 : decode cX11_init 50 = .ok (.aload_n 0, 1) := by decide +kernel
theorem dX11_init_51 : decode cX11_init 51 = .ok (.bipush 9, 2) := by decide +kernel
theorem dX11_init_53 : decode cX11_init 53 = .ok (.bipush 7, 2) := by decide +kernel
theorem dX11_init_55 : decode cX11_init 55 = .ok (.multianewarray 36 2, 4) := by decide +kernel
theorem dX11_init_59 : decode cX11_init 59 = .ok (.putfield 38, 3) := by decide +kernel
theorem dX11_init_62 : decode cX11_init 62 = .ok (.aload_n 0, 1) := by decide +kernel
theorem dX11_init_63 : decode cX11_init 63 = .ok (.bipush 6, 2) := by decide +kernel
theorem dX11_init_65 : decode cX11_init 65 = .ok (.bipush 6, 2) := by decide +kernel
theorem dX11_init_67 : decode cX11_init 67 = .ok (.multianewarray 36 2, 4) := by decide +kernel
theorem dX11_init_71 : decode cX11_init 71 = .ok (.putfield 41, 3) := by decide +kernel
theorem dX11_init_74 : decode cX11_init 74 = .ok (.aload_n 0, 1) := by decide +kernel
theorem dX11_init_75 : decode cX11_init 75 = .ok (.bipush 6, 2) := by decide +kernel
theorem dX11_init_77 : decode cX11_init 77 = .ok (.bipush 6, 2) := by decide +kernel
theorem dX11_init_79 : decode cX11_init 79 = .ok (.multianewarray 36 2, 4) := by decide +kernel
theorem dX11_init_83 : decode cX11_init 83 = .ok (.putfield 44, 3) := by decide +kernel
theorem dX11_init_86 : decode cX11_init 86 = .ok (.aload_n 0, 1) := by decide +kernel
theorem dX11_init_87 : decode cX11_init 87 = .ok (.bipush 6, 2) := by decide +kernel
theorem dX11_init_89 : decode cX11_init 89 = .ok (.newarray .int, 2) := by decide +kernel
theorem dX11_init_91 : decode cX11_init 91 = .ok (.putfield 47, 3) := by decide +kernel
theorem dX11_init_94 : decode cX11_init 94 = .ok (.aload_n 0, 1) := by decide +kernel
theorem dX11_init_95 : decode cX11_init 95 = .ok (.bipush 6, 2) := by decide +kernel
theorem dX11_init_97 : decode cX11_init 97 = .ok (.newarray .int, 2) := by decide +kernel
theorem dX11_init_99 : decode cX11_init 99 = .ok (.putfield 50, 3) := by decide +kernel
theorem dX11_init_102 : decode cX11_init 102 = .ok (.return_, 1) := by decide +kernel
theorem dX11_mirror_0 : decode cX11_mirror 0 = .ok (.iload_n 1, 1) := by decide +kernel
theorem dX11_mirror_1 : decode cX11_mirror 1 = .ok (.ifCond .lt 9, 3) := by decide +kernel
theorem dX11_mirror_4 : decode cX11_mirror 4 = .ok (.iload_n 1, 1) := by decide +kernel
theorem dX11_mirror_5 : decode cX11_mirror 5 = .ok (.bipush 7, 2) := by decide +kernel
theorem dX11_mirror_7 : decode cX11_mirror 7 = .ok (.if_icmp .lt 5, 3) := by decide +kernel
theorem dX11_mirror_10 : decode cX11_mirror 10 = .ok (.iconst (-1), 1) := by decide +kernel
theorem dX11_mirror_11 : decode cX11_mirror 11 = .ok (.ireturn, 1) := by decide +kernel
theorem dX11_mirror_12 : decode cX11_mirror 12 = .ok (.iload_n 2, 1) := by decide +kernel
theorem dX11_mirror_13 : decode cX11_mirror 13 = .ok (.invokestatic 53, 3) := by decide +kernel
theorem dX11_mirror_16 : decode cX11_mirror 16 = .ok (.ifCond .eq 10, 3) := by decide +kernel
theorem dX11_mirror_19 : decode cX11_mirror 19 = .ok (.iload_n 3, 1) := by decide +kernel
theorem dX11_mirror_20 : decode cX11_mirror 20 = .ok (.invokestatic 57, 3) := by decide +kernel
theorem dX11_mirror_23 : decode cX11_mirror 23 = .ok (.ifCond .ne 6, 3) := by decide +kernel
theorem dX11_mirror_26 : decode cX11_mirror 26 = .ok (.bipush (-2), 2) := by decide +kernel
theorem dX11_mirror_28 : decode cX11_mirror 28 = .ok (.ireturn, 1) := by decide +kernel
theorem dX11_mirror_29 : decode cX11_mirror 29 = .ok (.aload_n 0, 1) := by decide +kernel
theorem dX11_mirror_30 : decode cX11_mirror 30 = .ok (.getfield 12, 3) := by decide +kernel
theorem dX11_mirror_33 : decode cX11_mirror 33 = .ok (.getfield 60, 3) := by decide +kernel
theorem dX11_mirror_36 : decode cX11_mirror 36 = .ok (.bipush 6, 2) := by decide +kernel
theorem dX11_mirror_38 : decode cX11_mirror 38 = .ok (.if_icmp .lt 6, 3) := by decide +kernel
theorem dX11_mirror_41 : decode cX11_mirror 41 = .ok (.bipush (-4), 2) := by decide +kernel
theorem dX11_mirror_43 : decode cX11_mirror 43 = .ok (.ireturn, 1) := by decide +kernel
theorem dX11_mirror_44 : decode cX11_mirror 44 = .ok (.aload_n 0, 1) := by decide +kernel
theorem dX11_mirror_45 : decode cX11_mirror 45 = .ok (.getfield 12, 3) := by decide +kernel
theorem dX11_mirror_48 : decode cX11_mirror 48 = .ok (.getfield 60, 3) := by decide +kernel
theorem dX11_mirror_51 : decode cX11_mirror 51 = .ok (.istore 4, 2) := by decide +kernel
theorem dX11_mirror_53 : decode cX11_mirror 53 = .ok (.aload_n 0, 1) := by decide +kernel
theorem dX11_mirror_54 : decode cX11_mirror 54 = .ok (.getfield 12, 3) := by decide +kernel
theorem dX11_mirror_57 : decode cX11_mirror 57 = .ok (.getfield 64, 3) := by decide +kernel
theorem dX11_mirror_60 : decode cX11_mirror 60 = .ok (.iload 4, 2) := by decide +kernel
theorem dX11_mirror_62 : decode cX11_mirror 62 = .ok (.iload_n 1, 1) := by decide +kernel
theorem dX11_mirror_63 : decode cX11_mirror 63 = .ok (.iload 4, 2) := by decide +kernel
theorem dX11_mirror_65 : decode cX11_mirror 65 = .ok (.iload_n 2, 1) := by decide +kernel
theorem dX11_mirror_66 : decode cX11_mirror 66 = .ok (.iload_n 3, 1) := by decide +kernel
theorem dX11_mirror_67 : decode cX11_mirror 67 = .ok (.invokestatic 68, 3) := by decide +kernel
theorem dX11_mirror_70 : decode cX11_mirror 70 = .ok (.aastore, 1) := by decide +kernel
theorem dX11_mirror_71 : decode cX11_mirror 71 = .ok (.aload_n 0, 1) := by decide +kernel
theorem dX11_mirror_72 : decode cX11_mirror 72 = .ok (.getfield 12, 3) := by decide +kernel
theorem dX11_mirror_75 : decode cX11_mirror 75 = .ok (.dup, 1) := by decide +kernel
theorem dX11_mirror_76 : decode cX11_mirror 76 = .ok (.getfield 60, 3) := by decide +kernel
theorem dX11_mirror_79 : decode cX11_mirror 79 = .ok (.iconst 1, 1) := by decide +kernel
theorem dX11_mirror_80 : decode cX11_mirror 80 = .ok (.iadd, 1) := by decide +kernel
theorem dX11_mirror_81 : decode cX11_mirror 81 = .ok (.putfield 60, 3) := by decide +kernel
theorem dX11_mirror_84 : decode cX11_mirror 84 = .ok (.iload 4, 2) := by decide +kernel
theorem dX11_mirror_86 : decode cX11_mirror 86 = .ok (.ireturn, 1) := by decide +kernel
theorem dX11_patch_0 : decode cX11_patch 0 = .ok (.iload_n 1, 1) := by decide +kernel
theorem dX11_patch_1 : decode cX11_patch 1 = .ok (.invokestatic 53, 3) := by decide +kernel
theorem dX11_patch_4 : decode cX11_patch 4 = .ok (.ifCond .eq 23, 3) := by decide +kernel
theorem dX11_patch_7 : decode cX11_patch 7 = .ok (.iload_n 2, 1) := by decide +kernel
theorem dX11_patch_8 : decode cX11_patch 8 = .ok (.iconst 0, 1) := by decide +kernel
theorem dX11_patch_9 : decode cX11_patch 9 = .ok (.bipush 20, 2) := by decide +kernel
theorem dX11_patch_11 : decode cX11_patch 11 = .ok (.invokestatic 72, 3) := by decide +kernel
theorem dX11_patch_14 : decode cX11_patch 14 = .ok (.ifCond .eq 13, 3) := by decide +kernel
theorem dX11_patch_17 : decode cX11_patch 17 = .ok (.iload_n 3, 1) := by decide +kernel
theorem dX11_patch_18 : decode cX11_patch 18 = .ok (.iconst 0, 1) := by decide +kernel
theorem dX11_patch_19 : decode cX11_patch 19 = .ok (.bipush 20, 2) := by decide +kernel
theorem dX11_patch_21 : decode cX11_patch 21 = .ok (.invokestatic 72, 3) := by decide +kernel
theorem dX11_patch_24 : decode cX11_patch 24 = .ok (.ifCond .ne 6, 3) := by decide +kernel
theorem dX11_patch_27 : decode cX11_patch 27 = .ok (.bipush (-2), 2) := by decide +kernel
theorem dX11_patch_29 : decode cX11_patch 29 = .ok (.ireturn, 1) := by decide +kernel
theorem dX11_patch_30 : decode cX11_patch 30 = .ok (.aload_n 0, 1) := by decide +kernel
theorem dX11_patch_31 : decode cX11_patch 31 = .ok (.getfield 12, 3) := by decide +kernel
theorem dX11_patch_34 : decode cX11_patch 34 = .ok (.getfield 76, 3) := by decide +kernel
theorem dX11_patch_37 : decode cX11_patch 37 = .ok (.bipush 6, 2) := by decide +kernel
theorem dX11_patch_39 : decode cX11_patch 39 = .ok (.if_icmp .lt 6, 3) := by decide +kernel
theorem dX11_patch_42 : decode cX11_patch 42 = .ok (.bipush (-4), 2) := by decide +kernel
theorem dX11_patch_44 : decode cX11_patch 44 = .ok (.ireturn, 1) := by decide +kernel
theorem dX11_patch_45 : decode cX11_patch 45 = .ok (.aload_n 0, 1) := by decide +kernel
theorem dX11_patch_46 : decode cX11_patch 46 = .ok (.getfield 12, 3) := by decide +kernel
theorem dX11_patch_49 : decode cX11_patch 49 = .ok (.getfield 76, 3) := by decide +kernel
theorem dX11_patch_52 : decode cX11_patch 52 = .ok (.istore 4, 2) := by decide +kernel
theorem dX11_patch_54 : decode cX11_patch 54 = .ok (.aload_n 0, 1) := by decide +kernel
theorem dX11_patch_55 : decode cX11_patch 55 = .ok (.getfield 12, 3) := by decide +kernel
theorem dX11_patch_58 : decode cX11_patch 58 = .ok (.getfield 79, 3) := by decide +kernel
theorem dX11_patch_61 : decode cX11_patch 61 = .ok (.iload 4, 2) := by decide +kernel
theorem dX11_patch_63 : decode cX11_patch 63 = .ok (.aaload, 1) := by decide +kernel
theorem dX11_patch_64 : decode cX11_patch 64 = .ok (.astore 5, 2) := by decide +kernel
theorem dX11_patch_66 : decode cX11_patch 66 = .ok (.aload 5, 2) := by decide +kernel
theorem dX11_patch_68 : decode cX11_patch 68 = .ok (.iconst 0, 1) := by decide +kernel
theorem dX11_patch_69 : decode cX11_patch 69 = .ok (.iload_n 1, 1) := by decide +kernel
theorem dX11_patch_70 : decode cX11_patch 70 = .ok (.bipush 100, 2) := by decide +kernel
theorem dX11_patch_72 : decode cX11_patch 72 = .ok (.idiv, 1) := by decide +kernel
theorem dX11_patch_73 : decode cX11_patch 73 = .ok (.iastore, 1) := by decide +kernel
theorem dX11_patch_74 : decode cX11_patch 74 = .ok (.aload 5, 2) := by decide +kernel
theorem dX11_patch_76 : decode cX11_patch 76 = .ok (.iconst 1, 1) := by decide +kernel
theorem dX11_patch_77 : decode cX11_patch 77 = .ok (.iload_n 1, 1) := by decide +kernel
theorem dX11_patch_78 : decode cX11_patch 78 = .ok (.bipush 100, 2) := by decide +kernel
theorem dX11_patch_80 : decode cX11_patch 80 = .ok (.irem, 1) := by decide +kernel
theorem dX11_patch_81 : decode cX11_patch 81 = .ok (.iastore, 1) := by decide +kernel
theorem dX11_patch_82 : decode cX11_patch 82 = .ok (.aload 5, 2) := by decide +kernel
theorem dX11_patch_84 : decode cX11_patch 84 = .ok (.iconst 2, 1) := by decide +kernel
theorem dX11_patch_85 : decode cX11_patch 85 = .ok (.iload_n 2, 1) := by decide +kernel
theorem dX11_patch_86 : decode cX11_patch 86 = .ok (.iastore, 1) := by decide +kernel
theorem dX11_patch_87 : decode cX11_patch 87 = .ok (.aload 5, 2) := by decide +kernel
theorem dX11_patch_89 : decode cX11_patch 89 = .ok (.iconst 3, 1) := by decide +kernel
theorem dX11_patch_90 : decode cX11_patch 90 = .ok (.iload_n 3, 1) := by decide +kernel
theorem dX11_patch_91 : decode cX11_patch 91 = .ok (.iastore, 1) := by decide +kernel
theorem dX11_patch_92 : decode cX11_patch 92 = .ok (.aload_n 0, 1) := by decide +kernel
theorem dX11_patch_93 : decode cX11_patch 93 = .ok (.getfield 12, 3) := by decide +kernel
theorem dX11_patch_96 : decode cX11_patch 96 = .ok (.dup, 1) := by decide +kernel
theorem dX11_patch_97 : decode cX11_patch 97 = .ok (.getfield 76, 3) := by decide +kernel
theorem dX11_patch_100 : decode cX11_patch 100 = .ok (.iconst 1, 1) := by decide +kernel
theorem dX11_patch_101 : decode cX11_patch 101 = .ok (.iadd, 1) := by decide +kernel
theorem dX11_patch_102 : decode cX11_patch 102 = .ok (.putfield 76, 3) := by decide +kernel
theorem dX11_patch_105 : decode cX11_patch 105 = .ok (.iload 4, 2) := by decide +kernel
theorem dX11_patch_107 : decode cX11_patch 107 = .ok (.ireturn, 1) := by decide +kernel
theorem dX11_wall_0 : decode cX11_wall 0 = .ok (.iload_n 1, 1) := by decide +kernel
theorem dX11_wall_1 : decode cX11_wall 1 = .ok (.invokestatic 53, 3) := by decide +kernel
theorem dX11_wall_4 : decode cX11_wall 4 = .ok (.ifCond .eq 20, 3) := by decide +kernel
theorem dX11_wall_7 : decode cX11_wall 7 = .ok (.iload_n 2, 1) := by decide +kernel
theorem dX11_wall_8 : decode cX11_wall 8 = .ok (.invokestatic 53, 3) := by decide +kernel
theorem dX11_wall_11 : decode cX11_wall 11 = .ok (.ifCond .eq 13, 3) := by decide +kernel
theorem dX11_wall_14 : decode cX11_wall 14 = .ok (.iload_n 3, 1) := by decide +kernel
theorem dX11_wall_15 : decode cX11_wall 15 = .ok (.iconst 1, 1) := by decide +kernel
theorem dX11_wall_16 : decode cX11_wall 16 = .ok (.bipush 40, 2) := by decide +kernel
theorem dX11_wall_18 : decode cX11_wall 18 = .ok (.invokestatic 72, 3) := by decide +kernel
theorem dX11_wall_21 : decode cX11_wall 21 = .ok (.ifCond .ne 6, 3) := by decide +kernel
theorem dX11_wall_24 : decode cX11_wall 24 = .ok (.bipush (-2), 2) := by decide +kernel
theorem dX11_wall_26 : decode cX11_wall 26 = .ok (.ireturn, 1) := by decide +kernel
theorem dX11_wall_27 : decode cX11_wall 27 = .ok (.aload_n 0, 1) := by decide +kernel
theorem dX11_wall_28 : decode cX11_wall 28 = .ok (.getfield 12, 3) := by decide +kernel
theorem dX11_wall_31 : decode cX11_wall 31 = .ok (.getfield 82, 3) := by decide +kernel
theorem dX11_wall_34 : decode cX11_wall 34 = .ok (.bipush 8, 2) := by decide +kernel
theorem dX11_wall_36 : decode cX11_wall 36 = .ok (.if_icmp .lt 6, 3) := by decide +kernel
theorem dX11_wall_39 : decode cX11_wall 39 = .ok (.bipush (-4), 2) := by decide +kernel
theorem dX11_wall_41 : decode cX11_wall 41 = .ok (.ireturn, 1) := by decide +kernel
theorem dX11_wall_42 : decode cX11_wall 42 = .ok (.aload_n 0, 1) := by decide +kernel
theorem dX11_wall_43 : decode cX11_wall 43 = .ok (.getfield 12, 3) := by decide +kernel
theorem dX11_wall_46 : decode cX11_wall 46 = .ok (.getfield 82, 3) := by decide +kernel
theorem dX11_wall_49 : decode cX11_wall 49 = .ok (.istore 4, 2) := by decide +kernel
theorem dX11_wall_51 : decode cX11_wall 51 = .ok (.aload_n 0, 1) := by decide +kernel
theorem dX11_wall_52 : decode cX11_wall 52 = .ok (.getfield 12, 3) := by decide +kernel
theorem dX11_wall_55 : decode cX11_wall 55 = .ok (.getfield 85, 3) := by decide +kernel
theorem dX11_wall_58 : decode cX11_wall 58 = .ok (.iload 4, 2) := by decide +kernel
theorem dX11_wall_60 : decode cX11_wall 60 = .ok (.new 89, 3) := by decide +kernel
theorem dX11_wall_63 : decode cX11_wall 63 = .ok (.dup, 1) := by decide +kernel
theorem dX11_wall_64 : decode cX11_wall 64 = .ok (.iload_n 1, 1) := by decide +kernel
theorem dX11_wall_65 : decode cX11_wall 65 = .ok (.iload_n 2, 1) := by decide +kernel
theorem dX11_wall_66 : decode cX11_wall 66 = .ok (.iload_n 3, 1) := by decide +kernel
theorem dX11_wall_67 : decode cX11_wall 67 = .ok (.invokespecial 91, 3) := by decide +kernel
theorem dX11_wall_70 : decode cX11_wall 70 = .ok (.aastore, 1) := by decide +kernel
theorem dX11_wall_71 : decode cX11_wall 71 = .ok (.aload_n 0, 1) := by decide +kernel
theorem dX11_wall_72 : decode cX11_wall 72 = .ok (.getfield 12, 3) := by decide +kernel
theorem dX11_wall_75 : decode cX11_wall 75 = .ok (.dup, 1) := by decide +kernel
theorem dX11_wall_76 : decode cX11_wall 76 = .ok (.getfield 82, 3) := by decide +kernel
theorem dX11_wall_79 : decode cX11_wall 79 = .ok (.iconst 1, 1) := by decide +kernel
theorem dX11_wall_80 : decode cX11_wall 80 = .ok (.iadd, 1) := by decide +kernel
theorem dX11_wall_81 : decode cX11_wall 81 = .ok (.putfield 82, 3) := by decide +kernel
theorem dX11_wall_84 : decode cX11_wall 84 = .ok (.iload 4, 2) := by decide +kernel
theorem dX11_wall_86 : decode cX11_wall 86 = .ok (.ireturn, 1) := by decide +kernel
theorem dX11_of_0 : decode cX11_of 0 = .ok (.aload_n 0, 1) := by decide +kernel
theorem dX11_of_1 : decode cX11_of 1 = .ok (.getfield 12, 3) := by decide +kernel
theorem dX11_of_4 : decode cX11_of 4 = .ok (.iload_n 1, 1) := by decide +kernel
theorem dX11_of_5 : decode cX11_of 5 = .ok (.invokevirtual 94, 3) := by decide +kernel
theorem dX11_of_8 : decode cX11_of 8 = .ok (.astore_n 3, 1) := by decide +kernel
theorem dX11_of_9 : decode cX11_of 9 = .ok (.aload_n 3, 1) := by decide +kernel
theorem dX11_of_10 : decode cX11_of 10 = .ok (.ifnull 13, 3) := by decide +kernel
theorem dX11_of_13 : decode cX11_of 13 = .ok (.iload_n 2, 1) := by decide +kernel
theorem dX11_of_14 : decode cX11_of 14 = .ok (.ifCond .lt 9, 3) := by decide +kernel
theorem dX11_of_17 : decode cX11_of 17 = .ok (.iload_n 2, 1) := by decide +kernel
theorem dX11_of_18 : decode cX11_of 18 = .ok (.bipush 7, 2) := by decide +kernel
theorem dX11_of_20 : decode cX11_of 20 = .ok (.if_icmp .lt 5, 3) := by decide +kernel
theorem dX11_of_23 : decode cX11_of 23 = .ok (.iconst (-1), 1) := by decide +kernel
theorem dX11_of_24 : decode cX11_of 24 = .ok (.ireturn, 1) := by decide +kernel
theorem dX11_of_25 : decode cX11_of 25 = .ok (.aload_n 3, 1) := by decide +kernel
theorem dX11_of_26 : decode cX11_of 26 = .ok (.iload_n 2, 1) := by decide +kernel
theorem dX11_of_27 : decode cX11_of 27 = .ok (.invokevirtual 98, 3) := by decide +kernel
theorem dX11_of_30 : decode cX11_of 30 = .ok (.ireturn, 1) := by decide +kernel
theorem dX11_is_0 : decode cX11_is 0 = .ok (.aload_n 0, 1) := by decide +kernel
theorem dX11_is_1 : decode cX11_is 1 = .ok (.getfield 12, 3) := by decide +kernel
theorem dX11_is_4 : decode cX11_is 4 = .ok (.iload_n 1, 1) := by decide +kernel
theorem dX11_is_5 : decode cX11_is 5 = .ok (.invokevirtual 104, 3) := by decide +kernel
theorem dX11_is_8 : decode cX11_is 8 = .ok (.ifCond .eq 12, 3) := by decide +kernel
theorem dX11_is_11 : decode cX11_is 11 = .ok (.iload_n 2, 1) := by decide +kernel
theorem dX11_is_12 : decode cX11_is 12 = .ok (.ifCond .lt 8, 3) := by decide +kernel
theorem dX11_is_15 : decode cX11_is 15 = .ok (.iload_n 2, 1) := by decide +kernel
theorem dX11_is_16 : decode cX11_is 16 = .ok (.iconst 4, 1) := by decide +kernel
theorem dX11_is_17 : decode cX11_is 17 = .ok (.if_icmp .lt 5, 3) := by decide +kernel
theorem dX11_is_20 : decode cX11_is 20 = .ok (.iconst (-1), 1) := by decide +kernel
theorem dX11_is_21 : decode cX11_is 21 = .ok (.ireturn, 1) := by decide +kernel
theorem dX11_is_22 : decode cX11_is 22 = .ok (.aload_n 0, 1) := by decide +kernel
theorem dX11_is_23 : decode cX11_is 23 = .ok (.getfield 12, 3) := by decide +kernel
theorem dX11_is_26 : decode cX11_is 26 = .ok (.getfield 79, 3) := by decide +kernel
theorem dX11_is_29 : decode cX11_is 29 = .ok (.iload_n 1, 1) := by decide +kernel
theorem dX11_is_30 : decode cX11_is 30 = .ok (.aaload, 1) := by decide +kernel
theorem dX11_is_31 : decode cX11_is 31 = .ok (.iload_n 2, 1) := by decide +kernel
theorem dX11_is_32 : decode cX11_is 32 = .ok (.iaload, 1) := by decide +kernel
theorem dX11_is_33 : decode cX11_is 33 = .ok (.ireturn, 1) := by decide +kernel
theorem dX11_feed_0 : decode cX11_feed 0 = .ok (.iload_n 3, 1) := by decide +kernel
theorem dX11_feed_1 : decode cX11_feed 1 = .ok (.iconst 1, 1) := by decide +kernel
theorem dX11_feed_2 : decode cX11_feed 2 = .ok (.if_icmp .lt 9, 3) := by decide +kernel
theorem dX11_feed_5 : decode cX11_feed 5 = .ok (.iload_n 3, 1) := by decide +kernel
theorem dX11_feed_6 : decode cX11_feed 6 = .ok (.bipush 8, 2) := by decide +kernel
theorem dX11_feed_8 : decode cX11_feed 8 = .ok (.if_icmp .le 6, 3) := by decide +kernel
theorem dX11_feed_11 : decode cX11_feed 11 = .ok (.bipush (-2), 2) := by decide +kernel
theorem dX11_feed_13 : decode cX11_feed 13 = .ok (.ireturn, 1) := by decide +kernel
theorem dX11_feed_14 : decode cX11_feed 14 = .ok (.aload_n 0, 1) := by decide +kernel
theorem dX11_feed_15 : decode cX11_feed 15 = .ok (.getfield 12, 3) := by decide +kernel
theorem dX11_feed_18 : decode cX11_feed 18 = .ok (.getfield 107, 3) := by decide +kernel
theorem dX11_feed_21 : decode cX11_feed 21 = .ok (.iload_n 3, 1) := by decide +kernel
theorem dX11_feed_22 : decode cX11_feed 22 = .ok (.iadd, 1) := by decide +kernel
theorem dX11_feed_23 : decode cX11_feed 23 = .ok (.bipush 120, 2) := by decide +kernel
theorem dX11_feed_25 : decode cX11_feed 25 = .ok (.if_icmp .le 6, 3) := by decide +kernel
theorem dX11_feed_28 : decode cX11_feed 28 = .ok (.bipush (-4), 2) := by decide +kernel
theorem dX11_feed_30 : decode cX11_feed 30 = .ok (.ireturn, 1) := by decide +kernel
theorem dX11_feed_31 : decode cX11_feed 31 = .ok (.iload_n 3, 1) := by decide +kernel
theorem dX11_feed_32 : decode cX11_feed 32 = .ok (.iconst 1, 1) := by decide +kernel
theorem dX11_feed_33 : decode cX11_feed 33 = .ok (.isub, 1) := by decide +kernel
theorem dX11_feed_34 : decode cX11_feed 34 = .ok (.istore 4, 2) := by decide +kernel
theorem dX11_feed_36 : decode cX11_feed 36 = .ok (.iload 4, 2) := by decide +kernel
theorem dX11_feed_38 : decode cX11_feed 38 = .ok (.ifCond .lt 46, 3) := by decide +kernel
theorem dX11_feed_41 : decode cX11_feed 41 = .ok (.aload_n 0, 1) := by decide +kernel
theorem dX11_feed_42 : decode cX11_feed 42 = .ok (.getfield 12, 3) := by decide +kernel
theorem dX11_feed_45 : decode cX11_feed 45 = .ok (.getfield 110, 3) := by decide +kernel
theorem dX11_feed_48 : decode cX11_feed 48 = .ok (.aload_n 0, 1) := by decide +kernel
theorem dX11_feed_49 : decode cX11_feed 49 = .ok (.getfield 12, 3) := by decide +kernel
theorem dX11_feed_52 : decode cX11_feed 52 = .ok (.getfield 107, 3) := by decide +kernel
theorem dX11_feed_55 : decode cX11_feed 55 = .ok (.lload_n 1, 1) := by decide +kernel
theorem dX11_feed_56 : decode cX11_feed 56 = .ok (.bipush 8, 2) := by decide +kernel
theorem dX11_feed_58 : decode cX11_feed 58 = .ok (.iload 4, 2) := by decide +kernel
theorem dX11_feed_60 : decode cX11_feed 60 = .ok (.imul, 1) := by decide +kernel
theorem dX11_feed_61 : decode cX11_feed 61 = .ok (.lushr, 1) := by decide +kernel
theorem dX11_feed_62 : decode cX11_feed 62 = .ok (.l2i, 1) := by decide +kernel
theorem dX11_feed_63 : decode cX11_feed 63 = .ok (.i2b, 1) := by decide +kernel
theorem dX11_feed_64 : decode cX11_feed 64 = .ok (.bastore, 1) := by decide +kernel
theorem dX11_feed_65 : decode cX11_feed 65 = .ok (.aload_n 0, 1) := by decide +kernel
theorem dX11_feed_66 : decode cX11_feed 66 = .ok (.getfield 12, 3) := by decide +kernel
theorem dX11_feed_69 : decode cX11_feed 69 = .ok (.dup, 1) := by decide +kernel
theorem dX11_feed_70 : decode cX11_feed 70 = .ok (.getfield 107, 3) := by decide +kernel
theorem dX11_feed_73 : decode cX11_feed 73 = .ok (.iconst 1, 1) := by decide +kernel
theorem dX11_feed_74 : decode cX11_feed 74 = .ok (.iadd, 1) := by decide +kernel
theorem dX11_feed_75 : decode cX11_feed 75 = .ok (.putfield 107, 3) := by decide +kernel
theorem dX11_feed_78 : decode cX11_feed 78 = .ok (.iinc 4 (-1), 3) := by decide +kernel
theorem dX11_feed_81 : decode cX11_feed 81 = .ok (.goto (-45), 3) := by decide +kernel
theorem dX11_feed_84 : decode cX11_feed 84 = .ok (.aload_n 0, 1) := by decide +kernel
theorem dX11_feed_85 : decode cX11_feed 85 = .ok (.getfield 12, 3) := by decide +kernel
theorem dX11_feed_88 : decode cX11_feed 88 = .ok (.getfield 107, 3) := by decide +kernel
theorem dX11_feed_91 : decode cX11_feed 91 = .ok (.ireturn, 1) := by decide +kernel
theorem dX11_valley_0 : decode cX11_valley 0 = .ok (.aload_n 0, 1) := by decide +kernel
theorem dX11_valley_1 : decode cX11_valley 1 = .ok (.getfield 12, 3) := by decide +kernel
theorem dX11_valley_4 : decode cX11_valley 4 = .ok (.getfield 114, 3) := by decide +kernel
theorem dX11_valley_7 : decode cX11_valley 7 = .ok (.iconst 5, 1) := by decide +kernel
theorem dX11_valley_8 : decode cX11_valley 8 = .ok (.if_icmp .lt 6, 3) := by decide +kernel
theorem dX11_valley_11 : decode cX11_valley 11 = .ok (.bipush (-4), 2) := by decide +kernel
theorem dX11_valley_13 : decode cX11_valley 13 = .ok (.ireturn, 1) := by decide +kernel
theorem dX11_valley_14 : decode cX11_valley 14 = .ok (.new 117, 3) := by decide +kernel
theorem dX11_valley_17 : decode cX11_valley 17 = .ok (.dup, 1) := by decide +kernel
theorem dX11_valley_18 : decode cX11_valley 18 = .ok (.invokespecial 119, 3) := by decide +kernel
theorem dX11_valley_21 : decode cX11_valley 21 = .ok (.astore_n 1, 1) := by decide +kernel
theorem dX11_valley_22 : decode cX11_valley 22 = .ok (.aload_n 1, 1) := by decide +kernel
theorem dX11_valley_23 : decode cX11_valley 23 = .ok (.aload_n 0, 1) := by decide +kernel
theorem dX11_valley_24 : decode cX11_valley 24 = .ok (.getfield 12, 3) := by decide +kernel
theorem dX11_valley_27 : decode cX11_valley 27 = .ok (.getfield 110, 3) := by decide +kernel
theorem dX11_valley_30 : decode cX11_valley 30 = .ok (.aload_n 0, 1) := by decide +kernel
theorem dX11_valley_31 : decode cX11_valley 31 = .ok (.getfield 12, 3) := by decide +kernel
theorem dX11_valley_34 : decode cX11_valley 34 = .ok (.getfield 107, 3) := by decide +kernel
theorem dX11_valley_37 : decode cX11_valley 37 = .ok (.invokevirtual 120, 3) := by decide +kernel
theorem dX11_valley_40 : decode cX11_valley 40 = .ok (.istore_n 2, 1) := by decide +kernel
theorem dX11_valley_41 : decode cX11_valley 41 = .ok (.aload_n 0, 1) := by decide +kernel
theorem dX11_valley_42 : decode cX11_valley 42 = .ok (.getfield 12, 3) := by decide +kernel
theorem dX11_valley_45 : decode cX11_valley 45 = .ok (.iconst 0, 1) := by decide +kernel
theorem dX11_valley_46 : decode cX11_valley 46 = .ok (.putfield 107, 3) := by decide +kernel
theorem dX11_valley_49 : decode cX11_valley 49 = .ok (.iload_n 2, 1) := by decide +kernel
theorem dX11_valley_50 : decode cX11_valley 50 = .ok (.ifCond .lt 8, 3) := by decide +kernel
theorem dX11_valley_53 : decode cX11_valley 53 = .ok (.bipush (-10), 2) := by decide +kernel
theorem dX11_valley_55 : decode cX11_valley 55 = .ok (.iload_n 2, 1) := by decide +kernel
theorem dX11_valley_56 : decode cX11_valley 56 = .ok (.isub, 1) := by decide +kernel
theorem dX11_valley_57 : decode cX11_valley 57 = .ok (.ireturn, 1) := by decide +kernel
theorem dX11_valley_58 : decode cX11_valley 58 = .ok (.aload_n 0, 1) := by decide +kernel
theorem dX11_valley_59 : decode cX11_valley 59 = .ok (.getfield 12, 3) := by decide +kernel
theorem dX11_valley_62 : decode cX11_valley 62 = .ok (.aload_n 1, 1) := by decide +kernel
theorem dX11_valley_63 : decode cX11_valley 63 = .ok (.putfield 124, 3) := by decide +kernel
theorem dX11_valley_66 : decode cX11_valley 66 = .ok (.aload_n 0, 1) := by decide +kernel
theorem dX11_valley_67 : decode cX11_valley 67 = .ok (.getfield 12, 3) := by decide +kernel
theorem dX11_valley_70 : decode cX11_valley 70 = .ok (.dup, 1) := by decide +kernel
theorem dX11_valley_71 : decode cX11_valley 71 = .ok (.getfield 114, 3) := by decide +kernel
theorem dX11_valley_74 : decode cX11_valley 74 = .ok (.iconst 1, 1) := by decide +kernel
theorem dX11_valley_75 : decode cX11_valley 75 = .ok (.iadd, 1) := by decide +kernel
theorem dX11_valley_76 : decode cX11_valley 76 = .ok (.putfield 114, 3) := by decide +kernel
theorem dX11_valley_79 : decode cX11_valley 79 = .ok (.aload_n 0, 1) := by decide +kernel
theorem dX11_valley_80 : decode cX11_valley 80 = .ok (.getfield 12, 3) := by decide +kernel
theorem dX11_valley_83 : decode cX11_valley 83 = .ok (.getfield 114, 3) := by decide +kernel
theorem dX11_valley_86 : decode cX11_valley 86 = .ok (.iconst 1, 1) := by decide +kernel
theorem dX11_valley_87 : decode cX11_valley 87 = .ok (.isub, 1) := by decide +kernel
theorem dX11_valley_88 : decode cX11_valley 88 = .ok (.ireturn, 1) := by decide +kernel
theorem dX11_free_0 : decode cX11_free 0 = .ok (.aload_n 0, 1) := by decide +kernel
theorem dX11_free_1 : decode cX11_free 1 = .ok (.getfield 12, 3) := by decide +kernel
theorem dX11_free_4 : decode cX11_free 4 = .ok (.iload_n 1, 1) := by decide +kernel
theorem dX11_free_5 : decode cX11_free 5 = .ok (.invokevirtual 94, 3) := by decide +kernel
theorem dX11_free_8 : decode cX11_free 8 = .ok (.astore_n 3, 1) := by decide +kernel
theorem dX11_free_9 : decode cX11_free 9 = .ok (.aload_n 3, 1) := by decide +kernel
theorem dX11_free_10 : decode cX11_free 10 = .ok (.ifnull 14, 3) := by decide +kernel
theorem dX11_free_13 : decode cX11_free 13 = .ok (.aload_n 0, 1) := by decide +kernel
theorem dX11_free_14 : decode cX11_free 14 = .ok (.getfield 12, 3) := by decide +kernel
theorem dX11_free_17 : decode cX11_free 17 = .ok (.iload_n 2, 1) := by decide +kernel
theorem dX11_free_18 : decode cX11_free 18 = .ok (.invokevirtual 104, 3) := by decide +kernel
theorem dX11_free_21 : decode cX11_free 21 = .ok (.ifCond .ne 5, 3) := by decide +kernel
theorem dX11_free_24 : decode cX11_free 24 = .ok (.iconst (-1), 1) := by decide +kernel
theorem dX11_free_25 : decode cX11_free 25 = .ok (.ireturn, 1) := by decide +kernel
theorem dX11_free_26 : decode cX11_free 26 = .ok (.aload_n 0, 1) := by decide +kernel
theorem dX11_free_27 : decode cX11_free 27 = .ok (.getfield 12, 3) := by decide +kernel
theorem dX11_free_30 : decode cX11_free 30 = .ok (.aload_n 3, 1) := by decide +kernel
theorem dX11_free_31 : decode cX11_free 31 = .ok (.iload_n 2, 1) := by decide +kernel
theorem dX11_free_32 : decode cX11_free 32 = .ok (.invokevirtual 128, 3) := by decide +kernel
theorem dX11_free_35 : decode cX11_free 35 = .ok (.ifCond .eq 7, 3) := by decide +kernel
theorem dX11_free_38 : decode cX11_free 38 = .ok (.iconst 1, 1) := by decide +kernel
theorem dX11_free_39 : decode cX11_free 39 = .ok (.goto 4, 3) := by decide +kernel
theorem dX11_free_42 : decode cX11_free 42 = .ok (.iconst 0, 1) := by decide +kernel
theorem dX11_free_43 : decode cX11_free 43 = .ok (.ireturn, 1) := by decide +kernel
theorem dX11_can_0 : decode cX11_can 0 = .ok (.aload_n 0, 1) := by decide +kernel
theorem dX11_can_1 : decode cX11_can 1 = .ok (.getfield 12, 3) := by decide +kernel
theorem dX11_can_4 : decode cX11_can 4 = .ok (.iload_n 1, 1) := by decide +kernel
theorem dX11_can_5 : decode cX11_can 5 = .ok (.invokevirtual 94, 3) := by decide +kernel
theorem dX11_can_8 : decode cX11_can 8 = .ok (.astore 4, 2) := by decide +kernel
theorem dX11_can_10 : decode cX11_can 10 = .ok (.aload 4, 2) := by decide +kernel
theorem dX11_can_12 : decode cX11_can 12 = .ok (.ifnull 23, 3) := by decide +kernel
theorem dX11_can_15 : decode cX11_can 15 = .ok (.aload_n 0, 1) := by decide +kernel
theorem dX11_can_16 : decode cX11_can 16 = .ok (.getfield 12, 3) := by decide +kernel
theorem dX11_can_19 : decode cX11_can 19 = .ok (.iload_n 2, 1) := by decide +kernel
theorem dX11_can_20 : decode cX11_can 20 = .ok (.invokevirtual 104, 3) := by decide +kernel
theorem dX11_can_23 : decode cX11_can 23 = .ok (.ifCond .eq 12, 3) := by decide +kernel
theorem dX11_can_26 : decode cX11_can 26 = .ok (.iload_n 3, 1) := by decide +kernel
theorem dX11_can_27 : decode cX11_can 27 = .ok (.ifCond .lt 8, 3) := by decide +kernel
theorem dX11_can_30 : decode cX11_can 30 = .ok (.iload_n 3, 1) := by decide +kernel
theorem dX11_can_31 : decode cX11_can 31 = .ok (.iconst 1, 1) := by decide +kernel
theorem dX11_can_32 : decode cX11_can 32 = .ok (.if_icmp .le 5, 3) := by decide +kernel
theorem dX11_can_35 : decode cX11_can 35 = .ok (.iconst (-1), 1) := by decide +kernel
theorem dX11_can_36 : decode cX11_can 36 = .ok (.ireturn, 1) := by decide +kernel
theorem dX11_can_37 : decode cX11_can 37 = .ok (.iload_n 3, 1) := by decide +kernel
theorem dX11_can_38 : decode cX11_can 38 = .ok (.ifCond .ne 15, 3) := by decide +kernel
theorem dX11_can_41 : decode cX11_can 41 = .ok (.aload_n 0, 1) := by decide +kernel
theorem dX11_can_42 : decode cX11_can 42 = .ok (.getfield 12, 3) := by decide +kernel
theorem dX11_can_45 : decode cX11_can 45 = .ok (.aload 4, 2) := by decide +kernel
theorem dX11_can_47 : decode cX11_can 47 = .ok (.invokevirtual 132, 3) := by decide +kernel
theorem dX11_can_50 : decode cX11_can 50 = .ok (.goto 20, 3) := by decide +kernel
theorem dX11_can_53 : decode cX11_can 53 = .ok (.aload_n 0, 1) := by decide +kernel
theorem dX11_can_54 : decode cX11_can 54 = .ok (.getfield 12, 3) := by decide +kernel
theorem dX11_can_57 : decode cX11_can 57 = .ok (.aload 4, 2) := by decide +kernel
theorem dX11_can_59 : decode cX11_can 59 = .ok (.iload_n 2, 1) := by decide +kernel
theorem dX11_can_60 : decode cX11_can 60 = .ok (.aload_n 0, 1) := by decide +kernel
theorem dX11_can_61 : decode cX11_can 61 = .ok (.getfield 12, 3) := by decide +kernel
theorem dX11_can_64 : decode cX11_can 64 = .ok (.getfield 136, 3) := by decide +kernel
theorem dX11_can_67 : decode cX11_can 67 = .ok (.invokevirtual 139, 3) := by decide +kernel
theorem dX11_can_70 : decode cX11_can 70 = .ok (.ireturn, 1) := by decide +kernel
theorem dX11_plan_0 : decode cX11_plan 0 = .ok (.aload_n 0, 1) := by decide +kernel
theorem dX11_plan_1 : decode cX11_plan 1 = .ok (.getfield 12, 3) := by decide +kernel
theorem dX11_plan_4 : decode cX11_plan 4 = .ok (.iload_n 1, 1) := by decide +kernel
theorem dX11_plan_5 : decode cX11_plan 5 = .ok (.invokevirtual 94, 3) := by decide +kernel
theorem dX11_plan_8 : decode cX11_plan 8 = .ok (.ifnull 10, 3) := by decide +kernel
theorem dX11_plan_11 : decode cX11_plan 11 = .ok (.iload_n 2, 1) := by decide +kernel
theorem dX11_plan_12 : decode cX11_plan 12 = .ok (.invokestatic 143, 3) := by decide +kernel
theorem dX11_plan_15 : decode cX11_plan 15 = .ok (.ifCond .ne 5, 3) := by decide +kernel
theorem dX11_plan_18 : decode cX11_plan 18 = .ok (.iconst (-1), 1) := by decide +kernel
theorem dX11_plan_19 : decode cX11_plan 19 = .ok (.ireturn, 1) := by decide +kernel
theorem dX11_plan_20 : decode cX11_plan 20 = .ok (.iload_n 3, 1) := by decide +kernel
theorem dX11_plan_21 : decode cX11_plan 21 = .ok (.iconst (-1), 1) := by decide +kernel
theorem dX11_plan_22 : decode cX11_plan 22 = .ok (.if_icmp .eq 16, 3) := by decide +kernel
theorem dX11_plan_25 : decode cX11_plan 25 = .ok (.aload_n 0, 1) := by decide +kernel
theorem dX11_plan_26 : decode cX11_plan 26 = .ok (.getfield 12, 3) := by decide +kernel
theorem dX11_plan_29 : decode cX11_plan 29 = .ok (.iload_n 3, 1) := by decide +kernel
theorem dX11_plan_30 : decode cX11_plan 30 = .ok (.invokevirtual 104, 3) := by decide +kernel
theorem dX11_plan_33 : decode cX11_plan 33 = .ok (.ifCond .ne 5, 3) := by decide +kernel
theorem dX11_plan_36 : decode cX11_plan 36 = .ok (.iconst (-1), 1) := by decide +kernel
theorem dX11_plan_37 : decode cX11_plan 37 = .ok (.ireturn, 1) := by decide +kernel
theorem dX11_plan_38 : decode cX11_plan 38 = .ok (.aload_n 0, 1) := by decide +kernel
theorem dX11_plan_39 : decode cX11_plan 39 = .ok (.getfield 12, 3) := by decide +kernel
theorem dX11_plan_42 : decode cX11_plan 42 = .ok (.getfield 146, 3) := by decide +kernel
theorem dX11_plan_45 : decode cX11_plan 45 = .ok (.iload_n 1, 1) := by decide +kernel
theorem dX11_plan_46 : decode cX11_plan 46 = .ok (.aaload, 1) := by decide +kernel
theorem dX11_plan_47 : decode cX11_plan 47 = .ok (.astore 4, 2) := by decide +kernel
theorem dX11_plan_49 : decode cX11_plan 49 = .ok (.aload 4, 2) := by decide +kernel
theorem dX11_plan_51 : decode cX11_plan 51 = .ok (.iload_n 2, 1) := by decide +kernel
theorem dX11_plan_52 : decode cX11_plan 52 = .ok (.iaload, 1) := by decide +kernel
theorem dX11_plan_53 : decode cX11_plan 53 = .ok (.istore 5, 2) := by decide +kernel
theorem dX11_plan_55 : decode cX11_plan 55 = .ok (.aload 4, 2) := by decide +kernel
theorem dX11_plan_57 : decode cX11_plan 57 = .ok (.iload_n 2, 1) := by decide +kernel
theorem dX11_plan_58 : decode cX11_plan 58 = .ok (.iload_n 3, 1) := by decide +kernel
theorem dX11_plan_59 : decode cX11_plan 59 = .ok (.iastore, 1) := by decide +kernel
theorem dX11_plan_60 : decode cX11_plan 60 = .ok (.iload 5, 2) := by decide +kernel
theorem dX11_plan_62 : decode cX11_plan 62 = .ok (.invokestatic 149, 3) := by decide +kernel
theorem dX11_plan_65 : decode cX11_plan 65 = .ok (.ireturn, 1) := by decide +kernel
theorem dX11_judged_0 : decode cX11_judged 0 = .ok (.iconst 0, 1) := by decide +kernel
theorem dX11_judged_1 : decode cX11_judged 1 = .ok (.istore_n 1, 1) := by decide +kernel
theorem dX11_judged_2 : decode cX11_judged 2 = .ok (.iload_n 1, 1) := by decide +kernel
theorem dX11_judged_3 : decode cX11_judged 3 = .ok (.bipush 8, 2) := by decide +kernel
theorem dX11_judged_5 : decode cX11_judged 5 = .ok (.if_icmp .ge 52, 3) := by decide +kernel
theorem dX11_judged_8 : decode cX11_judged 8 = .ok (.iconst 0, 1) := by decide +kernel
theorem dX11_judged_9 : decode cX11_judged 9 = .ok (.istore_n 2, 1) := by decide +kernel
theorem dX11_judged_10 : decode cX11_judged 10 = .ok (.iload_n 2, 1) := by decide +kernel
theorem dX11_judged_11 : decode cX11_judged 11 = .ok (.aload_n 0, 1) := by decide +kernel
theorem dX11_judged_12 : decode cX11_judged 12 = .ok (.getfield 12, 3) := by decide +kernel
theorem dX11_judged_15 : decode cX11_judged 15 = .ok (.getfield 60, 3) := by decide +kernel
theorem dX11_judged_18 : decode cX11_judged 18 = .ok (.if_icmp .ge 33, 3) := by decide +kernel
theorem dX11_judged_21 : decode cX11_judged 21 = .ok (.aload_n 0, 1) := by decide +kernel
theorem dX11_judged_22 : decode cX11_judged 22 = .ok (.aload_n 0, 1) := by decide +kernel
theorem dX11_judged_23 : decode cX11_judged 23 = .ok (.getfield 12, 3) := by decide +kernel
theorem dX11_judged_26 : decode cX11_judged 26 = .ok (.getfield 64, 3) := by decide +kernel
theorem dX11_judged_29 : decode cX11_judged 29 = .ok (.iload_n 2, 1) := by decide +kernel
theorem dX11_judged_30 : decode cX11_judged 30 = .ok (.aaload, 1) := by decide +kernel
theorem dX11_judged_31 : decode cX11_judged 31 = .ok (.iload_n 1, 1) := by decide +kernel
theorem dX11_judged_32 : decode cX11_judged 32 = .ok (.invokevirtual 152, 3) := by decide +kernel
theorem dX11_judged_35 : decode cX11_judged 35 = .ok (.ifCond .ne 10, 3) := by decide +kernel
theorem dX11_judged_38 : decode cX11_judged 38 = .ok (.bipush 10, 2) := by decide +kernel
theorem dX11_judged_40 : decode cX11_judged 40 = .ok (.iload_n 1, 1) := by decide +kernel
theorem dX11_judged_41 : decode cX11_judged 41 = .ok (.imul, 1) := by decide +kernel
theorem dX11_judged_42 : decode cX11_judged 42 = .ok (.iload_n 2, 1) := by decide +kernel
theorem dX11_judged_43 : decode cX11_judged 43 = .ok (.iadd, 1) := by decide +kernel
theorem dX11_judged_44 : decode cX11_judged 44 = .ok (.ireturn, 1) := by decide +kernel
theorem dX11_judged_45 : decode cX11_judged 45 = .ok (.iinc 2 1, 3) := by decide +kernel
theorem dX11_judged_48 : decode cX11_judged 48 = .ok (.goto (-38), 3) := by decide +kernel
theorem dX11_judged_51 : decode cX11_judged 51 = .ok (.iinc 1 1, 3) := by decide +kernel
theorem dX11_judged_54 : decode cX11_judged 54 = .ok (.goto (-52), 3) := by decide +kernel
theorem dX11_judged_57 : decode cX11_judged 57 = .ok (.bipush (-5), 2) := by decide +kernel
theorem dX11_judged_59 : decode cX11_judged 59 = .ok (.ireturn, 1) := by decide +kernel
theorem dX11_has_0 : decode cX11_has 0 = .ok (.aload_n 0, 1) := by decide +kernel
theorem dX11_has_1 : decode cX11_has 1 = .ok (.getfield 12, 3) := by decide +kernel
theorem dX11_has_4 : decode cX11_has 4 = .ok (.iload_n 1, 1) := by decide +kernel
theorem dX11_has_5 : decode cX11_has 5 = .ok (.invokevirtual 104, 3) := by decide +kernel
theorem dX11_has_8 : decode cX11_has 8 = .ok (.ifCond .eq 12, 3) := by decide +kernel
theorem dX11_has_11 : decode cX11_has 11 = .ok (.iload_n 2, 1) := by decide +kernel
theorem dX11_has_12 : decode cX11_has 12 = .ok (.ifCond .lt 8, 3) := by decide +kernel
theorem dX11_has_15 : decode cX11_has 15 = .ok (.iload_n 2, 1) := by decide +kernel
theorem dX11_has_16 : decode cX11_has 16 = .ok (.iconst 2, 1) := by decide +kernel
theorem dX11_has_17 : decode cX11_has 17 = .ok (.if_icmp .le 5, 3) := by decide +kernel
theorem dX11_has_20 : decode cX11_has 20 = .ok (.iconst (-1), 1) := by decide +kernel
theorem dX11_has_21 : decode cX11_has 21 = .ok (.ireturn, 1) := by decide +kernel
theorem dX11_has_22 : decode cX11_has 22 = .ok (.iload_n 2, 1) := by decide +kernel
theorem dX11_has_23 : decode cX11_has 23 = .ok (.ifCond .ne 12, 3) := by decide +kernel
theorem dX11_has_26 : decode cX11_has 26 = .ok (.aload_n 0, 1) := by decide +kernel
theorem dX11_has_27 : decode cX11_has 27 = .ok (.getfield 12, 3) := by decide +kernel
theorem dX11_has_30 : decode cX11_has 30 = .ok (.iload_n 1, 1) := by decide +kernel
theorem dX11_has_31 : decode cX11_has 31 = .ok (.invokevirtual 155, 3) := by decide +kernel
theorem dX11_has_34 : decode cX11_has 34 = .ok (.ireturn, 1) := by decide +kernel
theorem dX11_has_35 : decode cX11_has 35 = .ok (.aload_n 0, 1) := by decide +kernel
theorem dX11_has_36 : decode cX11_has 36 = .ok (.getfield 12, 3) := by decide +kernel
theorem dX11_has_39 : decode cX11_has 39 = .ok (.iload_n 1, 1) := by decide +kernel
theorem dX11_has_40 : decode cX11_has 40 = .ok (.aload_n 0, 1) := by decide +kernel
theorem dX11_has_41 : decode cX11_has 41 = .ok (.getfield 12, 3) := by decide +kernel
theorem dX11_has_44 : decode cX11_has 44 = .ok (.getfield 136, 3) := by decide +kernel
theorem dX11_has_47 : decode cX11_has 47 = .ok (.invokevirtual 158, 3) := by decide +kernel
theorem dX11_has_50 : decode cX11_has 50 = .ok (.istore_n 3, 1) := by decide +kernel
theorem dX11_has_51 : decode cX11_has 51 = .ok (.iload_n 2, 1) := by decide +kernel
theorem dX11_has_52 : decode cX11_has 52 = .ok (.iconst 2, 1) := by decide +kernel
theorem dX11_has_53 : decode cX11_has 53 = .ok (.if_icmp .ne 5, 3) := by decide +kernel
theorem dX11_has_56 : decode cX11_has 56 = .ok (.iload_n 3, 1) := by decide +kernel
theorem dX11_has_57 : decode cX11_has 57 = .ok (.ireturn, 1) := by decide +kernel
theorem dX11_has_58 : decode cX11_has 58 = .ok (.iload_n 3, 1) := by decide +kernel
theorem dX11_has_59 : decode cX11_has 59 = .ok (.aload_n 0, 1) := by decide +kernel
theorem dX11_has_60 : decode cX11_has 60 = .ok (.getfield 12, 3) := by decide +kernel
theorem dX11_has_63 : decode cX11_has 63 = .ok (.iload_n 1, 1) := by decide +kernel
theorem dX11_has_64 : decode cX11_has 64 = .ok (.aload_n 0, 1) := by decide +kernel
theorem dX11_has_65 : decode cX11_has 65 = .ok (.getfield 12, 3) := by decide +kernel
theorem dX11_has_68 : decode cX11_has 68 = .ok (.getfield 136, 3) := by decide +kernel
theorem dX11_has_71 : decode cX11_has 71 = .ok (.invokevirtual 162, 3) := by decide +kernel
theorem dX11_has_74 : decode cX11_has 74 = .ok (.ior, 1) := by decide +kernel
theorem dX11_has_75 : decode cX11_has 75 = .ok (.istore 4, 2) := by decide +kernel
theorem dX11_has_77 : decode cX11_has 77 = .ok (.sipush 255, 3) := by decide +kernel
theorem dX11_has_80 : decode cX11_has 80 = .ok (.iload 4, 2) := by decide +kernel
theorem dX11_has_82 : decode cX11_has 82 = .ok (.iconst (-1), 1) := by decide +kernel
theorem dX11_has_83 : decode cX11_has 83 = .ok (.ixor, 1) := by decide +kernel
theorem dX11_has_84 : decode cX11_has 84 = .ok (.iand, 1) := by decide +kernel
theorem dX11_has_85 : decode cX11_has 85 = .ok (.ireturn, 1) := by decide +kernel
theorem dX11_worth_0 : decode cX11_worth 0 = .ok (.iload_n 1, 1) := by decide +kernel
theorem dX11_worth_1 : decode cX11_worth 1 = .ok (.ifCond .lt 8, 3) := by decide +kernel
theorem dX11_worth_4 : decode cX11_worth 4 = .ok (.iload_n 1, 1) := by decide +kernel
theorem dX11_worth_5 : decode cX11_worth 5 = .ok (.iconst 1, 1) := by decide +kernel
theorem dX11_worth_6 : decode cX11_worth 6 = .ok (.if_icmp .le 5, 3) := by decide +kernel
theorem dX11_worth_9 : decode cX11_worth 9 = .ok (.iconst (-1), 1) := by decide +kernel
theorem dX11_worth_10 : decode cX11_worth 10 = .ok (.ireturn, 1) := by decide +kernel
theorem dX11_worth_11 : decode cX11_worth 11 = .ok (.iload_n 1, 1) := by decide +kernel
theorem dX11_worth_12 : decode cX11_worth 12 = .ok (.ifCond .ne 10, 3) := by decide +kernel
theorem dX11_worth_15 : decode cX11_worth 15 = .ok (.aload_n 0, 1) := by decide +kernel
theorem dX11_worth_16 : decode cX11_worth 16 = .ok (.invokevirtual 165, 3) := by decide +kernel
theorem dX11_worth_19 : decode cX11_worth 19 = .ok (.goto 10, 3) := by decide +kernel
theorem dX11_worth_22 : decode cX11_worth 22 = .ok (.aload_n 0, 1) := by decide +kernel
theorem dX11_worth_23 : decode cX11_worth 23 = .ok (.invokevirtual 169, 3) := by decide +kernel
theorem dX11_worth_26 : decode cX11_worth 26 = .ok (.invokestatic 149, 3) := by decide +kernel
theorem dX11_worth_29 : decode cX11_worth 29 = .ok (.ireturn, 1) := by decide +kernel
theorem dX11_best_0 : decode cX11_best 0 = .ok (.aload_n 0, 1) := by decide +kernel
theorem dX11_best_1 : decode cX11_best 1 = .ok (.getfield 12, 3) := by decide +kernel
theorem dX11_best_4 : decode cX11_best 4 = .ok (.iload_n 1, 1) := by decide +kernel
theorem dX11_best_5 : decode cX11_best 5 = .ok (.invokevirtual 94, 3) := by decide +kernel
theorem dX11_best_8 : decode cX11_best 8 = .ok (.astore_n 3, 1) := by decide +kernel
theorem dX11_best_9 : decode cX11_best 9 = .ok (.aload_n 3, 1) := by decide +kernel
theorem dX11_best_10 : decode cX11_best 10 = .ok (.ifnull 14, 3) := by decide +kernel
theorem dX11_best_13 : decode cX11_best 13 = .ok (.iload_n 2, 1) := by decide +kernel
theorem dX11_best_14 : decode cX11_best 14 = .ok (.iconst (-1), 1) := by decide +kernel
theorem dX11_best_15 : decode cX11_best 15 = .ok (.if_icmp .lt 9, 3) := by decide +kernel
theorem dX11_best_18 : decode cX11_best 18 = .ok (.iload_n 2, 1) := by decide +kernel
theorem dX11_best_19 : decode cX11_best 19 = .ok (.bipush 8, 2) := by decide +kernel
theorem dX11_best_21 : decode cX11_best 21 = .ok (.if_icmp .lt 5, 3) := by decide +kernel
theorem dX11_best_24 : decode cX11_best 24 = .ok (.iconst (-1), 1) := by decide +kernel
theorem dX11_best_25 : decode cX11_best 25 = .ok (.ireturn, 1) := by decide +kernel
theorem dX11_best_26 : decode cX11_best 26 = .ok (.aload_n 0, 1) := by decide +kernel
theorem dX11_best_27 : decode cX11_best 27 = .ok (.aload_n 3, 1) := by decide +kernel
theorem dX11_best_28 : decode cX11_best 28 = .ok (.invokevirtual 172, 3) := by decide +kernel
theorem dX11_best_31 : decode cX11_best 31 = .ok (.iload_n 2, 1) := by decide +kernel
theorem dX11_best_32 : decode cX11_best 32 = .ok (.iconst (-1), 1) := by decide +kernel
theorem dX11_best_33 : decode cX11_best 33 = .ok (.if_icmp .ne 14, 3) := by decide +kernel
theorem dX11_best_36 : decode cX11_best 36 = .ok (.aload_n 0, 1) := by decide +kernel
theorem dX11_best_37 : decode cX11_best 37 = .ok (.getfield 38, 3) := by decide +kernel
theorem dX11_best_40 : decode cX11_best 40 = .ok (.iconst 0, 1) := by decide +kernel
theorem dX11_best_41 : decode cX11_best 41 = .ok (.aaload, 1) := by decide +kernel
theorem dX11_best_42 : decode cX11_best 42 = .ok (.iconst 0, 1) := by decide +kernel
theorem dX11_best_43 : decode cX11_best 43 = .ok (.iaload, 1) := by decide +kernel
theorem dX11_best_44 : decode cX11_best 44 = .ok (.goto 12, 3) := by decide +kernel
theorem dX11_best_47 : decode cX11_best 47 = .ok (.aload_n 0, 1) := by decide +kernel
theorem dX11_best_48 : decode cX11_best 48 = .ok (.aload_n 3, 1) := by decide +kernel
theorem dX11_best_49 : decode cX11_best 49 = .ok (.iload_n 2, 1) := by decide +kernel
theorem dX11_best_50 : decode cX11_best 50 = .ok (.invokevirtual 176, 3) := by decide +kernel
theorem dX11_best_53 : decode cX11_best 53 = .ok (.invokestatic 149, 3) := by decide +kernel
theorem dX11_best_56 : decode cX11_best 56 = .ok (.ireturn, 1) := by decide +kernel
theorem dX11_fair_0 : decode cX11_fair 0 = .ok (.iload_n 1, 1) := by decide +kernel
theorem dX11_fair_1 : decode cX11_fair 1 = .ok (.ifCond .lt 8, 3) := by decide +kernel
theorem dX11_fair_4 : decode cX11_fair 4 = .ok (.iload_n 1, 1) := by decide +kernel
theorem dX11_fair_5 : decode cX11_fair 5 = .ok (.iconst 1, 1) := by decide +kernel
theorem dX11_fair_6 : decode cX11_fair 6 = .ok (.if_icmp .le 5, 3) := by decide +kernel
theorem dX11_fair_9 : decode cX11_fair 9 = .ok (.iconst (-1), 1) := by decide +kernel
theorem dX11_fair_10 : decode cX11_fair 10 = .ok (.ireturn, 1) := by decide +kernel
theorem dX11_fair_11 : decode cX11_fair 11 = .ok (.aload_n 0, 1) := by decide +kernel
theorem dX11_fair_12 : decode cX11_fair 12 = .ok (.getfield 12, 3) := by decide +kernel
theorem dX11_fair_15 : decode cX11_fair 15 = .ok (.getfield 60, 3) := by decide +kernel
theorem dX11_fair_18 : decode cX11_fair 18 = .ok (.ifCond .eq 13, 3) := by decide +kernel
theorem dX11_fair_21 : decode cX11_fair 21 = .ok (.aload_n 0, 1) := by decide +kernel
theorem dX11_fair_22 : decode cX11_fair 22 = .ok (.getfield 12, 3) := by decide +kernel
theorem dX11_fair_25 : decode cX11_fair 25 = .ok (.getfield 76, 3) := by decide +kernel
theorem dX11_fair_28 : decode cX11_fair 28 = .ok (.ifCond .ne 6, 3) := by decide +kernel
theorem dX11_fair_31 : decode cX11_fair 31 = .ok (.bipush (-5), 2) := by decide +kernel
theorem dX11_fair_33 : decode cX11_fair 33 = .ok (.ireturn, 1) := by decide +kernel
theorem dX11_fair_34 : decode cX11_fair 34 = .ok (.aload_n 0, 1) := by decide +kernel
theorem dX11_fair_35 : decode cX11_fair 35 = .ok (.invokevirtual 180, 3) := by decide +kernel
theorem dX11_fair_38 : decode cX11_fair 38 = .ok (.iconst 0, 1) := by decide +kernel
theorem dX11_fair_39 : decode cX11_fair 39 = .ok (.istore_n 2, 1) := by decide +kernel
theorem dX11_fair_40 : decode cX11_fair 40 = .ok (.iconst (-1), 1) := by decide +kernel
theorem dX11_fair_41 : decode cX11_fair 41 = .ok (.istore_n 3, 1) := by decide +kernel
theorem dX11_fair_42 : decode cX11_fair 42 = .ok (.iconst 0, 1) := by decide +kernel
theorem dX11_fair_43 : decode cX11_fair 43 = .ok (.istore 4, 2) := by decide +kernel
theorem dX11_fair_45 : decode cX11_fair 45 = .ok (.iload 4, 2) := by decide +kernel
theorem dX11_fair_47 : decode cX11_fair 47 = .ok (.aload_n 0, 1) := by decide +kernel
theorem dX11_fair_48 : decode cX11_fair 48 = .ok (.getfield 12, 3) := by decide +kernel
theorem dX11_fair_51 : decode cX11_fair 51 = .ok (.getfield 60, 3) := by decide +kernel
theorem dX11_fair_54 : decode cX11_fair 54 = .ok (.if_icmp .ge 58, 3) := by decide +kernel
theorem dX11_fair_57 : decode cX11_fair 57 = .ok (.iconst 0, 1) := by decide +kernel
theorem dX11_fair_58 : decode cX11_fair 58 = .ok (.istore 5, 2) := by decide +kernel
theorem dX11_fair_60 : decode cX11_fair 60 = .ok (.iload 5, 2) := by decide +kernel
theorem dX11_fair_62 : decode cX11_fair 62 = .ok (.aload_n 0, 1) := by decide +kernel
theorem dX11_fair_63 : decode cX11_fair 63 = .ok (.getfield 12, 3) := by decide +kernel
theorem dX11_fair_66 : decode cX11_fair 66 = .ok (.getfield 76, 3) := by decide +kernel
theorem dX11_fair_69 : decode cX11_fair 69 = .ok (.if_icmp .ge 37, 3) := by decide +kernel
theorem dX11_fair_72 : decode cX11_fair 72 = .ok (.aload_n 0, 1) := by decide +kernel
theorem dX11_fair_73 : decode cX11_fair 73 = .ok (.iload 4, 2) := by decide +kernel
theorem dX11_fair_75 : decode cX11_fair 75 = .ok (.iload 5, 2) := by decide +kernel
theorem dX11_fair_77 : decode cX11_fair 77 = .ok (.invokevirtual 183, 3) := by decide +kernel
theorem dX11_fair_80 : decode cX11_fair 80 = .ok (.istore 6, 2) := by decide +kernel
theorem dX11_fair_82 : decode cX11_fair 82 = .ok (.iload 6, 2) := by decide +kernel
theorem dX11_fair_84 : decode cX11_fair 84 = .ok (.iload_n 3, 1) := by decide +kernel
theorem dX11_fair_85 : decode cX11_fair 85 = .ok (.if_icmp .le 15, 3) := by decide +kernel
theorem dX11_fair_88 : decode cX11_fair 88 = .ok (.iload 6, 2) := by decide +kernel
theorem dX11_fair_90 : decode cX11_fair 90 = .ok (.istore_n 3, 1) := by decide +kernel
theorem dX11_fair_91 : decode cX11_fair 91 = .ok (.bipush 10, 2) := by decide +kernel
theorem dX11_fair_93 : decode cX11_fair 93 = .ok (.iload 4, 2) := by decide +kernel
theorem dX11_fair_95 : decode cX11_fair 95 = .ok (.imul, 1) := by decide +kernel
theorem dX11_fair_96 : decode cX11_fair 96 = .ok (.iload 5, 2) := by decide +kernel
theorem dX11_fair_98 : decode cX11_fair 98 = .ok (.iadd, 1) := by decide +kernel
theorem dX11_fair_99 : decode cX11_fair 99 = .ok (.istore_n 2, 1) := by decide +kernel
theorem dX11_fair_100 : decode cX11_fair 100 = .ok (.iinc 5 1, 3) := by decide +kernel
theorem dX11_fair_103 : decode cX11_fair 103 = .ok (.goto (-43), 3) := by decide +kernel
theorem dX11_fair_106 : decode cX11_fair 106 = .ok (.iinc 4 1, 3) := by decide +kernel
theorem dX11_fair_109 : decode cX11_fair 109 = .ok (.goto (-64), 3) := by decide +kernel
theorem dX11_fair_112 : decode cX11_fair 112 = .ok (.iload_n 1, 1) := by decide +kernel
theorem dX11_fair_113 : decode cX11_fair 113 = .ok (.ifCond .ne 7, 3) := by decide +kernel
theorem dX11_fair_116 : decode cX11_fair 116 = .ok (.iload_n 2, 1) := by decide +kernel
theorem dX11_fair_117 : decode cX11_fair 117 = .ok (.goto 4, 3) := by decide +kernel
theorem dX11_fair_120 : decode cX11_fair 120 = .ok (.iload_n 3, 1) := by decide +kernel
theorem dX11_fair_121 : decode cX11_fair 121 = .ok (.ireturn, 1) := by decide +kernel
theorem dX11_take_0 : decode cX11_take 0 = .ok (.iload_n 2, 1) := by decide +kernel
theorem dX11_take_1 : decode cX11_take 1 = .ok (.ifCond .lt 8, 3) := by decide +kernel
theorem dX11_take_4 : decode cX11_take 4 = .ok (.iload_n 2, 1) := by decide +kernel
theorem dX11_take_5 : decode cX11_take 5 = .ok (.iconst 2, 1) := by decide +kernel
theorem dX11_take_6 : decode cX11_take 6 = .ok (.if_icmp .le 5, 3) := by decide +kernel
theorem dX11_take_9 : decode cX11_take 9 = .ok (.iconst (-1), 1) := by decide +kernel
theorem dX11_take_10 : decode cX11_take 10 = .ok (.ireturn, 1) := by decide +kernel
theorem dX11_take_11 : decode cX11_take 11 = .ok (.iload_n 1, 1) := by decide +kernel
theorem dX11_take_12 : decode cX11_take 12 = .ok (.iconst 0, 1) := by decide +kernel
theorem dX11_take_13 : decode cX11_take 13 = .ok (.sipush 300, 3) := by decide +kernel
theorem dX11_take_16 : decode cX11_take 16 = .ok (.invokestatic 72, 3) := by decide +kernel
theorem dX11_take_19 : decode cX11_take 19 = .ok (.ifCond .ne 6, 3) := by decide +kernel
theorem dX11_take_22 : decode cX11_take 22 = .ok (.bipush (-2), 2) := by decide +kernel
theorem dX11_take_24 : decode cX11_take 24 = .ok (.ireturn, 1) := by decide +kernel
theorem dX11_take_25 : decode cX11_take 25 = .ok (.iconst 0, 1) := by decide +kernel
theorem dX11_take_26 : decode cX11_take 26 = .ok (.istore_n 3, 1) := by decide +kernel
theorem dX11_take_27 : decode cX11_take 27 = .ok (.iload_n 3, 1) := by decide +kernel
theorem dX11_take_28 : decode cX11_take 28 = .ok (.aload_n 0, 1) := by decide +kernel
theorem dX11_take_29 : decode cX11_take 29 = .ok (.getfield 12, 3) := by decide +kernel
theorem dX11_take_32 : decode cX11_take 32 = .ok (.getfield 60, 3) := by decide +kernel
theorem dX11_take_35 : decode cX11_take 35 = .ok (.if_icmp .ge 34, 3) := by decide +kernel
theorem dX11_take_38 : decode cX11_take 38 = .ok (.aload_n 0, 1) := by decide +kernel
theorem dX11_take_39 : decode cX11_take 39 = .ok (.getfield 47, 3) := by decide +kernel
theorem dX11_take_42 : decode cX11_take 42 = .ok (.iload_n 3, 1) := by decide +kernel
theorem dX11_take_43 : decode cX11_take 43 = .ok (.aload_n 0, 1) := by decide +kernel
theorem dX11_take_44 : decode cX11_take 44 = .ok (.getfield 12, 3) := by decide +kernel
theorem dX11_take_47 : decode cX11_take 47 = .ok (.aload_n 0, 1) := by decide +kernel
theorem dX11_take_48 : decode cX11_take 48 = .ok (.getfield 12, 3) := by decide +kernel
theorem dX11_take_51 : decode cX11_take 51 = .ok (.getfield 64, 3) := by decide +kernel
theorem dX11_take_54 : decode cX11_take 54 = .ok (.iload_n 3, 1) := by decide +kernel
theorem dX11_take_55 : decode cX11_take 55 = .ok (.aaload, 1) := by decide +kernel
theorem dX11_take_56 : decode cX11_take 56 = .ok (.invokevirtual 132, 3) := by decide +kernel
theorem dX11_take_59 : decode cX11_take 59 = .ok (.invokestatic 186, 3) := by decide +kernel
theorem dX11_take_62 : decode cX11_take 62 = .ok (.iastore, 1) := by decide +kernel
theorem dX11_take_63 : decode cX11_take 63 = .ok (.iinc 3 1, 3) := by decide +kernel
theorem dX11_take_66 : decode cX11_take 66 = .ok (.goto (-39), 3) := by decide +kernel
theorem dX11_take_69 : decode cX11_take 69 = .ok (.aload_n 0, 1) := by decide +kernel
theorem dX11_take_70 : decode cX11_take 70 = .ok (.iload_n 1, 1) := by decide +kernel
theorem dX11_take_71 : decode cX11_take 71 = .ok (.invokevirtual 191, 3) := by decide +kernel
theorem dX11_take_74 : decode cX11_take 74 = .ok (.istore_n 3, 1) := by decide +kernel
theorem dX11_take_75 : decode cX11_take 75 = .ok (.iload_n 2, 1) := by decide +kernel
theorem dX11_take_76 : decode cX11_take 76 = .ok (.ifCond .ne 5, 3) := by decide +kernel
theorem dX11_take_79 : decode cX11_take 79 = .ok (.iload_n 3, 1) := by decide +kernel
theorem dX11_take_80 : decode cX11_take 80 = .ok (.ireturn, 1) := by decide +kernel
theorem dX11_take_81 : decode cX11_take 81 = .ok (.iload_n 2, 1) := by decide +kernel
theorem dX11_take_82 : decode cX11_take 82 = .ok (.iconst 1, 1) := by decide +kernel
theorem dX11_take_83 : decode cX11_take 83 = .ok (.if_icmp .ne 11, 3) := by decide +kernel
theorem dX11_take_86 : decode cX11_take 86 = .ok (.aload_n 0, 1) := by decide +kernel
theorem dX11_take_87 : decode cX11_take 87 = .ok (.iload_n 3, 1) := by decide +kernel
theorem dX11_take_88 : decode cX11_take 88 = .ok (.invokevirtual 194, 3) := by decide +kernel
theorem dX11_take_91 : decode cX11_take 91 = .ok (.goto 8, 3) := by decide +kernel
theorem dX11_take_94 : decode cX11_take 94 = .ok (.aload_n 0, 1) := by decide +kernel
theorem dX11_take_95 : decode cX11_take 95 = .ok (.iload_n 3, 1) := by decide +kernel
theorem dX11_take_96 : decode cX11_take 96 = .ok (.invokevirtual 197, 3) := by decide +kernel
theorem dX11_take_99 : decode cX11_take 99 = .ok (.ireturn, 1) := by decide +kernel
theorem dX11_coarse_0 : decode cX11_coarse 0 = .ok (.iload_n 1, 1) := by decide +kernel
theorem dX11_coarse_1 : decode cX11_coarse 1 = .ok (.iconst 1, 1) := by decide +kernel
theorem dX11_coarse_2 : decode cX11_coarse 2 = .ok (.if_icmp .lt 9, 3) := by decide +kernel
theorem dX11_coarse_5 : decode cX11_coarse 5 = .ok (.iload_n 1, 1) := by decide +kernel
theorem dX11_coarse_6 : decode cX11_coarse 6 = .ok (.bipush 9, 2) := by decide +kernel
theorem dX11_coarse_8 : decode cX11_coarse 8 = .ok (.if_icmp .le 6, 3) := by decide +kernel
theorem dX11_coarse_11 : decode cX11_coarse 11 = .ok (.bipush (-2), 2) := by decide +kernel
theorem dX11_coarse_13 : decode cX11_coarse 13 = .ok (.ireturn, 1) := by decide +kernel
theorem dX11_coarse_14 : decode cX11_coarse 14 = .ok (.iconst 0, 1) := by decide +kernel
theorem dX11_coarse_15 : decode cX11_coarse 15 = .ok (.istore_n 2, 1) := by decide +kernel
theorem dX11_coarse_16 : decode cX11_coarse 16 = .ok (.iconst 0, 1) := by decide +kernel
theorem dX11_coarse_17 : decode cX11_coarse 17 = .ok (.istore_n 3, 1) := by decide +kernel
theorem dX11_coarse_18 : decode cX11_coarse 18 = .ok (.iload_n 3, 1) := by decide +kernel
theorem dX11_coarse_19 : decode cX11_coarse 19 = .ok (.aload_n 0, 1) := by decide +kernel
theorem dX11_coarse_20 : decode cX11_coarse 20 = .ok (.getfield 12, 3) := by decide +kernel
theorem dX11_coarse_23 : decode cX11_coarse 23 = .ok (.getfield 60, 3) := by decide +kernel
theorem dX11_coarse_26 : decode cX11_coarse 26 = .ok (.if_icmp .ge 87, 3) := by decide +kernel
theorem dX11_coarse_29 : decode cX11_coarse 29 = .ok (.iconst 0, 1) := by decide +kernel
theorem dX11_coarse_30 : decode cX11_coarse 30 = .ok (.istore 4, 2) := by decide +kernel
theorem dX11_coarse_32 : decode cX11_coarse 32 = .ok (.iconst 0, 1) := by decide +kernel
theorem dX11_coarse_33 : decode cX11_coarse 33 = .ok (.istore 5, 2) := by decide +kernel
theorem dX11_coarse_35 : decode cX11_coarse 35 = .ok (.iload 5, 2) := by decide +kernel
theorem dX11_coarse_37 : decode cX11_coarse 37 = .ok (.aload_n 0, 1) := by decide +kernel
theorem dX11_coarse_38 : decode cX11_coarse 38 = .ok (.getfield 12, 3) := by decide +kernel
theorem dX11_coarse_41 : decode cX11_coarse 41 = .ok (.getfield 76, 3) := by decide +kernel
theorem dX11_coarse_44 : decode cX11_coarse 44 = .ok (.if_icmp .ge 52, 3) := by decide +kernel
theorem dX11_coarse_47 : decode cX11_coarse 47 = .ok (.iload 4, 2) := by decide +kernel
theorem dX11_coarse_49 : decode cX11_coarse 49 = .ok (.ifCond .ne 31, 3) := by decide +kernel
theorem dX11_coarse_52 : decode cX11_coarse 52 = .ok (.aload_n 0, 1) := by decide +kernel
theorem dX11_coarse_53 : decode cX11_coarse 53 = .ok (.getfield 12, 3) := by decide +kernel
theorem dX11_coarse_56 : decode cX11_coarse 56 = .ok (.aload_n 0, 1) := by decide +kernel
theorem dX11_coarse_57 : decode cX11_coarse 57 = .ok (.getfield 12, 3) := by decide +kernel
theorem dX11_coarse_60 : decode cX11_coarse 60 = .ok (.getfield 64, 3) := by decide +kernel
theorem dX11_coarse_63 : decode cX11_coarse 63 = .ok (.iload_n 3, 1) := by decide +kernel
theorem dX11_coarse_64 : decode cX11_coarse 64 = .ok (.aaload, 1) := by decide +kernel
theorem dX11_coarse_65 : decode cX11_coarse 65 = .ok (.iload 5, 2) := by decide +kernel
theorem dX11_coarse_67 : decode cX11_coarse 67 = .ok (.aload_n 0, 1) := by decide +kernel
theorem dX11_coarse_68 : decode cX11_coarse 68 = .ok (.getfield 12, 3) := by decide +kernel
theorem dX11_coarse_71 : decode cX11_coarse 71 = .ok (.getfield 136, 3) := by decide +kernel
theorem dX11_coarse_74 : decode cX11_coarse 74 = .ok (.invokevirtual 139, 3) := by decide +kernel
theorem dX11_coarse_77 : decode cX11_coarse 77 = .ok (.ifCond .eq 7, 3) := by decide +kernel
theorem dX11_coarse_80 : decode cX11_coarse 80 = .ok (.iconst 1, 1) := by decide +kernel
theorem dX11_coarse_81 : decode cX11_coarse 81 = .ok (.goto 4, 3) := by decide +kernel
theorem dX11_coarse_84 : decode cX11_coarse 84 = .ok (.iconst 0, 1) := by decide +kernel
theorem dX11_coarse_85 : decode cX11_coarse 85 = .ok (.istore 4, 2) := by decide +kernel
theorem dX11_coarse_87 : decode cX11_coarse 87 = .ok (.iload 5, 2) := by decide +kernel
theorem dX11_coarse_89 : decode cX11_coarse 89 = .ok (.iload_n 1, 1) := by decide +kernel
theorem dX11_coarse_90 : decode cX11_coarse 90 = .ok (.iadd, 1) := by decide +kernel
theorem dX11_coarse_91 : decode cX11_coarse 91 = .ok (.istore 5, 2) := by decide +kernel
theorem dX11_coarse_93 : decode cX11_coarse 93 = .ok (.goto (-58), 3) := by decide +kernel
theorem dX11_coarse_96 : decode cX11_coarse 96 = .ok (.iload 4, 2) := by decide +kernel
theorem dX11_coarse_98 : decode cX11_coarse 98 = .ok (.ifCond .ne 9, 3) := by decide +kernel
theorem dX11_coarse_101 : decode cX11_coarse 101 = .ok (.iload_n 2, 1) := by decide +kernel
theorem dX11_coarse_102 : decode cX11_coarse 102 = .ok (.iconst 1, 1) := by decide +kernel
theorem dX11_coarse_103 : decode cX11_coarse 103 = .ok (.iload_n 3, 1) := by decide +kernel
theorem dX11_coarse_104 : decode cX11_coarse 104 = .ok (.ishl, 1) := by decide +kernel
theorem dX11_coarse_105 : decode cX11_coarse 105 = .ok (.ior, 1) := by decide +kernel
theorem dX11_coarse_106 : decode cX11_coarse 106 = .ok (.istore_n 2, 1) := by decide +kernel
theorem dX11_coarse_107 : decode cX11_coarse 107 = .ok (.iinc 3 1, 3) := by decide +kernel
theorem dX11_coarse_110 : decode cX11_coarse 110 = .ok (.goto (-92), 3) := by decide +kernel
theorem dX11_coarse_113 : decode cX11_coarse 113 = .ok (.iload_n 2, 1) := by decide +kernel
theorem dX11_coarse_114 : decode cX11_coarse 114 = .ok (.ireturn, 1) := by decide +kernel
theorem dX11_kept_0 : decode cX11_kept 0 = .ok (.aload_n 0, 1) := by decide +kernel
theorem dX11_kept_1 : decode cX11_kept 1 = .ok (.getfield 12, 3) := by decide +kernel
theorem dX11_kept_4 : decode cX11_kept 4 = .ok (.iload_n 1, 1) := by decide +kernel
theorem dX11_kept_5 : decode cX11_kept 5 = .ok (.invokevirtual 104, 3) := by decide +kernel
theorem dX11_kept_8 : decode cX11_kept 8 = .ok (.ifCond .eq 22, 3) := by decide +kernel
theorem dX11_kept_11 : decode cX11_kept 11 = .ok (.iload_n 2, 1) := by decide +kernel
theorem dX11_kept_12 : decode cX11_kept 12 = .ok (.ifCond .lt 18, 3) := by decide +kernel
theorem dX11_kept_15 : decode cX11_kept 15 = .ok (.iload_n 2, 1) := by decide +kernel
theorem dX11_kept_16 : decode cX11_kept 16 = .ok (.bipush 8, 2) := by decide +kernel
theorem dX11_kept_18 : decode cX11_kept 18 = .ok (.if_icmp .gt 12, 3) := by decide +kernel
theorem dX11_kept_21 : decode cX11_kept 21 = .ok (.iload_n 3, 1) := by decide +kernel
theorem dX11_kept_22 : decode cX11_kept 22 = .ok (.ifCond .lt 8, 3) := by decide +kernel
theorem dX11_kept_25 : decode cX11_kept 25 = .ok (.iload_n 3, 1) := by decide +kernel
theorem dX11_kept_26 : decode cX11_kept 26 = .ok (.iconst 1, 1) := by decide +kernel
theorem dX11_kept_27 : decode cX11_kept 27 = .ok (.if_icmp .le 7, 3) := by decide +kernel
theorem dX11_kept_30 : decode cX11_kept 30 = .ok (.ldc2_w 200, 3) := by decide +kernel
theorem dX11_kept_33 : decode cX11_kept 33 = .ok (.lreturn, 1) := by decide +kernel
theorem dX11_kept_34 : decode cX11_kept 34 = .ok (.aload_n 0, 1) := by decide +kernel
theorem dX11_kept_35 : decode cX11_kept 35 = .ok (.getfield 12, 3) := by decide +kernel
theorem dX11_kept_38 : decode cX11_kept 38 = .ok (.iload_n 1, 1) := by decide +kernel
theorem dX11_kept_39 : decode cX11_kept 39 = .ok (.aload_n 0, 1) := by decide +kernel
theorem dX11_kept_40 : decode cX11_kept 40 = .ok (.getfield 12, 3) := by decide +kernel
theorem dX11_kept_43 : decode cX11_kept 43 = .ok (.getfield 136, 3) := by decide +kernel
theorem dX11_kept_46 : decode cX11_kept 46 = .ok (.invokevirtual 162, 3) := by decide +kernel
theorem dX11_kept_49 : decode cX11_kept 49 = .ok (.invokestatic 186, 3) := by decide +kernel
theorem dX11_kept_52 : decode cX11_kept 52 = .ok (.istore 4, 2) := by decide +kernel
theorem dX11_kept_54 : decode cX11_kept 54 = .ok (.aload_n 0, 1) := by decide +kernel
theorem dX11_kept_55 : decode cX11_kept 55 = .ok (.iload 4, 2) := by decide +kernel
theorem dX11_kept_57 : decode cX11_kept 57 = .ok (.iload_n 2, 1) := by decide +kernel
theorem dX11_kept_58 : decode cX11_kept 58 = .ok (.invokevirtual 202, 3) := by decide +kernel
theorem dX11_kept_61 : decode cX11_kept 61 = .ok (.lstore 5, 2) := by decide +kernel
theorem dX11_kept_63 : decode cX11_kept 63 = .ok (.ldc2_w 206, 3) := by decide +kernel
theorem dX11_kept_66 : decode cX11_kept 66 = .ok (.iload 4, 2) := by decide +kernel
theorem dX11_kept_68 : decode cX11_kept 68 = .ok (.invokestatic 208, 3) := by decide +kernel
theorem dX11_kept_71 : decode cX11_kept 71 = .ok (.lstore 7, 2) := by decide +kernel
theorem dX11_kept_73 : decode cX11_kept 73 = .ok (.lload 5, 2) := by decide +kernel
theorem dX11_kept_75 : decode cX11_kept 75 = .ok (.lload 7, 2) := by decide +kernel
theorem dX11_kept_77 : decode cX11_kept 77 = .ok (.invokestatic 212, 3) := by decide +kernel
theorem dX11_kept_80 : decode cX11_kept 80 = .ok (.lstore 9, 2) := by decide +kernel
theorem dX11_kept_82 : decode cX11_kept 82 = .ok (.iload_n 3, 1) := by decide +kernel
theorem dX11_kept_83 : decode cX11_kept 83 = .ok (.ifCond .ne 8, 3) := by decide +kernel
theorem dX11_kept_86 : decode cX11_kept 86 = .ok (.lload 5, 2) := by decide +kernel
theorem dX11_kept_88 : decode cX11_kept 88 = .ok (.goto 5, 3) := by decide +kernel
theorem dX11_kept_91 : decode cX11_kept 91 = .ok (.lload 7, 2) := by decide +kernel
theorem dX11_kept_93 : decode cX11_kept 93 = .ok (.lload 9, 2) := by decide +kernel
theorem dX11_kept_95 : decode cX11_kept 95 = .ok (.lconst 1, 1) := by decide +kernel
theorem dX11_kept_96 : decode cX11_kept 96 = .ok (.invokestatic 216, 3) := by decide +kernel
theorem dX11_kept_99 : decode cX11_kept 99 = .ok (.ldiv, 1) := by decide +kernel
theorem dX11_kept_100 : decode cX11_kept 100 = .ok (.lreturn, 1) := by decide +kernel
theorem dX11_gone_0 : decode cX11_gone 0 = .ok (.aload_n 0, 1) := by decide +kernel
theorem dX11_gone_1 : decode cX11_gone 1 = .ok (.getfield 12, 3) := by decide +kernel
theorem dX11_gone_4 : decode cX11_gone 4 = .ok (.iload_n 1, 1) := by decide +kernel
theorem dX11_gone_5 : decode cX11_gone 5 = .ok (.invokevirtual 104, 3) := by decide +kernel
theorem dX11_gone_8 : decode cX11_gone 8 = .ok (.ifCond .ne 5, 3) := by decide +kernel
theorem dX11_gone_11 : decode cX11_gone 11 = .ok (.iconst (-1), 1) := by decide +kernel
theorem dX11_gone_12 : decode cX11_gone 12 = .ok (.ireturn, 1) := by decide +kernel
theorem dX11_gone_13 : decode cX11_gone 13 = .ok (.aload_n 0, 1) := by decide +kernel
theorem dX11_gone_14 : decode cX11_gone 14 = .ok (.getfield 12, 3) := by decide +kernel
theorem dX11_gone_17 : decode cX11_gone 17 = .ok (.getfield 79, 3) := by decide +kernel
theorem dX11_gone_20 : decode cX11_gone 20 = .ok (.iload_n 1, 1) := by decide +kernel
theorem dX11_gone_21 : decode cX11_gone 21 = .ok (.aaload, 1) := by decide +kernel
theorem dX11_gone_22 : decode cX11_gone 22 = .ok (.iconst 3, 1) := by decide +kernel
theorem dX11_gone_23 : decode cX11_gone 23 = .ok (.iaload, 1) := by decide +kernel
theorem dX11_gone_24 : decode cX11_gone 24 = .ok (.istore_n 2, 1) := by decide +kernel
theorem dX11_gone_25 : decode cX11_gone 25 = .ok (.iconst 0, 1) := by decide +kernel
theorem dX11_gone_26 : decode cX11_gone 26 = .ok (.istore_n 3, 1) := by decide +kernel
theorem dX11_gone_27 : decode cX11_gone 27 = .ok (.iload_n 3, 1) := by decide +kernel
theorem dX11_gone_28 : decode cX11_gone 28 = .ok (.bipush 30, 2) := by decide +kernel
theorem dX11_gone_30 : decode cX11_gone 30 = .ok (.if_icmp .gt 34, 3) := by decide +kernel
theorem dX11_gone_33 : decode cX11_gone 33 = .ok (.iload_n 2, 1) := by decide +kernel
theorem dX11_gone_34 : decode cX11_gone 34 = .ok (.ifCond .ne 5, 3) := by decide +kernel
theorem dX11_gone_37 : decode cX11_gone 37 = .ok (.iload_n 3, 1) := by decide +kernel
theorem dX11_gone_38 : decode cX11_gone 38 = .ok (.ireturn, 1) := by decide +kernel
theorem dX11_gone_39 : decode cX11_gone 39 = .ok (.aload_n 0, 1) := by decide +kernel
theorem dX11_gone_40 : decode cX11_gone 40 = .ok (.getfield 12, 3) := by decide +kernel
theorem dX11_gone_43 : decode cX11_gone 43 = .ok (.iload_n 1, 1) := by decide +kernel
theorem dX11_gone_44 : decode cX11_gone 44 = .ok (.iload_n 2, 1) := by decide +kernel
theorem dX11_gone_45 : decode cX11_gone 45 = .ok (.aload_n 0, 1) := by decide +kernel
theorem dX11_gone_46 : decode cX11_gone 46 = .ok (.getfield 12, 3) := by decide +kernel
theorem dX11_gone_49 : decode cX11_gone 49 = .ok (.getfield 136, 3) := by decide +kernel
theorem dX11_gone_52 : decode cX11_gone 52 = .ok (.iload_n 3, 1) := by decide +kernel
theorem dX11_gone_53 : decode cX11_gone 53 = .ok (.iadd, 1) := by decide +kernel
theorem dX11_gone_54 : decode cX11_gone 54 = .ok (.invokevirtual 221, 3) := by decide +kernel
theorem dX11_gone_57 : decode cX11_gone 57 = .ok (.istore_n 2, 1) := by decide +kernel
theorem dX11_gone_58 : decode cX11_gone 58 = .ok (.iinc 3 1, 3) := by decide +kernel
theorem dX11_gone_61 : decode cX11_gone 61 = .ok (.goto (-34), 3) := by decide +kernel
theorem dX11_gone_64 : decode cX11_gone 64 = .ok (.bipush (-5), 2) := by decide +kernel
theorem dX11_gone_66 : decode cX11_gone 66 = .ok (.ireturn, 1) := by decide +kernel
theorem dX11_day_0 : decode cX11_day 0 = .ok (.aload_n 0, 1) := by decide +kernel
theorem dX11_day_1 : decode cX11_day 1 = .ok (.getfield 12, 3) := by decide +kernel
theorem dX11_day_4 : decode cX11_day 4 = .ok (.getfield 136, 3) := by decide +kernel
theorem dX11_day_7 : decode cX11_day 7 = .ok (.bipush 89, 2) := by decide +kernel
theorem dX11_day_9 : decode cX11_day 9 = .ok (.if_icmp .lt 6, 3) := by decide +kernel
theorem dX11_day_12 : decode cX11_day 12 = .ok (.bipush (-3), 2) := by decide +kernel
theorem dX11_day_14 : decode cX11_day 14 = .ok (.ireturn, 1) := by decide +kernel
theorem dX11_day_15 : decode cX11_day 15 = .ok (.iconst 0, 1) := by decide +kernel
theorem dX11_day_16 : decode cX11_day 16 = .ok (.istore_n 1, 1) := by decide +kernel
theorem dX11_day_17 : decode cX11_day 17 = .ok (.iload_n 1, 1) := by decide +kernel
theorem dX11_day_18 : decode cX11_day 18 = .ok (.aload_n 0, 1) := by decide +kernel
theorem dX11_day_19 : decode cX11_day 19 = .ok (.getfield 12, 3) := by decide +kernel
theorem dX11_day_22 : decode cX11_day 22 = .ok (.getfield 76, 3) := by decide +kernel
theorem dX11_day_25 : decode cX11_day 25 = .ok (.if_icmp .ge 40, 3) := by decide +kernel
theorem dX11_day_28 : decode cX11_day 28 = .ok (.aload_n 0, 1) := by decide +kernel
theorem dX11_day_29 : decode cX11_day 29 = .ok (.getfield 12, 3) := by decide +kernel
theorem dX11_day_32 : decode cX11_day 32 = .ok (.getfield 79, 3) := by decide +kernel
theorem dX11_day_35 : decode cX11_day 35 = .ok (.iload_n 1, 1) := by decide +kernel
theorem dX11_day_36 : decode cX11_day 36 = .ok (.aaload, 1) := by decide +kernel
theorem dX11_day_37 : decode cX11_day 37 = .ok (.astore_n 2, 1) := by decide +kernel
theorem dX11_day_38 : decode cX11_day 38 = .ok (.aload_n 2, 1) := by decide +kernel
theorem dX11_day_39 : decode cX11_day 39 = .ok (.iconst 3, 1) := by decide +kernel
theorem dX11_day_40 : decode cX11_day 40 = .ok (.aload_n 0, 1) := by decide +kernel
theorem dX11_day_41 : decode cX11_day 41 = .ok (.getfield 12, 3) := by decide +kernel
theorem dX11_day_44 : decode cX11_day 44 = .ok (.iload_n 1, 1) := by decide +kernel
theorem dX11_day_45 : decode cX11_day 45 = .ok (.aload_n 2, 1) := by decide +kernel
theorem dX11_day_46 : decode cX11_day 46 = .ok (.iconst 3, 1) := by decide +kernel
theorem dX11_day_47 : decode cX11_day 47 = .ok (.iaload, 1) := by decide +kernel
theorem dX11_day_48 : decode cX11_day 48 = .ok (.aload_n 0, 1) := by decide +kernel
theorem dX11_day_49 : decode cX11_day 49 = .ok (.getfield 12, 3) := by decide +kernel
theorem dX11_day_52 : decode cX11_day 52 = .ok (.getfield 136, 3) := by decide +kernel
theorem dX11_day_55 : decode cX11_day 55 = .ok (.invokevirtual 221, 3) := by decide +kernel
theorem dX11_day_58 : decode cX11_day 58 = .ok (.iastore, 1) := by decide +kernel
theorem dX11_day_59 : decode cX11_day 59 = .ok (.iinc 1 1, 3) := by decide +kernel
theorem dX11_day_62 : decode cX11_day 62 = .ok (.goto (-45), 3) := by decide +kernel
theorem dX11_day_65 : decode cX11_day 65 = .ok (.aload_n 0, 1) := by decide +kernel
theorem dX11_day_66 : decode cX11_day 66 = .ok (.getfield 12, 3) := by decide +kernel
theorem dX11_day_69 : decode cX11_day 69 = .ok (.dup, 1) := by decide +kernel
theorem dX11_day_70 : decode cX11_day 70 = .ok (.getfield 136, 3) := by decide +kernel
theorem dX11_day_73 : decode cX11_day 73 = .ok (.iconst 1, 1) := by decide +kernel
theorem dX11_day_74 : decode cX11_day 74 = .ok (.iadd, 1) := by decide +kernel
theorem dX11_day_75 : decode cX11_day 75 = .ok (.putfield 136, 3) := by decide +kernel
theorem dX11_day_78 : decode cX11_day 78 = .ok (.aload_n 0, 1) := by decide +kernel
theorem dX11_day_79 : decode cX11_day 79 = .ok (.getfield 12, 3) := by decide +kernel
theorem dX11_day_82 : decode cX11_day 82 = .ok (.getfield 136, 3) := by decide +kernel
theorem dX11_day_85 : decode cX11_day 85 = .ok (.ireturn, 1) := by decide +kernel
theorem dX11_passed_0 : decode cX11_passed 0 = .ok (.aload_n 0, 1) := by decide +kernel
theorem dX11_passed_1 : decode cX11_passed 1 = .ok (.getfield 12, 3) := by decide +kernel
theorem dX11_passed_4 : decode cX11_passed 4 = .ok (.iload_n 1, 1) := by decide +kernel
theorem dX11_passed_5 : decode cX11_passed 5 = .ok (.invokevirtual 94, 3) := by decide +kernel
theorem dX11_passed_8 : decode cX11_passed 8 = .ok (.astore 4, 2) := by decide +kernel
theorem dX11_passed_10 : decode cX11_passed 10 = .ok (.aload 4, 2) := by decide +kernel
theorem dX11_passed_12 : decode cX11_passed 12 = .ok (.ifnull 21, 3) := by decide +kernel
theorem dX11_passed_15 : decode cX11_passed 15 = .ok (.aload_n 0, 1) := by decide +kernel
theorem dX11_passed_16 : decode cX11_passed 16 = .ok (.getfield 12, 3) := by decide +kernel
theorem dX11_passed_19 : decode cX11_passed 19 = .ok (.iload_n 2, 1) := by decide +kernel
theorem dX11_passed_20 : decode cX11_passed 20 = .ok (.invokevirtual 104, 3) := by decide +kernel
theorem dX11_passed_23 : decode cX11_passed 23 = .ok (.ifCond .eq 10, 3) := by decide +kernel
theorem dX11_passed_26 : decode cX11_passed 26 = .ok (.iload_n 3, 1) := by decide +kernel
theorem dX11_passed_27 : decode cX11_passed 27 = .ok (.invokestatic 143, 3) := by decide +kernel
theorem dX11_passed_30 : decode cX11_passed 30 = .ok (.ifCond .ne 5, 3) := by decide +kernel
theorem dX11_passed_33 : decode cX11_passed 33 = .ok (.iconst (-1), 1) := by decide +kernel
theorem dX11_passed_34 : decode cX11_passed 34 = .ok (.ireturn, 1) := by decide +kernel
theorem dX11_passed_35 : decode cX11_passed 35 = .ok (.aload_n 0, 1) := by decide +kernel
theorem dX11_passed_36 : decode cX11_passed 36 = .ok (.getfield 12, 3) := by decide +kernel
theorem dX11_passed_39 : decode cX11_passed 39 = .ok (.aload 4, 2) := by decide +kernel
theorem dX11_passed_41 : decode cX11_passed 41 = .ok (.invokevirtual 132, 3) := by decide +kernel
theorem dX11_passed_44 : decode cX11_passed 44 = .ok (.iload_n 3, 1) := by decide +kernel
theorem dX11_passed_45 : decode cX11_passed 45 = .ok (.invokestatic 225, 3) := by decide +kernel
theorem dX11_passed_48 : decode cX11_passed 48 = .ok (.ifCond .ne 6, 3) := by decide +kernel
theorem dX11_passed_51 : decode cX11_passed 51 = .ok (.bipush (-5), 2) := by decide +kernel
theorem dX11_passed_53 : decode cX11_passed 53 = .ok (.ireturn, 1) := by decide +kernel
theorem dX11_passed_54 : decode cX11_passed 54 = .ok (.iconst 0, 1) := by decide +kernel
theorem dX11_passed_55 : decode cX11_passed 55 = .ok (.istore 5, 2) := by decide +kernel
theorem dX11_passed_57 : decode cX11_passed 57 = .ok (.iload 5, 2) := by decide +kernel
theorem dX11_passed_59 : decode cX11_passed 59 = .ok (.aload_n 0, 1) := by decide +kernel
theorem dX11_passed_60 : decode cX11_passed 60 = .ok (.getfield 12, 3) := by decide +kernel
theorem dX11_passed_63 : decode cX11_passed 63 = .ok (.getfield 60, 3) := by decide +kernel
theorem dX11_passed_66 : decode cX11_passed 66 = .ok (.if_icmp .ge 38, 3) := by decide +kernel
theorem dX11_passed_69 : decode cX11_passed 69 = .ok (.iload 5, 2) := by decide +kernel
theorem dX11_passed_71 : decode cX11_passed 71 = .ok (.iload_n 1, 1) := by decide +kernel
theorem dX11_passed_72 : decode cX11_passed 72 = .ok (.if_icmp .eq 26, 3) := by decide +kernel
theorem dX11_passed_75 : decode cX11_passed 75 = .ok (.aload_n 0, 1) := by decide +kernel
theorem dX11_passed_76 : decode cX11_passed 76 = .ok (.aload 4, 2) := by decide +kernel
theorem dX11_passed_78 : decode cX11_passed 78 = .ok (.aload_n 0, 1) := by decide +kernel
theorem dX11_passed_79 : decode cX11_passed 79 = .ok (.getfield 12, 3) := by decide +kernel
theorem dX11_passed_82 : decode cX11_passed 82 = .ok (.getfield 64, 3) := by decide +kernel
theorem dX11_passed_85 : decode cX11_passed 85 = .ok (.iload 5, 2) := by decide +kernel
theorem dX11_passed_87 : decode cX11_passed 87 = .ok (.aaload, 1) := by decide +kernel
theorem dX11_passed_88 : decode cX11_passed 88 = .ok (.iload_n 2, 1) := by decide +kernel
theorem dX11_passed_89 : decode cX11_passed 89 = .ok (.invokevirtual 229, 3) := by decide +kernel
theorem dX11_passed_92 : decode cX11_passed 92 = .ok (.ifCond .eq 6, 3) := by decide +kernel
theorem dX11_passed_95 : decode cX11_passed 95 = .ok (.iload 5, 2) := by decide +kernel
theorem dX11_passed_97 : decode cX11_passed 97 = .ok (.ireturn, 1) := by decide +kernel
theorem dX11_passed_98 : decode cX11_passed 98 = .ok (.iinc 5 1, 3) := by decide +kernel
theorem dX11_passed_101 : decode cX11_passed 101 = .ok (.goto (-44), 3) := by decide +kernel
theorem dX11_passed_104 : decode cX11_passed 104 = .ok (.bipush (-5), 2) := by decide +kernel
theorem dX11_passed_106 : decode cX11_passed 106 = .ok (.ireturn, 1) := by decide +kernel
theorem dX11_vote_0 : decode cX11_vote 0 = .ok (.aload_n 0, 1) := by decide +kernel
theorem dX11_vote_1 : decode cX11_vote 1 = .ok (.getfield 12, 3) := by decide +kernel
theorem dX11_vote_4 : decode cX11_vote 4 = .ok (.getfield 76, 3) := by decide +kernel
theorem dX11_vote_7 : decode cX11_vote 7 = .ok (.ifCond .eq 13, 3) := by decide +kernel
theorem dX11_vote_10 : decode cX11_vote 10 = .ok (.aload_n 0, 1) := by decide +kernel
theorem dX11_vote_11 : decode cX11_vote 11 = .ok (.getfield 12, 3) := by decide +kernel
theorem dX11_vote_14 : decode cX11_vote 14 = .ok (.invokevirtual 233, 3) := by decide +kernel
theorem dX11_vote_17 : decode cX11_vote 17 = .ok (.ifCond .eq 6, 3) := by decide +kernel
theorem dX11_vote_20 : decode cX11_vote 20 = .ok (.bipush (-3), 2) := by decide +kernel
theorem dX11_vote_22 : decode cX11_vote 22 = .ok (.ireturn, 1) := by decide +kernel
theorem dX11_vote_23 : decode cX11_vote 23 = .ok (.aload_n 0, 1) := by decide +kernel
theorem dX11_vote_24 : decode cX11_vote 24 = .ok (.iload_n 1, 1) := by decide +kernel
theorem dX11_vote_25 : decode cX11_vote 25 = .ok (.invokevirtual 237, 3) := by decide +kernel
theorem dX11_vote_28 : decode cX11_vote 28 = .ok (.ifCond .ne 6, 3) := by decide +kernel
theorem dX11_vote_31 : decode cX11_vote 31 = .ok (.bipush (-2), 2) := by decide +kernel
theorem dX11_vote_33 : decode cX11_vote 33 = .ok (.ireturn, 1) := by decide +kernel
theorem dX11_vote_34 : decode cX11_vote 34 = .ok (.aload_n 0, 1) := by decide +kernel
theorem dX11_vote_35 : decode cX11_vote 35 = .ok (.getfield 12, 3) := by decide +kernel
theorem dX11_vote_38 : decode cX11_vote 38 = .ok (.getfield 240, 3) := by decide +kernel
theorem dX11_vote_41 : decode cX11_vote 41 = .ok (.iconst 5, 1) := by decide +kernel
theorem dX11_vote_42 : decode cX11_vote 42 = .ok (.if_icmp .lt 6, 3) := by decide +kernel
theorem dX11_vote_45 : decode cX11_vote 45 = .ok (.bipush (-4), 2) := by decide +kernel
theorem dX11_vote_47 : decode cX11_vote 47 = .ok (.ireturn, 1) := by decide +kernel
theorem dX11_vote_48 : decode cX11_vote 48 = .ok (.iconst 0, 1) := by decide +kernel
theorem dX11_vote_49 : decode cX11_vote 49 = .ok (.istore_n 2, 1) := by decide +kernel
theorem dX11_vote_50 : decode cX11_vote 50 = .ok (.iload_n 2, 1) := by decide +kernel
theorem dX11_vote_51 : decode cX11_vote 51 = .ok (.aload_n 0, 1) := by decide +kernel
theorem dX11_vote_52 : decode cX11_vote 52 = .ok (.getfield 12, 3) := by decide +kernel
theorem dX11_vote_55 : decode cX11_vote 55 = .ok (.getfield 76, 3) := by decide +kernel
theorem dX11_vote_58 : decode cX11_vote 58 = .ok (.if_icmp .ge 55, 3) := by decide +kernel
theorem dX11_vote_61 : decode cX11_vote 61 = .ok (.iload_n 2, 1) := by decide +kernel
theorem dX11_vote_62 : decode cX11_vote 62 = .ok (.iconst 1, 1) := by decide +kernel
theorem dX11_vote_63 : decode cX11_vote 63 = .ok (.iadd, 1) := by decide +kernel
theorem dX11_vote_64 : decode cX11_vote 64 = .ok (.istore_n 3, 1) := by decide +kernel
theorem dX11_vote_65 : decode cX11_vote 65 = .ok (.iload_n 3, 1) := by decide +kernel
theorem dX11_vote_66 : decode cX11_vote 66 = .ok (.aload_n 0, 1) := by decide +kernel
theorem dX11_vote_67 : decode cX11_vote 67 = .ok (.getfield 12, 3) := by decide +kernel
theorem dX11_vote_70 : decode cX11_vote 70 = .ok (.getfield 76, 3) := by decide +kernel
theorem dX11_vote_73 : decode cX11_vote 73 = .ok (.if_icmp .ge 34, 3) := by decide +kernel
theorem dX11_vote_76 : decode cX11_vote 76 = .ok (.aload_n 0, 1) := by decide +kernel
theorem dX11_vote_77 : decode cX11_vote 77 = .ok (.getfield 12, 3) := by decide +kernel
theorem dX11_vote_80 : decode cX11_vote 80 = .ok (.getfield 243, 3) := by decide +kernel
theorem dX11_vote_83 : decode cX11_vote 83 = .ok (.aload_n 0, 1) := by decide +kernel
theorem dX11_vote_84 : decode cX11_vote 84 = .ok (.getfield 50, 3) := by decide +kernel
theorem dX11_vote_87 : decode cX11_vote 87 = .ok (.iload_n 2, 1) := by decide +kernel
theorem dX11_vote_88 : decode cX11_vote 88 = .ok (.iaload, 1) := by decide +kernel
theorem dX11_vote_89 : decode cX11_vote 89 = .ok (.aaload, 1) := by decide +kernel
theorem dX11_vote_90 : decode cX11_vote 90 = .ok (.aload_n 0, 1) := by decide +kernel
theorem dX11_vote_91 : decode cX11_vote 91 = .ok (.getfield 50, 3) := by decide +kernel
theorem dX11_vote_94 : decode cX11_vote 94 = .ok (.iload_n 3, 1) := by decide +kernel
theorem dX11_vote_95 : decode cX11_vote 95 = .ok (.iaload, 1) := by decide +kernel
theorem dX11_vote_96 : decode cX11_vote 96 = .ok (.dup2, 1) := by decide +kernel
theorem dX11_vote_97 : decode cX11_vote 97 = .ok (.iaload, 1) := by decide +kernel
theorem dX11_vote_98 : decode cX11_vote 98 = .ok (.iconst 1, 1) := by decide +kernel
theorem dX11_vote_99 : decode cX11_vote 99 = .ok (.iadd, 1) := by decide +kernel
theorem dX11_vote_100 : decode cX11_vote 100 = .ok (.iastore, 1) := by decide +kernel
theorem dX11_vote_101 : decode cX11_vote 101 = .ok (.iinc 3 1, 3) := by decide +kernel
theorem dX11_vote_104 : decode cX11_vote 104 = .ok (.goto (-39), 3) := by decide +kernel
theorem dX11_vote_107 : decode cX11_vote 107 = .ok (.iinc 2 1, 3) := by decide +kernel
theorem dX11_vote_110 : decode cX11_vote 110 = .ok (.goto (-60), 3) := by decide +kernel
theorem dX11_vote_113 : decode cX11_vote 113 = .ok (.aload_n 0, 1) := by decide +kernel
theorem dX11_vote_114 : decode cX11_vote 114 = .ok (.getfield 12, 3) := by decide +kernel
theorem dX11_vote_117 : decode cX11_vote 117 = .ok (.aload_n 0, 1) := by decide +kernel
theorem dX11_vote_118 : decode cX11_vote 118 = .ok (.getfield 12, 3) := by decide +kernel
theorem dX11_vote_121 : decode cX11_vote 121 = .ok (.getfield 76, 3) := by decide +kernel
theorem dX11_vote_124 : decode cX11_vote 124 = .ok (.putfield 246, 3) := by decide +kernel
theorem dX11_vote_127 : decode cX11_vote 127 = .ok (.aload_n 0, 1) := by decide +kernel
theorem dX11_vote_128 : decode cX11_vote 128 = .ok (.getfield 12, 3) := by decide +kernel
theorem dX11_vote_131 : decode cX11_vote 131 = .ok (.dup, 1) := by decide +kernel
theorem dX11_vote_132 : decode cX11_vote 132 = .ok (.getfield 240, 3) := by decide +kernel
theorem dX11_vote_135 : decode cX11_vote 135 = .ok (.iconst 1, 1) := by decide +kernel
theorem dX11_vote_136 : decode cX11_vote 136 = .ok (.iadd, 1) := by decide +kernel
theorem dX11_vote_137 : decode cX11_vote 137 = .ok (.putfield 240, 3) := by decide +kernel
theorem dX11_vote_140 : decode cX11_vote 140 = .ok (.aload_n 0, 1) := by decide +kernel
theorem dX11_vote_141 : decode cX11_vote 141 = .ok (.getfield 12, 3) := by decide +kernel
theorem dX11_vote_144 : decode cX11_vote 144 = .ok (.getfield 240, 3) := by decide +kernel
theorem dX11_vote_147 : decode cX11_vote 147 = .ok (.ireturn, 1) := by decide +kernel
theorem dX11_clear_0 : decode cX11_clear 0 = .ok (.aload_n 0, 1) := by decide +kernel
theorem dX11_clear_1 : decode cX11_clear 1 = .ok (.getfield 12, 3) := by decide +kernel
theorem dX11_clear_4 : decode cX11_clear 4 = .ok (.getfield 240, 3) := by decide +kernel
theorem dX11_clear_7 : decode cX11_clear 7 = .ok (.istore_n 1, 1) := by decide +kernel
theorem dX11_clear_8 : decode cX11_clear 8 = .ok (.aload_n 0, 1) := by decide +kernel
theorem dX11_clear_9 : decode cX11_clear 9 = .ok (.getfield 12, 3) := by decide +kernel
theorem dX11_clear_12 : decode cX11_clear 12 = .ok (.iconst 0, 1) := by decide +kernel
theorem dX11_clear_13 : decode cX11_clear 13 = .ok (.putfield 240, 3) := by decide +kernel
theorem dX11_clear_16 : decode cX11_clear 16 = .ok (.iconst 0, 1) := by decide +kernel
theorem dX11_clear_17 : decode cX11_clear 17 = .ok (.istore_n 2, 1) := by decide +kernel
theorem dX11_clear_18 : decode cX11_clear 18 = .ok (.iload_n 2, 1) := by decide +kernel
theorem dX11_clear_19 : decode cX11_clear 19 = .ok (.bipush 6, 2) := by decide +kernel
theorem dX11_clear_21 : decode cX11_clear 21 = .ok (.if_icmp .ge 22, 3) := by decide +kernel
theorem dX11_clear_24 : decode cX11_clear 24 = .ok (.aload_n 0, 1) := by decide +kernel
theorem dX11_clear_25 : decode cX11_clear 25 = .ok (.getfield 12, 3) := by decide +kernel
theorem dX11_clear_28 : decode cX11_clear 28 = .ok (.getfield 243, 3) := by decide +kernel
theorem dX11_clear_31 : decode cX11_clear 31 = .ok (.iload_n 2, 1) := by decide +kernel
theorem dX11_clear_32 : decode cX11_clear 32 = .ok (.aaload, 1) := by decide +kernel
theorem dX11_clear_33 : decode cX11_clear 33 = .ok (.iconst 0, 1) := by decide +kernel
theorem dX11_clear_34 : decode cX11_clear 34 = .ok (.invokestatic 249, 3) := by decide +kernel
theorem dX11_clear_37 : decode cX11_clear 37 = .ok (.iinc 2 1, 3) := by decide +kernel
theorem dX11_clear_40 : decode cX11_clear 40 = .ok (.goto (-22), 3) := by decide +kernel
theorem dX11_clear_43 : decode cX11_clear 43 = .ok (.iload_n 1, 1) := by decide +kernel
theorem dX11_clear_44 : decode cX11_clear 44 = .ok (.ireturn, 1) := by decide +kernel
theorem dX11_holds_0 : decode cX11_holds 0 = .ok (.iload_n 1, 1) := by decide +kernel
theorem dX11_holds_1 : decode cX11_holds 1 = .ok (.bipush 10, 2) := by decide +kernel
theorem dX11_holds_3 : decode cX11_holds 3 = .ok (.if_icmp .lt 21, 3) := by decide +kernel
theorem dX11_holds_6 : decode cX11_holds 6 = .ok (.iload_n 1, 1) := by decide +kernel
theorem dX11_holds_7 : decode cX11_holds 7 = .ok (.bipush 10, 2) := by decide +kernel
theorem dX11_holds_9 : decode cX11_holds 9 = .ok (.aload_n 0, 1) := by decide +kernel
theorem dX11_holds_10 : decode cX11_holds 10 = .ok (.getfield 12, 3) := by decide +kernel
theorem dX11_holds_13 : decode cX11_holds 13 = .ok (.getfield 76, 3) := by decide +kernel
theorem dX11_holds_16 : decode cX11_holds 16 = .ok (.iadd, 1) := by decide +kernel
theorem dX11_holds_17 : decode cX11_holds 17 = .ok (.if_icmp .ge 7, 3) := by decide +kernel
theorem dX11_holds_20 : decode cX11_holds 20 = .ok (.iconst 1, 1) := by decide +kernel
theorem dX11_holds_21 : decode cX11_holds 21 = .ok (.goto 4, 3) := by decide +kernel
theorem dX11_holds_24 : decode cX11_holds 24 = .ok (.iconst 0, 1) := by decide +kernel
theorem dX11_holds_25 : decode cX11_holds 25 = .ok (.istore_n 2, 1) := by decide +kernel
theorem dX11_holds_26 : decode cX11_holds 26 = .ok (.iload_n 1, 1) := by decide +kernel
theorem dX11_holds_27 : decode cX11_holds 27 = .ok (.bipush 20, 2) := by decide +kernel
theorem dX11_holds_29 : decode cX11_holds 29 = .ok (.if_icmp .lt 21, 3) := by decide +kernel
theorem dX11_holds_32 : decode cX11_holds 32 = .ok (.iload_n 1, 1) := by decide +kernel
theorem dX11_holds_33 : decode cX11_holds 33 = .ok (.bipush 20, 2) := by decide +kernel
theorem dX11_holds_35 : decode cX11_holds 35 = .ok (.aload_n 0, 1) := by decide +kernel
theorem dX11_holds_36 : decode cX11_holds 36 = .ok (.getfield 12, 3) := by decide +kernel
theorem dX11_holds_39 : decode cX11_holds 39 = .ok (.getfield 76, 3) := by decide +kernel
theorem dX11_holds_42 : decode cX11_holds 42 = .ok (.iadd, 1) := by decide +kernel
theorem dX11_holds_43 : decode cX11_holds 43 = .ok (.if_icmp .ge 7, 3) := by decide +kernel
theorem dX11_holds_46 : decode cX11_holds 46 = .ok (.iconst 1, 1) := by decide +kernel
theorem dX11_holds_47 : decode cX11_holds 47 = .ok (.goto 4, 3) := by decide +kernel
theorem dX11_holds_50 : decode cX11_holds 50 = .ok (.iconst 0, 1) := by decide +kernel
theorem dX11_holds_51 : decode cX11_holds 51 = .ok (.istore_n 3, 1) := by decide +kernel
theorem dX11_holds_52 : decode cX11_holds 52 = .ok (.iload_n 1, 1) := by decide +kernel
theorem dX11_holds_53 : decode cX11_holds 53 = .ok (.ifCond .eq 18, 3) := by decide +kernel
theorem dX11_holds_56 : decode cX11_holds 56 = .ok (.iload_n 1, 1) := by decide +kernel
theorem dX11_holds_57 : decode cX11_holds 57 = .ok (.iconst 1, 1) := by decide +kernel
theorem dX11_holds_58 : decode cX11_holds 58 = .ok (.if_icmp .eq 13, 3) := by decide +kernel
theorem dX11_holds_61 : decode cX11_holds 61 = .ok (.iload_n 2, 1) := by decide +kernel
theorem dX11_holds_62 : decode cX11_holds 62 = .ok (.ifCond .ne 9, 3) := by decide +kernel
theorem dX11_holds_65 : decode cX11_holds 65 = .ok (.iload_n 3, 1) := by decide +kernel
theorem dX11_holds_66 : decode cX11_holds 66 = .ok (.ifCond .ne 5, 3) := by decide +kernel
theorem dX11_holds_69 : decode cX11_holds 69 = .ok (.iconst (-1), 1) := by decide +kernel
theorem dX11_holds_70 : decode cX11_holds 70 = .ok (.ireturn, 1) := by decide +kernel
theorem dX11_holds_71 : decode cX11_holds 71 = .ok (.aload_n 0, 1) := by decide +kernel
theorem dX11_holds_72 : decode cX11_holds 72 = .ok (.getfield 12, 3) := by decide +kernel
theorem dX11_holds_75 : decode cX11_holds 75 = .ok (.getfield 240, 3) := by decide +kernel
theorem dX11_holds_78 : decode cX11_holds 78 = .ok (.ifCond .eq 13, 3) := by decide +kernel
theorem dX11_holds_81 : decode cX11_holds 81 = .ok (.aload_n 0, 1) := by decide +kernel
theorem dX11_holds_82 : decode cX11_holds 82 = .ok (.getfield 12, 3) := by decide +kernel
theorem dX11_holds_85 : decode cX11_holds 85 = .ok (.invokevirtual 233, 3) := by decide +kernel
theorem dX11_holds_88 : decode cX11_holds 88 = .ok (.ifCond .eq 6, 3) := by decide +kernel
theorem dX11_holds_91 : decode cX11_holds 91 = .ok (.bipush (-3), 2) := by decide +kernel
theorem dX11_holds_93 : decode cX11_holds 93 = .ok (.ireturn, 1) := by decide +kernel
theorem dX11_holds_94 : decode cX11_holds 94 = .ok (.iload_n 2, 1) := by decide +kernel
theorem dX11_holds_95 : decode cX11_holds 95 = .ok (.ifCond .eq 12, 3) := by decide +kernel
theorem dX11_holds_98 : decode cX11_holds 98 = .ok (.aload_n 0, 1) := by decide +kernel
theorem dX11_holds_99 : decode cX11_holds 99 = .ok (.iload_n 1, 1) := by decide +kernel
theorem dX11_holds_100 : decode cX11_holds 100 = .ok (.bipush 10, 2) := by decide +kernel
theorem dX11_holds_102 : decode cX11_holds 102 = .ok (.isub, 1) := by decide +kernel
theorem dX11_holds_103 : decode cX11_holds 103 = .ok (.invokevirtual 255, 3) := by decide +kernel
theorem dX11_holds_106 : decode cX11_holds 106 = .ok (.ireturn, 1) := by decide +kernel
theorem dX11_holds_107 : decode cX11_holds 107 = .ok (.iload_n 3, 1) := by decide +kernel
theorem dX11_holds_108 : decode cX11_holds 108 = .ok (.ifCond .eq 12, 3) := by decide +kernel
theorem dX11_holds_111 : decode cX11_holds 111 = .ok (.aload_n 0, 1) := by decide +kernel
theorem dX11_holds_112 : decode cX11_holds 112 = .ok (.iload_n 1, 1) := by decide +kernel
theorem dX11_holds_113 : decode cX11_holds 113 = .ok (.bipush 20, 2) := by decide +kernel
theorem dX11_holds_115 : decode cX11_holds 115 = .ok (.isub, 1) := by decide +kernel
theorem dX11_holds_116 : decode cX11_holds 116 = .ok (.invokevirtual 258, 3) := by decide +kernel
theorem dX11_holds_119 : decode cX11_holds 119 = .ok (.ireturn, 1) := by decide +kernel
theorem dX11_holds_120 : decode cX11_holds 120 = .ok (.iload_n 1, 1) := by decide +kernel
theorem dX11_holds_121 : decode cX11_holds 121 = .ok (.ifCond .ne 10, 3) := by decide +kernel
theorem dX11_holds_124 : decode cX11_holds 124 = .ok (.aload_n 0, 1) := by decide +kernel
theorem dX11_holds_125 : decode cX11_holds 125 = .ok (.invokevirtual 261, 3) := by decide +kernel
theorem dX11_holds_128 : decode cX11_holds 128 = .ok (.goto 7, 3) := by decide +kernel
theorem dX11_holds_131 : decode cX11_holds 131 = .ok (.aload_n 0, 1) := by decide +kernel
theorem dX11_holds_132 : decode cX11_holds 132 = .ok (.invokevirtual 264, 3) := by decide +kernel
theorem dX11_holds_135 : decode cX11_holds 135 = .ok (.ireturn, 1) := by decide +kernel
theorem dX11_act_0 : decode cX11_act 0 = .ok (.aload_n 0, 1) := by decide +kernel
theorem dX11_act_1 : decode cX11_act 1 = .ok (.getfield 28, 3) := by decide +kernel
theorem dX11_act_4 : decode cX11_act 4 = .ok (.invokevirtual 267, 3) := by decide +kernel
theorem dX11_act_7 : decode cX11_act 7 = .ok (.aload_n 0, 1) := by decide +kernel
theorem dX11_act_8 : decode cX11_act 8 = .ok (.getfield 12, 3) := by decide +kernel
theorem dX11_act_11 : decode cX11_act 11 = .ok (.iload_n 1, 1) := by decide +kernel
theorem dX11_act_12 : decode cX11_act 12 = .ok (.invokevirtual 94, 3) := by decide +kernel
theorem dX11_act_15 : decode cX11_act 15 = .ok (.astore 4, 2) := by decide +kernel
theorem dX11_act_17 : decode cX11_act 17 = .ok (.aload 4, 2) := by decide +kernel
theorem dX11_act_19 : decode cX11_act 19 = .ok (.ifnonnull 5, 3) := by decide +kernel
theorem dX11_act_22 : decode cX11_act 22 = .ok (.iconst 0, 1) := by decide +kernel
theorem dX11_act_23 : decode cX11_act 23 = .ok (.ireturn, 1) := by decide +kernel
theorem dX11_act_24 : decode cX11_act 24 = .ok (.iload_n 2, 1) := by decide +kernel
theorem dX11_act_25 : decode cX11_act 25 = .ok (.tableswitch 60 0 2 #[27, 38, 49], 27) := by decide +kernel
theorem dX11_act_52 : decode cX11_act 52 = .ok (.aload 4, 2) := by decide +kernel
theorem dX11_act_54 : decode cX11_act 54 = .ok (.iload_n 3, 1) := by decide +kernel
theorem dX11_act_55 : decode cX11_act 55 = .ok (.aload_n 0, 1) := by decide +kernel
theorem dX11_act_56 : decode cX11_act 56 = .ok (.getfield 28, 3) := by decide +kernel
theorem dX11_act_59 : decode cX11_act 59 = .ok (.invokevirtual 270, 3) := by decide +kernel
theorem dX11_act_62 : decode cX11_act 62 = .ok (.ireturn, 1) := by decide +kernel
theorem dX11_act_63 : decode cX11_act 63 = .ok (.aload 4, 2) := by decide +kernel
theorem dX11_act_65 : decode cX11_act 65 = .ok (.iload_n 3, 1) := by decide +kernel
theorem dX11_act_66 : decode cX11_act 66 = .ok (.aload_n 0, 1) := by decide +kernel
theorem dX11_act_67 : decode cX11_act 67 = .ok (.getfield 28, 3) := by decide +kernel
theorem dX11_act_70 : decode cX11_act 70 = .ok (.invokevirtual 274, 3) := by decide +kernel
theorem dX11_act_73 : decode cX11_act 73 = .ok (.ireturn, 1) := by decide +kernel
theorem dX11_act_74 : decode cX11_act 74 = .ok (.aload 4, 2) := by decide +kernel
theorem dX11_act_76 : decode cX11_act 76 = .ok (.iload_n 3, 1) := by decide +kernel
theorem dX11_act_77 : decode cX11_act 77 = .ok (.aload_n 0, 1) := by decide +kernel
theorem dX11_act_78 : decode cX11_act 78 = .ok (.getfield 28, 3) := by decide +kernel
theorem dX11_act_81 : decode cX11_act 81 = .ok (.invokevirtual 277, 3) := by decide +kernel
theorem dX11_act_84 : decode cX11_act 84 = .ok (.ireturn, 1) := by decide +kernel
theorem dX11_act_85 : decode cX11_act 85 = .ok (.iconst 0, 1) := by decide +kernel
theorem dX11_act_86 : decode cX11_act 86 = .ok (.ireturn, 1) := by decide +kernel
theorem dX11_trace_0 : decode cX11_trace 0 = .ok (.iload_n 1, 1) := by decide +kernel
theorem dX11_trace_1 : decode cX11_trace 1 = .ok (.ifCond .lt 20, 3) := by decide +kernel
theorem dX11_trace_4 : decode cX11_trace 4 = .ok (.iload_n 1, 1) := by decide +kernel
theorem dX11_trace_5 : decode cX11_trace 5 = .ok (.aload_n 0, 1) := by decide +kernel
theorem dX11_trace_6 : decode cX11_trace 6 = .ok (.getfield 28, 3) := by decide +kernel
theorem dX11_trace_9 : decode cX11_trace 9 = .ok (.getfield 280, 3) := by decide +kernel
theorem dX11_trace_12 : decode cX11_trace 12 = .ok (.if_icmp .ge 9, 3) := by decide +kernel
theorem dX11_trace_15 : decode cX11_trace 15 = .ok (.iload_n 1, 1) := by decide +kernel
theorem dX11_trace_16 : decode cX11_trace 16 = .ok (.bipush 20, 2) := by decide +kernel
theorem dX11_trace_18 : decode cX11_trace 18 = .ok (.if_icmp .lt 5, 3) := by decide +kernel
theorem dX11_trace_21 : decode cX11_trace 21 = .ok (.iconst (-1), 1) := by decide +kernel
theorem dX11_trace_22 : decode cX11_trace 22 = .ok (.ireturn, 1) := by decide +kernel
theorem dX11_trace_23 : decode cX11_trace 23 = .ok (.aload_n 0, 1) := by decide +kernel
theorem dX11_trace_24 : decode cX11_trace 24 = .ok (.getfield 28, 3) := by decide +kernel
theorem dX11_trace_27 : decode cX11_trace 27 = .ok (.getfield 283, 3) := by decide +kernel
theorem dX11_trace_30 : decode cX11_trace 30 = .ok (.iload_n 1, 1) := by decide +kernel
theorem dX11_trace_31 : decode cX11_trace 31 = .ok (.iaload, 1) := by decide +kernel
theorem dX11_trace_32 : decode cX11_trace 32 = .ok (.ireturn, 1) := by decide +kernel
theorem dX11_as_0 : decode cX11_as 0 = .ok (.aload_n 0, 1) := by decide +kernel
theorem dX11_as_1 : decode cX11_as 1 = .ok (.getfield 12, 3) := by decide +kernel
theorem dX11_as_4 : decode cX11_as 4 = .ok (.iload_n 1, 1) := by decide +kernel
theorem dX11_as_5 : decode cX11_as 5 = .ok (.invokevirtual 94, 3) := by decide +kernel
theorem dX11_as_8 : decode cX11_as 8 = .ok (.astore_n 3, 1) := by decide +kernel
theorem dX11_as_9 : decode cX11_as 9 = .ok (.aload_n 3, 1) := by decide +kernel
theorem dX11_as_10 : decode cX11_as 10 = .ok (.ifnull 13, 3) := by decide +kernel
theorem dX11_as_13 : decode cX11_as 13 = .ok (.iload_n 2, 1) := by decide +kernel
theorem dX11_as_14 : decode cX11_as 14 = .ok (.ifCond .lt 9, 3) := by decide +kernel
theorem dX11_as_17 : decode cX11_as 17 = .ok (.iload_n 2, 1) := by decide +kernel
theorem dX11_as_18 : decode cX11_as 18 = .ok (.bipush 7, 2) := by decide +kernel
theorem dX11_as_20 : decode cX11_as 20 = .ok (.if_icmp .lt 5, 3) := by decide +kernel
theorem dX11_as_23 : decode cX11_as 23 = .ok (.iconst (-1), 1) := by decide +kernel
theorem dX11_as_24 : decode cX11_as 24 = .ok (.ireturn, 1) := by decide +kernel
theorem dX11_as_25 : decode cX11_as 25 = .ok (.aload_n 3, 1) := by decide +kernel
theorem dX11_as_26 : decode cX11_as 26 = .ok (.iload_n 2, 1) := by decide +kernel
theorem dX11_as_27 : decode cX11_as 27 = .ok (.invokestatic 286, 3) := by decide +kernel
theorem dX11_as_30 : decode cX11_as 30 = .ok (.ifCond .eq 10, 3) := by decide +kernel
theorem dX11_as_33 : decode cX11_as 33 = .ok (.aload_n 3, 1) := by decide +kernel
theorem dX11_as_34 : decode cX11_as 34 = .ok (.getfield 289, 3) := by decide +kernel
theorem dX11_as_37 : decode cX11_as 37 = .ok (.goto 5, 3) := by decide +kernel
theorem dX11_as_40 : decode cX11_as 40 = .ok (.bipush (-6), 2) := by decide +kernel
theorem dX11_as_42 : decode cX11_as 42 = .ok (.ireturn, 1) := by decide +kernel
theorem dX11_image_0 : decode cX11_image 0 = .ok (.aload_n 0, 1) := by decide +kernel
theorem dX11_image_1 : decode cX11_image 1 = .ok (.getfield 18, 3) := by decide +kernel
theorem dX11_image_4 : decode cX11_image 4 = .ok (.aload_n 0, 1) := by decide +kernel
theorem dX11_image_5 : decode cX11_image 5 = .ok (.getfield 12, 3) := by decide +kernel
theorem dX11_image_8 : decode cX11_image 8 = .ok (.invokevirtual 292, 3) := by decide +kernel
theorem dX11_image_11 : decode cX11_image 11 = .ok (.aload_n 0, 1) := by decide +kernel
theorem dX11_image_12 : decode cX11_image 12 = .ok (.iconst 1, 1) := by decide +kernel
theorem dX11_image_13 : decode cX11_image 13 = .ok (.putfield 21, 3) := by decide +kernel
theorem dX11_image_16 : decode cX11_image 16 = .ok (.aload_n 0, 1) := by decide +kernel
theorem dX11_image_17 : decode cX11_image 17 = .ok (.getfield 12, 3) := by decide +kernel
theorem dX11_image_20 : decode cX11_image 20 = .ok (.getfield 60, 3) := by decide +kernel
theorem dX11_image_23 : decode cX11_image 23 = .ok (.ireturn, 1) := by decide +kernel
theorem dX11_undo_0 : decode cX11_undo 0 = .ok (.aload_n 0, 1) := by decide +kernel
theorem dX11_undo_1 : decode cX11_undo 1 = .ok (.getfield 21, 3) := by decide +kernel
theorem dX11_undo_4 : decode cX11_undo 4 = .ok (.ifCond .ne 6, 3) := by decide +kernel
theorem dX11_undo_7 : decode cX11_undo 7 = .ok (.bipush (-3), 2) := by decide +kernel
theorem dX11_undo_9 : decode cX11_undo 9 = .ok (.ireturn, 1) := by decide +kernel
theorem dX11_undo_10 : decode cX11_undo 10 = .ok (.aload_n 0, 1) := by decide +kernel
theorem dX11_undo_11 : decode cX11_undo 11 = .ok (.getfield 12, 3) := by decide +kernel
theorem dX11_undo_14 : decode cX11_undo 14 = .ok (.aload_n 0, 1) := by decide +kernel
theorem dX11_undo_15 : decode cX11_undo 15 = .ok (.getfield 18, 3) := by decide +kernel
theorem dX11_undo_18 : decode cX11_undo 18 = .ok (.invokevirtual 292, 3) := by decide +kernel
theorem dX11_undo_21 : decode cX11_undo 21 = .ok (.aload_n 0, 1) := by decide +kernel
theorem dX11_undo_22 : decode cX11_undo 22 = .ok (.getfield 12, 3) := by decide +kernel
theorem dX11_undo_25 : decode cX11_undo 25 = .ok (.getfield 60, 3) := by decide +kernel
theorem dX11_undo_28 : decode cX11_undo 28 = .ok (.ireturn, 1) := by decide +kernel
theorem dX11_count_0 : decode cX11_count 0 = .ok (.iload_n 1, 1) := by decide +kernel
theorem dX11_count_1 : decode cX11_count 1 = .ok (.tableswitch 111 0 7 #[47, 55, 63, 71, 79, 87, 95, 103], 47) := by decide +kernel
theorem dX11_count_48 : decode cX11_count 48 = .ok (.aload_n 0, 1) := by decide +kernel
theorem dX11_count_49 : decode cX11_count 49 = .ok (.getfield 12, 3) := by decide +kernel
theorem dX11_count_52 : decode cX11_count 52 = .ok (.getfield 60, 3) := by decide +kernel
theorem dX11_count_55 : decode cX11_count 55 = .ok (.ireturn, 1) := by decide +kernel
theorem dX11_count_56 : decode cX11_count 56 = .ok (.aload_n 0, 1) := by decide +kernel
theorem dX11_count_57 : decode cX11_count 57 = .ok (.getfield 12, 3) := by decide +kernel
theorem dX11_count_60 : decode cX11_count 60 = .ok (.getfield 76, 3) := by decide +kernel
theorem dX11_count_63 : decode cX11_count 63 = .ok (.ireturn, 1) := by decide +kernel
theorem dX11_count_64 : decode cX11_count 64 = .ok (.aload_n 0, 1) := by decide +kernel
theorem dX11_count_65 : decode cX11_count 65 = .ok (.getfield 12, 3) := by decide +kernel
theorem dX11_count_68 : decode cX11_count 68 = .ok (.getfield 82, 3) := by decide +kernel
theorem dX11_count_71 : decode cX11_count 71 = .ok (.ireturn, 1) := by decide +kernel
theorem dX11_count_72 : decode cX11_count 72 = .ok (.aload_n 0, 1) := by decide +kernel
theorem dX11_count_73 : decode cX11_count 73 = .ok (.getfield 12, 3) := by decide +kernel
theorem dX11_count_76 : decode cX11_count 76 = .ok (.getfield 114, 3) := by decide +kernel
theorem dX11_count_79 : decode cX11_count 79 = .ok (.ireturn, 1) := by decide +kernel
theorem dX11_count_80 : decode cX11_count 80 = .ok (.aload_n 0, 1) := by decide +kernel
theorem dX11_count_81 : decode cX11_count 81 = .ok (.getfield 12, 3) := by decide +kernel
theorem dX11_count_84 : decode cX11_count 84 = .ok (.getfield 136, 3) := by decide +kernel
theorem dX11_count_87 : decode cX11_count 87 = .ok (.ireturn, 1) := by decide +kernel
theorem dX11_count_88 : decode cX11_count 88 = .ok (.aload_n 0, 1) := by decide +kernel
theorem dX11_count_89 : decode cX11_count 89 = .ok (.getfield 12, 3) := by decide +kernel
theorem dX11_count_92 : decode cX11_count 92 = .ok (.getfield 240, 3) := by decide +kernel
theorem dX11_count_95 : decode cX11_count 95 = .ok (.ireturn, 1) := by decide +kernel
theorem dX11_count_96 : decode cX11_count 96 = .ok (.aload_n 0, 1) := by decide +kernel
theorem dX11_count_97 : decode cX11_count 97 = .ok (.getfield 12, 3) := by decide +kernel
theorem dX11_count_100 : decode cX11_count 100 = .ok (.getfield 107, 3) := by decide +kernel
theorem dX11_count_103 : decode cX11_count 103 = .ok (.ireturn, 1) := by decide +kernel
theorem dX11_count_104 : decode cX11_count 104 = .ok (.aload_n 0, 1) := by decide +kernel
theorem dX11_count_105 : decode cX11_count 105 = .ok (.getfield 28, 3) := by decide +kernel
theorem dX11_count_108 : decode cX11_count 108 = .ok (.getfield 280, 3) := by decide +kernel
theorem dX11_count_111 : decode cX11_count 111 = .ok (.ireturn, 1) := by decide +kernel
theorem dX11_count_112 : decode cX11_count 112 = .ok (.iconst (-1), 1) := by decide +kernel
theorem dX11_count_113 : decode cX11_count 113 = .ok (.ireturn, 1) := by decide +kernel
theorem dX11_isWithin_0 : decode cX11_isWithin 0 = .ok (.iload_n 0, 1) := by decide +kernel
theorem dX11_isWithin_1 : decode cX11_isWithin 1 = .ok (.iload_n 1, 1) := by decide +kernel
theorem dX11_isWithin_2 : decode cX11_isWithin 2 = .ok (.if_icmp .lt 12, 3) := by decide +kernel
theorem dX11_isWithin_5 : decode cX11_isWithin 5 = .ok (.iload_n 0, 1) := by decide +kernel
theorem dX11_isWithin_6 : decode cX11_isWithin 6 = .ok (.iload_n 2, 1) := by decide +kernel
theorem dX11_isWithin_7 : decode cX11_isWithin 7 = .ok (.if_icmp .gt 7, 3) := by decide +kernel
theorem dX11_isWithin_10 : decode cX11_isWithin 10 = .ok (.iconst 1, 1) := by decide +kernel
theorem dX11_isWithin_11 : decode cX11_isWithin 11 = .ok (.goto 4, 3) := by decide +kernel
theorem dX11_isWithin_14 : decode cX11_isWithin 14 = .ok (.iconst 0, 1) := by decide +kernel
theorem dX11_isWithin_15 : decode cX11_isWithin 15 = .ok (.ireturn, 1) := by decide +kernel
theorem dX11_isPoint_0 : decode cX11_isPoint 0 = .ok (.iload_n 0, 1) := by decide +kernel
theorem dX11_isPoint_1 : decode cX11_isPoint 1 = .ok (.ifCond .lt 25, 3) := by decide +kernel
theorem dX11_isPoint_4 : decode cX11_isPoint 4 = .ok (.iload_n 0, 1) := by decide +kernel
theorem dX11_isPoint_5 : decode cX11_isPoint 5 = .ok (.bipush 100, 2) := by decide +kernel
theorem dX11_isPoint_7 : decode cX11_isPoint 7 = .ok (.idiv, 1) := by decide +kernel
theorem dX11_isPoint_8 : decode cX11_isPoint 8 = .ok (.bipush 40, 2) := by decide +kernel
theorem dX11_isPoint_10 : decode cX11_isPoint 10 = .ok (.if_icmp .gt 16, 3) := by decide +kernel
theorem dX11_isPoint_13 : decode cX11_isPoint 13 = .ok (.iload_n 0, 1) := by decide +kernel
theorem dX11_isPoint_14 : decode cX11_isPoint 14 = .ok (.bipush 100, 2) := by decide +kernel
theorem dX11_isPoint_16 : decode cX11_isPoint 16 = .ok (.irem, 1) := by decide +kernel
theorem dX11_isPoint_17 : decode cX11_isPoint 17 = .ok (.bipush 40, 2) := by decide +kernel
theorem dX11_isPoint_19 : decode cX11_isPoint 19 = .ok (.if_icmp .gt 7, 3) := by decide +kernel
theorem dX11_isPoint_22 : decode cX11_isPoint 22 = .ok (.iconst 1, 1) := by decide +kernel
theorem dX11_isPoint_23 : decode cX11_isPoint 23 = .ok (.goto 4, 3) := by decide +kernel
theorem dX11_isPoint_26 : decode cX11_isPoint 26 = .ok (.iconst 0, 1) := by decide +kernel
theorem dX11_isPoint_27 : decode cX11_isPoint 27 = .ok (.ireturn, 1) := by decide +kernel
theorem dX11_isMake_0 : decode cX11_isMake 0 = .ok (.iload_n 0, 1) := by decide +kernel
theorem dX11_isMake_1 : decode cX11_isMake 1 = .ok (.ifCond .lt 44, 3) := by decide +kernel
theorem dX11_isMake_4 : decode cX11_isMake 4 = .ok (.iload_n 0, 1) := by decide +kernel
theorem dX11_isMake_5 : decode cX11_isMake 5 = .ok (.sipush 10000, 3) := by decide +kernel
theorem dX11_isMake_8 : decode cX11_isMake 8 = .ok (.idiv, 1) := by decide +kernel
theorem dX11_isMake_9 : decode cX11_isMake 9 = .ok (.bipush 99, 2) := by decide +kernel
theorem dX11_isMake_11 : decode cX11_isMake 11 = .ok (.if_icmp .gt 34, 3) := by decide +kernel
theorem dX11_isMake_14 : decode cX11_isMake 14 = .ok (.iload_n 0, 1) := by decide +kernel
theorem dX11_isMake_15 : decode cX11_isMake 15 = .ok (.bipush 100, 2) := by decide +kernel
theorem dX11_isMake_17 : decode cX11_isMake 17 = .ok (.idiv, 1) := by decide +kernel
theorem dX11_isMake_18 : decode cX11_isMake 18 = .ok (.bipush 100, 2) := by decide +kernel
theorem dX11_isMake_20 : decode cX11_isMake 20 = .ok (.irem, 1) := by decide +kernel
theorem dX11_isMake_21 : decode cX11_isMake 21 = .ok (.iconst 1, 1) := by decide +kernel
theorem dX11_isMake_22 : decode cX11_isMake 22 = .ok (.bipush 40, 2) := by decide +kernel
theorem dX11_isMake_24 : decode cX11_isMake 24 = .ok (.invokestatic 72, 3) := by decide +kernel
theorem dX11_isMake_27 : decode cX11_isMake 27 = .ok (.ifCond .eq 18, 3) := by decide +kernel
theorem dX11_isMake_30 : decode cX11_isMake 30 = .ok (.iload_n 0, 1) := by decide +kernel
theorem dX11_isMake_31 : decode cX11_isMake 31 = .ok (.bipush 10, 2) := by decide +kernel
theorem dX11_isMake_33 : decode cX11_isMake 33 = .ok (.idiv, 1) := by decide +kernel
theorem dX11_isMake_34 : decode cX11_isMake 34 = .ok (.bipush 10, 2) := by decide +kernel
theorem dX11_isMake_36 : decode cX11_isMake 36 = .ok (.irem, 1) := by decide +kernel
theorem dX11_isMake_37 : decode cX11_isMake 37 = .ok (.iconst 1, 1) := by decide +kernel
theorem dX11_isMake_38 : decode cX11_isMake 38 = .ok (.if_icmp .lt 7, 3) := by decide +kernel
theorem dX11_isMake_41 : decode cX11_isMake 41 = .ok (.iconst 1, 1) := by decide +kernel
theorem dX11_isMake_42 : decode cX11_isMake 42 = .ok (.goto 4, 3) := by decide +kernel
theorem dX11_isMake_45 : decode cX11_isMake 45 = .ok (.iconst 0, 1) := by decide +kernel
theorem dX11_isMake_46 : decode cX11_isMake 46 = .ok (.ireturn, 1) := by decide +kernel
theorem dX11_isQuarter_0 : decode cX11_isQuarter 0 = .ok (.iload_n 0, 1) := by decide +kernel
theorem dX11_isQuarter_1 : decode cX11_isQuarter 1 = .ok (.ifCond .lt 13, 3) := by decide +kernel
theorem dX11_isQuarter_4 : decode cX11_isQuarter 4 = .ok (.iload_n 0, 1) := by decide +kernel
theorem dX11_isQuarter_5 : decode cX11_isQuarter 5 = .ok (.bipush 8, 2) := by decide +kernel
theorem dX11_isQuarter_7 : decode cX11_isQuarter 7 = .ok (.if_icmp .ge 7, 3) := by decide +kernel
theorem dX11_isQuarter_10 : decode cX11_isQuarter 10 = .ok (.iconst 1, 1) := by decide +kernel
theorem dX11_isQuarter_11 : decode cX11_isQuarter 11 = .ok (.goto 4, 3) := by decide +kernel
theorem dX11_isQuarter_14 : decode cX11_isQuarter 14 = .ok (.iconst 0, 1) := by decide +kernel
theorem dX11_isQuarter_15 : decode cX11_isQuarter 15 = .ok (.ireturn, 1) := by decide +kernel
theorem dX11_isIn_0 : decode cX11_isIn 0 = .ok (.iload_n 0, 1) := by decide +kernel
theorem dX11_isIn_1 : decode cX11_isIn 1 = .ok (.iload_n 1, 1) := by decide +kernel
theorem dX11_isIn_2 : decode cX11_isIn 2 = .ok (.ishr, 1) := by decide +kernel
theorem dX11_isIn_3 : decode cX11_isIn 3 = .ok (.iconst 1, 1) := by decide +kernel
theorem dX11_isIn_4 : decode cX11_isIn 4 = .ok (.iand, 1) := by decide +kernel
theorem dX11_isIn_5 : decode cX11_isIn 5 = .ok (.iconst 1, 1) := by decide +kernel
theorem dX11_isIn_6 : decode cX11_isIn 6 = .ok (.if_icmp .ne 7, 3) := by decide +kernel
theorem dX11_isIn_9 : decode cX11_isIn 9 = .ok (.iconst 1, 1) := by decide +kernel
theorem dX11_isIn_10 : decode cX11_isIn 10 = .ok (.goto 4, 3) := by decide +kernel
theorem dX11_isIn_13 : decode cX11_isIn 13 = .ok (.iconst 0, 1) := by decide +kernel
theorem dX11_isIn_14 : decode cX11_isIn 14 = .ok (.ireturn, 1) := by decide +kernel
theorem dX11_orNothing_0 : decode cX11_orNothing 0 = .ok (.iload_n 0, 1) := by decide +kernel
theorem dX11_orNothing_1 : decode cX11_orNothing 1 = .ok (.ifCond .ge 8, 3) := by decide +kernel
theorem dX11_orNothing_4 : decode cX11_orNothing 4 = .ok (.bipush (-5), 2) := by decide +kernel
theorem dX11_orNothing_6 : decode cX11_orNothing 6 = .ok (.goto 4, 3) := by decide +kernel
theorem dX11_orNothing_9 : decode cX11_orNothing 9 = .ok (.iload_n 0, 1) := by decide +kernel
theorem dX11_orNothing_10 : decode cX11_orNothing 10 = .ok (.ireturn, 1) := by decide +kernel
theorem dX11_power_0 : decode cX11_power 0 = .ok (.lconst 1, 1) := by decide +kernel
theorem dX11_power_1 : decode cX11_power 1 = .ok (.lstore_n 3, 1) := by decide +kernel
theorem dX11_power_2 : decode cX11_power 2 = .ok (.iconst 0, 1) := by decide +kernel
theorem dX11_power_3 : decode cX11_power 3 = .ok (.istore 5, 2) := by decide +kernel
theorem dX11_power_5 : decode cX11_power 5 = .ok (.iload 5, 2) := by decide +kernel
theorem dX11_power_7 : decode cX11_power 7 = .ok (.iload_n 2, 1) := by decide +kernel
theorem dX11_power_8 : decode cX11_power 8 = .ok (.if_icmp .ge 13, 3) := by decide +kernel
theorem dX11_power_11 : decode cX11_power 11 = .ok (.lload_n 3, 1) := by decide +kernel
theorem dX11_power_12 : decode cX11_power 12 = .ok (.lload_n 0, 1) := by decide +kernel
theorem dX11_power_13 : decode cX11_power 13 = .ok (.lmul, 1) := by decide +kernel
theorem dX11_power_14 : decode cX11_power 14 = .ok (.lstore_n 3, 1) := by decide +kernel
theorem dX11_power_15 : decode cX11_power 15 = .ok (.iinc 5 1, 3) := by decide +kernel
theorem dX11_power_18 : decode cX11_power 18 = .ok (.goto (-13), 3) := by decide +kernel
theorem dX11_power_21 : decode cX11_power 21 = .ok (.lload_n 3, 1) := by decide +kernel
theorem dX11_power_22 : decode cX11_power 22 = .ok (.lreturn, 1) := by decide +kernel
theorem dX11_commonDivisor_0 : decode cX11_commonDivisor 0 = .ok (.lload_n 2, 1) := by decide +kernel
theorem dX11_commonDivisor_1 : decode cX11_commonDivisor 1 = .ok (.lstore 4, 2) := by decide +kernel
theorem dX11_commonDivisor_3 : decode cX11_commonDivisor 3 = .ok (.lload_n 0, 1) := by decide +kernel
theorem dX11_commonDivisor_4 : decode cX11_commonDivisor 4 = .ok (.lstore 6, 2) := by decide +kernel
theorem dX11_commonDivisor_6 : decode cX11_commonDivisor 6 = .ok (.iconst 0, 1) := by decide +kernel
theorem dX11_commonDivisor_7 : decode cX11_commonDivisor 7 = .ok (.istore 8, 2) := by decide +kernel
theorem dX11_commonDivisor_9 : decode cX11_commonDivisor 9 = .ok (.iload 8, 2) := by decide +kernel
theorem dX11_commonDivisor_11 : decode cX11_commonDivisor 11 = .ok (.bipush 100, 2) := by decide +kernel
theorem dX11_commonDivisor_13 : decode cX11_commonDivisor 13 = .ok (.if_icmp .ge 31, 3) := by decide +kernel
theorem dX11_commonDivisor_16 : decode cX11_commonDivisor 16 = .ok (.lload 6, 2) := by decide +kernel
theorem dX11_commonDivisor_18 : decode cX11_commonDivisor 18 = .ok (.lconst 0, 1) := by decide +kernel
theorem dX11_commonDivisor_19 : decode cX11_commonDivisor 19 = .ok (.lcmp, 1) := by decide +kernel
theorem dX11_commonDivisor_20 : decode cX11_commonDivisor 20 = .ok (.ifCond .eq 24, 3) := by decide +kernel
theorem dX11_commonDivisor_23 : decode cX11_commonDivisor 23 = .ok (.lload 4, 2) := by decide +kernel
theorem dX11_commonDivisor_25 : decode cX11_commonDivisor 25 = .ok (.lload 6, 2) := by decide +kernel
theorem dX11_commonDivisor_27 : decode cX11_commonDivisor 27 = .ok (.lrem, 1) := by decide +kernel
theorem dX11_commonDivisor_28 : decode cX11_commonDivisor 28 = .ok (.lstore 9, 2) := by decide +kernel
theorem dX11_commonDivisor_30 : decode cX11_commonDivisor 30 = .ok (.lload 6, 2) := by decide +kernel
theorem dX11_commonDivisor_32 : decode cX11_commonDivisor 32 = .ok (.lstore 4, 2) := by decide +kernel
theorem dX11_commonDivisor_34 : decode cX11_commonDivisor 34 = .ok (.lload 9, 2) := by decide +kernel
theorem dX11_commonDivisor_36 : decode cX11_commonDivisor 36 = .ok (.lstore 6, 2) := by decide +kernel
theorem dX11_commonDivisor_38 : decode cX11_commonDivisor 38 = .ok (.iinc 8 1, 3) := by decide +kernel
theorem dX11_commonDivisor_41 : decode cX11_commonDivisor 41 = .ok (.goto (-32), 3) := by decide +kernel
theorem dX11_commonDivisor_44 : decode cX11_commonDivisor 44 = .ok (.lload 4, 2) := by decide +kernel
theorem dX11_commonDivisor_46 : decode cX11_commonDivisor 46 = .ok (.lreturn, 1) := by decide +kernel
theorem dX11_newMirror_0 : decode cX11_newMirror 0 = .ok (.iload_n 0, 1) := by decide +kernel
theorem dX11_newMirror_1 : decode cX11_newMirror 1 = .ok (.tableswitch 111 1 6 #[39, 51, 63, 75, 87, 99], 39) := by decide +kernel
theorem dX11_newMirror_40 : decode cX11_newMirror 40 = .ok (.new 296, 3) := by decide +kernel
theorem dX11_newMirror_43 : decode cX11_newMirror 43 = .ok (.dup, 1) := by decide +kernel
theorem dX11_newMirror_44 : decode cX11_newMirror 44 = .ok (.iload_n 0, 1) := by decide +kernel
theorem dX11_newMirror_45 : decode cX11_newMirror 45 = .ok (.iload_n 1, 1) := by decide +kernel
theorem dX11_newMirror_46 : decode cX11_newMirror 46 = .ok (.iload_n 2, 1) := by decide +kernel
theorem dX11_newMirror_47 : decode cX11_newMirror 47 = .ok (.iload_n 3, 1) := by decide +kernel
theorem dX11_newMirror_48 : decode cX11_newMirror 48 = .ok (.invokespecial 298, 3) := by decide +kernel
theorem dX11_newMirror_51 : decode cX11_newMirror 51 = .ok (.areturn, 1) := by decide +kernel
theorem dX11_newMirror_52 : decode cX11_newMirror 52 = .ok (.new 301, 3) := by decide +kernel
theorem dX11_newMirror_55 : decode cX11_newMirror 55 = .ok (.dup, 1) := by decide +kernel
theorem dX11_newMirror_56 : decode cX11_newMirror 56 = .ok (.iload_n 0, 1) := by decide +kernel
theorem dX11_newMirror_57 : decode cX11_newMirror 57 = .ok (.iload_n 1, 1) := by decide +kernel
theorem dX11_newMirror_58 : decode cX11_newMirror 58 = .ok (.iload_n 2, 1) := by decide +kernel
theorem dX11_newMirror_59 : decode cX11_newMirror 59 = .ok (.iload_n 3, 1) := by decide +kernel
theorem dX11_newMirror_60 : decode cX11_newMirror 60 = .ok (.invokespecial 303, 3) := by decide +kernel
theorem dX11_newMirror_63 : decode cX11_newMirror 63 = .ok (.areturn, 1) := by decide +kernel
theorem dX11_newMirror_64 : decode cX11_newMirror 64 = .ok (.new 304, 3) := by decide +kernel
theorem dX11_newMirror_67 : decode cX11_newMirror 67 = .ok (.dup, 1) := by decide +kernel
theorem dX11_newMirror_68 : decode cX11_newMirror 68 = .ok (.iload_n 0, 1) := by decide +kernel
theorem dX11_newMirror_69 : decode cX11_newMirror 69 = .ok (.iload_n 1, 1) := by decide +kernel
theorem dX11_newMirror_70 : decode cX11_newMirror 70 = .ok (.iload_n 2, 1) := by decide +kernel
theorem dX11_newMirror_71 : decode cX11_newMirror 71 = .ok (.iload_n 3, 1) := by decide +kernel
theorem dX11_newMirror_72 : decode cX11_newMirror 72 = .ok (.invokespecial 306, 3) := by decide +kernel
theorem dX11_newMirror_75 : decode cX11_newMirror 75 = .ok (.areturn, 1) := by decide +kernel
theorem dX11_newMirror_76 : decode cX11_newMirror 76 = .ok (.new 307, 3) := by decide +kernel
theorem dX11_newMirror_79 : decode cX11_newMirror 79 = .ok (.dup, 1) := by decide +kernel
theorem dX11_newMirror_80 : decode cX11_newMirror 80 = .ok (.iload_n 0, 1) := by decide +kernel
theorem dX11_newMirror_81 : decode cX11_newMirror 81 = .ok (.iload_n 1, 1) := by decide +kernel
theorem dX11_newMirror_82 : decode cX11_newMirror 82 = .ok (.iload_n 2, 1) := by decide +kernel
theorem dX11_newMirror_83 : decode cX11_newMirror 83 = .ok (.iload_n 3, 1) := by decide +kernel
theorem dX11_newMirror_84 : decode cX11_newMirror 84 = .ok (.invokespecial 309, 3) := by decide +kernel
theorem dX11_newMirror_87 : decode cX11_newMirror 87 = .ok (.areturn, 1) := by decide +kernel
theorem dX11_newMirror_88 : decode cX11_newMirror 88 = .ok (.new 310, 3) := by decide +kernel
theorem dX11_newMirror_91 : decode cX11_newMirror 91 = .ok (.dup, 1) := by decide +kernel
theorem dX11_newMirror_92 : decode cX11_newMirror 92 = .ok (.iload_n 0, 1) := by decide +kernel
theorem dX11_newMirror_93 : decode cX11_newMirror 93 = .ok (.iload_n 1, 1) := by decide +kernel
theorem dX11_newMirror_94 : decode cX11_newMirror 94 = .ok (.iload_n 2, 1) := by decide +kernel
theorem dX11_newMirror_95 : decode cX11_newMirror 95 = .ok (.iload_n 3, 1) := by decide +kernel
theorem dX11_newMirror_96 : decode cX11_newMirror 96 = .ok (.invokespecial 312, 3) := by decide +kernel
theorem dX11_newMirror_99 : decode cX11_newMirror 99 = .ok (.areturn, 1) := by decide +kernel
theorem dX11_newMirror_100 : decode cX11_newMirror 100 = .ok (.new 313, 3) := by decide +kernel
theorem dX11_newMirror_103 : decode cX11_newMirror 103 = .ok (.dup, 1) := by decide +kernel
theorem dX11_newMirror_104 : decode cX11_newMirror 104 = .ok (.iload_n 0, 1) := by decide +kernel
theorem dX11_newMirror_105 : decode cX11_newMirror 105 = .ok (.iload_n 1, 1) := by decide +kernel
theorem dX11_newMirror_106 : decode cX11_newMirror 106 = .ok (.iload_n 2, 1) := by decide +kernel
theorem dX11_newMirror_107 : decode cX11_newMirror 107 = .ok (.iload_n 3, 1) := by decide +kernel
theorem dX11_newMirror_108 : decode cX11_newMirror 108 = .ok (.invokespecial 315, 3) := by decide +kernel
theorem dX11_newMirror_111 : decode cX11_newMirror 111 = .ok (.areturn, 1) := by decide +kernel
theorem dX11_newMirror_112 : decode cX11_newMirror 112 = .ok (.new 99, 3) := by decide +kernel
theorem dX11_newMirror_115 : decode cX11_newMirror 115 = .ok (.dup, 1) := by decide +kernel
theorem dX11_newMirror_116 : decode cX11_newMirror 116 = .ok (.iload_n 0, 1) := by decide +kernel
theorem dX11_newMirror_117 : decode cX11_newMirror 117 = .ok (.iload_n 1, 1) := by decide +kernel
theorem dX11_newMirror_118 : decode cX11_newMirror 118 = .ok (.iload_n 2, 1) := by decide +kernel
theorem dX11_newMirror_119 : decode cX11_newMirror 119 = .ok (.iload_n 3, 1) := by decide +kernel
theorem dX11_newMirror_120 : decode cX11_newMirror 120 = .ok (.invokespecial 316, 3) := by decide +kernel
theorem dX11_newMirror_123 : decode cX11_newMirror 123 = .ok (.areturn, 1) := by decide +kernel
theorem dX11_isUnder_0 : decode cX11_isUnder 0 = .ok (.iload_n 1, 1) := by decide +kernel
theorem dX11_isUnder_1 : decode cX11_isUnder 1 = .ok (.tableswitch 75 0 6 #[43, 45, 50, 55, 60, 65, 70], 43) := by decide +kernel
theorem dX11_isUnder_44 : decode cX11_isUnder 44 = .ok (.iconst 1, 1) := by decide +kernel
theorem dX11_isUnder_45 : decode cX11_isUnder 45 = .ok (.ireturn, 1) := by decide +kernel
theorem dX11_isUnder_46 : decode cX11_isUnder 46 = .ok (.aload_n 0, 1) := by decide +kernel
theorem dX11_isUnder_47 : decode cX11_isUnder 47 = .ok (.instanceof 296, 3) := by decide +kernel
theorem dX11_isUnder_50 : decode cX11_isUnder 50 = .ok (.ireturn, 1) := by decide +kernel
theorem dX11_isUnder_51 : decode cX11_isUnder 51 = .ok (.aload_n 0, 1) := by decide +kernel
theorem dX11_isUnder_52 : decode cX11_isUnder 52 = .ok (.instanceof 301, 3) := by decide +kernel
theorem dX11_isUnder_55 : decode cX11_isUnder 55 = .ok (.ireturn, 1) := by decide +kernel
theorem dX11_isUnder_56 : decode cX11_isUnder 56 = .ok (.aload_n 0, 1) := by decide +kernel
theorem dX11_isUnder_57 : decode cX11_isUnder 57 = .ok (.instanceof 304, 3) := by decide +kernel
theorem dX11_isUnder_60 : decode cX11_isUnder 60 = .ok (.ireturn, 1) := by decide +kernel
theorem dX11_isUnder_61 : decode cX11_isUnder 61 = .ok (.aload_n 0, 1) := by decide +kernel
theorem dX11_isUnder_62 : decode cX11_isUnder 62 = .ok (.instanceof 307, 3) := by decide +kernel
theorem dX11_isUnder_65 : decode cX11_isUnder 65 = .ok (.ireturn, 1) := by decide +kernel
theorem dX11_isUnder_66 : decode cX11_isUnder 66 = .ok (.aload_n 0, 1) := by decide +kernel
theorem dX11_isUnder_67 : decode cX11_isUnder 67 = .ok (.instanceof 310, 3) := by decide +kernel
theorem dX11_isUnder_70 : decode cX11_isUnder 70 = .ok (.ireturn, 1) := by decide +kernel
theorem dX11_isUnder_71 : decode cX11_isUnder 71 = .ok (.aload_n 0, 1) := by decide +kernel
theorem dX11_isUnder_72 : decode cX11_isUnder 72 = .ok (.instanceof 313, 3) := by decide +kernel
theorem dX11_isUnder_75 : decode cX11_isUnder 75 = .ok (.ireturn, 1) := by decide +kernel
theorem dX11_isUnder_76 : decode cX11_isUnder 76 = .ok (.iconst 0, 1) := by decide +kernel
theorem dX11_isUnder_77 : decode cX11_isUnder 77 = .ok (.ireturn, 1) := by decide +kernel
theorem dX11_canBe_0 : decode cX11_canBe 0 = .ok (.aload_n 0, 1) := by decide +kernel
theorem dX11_canBe_1 : decode cX11_canBe 1 = .ok (.getfield 12, 3) := by decide +kernel
theorem dX11_canBe_4 : decode cX11_canBe 4 = .ok (.getfield 146, 3) := by decide +kernel
theorem dX11_canBe_7 : decode cX11_canBe 7 = .ok (.aload_n 1, 1) := by decide +kernel
theorem dX11_canBe_8 : decode cX11_canBe 8 = .ok (.getfield 317, 3) := by decide +kernel
theorem dX11_canBe_11 : decode cX11_canBe 11 = .ok (.aaload, 1) := by decide +kernel
theorem dX11_canBe_12 : decode cX11_canBe 12 = .ok (.astore_n 3, 1) := by decide +kernel
theorem dX11_canBe_13 : decode cX11_canBe 13 = .ok (.aload_n 3, 1) := by decide +kernel
theorem dX11_canBe_14 : decode cX11_canBe 14 = .ok (.iload_n 2, 1) := by decide +kernel
theorem dX11_canBe_15 : decode cX11_canBe 15 = .ok (.iaload, 1) := by decide +kernel
theorem dX11_canBe_16 : decode cX11_canBe 16 = .ok (.istore 4, 2) := by decide +kernel
theorem dX11_canBe_18 : decode cX11_canBe 18 = .ok (.iload 4, 2) := by decide +kernel
theorem dX11_canBe_20 : decode cX11_canBe 20 = .ok (.ifCond .ge 5, 3) := by decide +kernel
theorem dX11_canBe_23 : decode cX11_canBe 23 = .ok (.iconst 1, 1) := by decide +kernel
theorem dX11_canBe_24 : decode cX11_canBe 24 = .ok (.ireturn, 1) := by decide +kernel
theorem dX11_canBe_25 : decode cX11_canBe 25 = .ok (.iload_n 2, 1) := by decide +kernel
theorem dX11_canBe_26 : decode cX11_canBe 26 = .ok (.ifCond .le 19, 3) := by decide +kernel
theorem dX11_canBe_29 : decode cX11_canBe 29 = .ok (.aload_n 0, 1) := by decide +kernel
theorem dX11_canBe_30 : decode cX11_canBe 30 = .ok (.aload_n 3, 1) := by decide +kernel
theorem dX11_canBe_31 : decode cX11_canBe 31 = .ok (.iload_n 2, 1) := by decide +kernel
theorem dX11_canBe_32 : decode cX11_canBe 32 = .ok (.iconst 1, 1) := by decide +kernel
theorem dX11_canBe_33 : decode cX11_canBe 33 = .ok (.isub, 1) := by decide +kernel
theorem dX11_canBe_34 : decode cX11_canBe 34 = .ok (.iaload, 1) := by decide +kernel
theorem dX11_canBe_35 : decode cX11_canBe 35 = .ok (.iload 4, 2) := by decide +kernel
theorem dX11_canBe_37 : decode cX11_canBe 37 = .ok (.invokevirtual 320, 3) := by decide +kernel
theorem dX11_canBe_40 : decode cX11_canBe 40 = .ok (.ifCond .eq 5, 3) := by decide +kernel
theorem dX11_canBe_43 : decode cX11_canBe 43 = .ok (.iconst 0, 1) := by decide +kernel
theorem dX11_canBe_44 : decode cX11_canBe 44 = .ok (.ireturn, 1) := by decide +kernel
theorem dX11_canBe_45 : decode cX11_canBe 45 = .ok (.aload_n 0, 1) := by decide +kernel
theorem dX11_canBe_46 : decode cX11_canBe 46 = .ok (.getfield 12, 3) := by decide +kernel
theorem dX11_canBe_49 : decode cX11_canBe 49 = .ok (.aload_n 1, 1) := by decide +kernel
theorem dX11_canBe_50 : decode cX11_canBe 50 = .ok (.iload 4, 2) := by decide +kernel
theorem dX11_canBe_52 : decode cX11_canBe 52 = .ok (.aload_n 0, 1) := by decide +kernel
theorem dX11_canBe_53 : decode cX11_canBe 53 = .ok (.getfield 12, 3) := by decide +kernel
theorem dX11_canBe_56 : decode cX11_canBe 56 = .ok (.getfield 136, 3) := by decide +kernel
theorem dX11_canBe_59 : decode cX11_canBe 59 = .ok (.invokevirtual 139, 3) := by decide +kernel
theorem dX11_canBe_62 : decode cX11_canBe 62 = .ok (.iload_n 2, 1) := by decide +kernel
theorem dX11_canBe_63 : decode cX11_canBe 63 = .ok (.invokestatic 225, 3) := by decide +kernel
theorem dX11_canBe_66 : decode cX11_canBe 66 = .ok (.ireturn, 1) := by decide +kernel
theorem dX11_turnsTooFar_0 : decode cX11_turnsTooFar 0 = .ok (.iload_n 1, 1) := by decide +kernel
theorem dX11_turnsTooFar_1 : decode cX11_turnsTooFar 1 = .ok (.ifCond .lt 30, 3) := by decide +kernel
theorem dX11_turnsTooFar_4 : decode cX11_turnsTooFar 4 = .ok (.iload_n 2, 1) := by decide +kernel
theorem dX11_turnsTooFar_5 : decode cX11_turnsTooFar 5 = .ok (.ifCond .lt 26, 3) := by decide +kernel
theorem dX11_turnsTooFar_8 : decode cX11_turnsTooFar 8 = .ok (.iload_n 1, 1) := by decide +kernel
theorem dX11_turnsTooFar_9 : decode cX11_turnsTooFar 9 = .ok (.iload_n 2, 1) := by decide +kernel
theorem dX11_turnsTooFar_10 : decode cX11_turnsTooFar 10 = .ok (.isub, 1) := by decide +kernel
theorem dX11_turnsTooFar_11 : decode cX11_turnsTooFar 11 = .ok (.invokestatic 323, 3) := by decide +kernel
theorem dX11_turnsTooFar_14 : decode cX11_turnsTooFar 14 = .ok (.aload_n 0, 1) := by decide +kernel
theorem dX11_turnsTooFar_15 : decode cX11_turnsTooFar 15 = .ok (.getfield 12, 3) := by decide +kernel
theorem dX11_turnsTooFar_18 : decode cX11_turnsTooFar 18 = .ok (.getfield 124, 3) := by decide +kernel
theorem dX11_turnsTooFar_21 : decode cX11_turnsTooFar 21 = .ok (.getfield 326, 3) := by decide +kernel
theorem dX11_turnsTooFar_24 : decode cX11_turnsTooFar 24 = .ok (.if_icmp .le 7, 3) := by decide +kernel
theorem dX11_turnsTooFar_27 : decode cX11_turnsTooFar 27 = .ok (.iconst 1, 1) := by decide +kernel
theorem dX11_turnsTooFar_28 : decode cX11_turnsTooFar 28 = .ok (.goto 4, 3) := by decide +kernel
theorem dX11_turnsTooFar_31 : decode cX11_turnsTooFar 31 = .ok (.iconst 0, 1) := by decide +kernel
theorem dX11_turnsTooFar_32 : decode cX11_turnsTooFar 32 = .ok (.ireturn, 1) := by decide +kernel
theorem dX11_planWorth_0 : decode cX11_planWorth 0 = .ok (.iconst 0, 1) := by decide +kernel
theorem dX11_planWorth_1 : decode cX11_planWorth 1 = .ok (.istore_n 1, 1) := by decide +kernel
theorem dX11_planWorth_2 : decode cX11_planWorth 2 = .ok (.iconst 0, 1) := by decide +kernel
theorem dX11_planWorth_3 : decode cX11_planWorth 3 = .ok (.istore_n 2, 1) := by decide +kernel
theorem dX11_planWorth_4 : decode cX11_planWorth 4 = .ok (.iload_n 2, 1) := by decide +kernel
theorem dX11_planWorth_5 : decode cX11_planWorth 5 = .ok (.aload_n 0, 1) := by decide +kernel
theorem dX11_planWorth_6 : decode cX11_planWorth 6 = .ok (.getfield 12, 3) := by decide +kernel
theorem dX11_planWorth_9 : decode cX11_planWorth 9 = .ok (.getfield 76, 3) := by decide +kernel
theorem dX11_planWorth_12 : decode cX11_planWorth 12 = .ok (.if_icmp .ge 32, 3) := by decide +kernel
theorem dX11_planWorth_15 : decode cX11_planWorth 15 = .ok (.iload_n 1, 1) := by decide +kernel
theorem dX11_planWorth_16 : decode cX11_planWorth 16 = .ok (.aload_n 0, 1) := by decide +kernel
theorem dX11_planWorth_17 : decode cX11_planWorth 17 = .ok (.getfield 12, 3) := by decide +kernel
theorem dX11_planWorth_20 : decode cX11_planWorth 20 = .ok (.getfield 79, 3) := by decide +kernel
theorem dX11_planWorth_23 : decode cX11_planWorth 23 = .ok (.iload_n 2, 1) := by decide +kernel
theorem dX11_planWorth_24 : decode cX11_planWorth 24 = .ok (.aaload, 1) := by decide +kernel
theorem dX11_planWorth_25 : decode cX11_planWorth 25 = .ok (.iconst 2, 1) := by decide +kernel
theorem dX11_planWorth_26 : decode cX11_planWorth 26 = .ok (.iaload, 1) := by decide +kernel
theorem dX11_planWorth_27 : decode cX11_planWorth 27 = .ok (.aload_n 0, 1) := by decide +kernel
theorem dX11_planWorth_28 : decode cX11_planWorth 28 = .ok (.getfield 12, 3) := by decide +kernel
theorem dX11_planWorth_31 : decode cX11_planWorth 31 = .ok (.iload_n 2, 1) := by decide +kernel
theorem dX11_planWorth_32 : decode cX11_planWorth 32 = .ok (.invokevirtual 155, 3) := by decide +kernel
theorem dX11_planWorth_35 : decode cX11_planWorth 35 = .ok (.imul, 1) := by decide +kernel
theorem dX11_planWorth_36 : decode cX11_planWorth 36 = .ok (.iadd, 1) := by decide +kernel
theorem dX11_planWorth_37 : decode cX11_planWorth 37 = .ok (.istore_n 1, 1) := by decide +kernel
theorem dX11_planWorth_38 : decode cX11_planWorth 38 = .ok (.iinc 2 1, 3) := by decide +kernel
theorem dX11_planWorth_41 : decode cX11_planWorth 41 = .ok (.goto (-37), 3) := by decide +kernel
theorem dX11_planWorth_44 : decode cX11_planWorth 44 = .ok (.iload_n 1, 1) := by decide +kernel
theorem dX11_planWorth_45 : decode cX11_planWorth 45 = .ok (.ireturn, 1) := by decide +kernel
theorem dX11_worstOff_0 : decode cX11_worstOff 0 = .ok (.iconst (-1), 1) := by decide +kernel
theorem dX11_worstOff_1 : decode cX11_worstOff 1 = .ok (.istore_n 1, 1) := by decide +kernel
theorem dX11_worstOff_2 : decode cX11_worstOff 2 = .ok (.iconst 0, 1) := by decide +kernel
theorem dX11_worstOff_3 : decode cX11_worstOff 3 = .ok (.istore_n 2, 1) := by decide +kernel
theorem dX11_worstOff_4 : decode cX11_worstOff 4 = .ok (.iconst 0, 1) := by decide +kernel
theorem dX11_worstOff_5 : decode cX11_worstOff 5 = .ok (.istore_n 3, 1) := by decide +kernel
theorem dX11_worstOff_6 : decode cX11_worstOff 6 = .ok (.iload_n 3, 1) := by decide +kernel
theorem dX11_worstOff_7 : decode cX11_worstOff 7 = .ok (.aload_n 0, 1) := by decide +kernel
theorem dX11_worstOff_8 : decode cX11_worstOff 8 = .ok (.getfield 12, 3) := by decide +kernel
theorem dX11_worstOff_11 : decode cX11_worstOff 11 = .ok (.getfield 76, 3) := by decide +kernel
theorem dX11_worstOff_14 : decode cX11_worstOff 14 = .ok (.if_icmp .ge 34, 3) := by decide +kernel
theorem dX11_worstOff_17 : decode cX11_worstOff 17 = .ok (.aload_n 0, 1) := by decide +kernel
theorem dX11_worstOff_18 : decode cX11_worstOff 18 = .ok (.getfield 12, 3) := by decide +kernel
theorem dX11_worstOff_21 : decode cX11_worstOff 21 = .ok (.iload_n 3, 1) := by decide +kernel
theorem dX11_worstOff_22 : decode cX11_worstOff 22 = .ok (.invokevirtual 155, 3) := by decide +kernel
theorem dX11_worstOff_25 : decode cX11_worstOff 25 = .ok (.istore 4, 2) := by decide +kernel
theorem dX11_worstOff_27 : decode cX11_worstOff 27 = .ok (.iload_n 1, 1) := by decide +kernel
theorem dX11_worstOff_28 : decode cX11_worstOff 28 = .ok (.ifCond .lt 9, 3) := by decide +kernel
theorem dX11_worstOff_31 : decode cX11_worstOff 31 = .ok (.iload 4, 2) := by decide +kernel
theorem dX11_worstOff_33 : decode cX11_worstOff 33 = .ok (.iload_n 2, 1) := by decide +kernel
theorem dX11_worstOff_34 : decode cX11_worstOff 34 = .ok (.if_icmp .ge 8, 3) := by decide +kernel
theorem dX11_worstOff_37 : decode cX11_worstOff 37 = .ok (.iload 4, 2) := by decide +kernel
theorem dX11_worstOff_39 : decode cX11_worstOff 39 = .ok (.istore_n 2, 1) := by decide +kernel
theorem dX11_worstOff_40 : decode cX11_worstOff 40 = .ok (.iload_n 3, 1) := by decide +kernel
theorem dX11_worstOff_41 : decode cX11_worstOff 41 = .ok (.istore_n 1, 1) := by decide +kernel
theorem dX11_worstOff_42 : decode cX11_worstOff 42 = .ok (.iinc 3 1, 3) := by decide +kernel
theorem dX11_worstOff_45 : decode cX11_worstOff 45 = .ok (.goto (-39), 3) := by decide +kernel
theorem dX11_worstOff_48 : decode cX11_worstOff 48 = .ok (.iload_n 1, 1) := by decide +kernel
theorem dX11_worstOff_49 : decode cX11_worstOff 49 = .ok (.ireturn, 1) := by decide +kernel
theorem dX11_sumFromBehind_0 : decode cX11_sumFromBehind 0 = .ok (.iconst 0, 1) := by decide +kernel
theorem dX11_sumFromBehind_1 : decode cX11_sumFromBehind 1 = .ok (.istore_n 2, 1) := by decide +kernel
theorem dX11_sumFromBehind_2 : decode cX11_sumFromBehind 2 = .ok (.iload_n 2, 1) := by decide +kernel
theorem dX11_sumFromBehind_3 : decode cX11_sumFromBehind 3 = .ok (.aload_n 0, 1) := by decide +kernel
theorem dX11_sumFromBehind_4 : decode cX11_sumFromBehind 4 = .ok (.getfield 12, 3) := by decide +kernel
theorem dX11_sumFromBehind_7 : decode cX11_sumFromBehind 7 = .ok (.getfield 76, 3) := by decide +kernel
theorem dX11_sumFromBehind_10 : decode cX11_sumFromBehind 10 = .ok (.if_icmp .ge 31, 3) := by decide +kernel
theorem dX11_sumFromBehind_13 : decode cX11_sumFromBehind 13 = .ok (.aload_n 0, 1) := by decide +kernel
theorem dX11_sumFromBehind_14 : decode cX11_sumFromBehind 14 = .ok (.getfield 32, 3) := by decide +kernel
theorem dX11_sumFromBehind_17 : decode cX11_sumFromBehind 17 = .ok (.iload_n 2, 1) := by decide +kernel
theorem dX11_sumFromBehind_18 : decode cX11_sumFromBehind 18 = .ok (.aload_n 0, 1) := by decide +kernel
theorem dX11_sumFromBehind_19 : decode cX11_sumFromBehind 19 = .ok (.getfield 12, 3) := by decide +kernel
theorem dX11_sumFromBehind_22 : decode cX11_sumFromBehind 22 = .ok (.aload_n 1, 1) := by decide +kernel
theorem dX11_sumFromBehind_23 : decode cX11_sumFromBehind 23 = .ok (.iload_n 2, 1) := by decide +kernel
theorem dX11_sumFromBehind_24 : decode cX11_sumFromBehind 24 = .ok (.aload_n 0, 1) := by decide +kernel
theorem dX11_sumFromBehind_25 : decode cX11_sumFromBehind 25 = .ok (.getfield 12, 3) := by decide +kernel
theorem dX11_sumFromBehind_28 : decode cX11_sumFromBehind 28 = .ok (.getfield 136, 3) := by decide +kernel
theorem dX11_sumFromBehind_31 : decode cX11_sumFromBehind 31 = .ok (.invokevirtual 139, 3) := by decide +kernel
theorem dX11_sumFromBehind_34 : decode cX11_sumFromBehind 34 = .ok (.iastore, 1) := by decide +kernel
theorem dX11_sumFromBehind_35 : decode cX11_sumFromBehind 35 = .ok (.iinc 2 1, 3) := by decide +kernel
theorem dX11_sumFromBehind_38 : decode cX11_sumFromBehind 38 = .ok (.goto (-36), 3) := by decide +kernel
theorem dX11_sumFromBehind_41 : decode cX11_sumFromBehind 41 = .ok (.aload_n 0, 1) := by decide +kernel
theorem dX11_sumFromBehind_42 : decode cX11_sumFromBehind 42 = .ok (.getfield 38, 3) := by decide +kernel
theorem dX11_sumFromBehind_45 : decode cX11_sumFromBehind 45 = .ok (.bipush 8, 2) := by decide +kernel
theorem dX11_sumFromBehind_47 : decode cX11_sumFromBehind 47 = .ok (.aaload, 1) := by decide +kernel
theorem dX11_sumFromBehind_48 : decode cX11_sumFromBehind 48 = .ok (.iconst 0, 1) := by decide +kernel
theorem dX11_sumFromBehind_49 : decode cX11_sumFromBehind 49 = .ok (.invokestatic 249, 3) := by decide +kernel
theorem dX11_sumFromBehind_52 : decode cX11_sumFromBehind 52 = .ok (.bipush 7, 2) := by decide +kernel
theorem dX11_sumFromBehind_54 : decode cX11_sumFromBehind 54 = .ok (.istore_n 2, 1) := by decide +kernel
theorem dX11_sumFromBehind_55 : decode cX11_sumFromBehind 55 = .ok (.iload_n 2, 1) := by decide +kernel
theorem dX11_sumFromBehind_56 : decode cX11_sumFromBehind 56 = .ok (.ifCond .lt 80, 3) := by decide +kernel
theorem dX11_sumFromBehind_59 : decode cX11_sumFromBehind 59 = .ok (.iconst (-1), 1) := by decide +kernel
theorem dX11_sumFromBehind_60 : decode cX11_sumFromBehind 60 = .ok (.istore_n 3, 1) := by decide +kernel
theorem dX11_sumFromBehind_61 : decode cX11_sumFromBehind 61 = .ok (.iload_n 3, 1) := by decide +kernel
theorem dX11_sumFromBehind_62 : decode cX11_sumFromBehind 62 = .ok (.aload_n 0, 1) := by decide +kernel
theorem dX11_sumFromBehind_63 : decode cX11_sumFromBehind 63 = .ok (.getfield 12, 3) := by decide +kernel
theorem dX11_sumFromBehind_66 : decode cX11_sumFromBehind 66 = .ok (.getfield 76, 3) := by decide +kernel
theorem dX11_sumFromBehind_69 : decode cX11_sumFromBehind 69 = .ok (.if_icmp .ge 61, 3) := by decide +kernel
theorem dX11_sumFromBehind_72 : decode cX11_sumFromBehind 72 = .ok (.iconst 0, 1) := by decide +kernel
theorem dX11_sumFromBehind_73 : decode cX11_sumFromBehind 73 = .ok (.istore 4, 2) := by decide +kernel
theorem dX11_sumFromBehind_75 : decode cX11_sumFromBehind 75 = .ok (.iconst (-1), 1) := by decide +kernel
theorem dX11_sumFromBehind_76 : decode cX11_sumFromBehind 76 = .ok (.istore 5, 2) := by decide +kernel
theorem dX11_sumFromBehind_78 : decode cX11_sumFromBehind 78 = .ok (.iload 5, 2) := by decide +kernel
theorem dX11_sumFromBehind_80 : decode cX11_sumFromBehind 80 = .ok (.aload_n 0, 1) := by decide +kernel
theorem dX11_sumFromBehind_81 : decode cX11_sumFromBehind 81 = .ok (.getfield 12, 3) := by decide +kernel
theorem dX11_sumFromBehind_84 : decode cX11_sumFromBehind 84 = .ok (.getfield 76, 3) := by decide +kernel
theorem dX11_sumFromBehind_87 : decode cX11_sumFromBehind 87 = .ok (.if_icmp .ge 25, 3) := by decide +kernel
theorem dX11_sumFromBehind_90 : decode cX11_sumFromBehind 90 = .ok (.iload 4, 2) := by decide +kernel
theorem dX11_sumFromBehind_92 : decode cX11_sumFromBehind 92 = .ok (.aload_n 0, 1) := by decide +kernel
theorem dX11_sumFromBehind_93 : decode cX11_sumFromBehind 93 = .ok (.aload_n 1, 1) := by decide +kernel
theorem dX11_sumFromBehind_94 : decode cX11_sumFromBehind 94 = .ok (.iload_n 2, 1) := by decide +kernel
theorem dX11_sumFromBehind_95 : decode cX11_sumFromBehind 95 = .ok (.iload_n 3, 1) := by decide +kernel
theorem dX11_sumFromBehind_96 : decode cX11_sumFromBehind 96 = .ok (.iload 5, 2) := by decide +kernel
theorem dX11_sumFromBehind_98 : decode cX11_sumFromBehind 98 = .ok (.invokevirtual 329, 3) := by decide +kernel
theorem dX11_sumFromBehind_101 : decode cX11_sumFromBehind 101 = .ok (.invokestatic 333, 3) := by decide +kernel
theorem dX11_sumFromBehind_104 : decode cX11_sumFromBehind 104 = .ok (.istore 4, 2) := by decide +kernel
theorem dX11_sumFromBehind_106 : decode cX11_sumFromBehind 106 = .ok (.iinc 5 1, 3) := by decide +kernel
theorem dX11_sumFromBehind_109 : decode cX11_sumFromBehind 109 = .ok (.goto (-31), 3) := by decide +kernel
theorem dX11_sumFromBehind_112 : decode cX11_sumFromBehind 112 = .ok (.aload_n 0, 1) := by decide +kernel
theorem dX11_sumFromBehind_113 : decode cX11_sumFromBehind 113 = .ok (.getfield 38, 3) := by decide +kernel
theorem dX11_sumFromBehind_116 : decode cX11_sumFromBehind 116 = .ok (.iload_n 2, 1) := by decide +kernel
theorem dX11_sumFromBehind_117 : decode cX11_sumFromBehind 117 = .ok (.aaload, 1) := by decide +kernel
theorem dX11_sumFromBehind_118 : decode cX11_sumFromBehind 118 = .ok (.iload_n 3, 1) := by decide +kernel
theorem dX11_sumFromBehind_119 : decode cX11_sumFromBehind 119 = .ok (.iconst 1, 1) := by decide +kernel
theorem dX11_sumFromBehind_120 : decode cX11_sumFromBehind 120 = .ok (.iadd, 1) := by decide +kernel
theorem dX11_sumFromBehind_121 : decode cX11_sumFromBehind 121 = .ok (.iload 4, 2) := by decide +kernel
theorem dX11_sumFromBehind_123 : decode cX11_sumFromBehind 123 = .ok (.iastore, 1) := by decide +kernel
theorem dX11_sumFromBehind_124 : decode cX11_sumFromBehind 124 = .ok (.iinc 3 1, 3) := by decide +kernel
theorem dX11_sumFromBehind_127 : decode cX11_sumFromBehind 127 = .ok (.goto (-66), 3) := by decide +kernel
theorem dX11_sumFromBehind_130 : decode cX11_sumFromBehind 130 = .ok (.iinc 2 (-1), 3) := by decide +kernel
theorem dX11_sumFromBehind_133 : decode cX11_sumFromBehind 133 = .ok (.goto (-78), 3) := by decide +kernel
theorem dX11_sumFromBehind_136 : decode cX11_sumFromBehind 136 = .ok (.return_, 1) := by decide +kernel
theorem dX11_sumBy_0 : decode cX11_sumBy 0 = .ok (.iload 4, 2) := by decide +kernel
theorem dX11_sumBy_2 : decode cX11_sumBy 2 = .ok (.ifCond .ge 14, 3) := by decide +kernel
theorem dX11_sumBy_5 : decode cX11_sumBy 5 = .ok (.aload_n 0, 1) := by decide +kernel
theorem dX11_sumBy_6 : decode cX11_sumBy 6 = .ok (.getfield 38, 3) := by decide +kernel
theorem dX11_sumBy_9 : decode cX11_sumBy 9 = .ok (.iload_n 2, 1) := by decide +kernel
theorem dX11_sumBy_10 : decode cX11_sumBy 10 = .ok (.iconst 1, 1) := by decide +kernel
theorem dX11_sumBy_11 : decode cX11_sumBy 11 = .ok (.iadd, 1) := by decide +kernel
theorem dX11_sumBy_12 : decode cX11_sumBy 12 = .ok (.aaload, 1) := by decide +kernel
theorem dX11_sumBy_13 : decode cX11_sumBy 13 = .ok (.iconst 0, 1) := by decide +kernel
theorem dX11_sumBy_14 : decode cX11_sumBy 14 = .ok (.iaload, 1) := by decide +kernel
theorem dX11_sumBy_15 : decode cX11_sumBy 15 = .ok (.ireturn, 1) := by decide +kernel
theorem dX11_sumBy_16 : decode cX11_sumBy 16 = .ok (.aload_n 0, 1) := by decide +kernel
theorem dX11_sumBy_17 : decode cX11_sumBy 17 = .ok (.getfield 32, 3) := by decide +kernel
theorem dX11_sumBy_20 : decode cX11_sumBy 20 = .ok (.iload 4, 2) := by decide +kernel
theorem dX11_sumBy_22 : decode cX11_sumBy 22 = .ok (.iaload, 1) := by decide +kernel
theorem dX11_sumBy_23 : decode cX11_sumBy 23 = .ok (.iload_n 2, 1) := by decide +kernel
theorem dX11_sumBy_24 : decode cX11_sumBy 24 = .ok (.invokestatic 225, 3) := by decide +kernel
theorem dX11_sumBy_27 : decode cX11_sumBy 27 = .ok (.ifCond .eq 13, 3) := by decide +kernel
theorem dX11_sumBy_30 : decode cX11_sumBy 30 = .ok (.aload_n 0, 1) := by decide +kernel
theorem dX11_sumBy_31 : decode cX11_sumBy 31 = .ok (.iload_n 3, 1) := by decide +kernel
theorem dX11_sumBy_32 : decode cX11_sumBy 32 = .ok (.iload 4, 2) := by decide +kernel
theorem dX11_sumBy_34 : decode cX11_sumBy 34 = .ok (.invokevirtual 320, 3) := by decide +kernel
theorem dX11_sumBy_37 : decode cX11_sumBy 37 = .ok (.ifCond .eq 5, 3) := by decide +kernel
theorem dX11_sumBy_40 : decode cX11_sumBy 40 = .ok (.iconst (-1), 1) := by decide +kernel
theorem dX11_sumBy_41 : decode cX11_sumBy 41 = .ok (.ireturn, 1) := by decide +kernel
theorem dX11_sumBy_42 : decode cX11_sumBy 42 = .ok (.aload_n 0, 1) := by decide +kernel
theorem dX11_sumBy_43 : decode cX11_sumBy 43 = .ok (.getfield 12, 3) := by decide +kernel
theorem dX11_sumBy_46 : decode cX11_sumBy 46 = .ok (.getfield 79, 3) := by decide +kernel
theorem dX11_sumBy_49 : decode cX11_sumBy 49 = .ok (.iload 4, 2) := by decide +kernel
theorem dX11_sumBy_51 : decode cX11_sumBy 51 = .ok (.aaload, 1) := by decide +kernel
theorem dX11_sumBy_52 : decode cX11_sumBy 52 = .ok (.iconst 2, 1) := by decide +kernel
theorem dX11_sumBy_53 : decode cX11_sumBy 53 = .ok (.iaload, 1) := by decide +kernel
theorem dX11_sumBy_54 : decode cX11_sumBy 54 = .ok (.aload_n 1, 1) := by decide +kernel
theorem dX11_sumBy_55 : decode cX11_sumBy 55 = .ok (.invokevirtual 335, 3) := by decide +kernel
theorem dX11_sumBy_58 : decode cX11_sumBy 58 = .ok (.imul, 1) := by decide +kernel
theorem dX11_sumBy_59 : decode cX11_sumBy 59 = .ok (.aload_n 0, 1) := by decide +kernel
theorem dX11_sumBy_60 : decode cX11_sumBy 60 = .ok (.getfield 38, 3) := by decide +kernel
theorem dX11_sumBy_63 : decode cX11_sumBy 63 = .ok (.iload_n 2, 1) := by decide +kernel
theorem dX11_sumBy_64 : decode cX11_sumBy 64 = .ok (.iconst 1, 1) := by decide +kernel
theorem dX11_sumBy_65 : decode cX11_sumBy 65 = .ok (.iadd, 1) := by decide +kernel
theorem dX11_sumBy_66 : decode cX11_sumBy 66 = .ok (.aaload, 1) := by decide +kernel
theorem dX11_sumBy_67 : decode cX11_sumBy 67 = .ok (.iload 4, 2) := by decide +kernel
theorem dX11_sumBy_69 : decode cX11_sumBy 69 = .ok (.iconst 1, 1) := by decide +kernel
theorem dX11_sumBy_70 : decode cX11_sumBy 70 = .ok (.iadd, 1) := by decide +kernel
theorem dX11_sumBy_71 : decode cX11_sumBy 71 = .ok (.iaload, 1) := by decide +kernel
theorem dX11_sumBy_72 : decode cX11_sumBy 72 = .ok (.iadd, 1) := by decide +kernel
theorem dX11_sumBy_73 : decode cX11_sumBy 73 = .ok (.ireturn, 1) := by decide +kernel
theorem dX11_bestAt_0 : decode cX11_bestAt 0 = .ok (.iconst (-1), 1) := by decide +kernel
theorem dX11_bestAt_1 : decode cX11_bestAt 1 = .ok (.istore_n 3, 1) := by decide +kernel
theorem dX11_bestAt_2 : decode cX11_bestAt 2 = .ok (.iconst 0, 1) := by decide +kernel
theorem dX11_bestAt_3 : decode cX11_bestAt 3 = .ok (.istore 4, 2) := by decide +kernel
theorem dX11_bestAt_5 : decode cX11_bestAt 5 = .ok (.iload 4, 2) := by decide +kernel
theorem dX11_bestAt_7 : decode cX11_bestAt 7 = .ok (.iload_n 2, 1) := by decide +kernel
theorem dX11_bestAt_8 : decode cX11_bestAt 8 = .ok (.if_icmp .gt 18, 3) := by decide +kernel
theorem dX11_bestAt_11 : decode cX11_bestAt 11 = .ok (.aload_n 0, 1) := by decide +kernel
theorem dX11_bestAt_12 : decode cX11_bestAt 12 = .ok (.aload_n 1, 1) := by decide +kernel
theorem dX11_bestAt_13 : decode cX11_bestAt 13 = .ok (.iload 4, 2) := by decide +kernel
theorem dX11_bestAt_15 : decode cX11_bestAt 15 = .ok (.iload_n 3, 1) := by decide +kernel
theorem dX11_bestAt_16 : decode cX11_bestAt 16 = .ok (.invokevirtual 338, 3) := by decide +kernel
theorem dX11_bestAt_19 : decode cX11_bestAt 19 = .ok (.istore_n 3, 1) := by decide +kernel
theorem dX11_bestAt_20 : decode cX11_bestAt 20 = .ok (.iinc 4 1, 3) := by decide +kernel
theorem dX11_bestAt_23 : decode cX11_bestAt 23 = .ok (.goto (-18), 3) := by decide +kernel
theorem dX11_bestAt_26 : decode cX11_bestAt 26 = .ok (.iload_n 3, 1) := by decide +kernel
theorem dX11_bestAt_27 : decode cX11_bestAt 27 = .ok (.ireturn, 1) := by decide +kernel
theorem dX11_firstBest_0 : decode cX11_firstBest 0 = .ok (.iconst (-1), 1) := by decide +kernel
theorem dX11_firstBest_1 : decode cX11_firstBest 1 = .ok (.istore 4, 2) := by decide +kernel
theorem dX11_firstBest_3 : decode cX11_firstBest 3 = .ok (.iload 4, 2) := by decide +kernel
theorem dX11_firstBest_5 : decode cX11_firstBest 5 = .ok (.aload_n 0, 1) := by decide +kernel
theorem dX11_firstBest_6 : decode cX11_firstBest 6 = .ok (.getfield 12, 3) := by decide +kernel
theorem dX11_firstBest_9 : decode cX11_firstBest 9 = .ok (.getfield 76, 3) := by decide +kernel
theorem dX11_firstBest_12 : decode cX11_firstBest 12 = .ok (.if_icmp .ge 34, 3) := by decide +kernel
theorem dX11_firstBest_15 : decode cX11_firstBest 15 = .ok (.aload_n 0, 1) := by decide +kernel
theorem dX11_firstBest_16 : decode cX11_firstBest 16 = .ok (.aload_n 1, 1) := by decide +kernel
theorem dX11_firstBest_17 : decode cX11_firstBest 17 = .ok (.iload_n 2, 1) := by decide +kernel
theorem dX11_firstBest_18 : decode cX11_firstBest 18 = .ok (.iload_n 3, 1) := by decide +kernel
theorem dX11_firstBest_19 : decode cX11_firstBest 19 = .ok (.iload 4, 2) := by decide +kernel
theorem dX11_firstBest_21 : decode cX11_firstBest 21 = .ok (.invokevirtual 329, 3) := by decide +kernel
theorem dX11_firstBest_24 : decode cX11_firstBest 24 = .ok (.aload_n 0, 1) := by decide +kernel
theorem dX11_firstBest_25 : decode cX11_firstBest 25 = .ok (.getfield 38, 3) := by decide +kernel
theorem dX11_firstBest_28 : decode cX11_firstBest 28 = .ok (.iload_n 2, 1) := by decide +kernel
theorem dX11_firstBest_29 : decode cX11_firstBest 29 = .ok (.aaload, 1) := by decide +kernel
theorem dX11_firstBest_30 : decode cX11_firstBest 30 = .ok (.iload_n 3, 1) := by decide +kernel
theorem dX11_firstBest_31 : decode cX11_firstBest 31 = .ok (.iconst 1, 1) := by decide +kernel
theorem dX11_firstBest_32 : decode cX11_firstBest 32 = .ok (.iadd, 1) := by decide +kernel
theorem dX11_firstBest_33 : decode cX11_firstBest 33 = .ok (.iaload, 1) := by decide +kernel
theorem dX11_firstBest_34 : decode cX11_firstBest 34 = .ok (.if_icmp .ne 6, 3) := by decide +kernel
theorem dX11_firstBest_37 : decode cX11_firstBest 37 = .ok (.iload 4, 2) := by decide +kernel
theorem dX11_firstBest_39 : decode cX11_firstBest 39 = .ok (.ireturn, 1) := by decide +kernel
theorem dX11_firstBest_40 : decode cX11_firstBest 40 = .ok (.iinc 4 1, 3) := by decide +kernel
theorem dX11_firstBest_43 : decode cX11_firstBest 43 = .ok (.goto (-40), 3) := by decide +kernel
theorem dX11_firstBest_46 : decode cX11_firstBest 46 = .ok (.iconst (-1), 1) := by decide +kernel
theorem dX11_firstBest_47 : decode cX11_firstBest 47 = .ok (.ireturn, 1) := by decide +kernel
theorem dX11_countLight_0 : decode cX11_countLight 0 = .ok (.iconst 0, 1) := by decide +kernel
theorem dX11_countLight_1 : decode cX11_countLight 1 = .ok (.istore_n 1, 1) := by decide +kernel
theorem dX11_countLight_2 : decode cX11_countLight 2 = .ok (.iload_n 1, 1) := by decide +kernel
theorem dX11_countLight_3 : decode cX11_countLight 3 = .ok (.aload_n 0, 1) := by decide +kernel
theorem dX11_countLight_4 : decode cX11_countLight 4 = .ok (.getfield 12, 3) := by decide +kernel
theorem dX11_countLight_7 : decode cX11_countLight 7 = .ok (.getfield 60, 3) := by decide +kernel
theorem dX11_countLight_10 : decode cX11_countLight 10 = .ok (.if_icmp .ge 102, 3) := by decide +kernel
theorem dX11_countLight_13 : decode cX11_countLight 13 = .ok (.aload_n 0, 1) := by decide +kernel
theorem dX11_countLight_14 : decode cX11_countLight 14 = .ok (.getfield 12, 3) := by decide +kernel
theorem dX11_countLight_17 : decode cX11_countLight 17 = .ok (.getfield 64, 3) := by decide +kernel
theorem dX11_countLight_20 : decode cX11_countLight 20 = .ok (.iload_n 1, 1) := by decide +kernel
theorem dX11_countLight_21 : decode cX11_countLight 21 = .ok (.aaload, 1) := by decide +kernel
theorem dX11_countLight_22 : decode cX11_countLight 22 = .ok (.astore_n 2, 1) := by decide +kernel
theorem dX11_countLight_23 : decode cX11_countLight 23 = .ok (.iconst 0, 1) := by decide +kernel
theorem dX11_countLight_24 : decode cX11_countLight 24 = .ok (.istore_n 3, 1) := by decide +kernel
theorem dX11_countLight_25 : decode cX11_countLight 25 = .ok (.iload_n 3, 1) := by decide +kernel
theorem dX11_countLight_26 : decode cX11_countLight 26 = .ok (.aload_n 0, 1) := by decide +kernel
theorem dX11_countLight_27 : decode cX11_countLight 27 = .ok (.getfield 12, 3) := by decide +kernel
theorem dX11_countLight_30 : decode cX11_countLight 30 = .ok (.getfield 76, 3) := by decide +kernel
theorem dX11_countLight_33 : decode cX11_countLight 33 = .ok (.if_icmp .ge 73, 3) := by decide +kernel
theorem dX11_countLight_36 : decode cX11_countLight 36 = .ok (.aload_n 0, 1) := by decide +kernel
theorem dX11_countLight_37 : decode cX11_countLight 37 = .ok (.getfield 12, 3) := by decide +kernel
theorem dX11_countLight_40 : decode cX11_countLight 40 = .ok (.aload_n 2, 1) := by decide +kernel
theorem dX11_countLight_41 : decode cX11_countLight 41 = .ok (.iload_n 3, 1) := by decide +kernel
theorem dX11_countLight_42 : decode cX11_countLight 42 = .ok (.aload_n 0, 1) := by decide +kernel
theorem dX11_countLight_43 : decode cX11_countLight 43 = .ok (.getfield 12, 3) := by decide +kernel
theorem dX11_countLight_46 : decode cX11_countLight 46 = .ok (.getfield 136, 3) := by decide +kernel
theorem dX11_countLight_49 : decode cX11_countLight 49 = .ok (.invokevirtual 139, 3) := by decide +kernel
theorem dX11_countLight_52 : decode cX11_countLight 52 = .ok (.istore 4, 2) := by decide +kernel
theorem dX11_countLight_54 : decode cX11_countLight 54 = .ok (.aload_n 0, 1) := by decide +kernel
theorem dX11_countLight_55 : decode cX11_countLight 55 = .ok (.getfield 44, 3) := by decide +kernel
theorem dX11_countLight_58 : decode cX11_countLight 58 = .ok (.iload_n 1, 1) := by decide +kernel
theorem dX11_countLight_59 : decode cX11_countLight 59 = .ok (.aaload, 1) := by decide +kernel
theorem dX11_countLight_60 : decode cX11_countLight 60 = .ok (.iload_n 3, 1) := by decide +kernel
theorem dX11_countLight_61 : decode cX11_countLight 61 = .ok (.iload 4, 2) := by decide +kernel
theorem dX11_countLight_63 : decode cX11_countLight 63 = .ok (.invokestatic 186, 3) := by decide +kernel
theorem dX11_countLight_66 : decode cX11_countLight 66 = .ok (.aload_n 2, 1) := by decide +kernel
theorem dX11_countLight_67 : decode cX11_countLight 67 = .ok (.invokevirtual 335, 3) := by decide +kernel
theorem dX11_countLight_70 : decode cX11_countLight 70 = .ok (.imul, 1) := by decide +kernel
theorem dX11_countLight_71 : decode cX11_countLight 71 = .ok (.iastore, 1) := by decide +kernel
theorem dX11_countLight_72 : decode cX11_countLight 72 = .ok (.aload_n 0, 1) := by decide +kernel
theorem dX11_countLight_73 : decode cX11_countLight 73 = .ok (.getfield 41, 3) := by decide +kernel
theorem dX11_countLight_76 : decode cX11_countLight 76 = .ok (.iload_n 1, 1) := by decide +kernel
theorem dX11_countLight_77 : decode cX11_countLight 77 = .ok (.aaload, 1) := by decide +kernel
theorem dX11_countLight_78 : decode cX11_countLight 78 = .ok (.iload_n 3, 1) := by decide +kernel
theorem dX11_countLight_79 : decode cX11_countLight 79 = .ok (.iload 4, 2) := by decide +kernel
theorem dX11_countLight_81 : decode cX11_countLight 81 = .ok (.aload_n 0, 1) := by decide +kernel
theorem dX11_countLight_82 : decode cX11_countLight 82 = .ok (.getfield 12, 3) := by decide +kernel
theorem dX11_countLight_85 : decode cX11_countLight 85 = .ok (.iload_n 1, 1) := by decide +kernel
theorem dX11_countLight_86 : decode cX11_countLight 86 = .ok (.iload_n 3, 1) := by decide +kernel
theorem dX11_countLight_87 : decode cX11_countLight 87 = .ok (.invokevirtual 341, 3) := by decide +kernel
theorem dX11_countLight_90 : decode cX11_countLight 90 = .ok (.iand, 1) := by decide +kernel
theorem dX11_countLight_91 : decode cX11_countLight 91 = .ok (.invokestatic 186, 3) := by decide +kernel
theorem dX11_countLight_94 : decode cX11_countLight 94 = .ok (.aload_n 2, 1) := by decide +kernel
theorem dX11_countLight_95 : decode cX11_countLight 95 = .ok (.invokevirtual 335, 3) := by decide +kernel
theorem dX11_countLight_98 : decode cX11_countLight 98 = .ok (.imul, 1) := by decide +kernel
theorem dX11_countLight_99 : decode cX11_countLight 99 = .ok (.iastore, 1) := by decide +kernel
theorem dX11_countLight_100 : decode cX11_countLight 100 = .ok (.iinc 3 1, 3) := by decide +kernel
theorem dX11_countLight_103 : decode cX11_countLight 103 = .ok (.goto (-78), 3) := by decide +kernel
theorem dX11_countLight_106 : decode cX11_countLight 106 = .ok (.iinc 1 1, 3) := by decide +kernel
theorem dX11_countLight_109 : decode cX11_countLight 109 = .ok (.goto (-107), 3) := by decide +kernel
theorem dX11_countLight_112 : decode cX11_countLight 112 = .ok (.return_, 1) := by decide +kernel
theorem dX11_leastIfAlways_0 : decode cX11_leastIfAlways 0 = .ok (.iconst (-1), 1) := by decide +kernel
theorem dX11_leastIfAlways_1 : decode cX11_leastIfAlways 1 = .ok (.istore_n 3, 1) := by decide +kernel
theorem dX11_leastIfAlways_2 : decode cX11_leastIfAlways 2 = .ok (.iconst 0, 1) := by decide +kernel
theorem dX11_leastIfAlways_3 : decode cX11_leastIfAlways 3 = .ok (.istore 4, 2) := by decide +kernel
theorem dX11_leastIfAlways_5 : decode cX11_leastIfAlways 5 = .ok (.iload 4, 2) := by decide +kernel
theorem dX11_leastIfAlways_7 : decode cX11_leastIfAlways 7 = .ok (.aload_n 0, 1) := by decide +kernel
theorem dX11_leastIfAlways_8 : decode cX11_leastIfAlways 8 = .ok (.getfield 12, 3) := by decide +kernel
theorem dX11_leastIfAlways_11 : decode cX11_leastIfAlways 11 = .ok (.getfield 76, 3) := by decide +kernel
theorem dX11_leastIfAlways_14 : decode cX11_leastIfAlways 14 = .ok (.if_icmp .ge 84, 3) := by decide +kernel
theorem dX11_leastIfAlways_17 : decode cX11_leastIfAlways 17 = .ok (.iload 4, 2) := by decide +kernel
theorem dX11_leastIfAlways_19 : decode cX11_leastIfAlways 19 = .ok (.iload_n 2, 1) := by decide +kernel
theorem dX11_leastIfAlways_20 : decode cX11_leastIfAlways 20 = .ok (.if_icmp .ne 14, 3) := by decide +kernel
theorem dX11_leastIfAlways_23 : decode cX11_leastIfAlways 23 = .ok (.aload_n 0, 1) := by decide +kernel
theorem dX11_leastIfAlways_24 : decode cX11_leastIfAlways 24 = .ok (.getfield 44, 3) := by decide +kernel
theorem dX11_leastIfAlways_27 : decode cX11_leastIfAlways 27 = .ok (.iload_n 1, 1) := by decide +kernel
theorem dX11_leastIfAlways_28 : decode cX11_leastIfAlways 28 = .ok (.aaload, 1) := by decide +kernel
theorem dX11_leastIfAlways_29 : decode cX11_leastIfAlways 29 = .ok (.iload_n 2, 1) := by decide +kernel
theorem dX11_leastIfAlways_30 : decode cX11_leastIfAlways 30 = .ok (.iaload, 1) := by decide +kernel
theorem dX11_leastIfAlways_31 : decode cX11_leastIfAlways 31 = .ok (.goto 4, 3) := by decide +kernel
theorem dX11_leastIfAlways_34 : decode cX11_leastIfAlways 34 = .ok (.iconst 0, 1) := by decide +kernel
theorem dX11_leastIfAlways_35 : decode cX11_leastIfAlways 35 = .ok (.istore 5, 2) := by decide +kernel
theorem dX11_leastIfAlways_37 : decode cX11_leastIfAlways 37 = .ok (.iconst 0, 1) := by decide +kernel
theorem dX11_leastIfAlways_38 : decode cX11_leastIfAlways 38 = .ok (.istore 6, 2) := by decide +kernel
theorem dX11_leastIfAlways_40 : decode cX11_leastIfAlways 40 = .ok (.iload 6, 2) := by decide +kernel
theorem dX11_leastIfAlways_42 : decode cX11_leastIfAlways 42 = .ok (.aload_n 0, 1) := by decide +kernel
theorem dX11_leastIfAlways_43 : decode cX11_leastIfAlways 43 = .ok (.getfield 12, 3) := by decide +kernel
theorem dX11_leastIfAlways_46 : decode cX11_leastIfAlways 46 = .ok (.getfield 60, 3) := by decide +kernel
theorem dX11_leastIfAlways_49 : decode cX11_leastIfAlways 49 = .ok (.if_icmp .ge 30, 3) := by decide +kernel
theorem dX11_leastIfAlways_52 : decode cX11_leastIfAlways 52 = .ok (.iload 6, 2) := by decide +kernel
theorem dX11_leastIfAlways_54 : decode cX11_leastIfAlways 54 = .ok (.iload_n 1, 1) := by decide +kernel
theorem dX11_leastIfAlways_55 : decode cX11_leastIfAlways 55 = .ok (.if_icmp .eq 18, 3) := by decide +kernel
theorem dX11_leastIfAlways_58 : decode cX11_leastIfAlways 58 = .ok (.iload 5, 2) := by decide +kernel
theorem dX11_leastIfAlways_60 : decode cX11_leastIfAlways 60 = .ok (.aload_n 0, 1) := by decide +kernel
theorem dX11_leastIfAlways_61 : decode cX11_leastIfAlways 61 = .ok (.getfield 41, 3) := by decide +kernel
theorem dX11_leastIfAlways_64 : decode cX11_leastIfAlways 64 = .ok (.iload 6, 2) := by decide +kernel
theorem dX11_leastIfAlways_66 : decode cX11_leastIfAlways 66 = .ok (.aaload, 1) := by decide +kernel
theorem dX11_leastIfAlways_67 : decode cX11_leastIfAlways 67 = .ok (.iload 4, 2) := by decide +kernel
theorem dX11_leastIfAlways_69 : decode cX11_leastIfAlways 69 = .ok (.iaload, 1) := by decide +kernel
theorem dX11_leastIfAlways_70 : decode cX11_leastIfAlways 70 = .ok (.iadd, 1) := by decide +kernel
theorem dX11_leastIfAlways_71 : decode cX11_leastIfAlways 71 = .ok (.istore 5, 2) := by decide +kernel
theorem dX11_leastIfAlways_73 : decode cX11_leastIfAlways 73 = .ok (.iinc 6 1, 3) := by decide +kernel
theorem dX11_leastIfAlways_76 : decode cX11_leastIfAlways 76 = .ok (.goto (-36), 3) := by decide +kernel
theorem dX11_leastIfAlways_79 : decode cX11_leastIfAlways 79 = .ok (.iload_n 3, 1) := by decide +kernel
theorem dX11_leastIfAlways_80 : decode cX11_leastIfAlways 80 = .ok (.ifCond .lt 9, 3) := by decide +kernel
theorem dX11_leastIfAlways_83 : decode cX11_leastIfAlways 83 = .ok (.iload 5, 2) := by decide +kernel
theorem dX11_leastIfAlways_85 : decode cX11_leastIfAlways 85 = .ok (.iload_n 3, 1) := by decide +kernel
theorem dX11_leastIfAlways_86 : decode cX11_leastIfAlways 86 = .ok (.if_icmp .ge 6, 3) := by decide +kernel
theorem dX11_leastIfAlways_89 : decode cX11_leastIfAlways 89 = .ok (.iload 5, 2) := by decide +kernel
theorem dX11_leastIfAlways_91 : decode cX11_leastIfAlways 91 = .ok (.istore_n 3, 1) := by decide +kernel
theorem dX11_leastIfAlways_92 : decode cX11_leastIfAlways 92 = .ok (.iinc 4 1, 3) := by decide +kernel
theorem dX11_leastIfAlways_95 : decode cX11_leastIfAlways 95 = .ok (.goto (-90), 3) := by decide +kernel
theorem dX11_leastIfAlways_98 : decode cX11_leastIfAlways 98 = .ok (.iload_n 3, 1) := by decide +kernel
theorem dX11_leastIfAlways_99 : decode cX11_leastIfAlways 99 = .ok (.ireturn, 1) := by decide +kernel
theorem dX11_bestSet_0 : decode cX11_bestSet 0 = .ok (.iconst 0, 1) := by decide +kernel
theorem dX11_bestSet_1 : decode cX11_bestSet 1 = .ok (.istore_n 2, 1) := by decide +kernel
theorem dX11_bestSet_2 : decode cX11_bestSet 2 = .ok (.iconst 1, 1) := by decide +kernel
theorem dX11_bestSet_3 : decode cX11_bestSet 3 = .ok (.istore_n 3, 1) := by decide +kernel
theorem dX11_bestSet_4 : decode cX11_bestSet 4 = .ok (.iload_n 3, 1) := by decide +kernel
theorem dX11_bestSet_5 : decode cX11_bestSet 5 = .ok (.iconst 1, 1) := by decide +kernel
theorem dX11_bestSet_6 : decode cX11_bestSet 6 = .ok (.aload_n 0, 1) := by decide +kernel
theorem dX11_bestSet_7 : decode cX11_bestSet 7 = .ok (.getfield 12, 3) := by decide +kernel
theorem dX11_bestSet_10 : decode cX11_bestSet 10 = .ok (.getfield 60, 3) := by decide +kernel
theorem dX11_bestSet_13 : decode cX11_bestSet 13 = .ok (.ishl, 1) := by decide +kernel
theorem dX11_bestSet_14 : decode cX11_bestSet 14 = .ok (.if_icmp .ge 57, 3) := by decide +kernel
theorem dX11_bestSet_17 : decode cX11_bestSet 17 = .ok (.aload_n 0, 1) := by decide +kernel
theorem dX11_bestSet_18 : decode cX11_bestSet 18 = .ok (.iload_n 3, 1) := by decide +kernel
theorem dX11_bestSet_19 : decode cX11_bestSet 19 = .ok (.invokevirtual 194, 3) := by decide +kernel
theorem dX11_bestSet_22 : decode cX11_bestSet 22 = .ok (.aload_n 0, 1) := by decide +kernel
theorem dX11_bestSet_23 : decode cX11_bestSet 23 = .ok (.iload_n 2, 1) := by decide +kernel
theorem dX11_bestSet_24 : decode cX11_bestSet 24 = .ok (.invokevirtual 194, 3) := by decide +kernel
theorem dX11_bestSet_27 : decode cX11_bestSet 27 = .ok (.isub, 1) := by decide +kernel
theorem dX11_bestSet_28 : decode cX11_bestSet 28 = .ok (.istore 4, 2) := by decide +kernel
theorem dX11_bestSet_30 : decode cX11_bestSet 30 = .ok (.aload_n 0, 1) := by decide +kernel
theorem dX11_bestSet_31 : decode cX11_bestSet 31 = .ok (.iload_n 3, 1) := by decide +kernel
theorem dX11_bestSet_32 : decode cX11_bestSet 32 = .ok (.invokevirtual 197, 3) := by decide +kernel
theorem dX11_bestSet_35 : decode cX11_bestSet 35 = .ok (.istore 5, 2) := by decide +kernel
theorem dX11_bestSet_37 : decode cX11_bestSet 37 = .ok (.iload 5, 2) := by decide +kernel
theorem dX11_bestSet_39 : decode cX11_bestSet 39 = .ok (.iload_n 1, 1) := by decide +kernel
theorem dX11_bestSet_40 : decode cX11_bestSet 40 = .ok (.if_icmp .gt 25, 3) := by decide +kernel
theorem dX11_bestSet_43 : decode cX11_bestSet 43 = .ok (.iload 4, 2) := by decide +kernel
theorem dX11_bestSet_45 : decode cX11_bestSet 45 = .ok (.ifCond .gt 18, 3) := by decide +kernel
theorem dX11_bestSet_48 : decode cX11_bestSet 48 = .ok (.iload 4, 2) := by decide +kernel
theorem dX11_bestSet_50 : decode cX11_bestSet 50 = .ok (.ifCond .ne 15, 3) := by decide +kernel
theorem dX11_bestSet_53 : decode cX11_bestSet 53 = .ok (.iload 5, 2) := by decide +kernel
theorem dX11_bestSet_55 : decode cX11_bestSet 55 = .ok (.aload_n 0, 1) := by decide +kernel
theorem dX11_bestSet_56 : decode cX11_bestSet 56 = .ok (.iload_n 2, 1) := by decide +kernel
theorem dX11_bestSet_57 : decode cX11_bestSet 57 = .ok (.invokevirtual 197, 3) := by decide +kernel
theorem dX11_bestSet_60 : decode cX11_bestSet 60 = .ok (.if_icmp .ge 5, 3) := by decide +kernel
theorem dX11_bestSet_63 : decode cX11_bestSet 63 = .ok (.iload_n 3, 1) := by decide +kernel
theorem dX11_bestSet_64 : decode cX11_bestSet 64 = .ok (.istore_n 2, 1) := by decide +kernel
theorem dX11_bestSet_65 : decode cX11_bestSet 65 = .ok (.iinc 3 1, 3) := by decide +kernel
theorem dX11_bestSet_68 : decode cX11_bestSet 68 = .ok (.goto (-64), 3) := by decide +kernel
theorem dX11_bestSet_71 : decode cX11_bestSet 71 = .ok (.iload_n 2, 1) := by decide +kernel
theorem dX11_bestSet_72 : decode cX11_bestSet 72 = .ok (.ireturn, 1) := by decide +kernel
theorem dX11_litOf_0 : decode cX11_litOf 0 = .ok (.iconst 0, 1) := by decide +kernel
theorem dX11_litOf_1 : decode cX11_litOf 1 = .ok (.istore_n 2, 1) := by decide +kernel
theorem dX11_litOf_2 : decode cX11_litOf 2 = .ok (.iconst 0, 1) := by decide +kernel
theorem dX11_litOf_3 : decode cX11_litOf 3 = .ok (.istore_n 3, 1) := by decide +kernel
theorem dX11_litOf_4 : decode cX11_litOf 4 = .ok (.iload_n 3, 1) := by decide +kernel
theorem dX11_litOf_5 : decode cX11_litOf 5 = .ok (.aload_n 0, 1) := by decide +kernel
theorem dX11_litOf_6 : decode cX11_litOf 6 = .ok (.getfield 12, 3) := by decide +kernel
theorem dX11_litOf_9 : decode cX11_litOf 9 = .ok (.getfield 60, 3) := by decide +kernel
theorem dX11_litOf_12 : decode cX11_litOf 12 = .ok (.if_icmp .ge 26, 3) := by decide +kernel
theorem dX11_litOf_15 : decode cX11_litOf 15 = .ok (.iload_n 1, 1) := by decide +kernel
theorem dX11_litOf_16 : decode cX11_litOf 16 = .ok (.iload_n 3, 1) := by decide +kernel
theorem dX11_litOf_17 : decode cX11_litOf 17 = .ok (.invokestatic 225, 3) := by decide +kernel
theorem dX11_litOf_20 : decode cX11_litOf 20 = .ok (.ifCond .eq 12, 3) := by decide +kernel
theorem dX11_litOf_23 : decode cX11_litOf 23 = .ok (.iload_n 2, 1) := by decide +kernel
theorem dX11_litOf_24 : decode cX11_litOf 24 = .ok (.aload_n 0, 1) := by decide +kernel
theorem dX11_litOf_25 : decode cX11_litOf 25 = .ok (.getfield 47, 3) := by decide +kernel
theorem dX11_litOf_28 : decode cX11_litOf 28 = .ok (.iload_n 3, 1) := by decide +kernel
theorem dX11_litOf_29 : decode cX11_litOf 29 = .ok (.iaload, 1) := by decide +kernel
theorem dX11_litOf_30 : decode cX11_litOf 30 = .ok (.iadd, 1) := by decide +kernel
theorem dX11_litOf_31 : decode cX11_litOf 31 = .ok (.istore_n 2, 1) := by decide +kernel
theorem dX11_litOf_32 : decode cX11_litOf 32 = .ok (.iinc 3 1, 3) := by decide +kernel
theorem dX11_litOf_35 : decode cX11_litOf 35 = .ok (.goto (-31), 3) := by decide +kernel
theorem dX11_litOf_38 : decode cX11_litOf 38 = .ok (.iload_n 2, 1) := by decide +kernel
theorem dX11_litOf_39 : decode cX11_litOf 39 = .ok (.ireturn, 1) := by decide +kernel
theorem dX11_costOf_0 : decode cX11_costOf 0 = .ok (.iconst 0, 1) := by decide +kernel
theorem dX11_costOf_1 : decode cX11_costOf 1 = .ok (.istore_n 2, 1) := by decide +kernel
theorem dX11_costOf_2 : decode cX11_costOf 2 = .ok (.iconst 0, 1) := by decide +kernel
theorem dX11_costOf_3 : decode cX11_costOf 3 = .ok (.istore_n 3, 1) := by decide +kernel
theorem dX11_costOf_4 : decode cX11_costOf 4 = .ok (.iload_n 3, 1) := by decide +kernel
theorem dX11_costOf_5 : decode cX11_costOf 5 = .ok (.aload_n 0, 1) := by decide +kernel
theorem dX11_costOf_6 : decode cX11_costOf 6 = .ok (.getfield 12, 3) := by decide +kernel
theorem dX11_costOf_9 : decode cX11_costOf 9 = .ok (.getfield 60, 3) := by decide +kernel
theorem dX11_costOf_12 : decode cX11_costOf 12 = .ok (.if_icmp .ge 32, 3) := by decide +kernel
theorem dX11_costOf_15 : decode cX11_costOf 15 = .ok (.iload_n 1, 1) := by decide +kernel
theorem dX11_costOf_16 : decode cX11_costOf 16 = .ok (.iload_n 3, 1) := by decide +kernel
theorem dX11_costOf_17 : decode cX11_costOf 17 = .ok (.invokestatic 225, 3) := by decide +kernel
theorem dX11_costOf_20 : decode cX11_costOf 20 = .ok (.ifCond .eq 18, 3) := by decide +kernel
theorem dX11_costOf_23 : decode cX11_costOf 23 = .ok (.iload_n 2, 1) := by decide +kernel
theorem dX11_costOf_24 : decode cX11_costOf 24 = .ok (.aload_n 0, 1) := by decide +kernel
theorem dX11_costOf_25 : decode cX11_costOf 25 = .ok (.getfield 12, 3) := by decide +kernel
theorem dX11_costOf_28 : decode cX11_costOf 28 = .ok (.getfield 64, 3) := by decide +kernel
theorem dX11_costOf_31 : decode cX11_costOf 31 = .ok (.iload_n 3, 1) := by decide +kernel
theorem dX11_costOf_32 : decode cX11_costOf 32 = .ok (.aaload, 1) := by decide +kernel
theorem dX11_costOf_33 : decode cX11_costOf 33 = .ok (.getfield 344, 3) := by decide +kernel
theorem dX11_costOf_36 : decode cX11_costOf 36 = .ok (.iadd, 1) := by decide +kernel
theorem dX11_costOf_37 : decode cX11_costOf 37 = .ok (.istore_n 2, 1) := by decide +kernel
theorem dX11_costOf_38 : decode cX11_costOf 38 = .ok (.iinc 3 1, 3) := by decide +kernel
theorem dX11_costOf_41 : decode cX11_costOf 41 = .ok (.goto (-37), 3) := by decide +kernel
theorem dX11_costOf_44 : decode cX11_costOf 44 = .ok (.iload_n 2, 1) := by decide +kernel
theorem dX11_costOf_45 : decode cX11_costOf 45 = .ok (.ireturn, 1) := by decide +kernel
theorem dX11_oddsOfClear_0 : decode cX11_oddsOfClear 0 = .ok (.lconst 0, 1) := by decide +kernel
theorem dX11_oddsOfClear_1 : decode cX11_oddsOfClear 1 = .ok (.lstore_n 3, 1) := by decide +kernel
theorem dX11_oddsOfClear_2 : decode cX11_oddsOfClear 2 = .ok (.lconst 1, 1) := by decide +kernel
theorem dX11_oddsOfClear_3 : decode cX11_oddsOfClear 3 = .ok (.lstore 5, 2) := by decide +kernel
theorem dX11_oddsOfClear_5 : decode cX11_oddsOfClear 5 = .ok (.iconst 0, 1) := by decide +kernel
theorem dX11_oddsOfClear_6 : decode cX11_oddsOfClear 6 = .ok (.istore 7, 2) := by decide +kernel
theorem dX11_oddsOfClear_8 : decode cX11_oddsOfClear 8 = .ok (.iload 7, 2) := by decide +kernel
theorem dX11_oddsOfClear_10 : decode cX11_oddsOfClear 10 = .ok (.iload_n 1, 1) := by decide +kernel
theorem dX11_oddsOfClear_11 : decode cX11_oddsOfClear 11 = .ok (.if_icmp .gt 84, 3) := by decide +kernel
theorem dX11_oddsOfClear_14 : decode cX11_oddsOfClear 14 = .ok (.iload 7, 2) := by decide +kernel
theorem dX11_oddsOfClear_16 : decode cX11_oddsOfClear 16 = .ok (.ifCond .le 19, 3) := by decide +kernel
theorem dX11_oddsOfClear_19 : decode cX11_oddsOfClear 19 = .ok (.lload 5, 2) := by decide +kernel
theorem dX11_oddsOfClear_21 : decode cX11_oddsOfClear 21 = .ok (.iload_n 1, 1) := by decide +kernel
theorem dX11_oddsOfClear_22 : decode cX11_oddsOfClear 22 = .ok (.iload 7, 2) := by decide +kernel
theorem dX11_oddsOfClear_24 : decode cX11_oddsOfClear 24 = .ok (.isub, 1) := by decide +kernel
theorem dX11_oddsOfClear_25 : decode cX11_oddsOfClear 25 = .ok (.iconst 1, 1) := by decide +kernel
theorem dX11_oddsOfClear_26 : decode cX11_oddsOfClear 26 = .ok (.iadd, 1) := by decide +kernel
theorem dX11_oddsOfClear_27 : decode cX11_oddsOfClear 27 = .ok (.i2l, 1) := by decide +kernel
theorem dX11_oddsOfClear_28 : decode cX11_oddsOfClear 28 = .ok (.lmul, 1) := by decide +kernel
theorem dX11_oddsOfClear_29 : decode cX11_oddsOfClear 29 = .ok (.iload 7, 2) := by decide +kernel
theorem dX11_oddsOfClear_31 : decode cX11_oddsOfClear 31 = .ok (.i2l, 1) := by decide +kernel
theorem dX11_oddsOfClear_32 : decode cX11_oddsOfClear 32 = .ok (.ldiv, 1) := by decide +kernel
theorem dX11_oddsOfClear_33 : decode cX11_oddsOfClear 33 = .ok (.lstore 5, 2) := by decide +kernel
theorem dX11_oddsOfClear_35 : decode cX11_oddsOfClear 35 = .ok (.bipush 10, 2) := by decide +kernel
theorem dX11_oddsOfClear_37 : decode cX11_oddsOfClear 37 = .ok (.aload_n 0, 1) := by decide +kernel
theorem dX11_oddsOfClear_38 : decode cX11_oddsOfClear 38 = .ok (.getfield 12, 3) := by decide +kernel
theorem dX11_oddsOfClear_41 : decode cX11_oddsOfClear 41 = .ok (.getfield 124, 3) := by decide +kernel
theorem dX11_oddsOfClear_44 : decode cX11_oddsOfClear 44 = .ok (.getfield 347, 3) := by decide +kernel
theorem dX11_oddsOfClear_47 : decode cX11_oddsOfClear 47 = .ok (.isub, 1) := by decide +kernel
theorem dX11_oddsOfClear_48 : decode cX11_oddsOfClear 48 = .ok (.i2l, 1) := by decide +kernel
theorem dX11_oddsOfClear_49 : decode cX11_oddsOfClear 49 = .ok (.iload 7, 2) := by decide +kernel
theorem dX11_oddsOfClear_51 : decode cX11_oddsOfClear 51 = .ok (.invokestatic 208, 3) := by decide +kernel
theorem dX11_oddsOfClear_54 : decode cX11_oddsOfClear 54 = .ok (.aload_n 0, 1) := by decide +kernel
theorem dX11_oddsOfClear_55 : decode cX11_oddsOfClear 55 = .ok (.getfield 12, 3) := by decide +kernel
theorem dX11_oddsOfClear_58 : decode cX11_oddsOfClear 58 = .ok (.getfield 124, 3) := by decide +kernel
theorem dX11_oddsOfClear_61 : decode cX11_oddsOfClear 61 = .ok (.getfield 347, 3) := by decide +kernel
theorem dX11_oddsOfClear_64 : decode cX11_oddsOfClear 64 = .ok (.i2l, 1) := by decide +kernel
theorem dX11_oddsOfClear_65 : decode cX11_oddsOfClear 65 = .ok (.iload_n 1, 1) := by decide +kernel
theorem dX11_oddsOfClear_66 : decode cX11_oddsOfClear 66 = .ok (.iload 7, 2) := by decide +kernel
theorem dX11_oddsOfClear_68 : decode cX11_oddsOfClear 68 = .ok (.isub, 1) := by decide +kernel
theorem dX11_oddsOfClear_69 : decode cX11_oddsOfClear 69 = .ok (.invokestatic 208, 3) := by decide +kernel
theorem dX11_oddsOfClear_72 : decode cX11_oddsOfClear 72 = .ok (.lmul, 1) := by decide +kernel
theorem dX11_oddsOfClear_73 : decode cX11_oddsOfClear 73 = .ok (.lstore 8, 2) := by decide +kernel
theorem dX11_oddsOfClear_75 : decode cX11_oddsOfClear 75 = .ok (.iload 7, 2) := by decide +kernel
theorem dX11_oddsOfClear_77 : decode cX11_oddsOfClear 77 = .ok (.iload_n 2, 1) := by decide +kernel
theorem dX11_oddsOfClear_78 : decode cX11_oddsOfClear 78 = .ok (.if_icmp .lt 11, 3) := by decide +kernel
theorem dX11_oddsOfClear_81 : decode cX11_oddsOfClear 81 = .ok (.lload_n 3, 1) := by decide +kernel
theorem dX11_oddsOfClear_82 : decode cX11_oddsOfClear 82 = .ok (.lload 5, 2) := by decide +kernel
theorem dX11_oddsOfClear_84 : decode cX11_oddsOfClear 84 = .ok (.lload 8, 2) := by decide +kernel
theorem dX11_oddsOfClear_86 : decode cX11_oddsOfClear 86 = .ok (.lmul, 1) := by decide +kernel
theorem dX11_oddsOfClear_87 : decode cX11_oddsOfClear 87 = .ok (.ladd, 1) := by decide +kernel
theorem dX11_oddsOfClear_88 : decode cX11_oddsOfClear 88 = .ok (.lstore_n 3, 1) := by decide +kernel
theorem dX11_oddsOfClear_89 : decode cX11_oddsOfClear 89 = .ok (.iinc 7 1, 3) := by decide +kernel
theorem dX11_oddsOfClear_92 : decode cX11_oddsOfClear 92 = .ok (.goto (-84), 3) := by decide +kernel
theorem dX11_oddsOfClear_95 : decode cX11_oddsOfClear 95 = .ok (.lload_n 3, 1) := by decide +kernel
theorem dX11_oddsOfClear_96 : decode cX11_oddsOfClear 96 = .ok (.lreturn, 1) := by decide +kernel
theorem dX11_passesOn_0 : decode cX11_passesOn 0 = .ok (.aload_n 2, 1) := by decide +kernel
theorem dX11_passesOn_1 : decode cX11_passesOn 1 = .ok (.instanceof 310, 3) := by decide +kernel
theorem dX11_passesOn_4 : decode cX11_passesOn 4 = .ok (.ifCond .eq 42, 3) := by decide +kernel
theorem dX11_passesOn_7 : decode cX11_passesOn 7 = .ok (.aload_n 0, 1) := by decide +kernel
theorem dX11_passesOn_8 : decode cX11_passesOn 8 = .ok (.getfield 12, 3) := by decide +kernel
theorem dX11_passesOn_11 : decode cX11_passesOn 11 = .ok (.aload_n 1, 1) := by decide +kernel
theorem dX11_passesOn_12 : decode cX11_passesOn 12 = .ok (.aload_n 2, 1) := by decide +kernel
theorem dX11_passesOn_13 : decode cX11_passesOn 13 = .ok (.getfield 350, 3) := by decide +kernel
theorem dX11_passesOn_16 : decode cX11_passesOn 16 = .ok (.aload_n 2, 1) := by decide +kernel
theorem dX11_passesOn_17 : decode cX11_passesOn 17 = .ok (.getfield 353, 3) := by decide +kernel
theorem dX11_passesOn_20 : decode cX11_passesOn 20 = .ok (.aload_n 2, 1) := by decide +kernel
theorem dX11_passesOn_21 : decode cX11_passesOn 21 = .ok (.getfield 356, 3) := by decide +kernel
theorem dX11_passesOn_24 : decode cX11_passesOn 24 = .ok (.invokevirtual 359, 3) := by decide +kernel
theorem dX11_passesOn_27 : decode cX11_passesOn 27 = .ok (.ifCond .ne 19, 3) := by decide +kernel
theorem dX11_passesOn_30 : decode cX11_passesOn 30 = .ok (.aload_n 0, 1) := by decide +kernel
theorem dX11_passesOn_31 : decode cX11_passesOn 31 = .ok (.getfield 12, 3) := by decide +kernel
theorem dX11_passesOn_34 : decode cX11_passesOn 34 = .ok (.aload_n 2, 1) := by decide +kernel
theorem dX11_passesOn_35 : decode cX11_passesOn 35 = .ok (.iload_n 3, 1) := by decide +kernel
theorem dX11_passesOn_36 : decode cX11_passesOn 36 = .ok (.invokevirtual 128, 3) := by decide +kernel
theorem dX11_passesOn_39 : decode cX11_passesOn 39 = .ok (.ifCond .eq 7, 3) := by decide +kernel
theorem dX11_passesOn_42 : decode cX11_passesOn 42 = .ok (.iconst 1, 1) := by decide +kernel
theorem dX11_passesOn_43 : decode cX11_passesOn 43 = .ok (.goto 4, 3) := by decide +kernel
theorem dX11_passesOn_46 : decode cX11_passesOn 46 = .ok (.iconst 0, 1) := by decide +kernel
theorem dX11_passesOn_47 : decode cX11_passesOn 47 = .ok (.ireturn, 1) := by decide +kernel
theorem dX11_readBallot_0 : decode cX11_readBallot 0 = .ok (.iload_n 1, 1) := by decide +kernel
theorem dX11_readBallot_1 : decode cX11_readBallot 1 = .ok (.ifCond .ge 5, 3) := by decide +kernel
theorem dX11_readBallot_4 : decode cX11_readBallot 4 = .ok (.iconst 0, 1) := by decide +kernel
theorem dX11_readBallot_5 : decode cX11_readBallot 5 = .ok (.ireturn, 1) := by decide +kernel
theorem dX11_readBallot_6 : decode cX11_readBallot 6 = .ok (.iload_n 1, 1) := by decide +kernel
theorem dX11_readBallot_7 : decode cX11_readBallot 7 = .ok (.istore_n 2, 1) := by decide +kernel
theorem dX11_readBallot_8 : decode cX11_readBallot 8 = .ok (.iconst 0, 1) := by decide +kernel
theorem dX11_readBallot_9 : decode cX11_readBallot 9 = .ok (.istore_n 3, 1) := by decide +kernel
theorem dX11_readBallot_10 : decode cX11_readBallot 10 = .ok (.aload_n 0, 1) := by decide +kernel
theorem dX11_readBallot_11 : decode cX11_readBallot 11 = .ok (.getfield 12, 3) := by decide +kernel
theorem dX11_readBallot_14 : decode cX11_readBallot 14 = .ok (.getfield 76, 3) := by decide +kernel
theorem dX11_readBallot_17 : decode cX11_readBallot 17 = .ok (.iconst 1, 1) := by decide +kernel
theorem dX11_readBallot_18 : decode cX11_readBallot 18 = .ok (.isub, 1) := by decide +kernel
theorem dX11_readBallot_19 : decode cX11_readBallot 19 = .ok (.istore 4, 2) := by decide +kernel
theorem dX11_readBallot_21 : decode cX11_readBallot 21 = .ok (.iload 4, 2) := by decide +kernel
theorem dX11_readBallot_23 : decode cX11_readBallot 23 = .ok (.ifCond .lt 50, 3) := by decide +kernel
theorem dX11_readBallot_26 : decode cX11_readBallot 26 = .ok (.iload_n 2, 1) := by decide +kernel
theorem dX11_readBallot_27 : decode cX11_readBallot 27 = .ok (.bipush 10, 2) := by decide +kernel
theorem dX11_readBallot_29 : decode cX11_readBallot 29 = .ok (.irem, 1) := by decide +kernel
theorem dX11_readBallot_30 : decode cX11_readBallot 30 = .ok (.istore 5, 2) := by decide +kernel
theorem dX11_readBallot_32 : decode cX11_readBallot 32 = .ok (.iload_n 2, 1) := by decide +kernel
theorem dX11_readBallot_33 : decode cX11_readBallot 33 = .ok (.bipush 10, 2) := by decide +kernel
theorem dX11_readBallot_35 : decode cX11_readBallot 35 = .ok (.idiv, 1) := by decide +kernel
theorem dX11_readBallot_36 : decode cX11_readBallot 36 = .ok (.istore_n 2, 1) := by decide +kernel
theorem dX11_readBallot_37 : decode cX11_readBallot 37 = .ok (.iload 5, 2) := by decide +kernel
theorem dX11_readBallot_39 : decode cX11_readBallot 39 = .ok (.aload_n 0, 1) := by decide +kernel
theorem dX11_readBallot_40 : decode cX11_readBallot 40 = .ok (.getfield 12, 3) := by decide +kernel
theorem dX11_readBallot_43 : decode cX11_readBallot 43 = .ok (.getfield 76, 3) := by decide +kernel
theorem dX11_readBallot_46 : decode cX11_readBallot 46 = .ok (.if_icmp .lt 5, 3) := by decide +kernel
theorem dX11_readBallot_49 : decode cX11_readBallot 49 = .ok (.iconst 0, 1) := by decide +kernel
theorem dX11_readBallot_50 : decode cX11_readBallot 50 = .ok (.ireturn, 1) := by decide +kernel
theorem dX11_readBallot_51 : decode cX11_readBallot 51 = .ok (.iload_n 3, 1) := by decide +kernel
theorem dX11_readBallot_52 : decode cX11_readBallot 52 = .ok (.iconst 1, 1) := by decide +kernel
theorem dX11_readBallot_53 : decode cX11_readBallot 53 = .ok (.iload 5, 2) := by decide +kernel
theorem dX11_readBallot_55 : decode cX11_readBallot 55 = .ok (.ishl, 1) := by decide +kernel
theorem dX11_readBallot_56 : decode cX11_readBallot 56 = .ok (.ior, 1) := by decide +kernel
theorem dX11_readBallot_57 : decode cX11_readBallot 57 = .ok (.istore_n 3, 1) := by decide +kernel
theorem dX11_readBallot_58 : decode cX11_readBallot 58 = .ok (.aload_n 0, 1) := by decide +kernel
theorem dX11_readBallot_59 : decode cX11_readBallot 59 = .ok (.getfield 50, 3) := by decide +kernel
theorem dX11_readBallot_62 : decode cX11_readBallot 62 = .ok (.iload 4, 2) := by decide +kernel
theorem dX11_readBallot_64 : decode cX11_readBallot 64 = .ok (.iload 5, 2) := by decide +kernel
theorem dX11_readBallot_66 : decode cX11_readBallot 66 = .ok (.iastore, 1) := by decide +kernel
theorem dX11_readBallot_67 : decode cX11_readBallot 67 = .ok (.iinc 4 (-1), 3) := by decide +kernel
theorem dX11_readBallot_70 : decode cX11_readBallot 70 = .ok (.goto (-49), 3) := by decide +kernel
theorem dX11_readBallot_73 : decode cX11_readBallot 73 = .ok (.iload_n 2, 1) := by decide +kernel
theorem dX11_readBallot_74 : decode cX11_readBallot 74 = .ok (.ifCond .ne 22, 3) := by decide +kernel
theorem dX11_readBallot_77 : decode cX11_readBallot 77 = .ok (.iload_n 3, 1) := by decide +kernel
theorem dX11_readBallot_78 : decode cX11_readBallot 78 = .ok (.iconst 1, 1) := by decide +kernel
theorem dX11_readBallot_79 : decode cX11_readBallot 79 = .ok (.aload_n 0, 1) := by decide +kernel
theorem dX11_readBallot_80 : decode cX11_readBallot 80 = .ok (.getfield 12, 3) := by decide +kernel
theorem dX11_readBallot_83 : decode cX11_readBallot 83 = .ok (.getfield 76, 3) := by decide +kernel
theorem dX11_readBallot_86 : decode cX11_readBallot 86 = .ok (.ishl, 1) := by decide +kernel
theorem dX11_readBallot_87 : decode cX11_readBallot 87 = .ok (.iconst 1, 1) := by decide +kernel
theorem dX11_readBallot_88 : decode cX11_readBallot 88 = .ok (.isub, 1) := by decide +kernel
theorem dX11_readBallot_89 : decode cX11_readBallot 89 = .ok (.if_icmp .ne 7, 3) := by decide +kernel
theorem dX11_readBallot_92 : decode cX11_readBallot 92 = .ok (.iconst 1, 1) := by decide +kernel
theorem dX11_readBallot_93 : decode cX11_readBallot 93 = .ok (.goto 4, 3) := by decide +kernel
theorem dX11_readBallot_96 : decode cX11_readBallot 96 = .ok (.iconst 0, 1) := by decide +kernel
theorem dX11_readBallot_97 : decode cX11_readBallot 97 = .ok (.ireturn, 1) := by decide +kernel
theorem dX11_beats_0 : decode cX11_beats 0 = .ok (.iconst 2, 1) := by decide +kernel
theorem dX11_beats_1 : decode cX11_beats 1 = .ok (.aload_n 0, 1) := by decide +kernel
theorem dX11_beats_2 : decode cX11_beats 2 = .ok (.getfield 12, 3) := by decide +kernel
theorem dX11_beats_5 : decode cX11_beats 5 = .ok (.getfield 243, 3) := by decide +kernel
theorem dX11_beats_8 : decode cX11_beats 8 = .ok (.iload_n 1, 1) := by decide +kernel
theorem dX11_beats_9 : decode cX11_beats 9 = .ok (.aaload, 1) := by decide +kernel
theorem dX11_beats_10 : decode cX11_beats 10 = .ok (.iload_n 2, 1) := by decide +kernel
theorem dX11_beats_11 : decode cX11_beats 11 = .ok (.iaload, 1) := by decide +kernel
theorem dX11_beats_12 : decode cX11_beats 12 = .ok (.imul, 1) := by decide +kernel
theorem dX11_beats_13 : decode cX11_beats 13 = .ok (.aload_n 0, 1) := by decide +kernel
theorem dX11_beats_14 : decode cX11_beats 14 = .ok (.getfield 12, 3) := by decide +kernel
theorem dX11_beats_17 : decode cX11_beats 17 = .ok (.getfield 240, 3) := by decide +kernel
theorem dX11_beats_20 : decode cX11_beats 20 = .ok (.if_icmp .le 7, 3) := by decide +kernel
theorem dX11_beats_23 : decode cX11_beats 23 = .ok (.iconst 1, 1) := by decide +kernel
theorem dX11_beats_24 : decode cX11_beats 24 = .ok (.goto 4, 3) := by decide +kernel
theorem dX11_beats_27 : decode cX11_beats 27 = .ok (.iconst 0, 1) := by decide +kernel
theorem dX11_beats_28 : decode cX11_beats 28 = .ok (.ireturn, 1) := by decide +kernel
theorem dX11_beatenBy_0 : decode cX11_beatenBy 0 = .ok (.iconst 0, 1) := by decide +kernel
theorem dX11_beatenBy_1 : decode cX11_beatenBy 1 = .ok (.istore_n 2, 1) := by decide +kernel
theorem dX11_beatenBy_2 : decode cX11_beatenBy 2 = .ok (.iconst 0, 1) := by decide +kernel
theorem dX11_beatenBy_3 : decode cX11_beatenBy 3 = .ok (.istore_n 3, 1) := by decide +kernel
theorem dX11_beatenBy_4 : decode cX11_beatenBy 4 = .ok (.iload_n 3, 1) := by decide +kernel
theorem dX11_beatenBy_5 : decode cX11_beatenBy 5 = .ok (.aload_n 0, 1) := by decide +kernel
theorem dX11_beatenBy_6 : decode cX11_beatenBy 6 = .ok (.getfield 12, 3) := by decide +kernel
theorem dX11_beatenBy_9 : decode cX11_beatenBy 9 = .ok (.getfield 76, 3) := by decide +kernel
theorem dX11_beatenBy_12 : decode cX11_beatenBy 12 = .ok (.if_icmp .ge 21, 3) := by decide +kernel
theorem dX11_beatenBy_15 : decode cX11_beatenBy 15 = .ok (.aload_n 0, 1) := by decide +kernel
theorem dX11_beatenBy_16 : decode cX11_beatenBy 16 = .ok (.iload_n 1, 1) := by decide +kernel
theorem dX11_beatenBy_17 : decode cX11_beatenBy 17 = .ok (.iload_n 3, 1) := by decide +kernel
theorem dX11_beatenBy_18 : decode cX11_beatenBy 18 = .ok (.invokevirtual 363, 3) := by decide +kernel
theorem dX11_beatenBy_21 : decode cX11_beatenBy 21 = .ok (.ifCond .eq 6, 3) := by decide +kernel
theorem dX11_beatenBy_24 : decode cX11_beatenBy 24 = .ok (.iinc 2 1, 3) := by decide +kernel
theorem dX11_beatenBy_27 : decode cX11_beatenBy 27 = .ok (.iinc 3 1, 3) := by decide +kernel
theorem dX11_beatenBy_30 : decode cX11_beatenBy 30 = .ok (.goto (-26), 3) := by decide +kernel
theorem dX11_beatenBy_33 : decode cX11_beatenBy 33 = .ok (.iload_n 2, 1) := by decide +kernel
theorem dX11_beatenBy_34 : decode cX11_beatenBy 34 = .ok (.ireturn, 1) := by decide +kernel
theorem dX11_winner_0 : decode cX11_winner 0 = .ok (.iconst 0, 1) := by decide +kernel
theorem dX11_winner_1 : decode cX11_winner 1 = .ok (.istore_n 1, 1) := by decide +kernel
theorem dX11_winner_2 : decode cX11_winner 2 = .ok (.iload_n 1, 1) := by decide +kernel
theorem dX11_winner_3 : decode cX11_winner 3 = .ok (.aload_n 0, 1) := by decide +kernel
theorem dX11_winner_4 : decode cX11_winner 4 = .ok (.getfield 12, 3) := by decide +kernel
theorem dX11_winner_7 : decode cX11_winner 7 = .ok (.getfield 76, 3) := by decide +kernel
theorem dX11_winner_10 : decode cX11_winner 10 = .ok (.if_icmp .ge 28, 3) := by decide +kernel
theorem dX11_winner_13 : decode cX11_winner 13 = .ok (.aload_n 0, 1) := by decide +kernel
theorem dX11_winner_14 : decode cX11_winner 14 = .ok (.iload_n 1, 1) := by decide +kernel
theorem dX11_winner_15 : decode cX11_winner 15 = .ok (.invokevirtual 258, 3) := by decide +kernel
theorem dX11_winner_18 : decode cX11_winner 18 = .ok (.aload_n 0, 1) := by decide +kernel
theorem dX11_winner_19 : decode cX11_winner 19 = .ok (.getfield 12, 3) := by decide +kernel
theorem dX11_winner_22 : decode cX11_winner 22 = .ok (.getfield 76, 3) := by decide +kernel
theorem dX11_winner_25 : decode cX11_winner 25 = .ok (.iconst 1, 1) := by decide +kernel
theorem dX11_winner_26 : decode cX11_winner 26 = .ok (.isub, 1) := by decide +kernel
theorem dX11_winner_27 : decode cX11_winner 27 = .ok (.if_icmp .ne 5, 3) := by decide +kernel
theorem dX11_winner_30 : decode cX11_winner 30 = .ok (.iload_n 1, 1) := by decide +kernel
theorem dX11_winner_31 : decode cX11_winner 31 = .ok (.ireturn, 1) := by decide +kernel
theorem dX11_winner_32 : decode cX11_winner 32 = .ok (.iinc 1 1, 3) := by decide +kernel
theorem dX11_winner_35 : decode cX11_winner 35 = .ok (.goto (-33), 3) := by decide +kernel
theorem dX11_winner_38 : decode cX11_winner 38 = .ok (.bipush (-5), 2) := by decide +kernel
theorem dX11_winner_40 : decode cX11_winner 40 = .ok (.ireturn, 1) := by decide +kernel
theorem dX11_patchInOrder_0 : decode cX11_patchInOrder 0 = .ok (.iconst 0, 1) := by decide +kernel
theorem dX11_patchInOrder_1 : decode cX11_patchInOrder 1 = .ok (.istore_n 2, 1) := by decide +kernel
theorem dX11_patchInOrder_2 : decode cX11_patchInOrder 2 = .ok (.iload_n 2, 1) := by decide +kernel
theorem dX11_patchInOrder_3 : decode cX11_patchInOrder 3 = .ok (.aload_n 0, 1) := by decide +kernel
theorem dX11_patchInOrder_4 : decode cX11_patchInOrder 4 = .ok (.getfield 12, 3) := by decide +kernel
theorem dX11_patchInOrder_7 : decode cX11_patchInOrder 7 = .ok (.getfield 76, 3) := by decide +kernel
theorem dX11_patchInOrder_10 : decode cX11_patchInOrder 10 = .ok (.if_icmp .ge 20, 3) := by decide +kernel
theorem dX11_patchInOrder_13 : decode cX11_patchInOrder 13 = .ok (.aload_n 0, 1) := by decide +kernel
theorem dX11_patchInOrder_14 : decode cX11_patchInOrder 14 = .ok (.iload_n 2, 1) := by decide +kernel
theorem dX11_patchInOrder_15 : decode cX11_patchInOrder 15 = .ok (.invokevirtual 366, 3) := by decide +kernel
theorem dX11_patchInOrder_18 : decode cX11_patchInOrder 18 = .ok (.iload_n 1, 1) := by decide +kernel
theorem dX11_patchInOrder_19 : decode cX11_patchInOrder 19 = .ok (.if_icmp .ne 5, 3) := by decide +kernel
theorem dX11_patchInOrder_22 : decode cX11_patchInOrder 22 = .ok (.iload_n 2, 1) := by decide +kernel
theorem dX11_patchInOrder_23 : decode cX11_patchInOrder 23 = .ok (.ireturn, 1) := by decide +kernel
theorem dX11_patchInOrder_24 : decode cX11_patchInOrder 24 = .ok (.iinc 2 1, 3) := by decide +kernel
theorem dX11_patchInOrder_27 : decode cX11_patchInOrder 27 = .ok (.goto (-25), 3) := by decide +kernel
theorem dX11_patchInOrder_30 : decode cX11_patchInOrder 30 = .ok (.bipush (-5), 2) := by decide +kernel
theorem dX11_patchInOrder_32 : decode cX11_patchInOrder 32 = .ok (.ireturn, 1) := by decide +kernel
theorem dX11_aheadInOrder_0 : decode cX11_aheadInOrder 0 = .ok (.aload_n 0, 1) := by decide +kernel
theorem dX11_aheadInOrder_1 : decode cX11_aheadInOrder 1 = .ok (.iload_n 1, 1) := by decide +kernel
theorem dX11_aheadInOrder_2 : decode cX11_aheadInOrder 2 = .ok (.invokevirtual 258, 3) := by decide +kernel
theorem dX11_aheadInOrder_5 : decode cX11_aheadInOrder 5 = .ok (.istore_n 2, 1) := by decide +kernel
theorem dX11_aheadInOrder_6 : decode cX11_aheadInOrder 6 = .ok (.iconst 0, 1) := by decide +kernel
theorem dX11_aheadInOrder_7 : decode cX11_aheadInOrder 7 = .ok (.istore_n 3, 1) := by decide +kernel
theorem dX11_aheadInOrder_8 : decode cX11_aheadInOrder 8 = .ok (.iconst 0, 1) := by decide +kernel
theorem dX11_aheadInOrder_9 : decode cX11_aheadInOrder 9 = .ok (.istore 4, 2) := by decide +kernel
theorem dX11_aheadInOrder_11 : decode cX11_aheadInOrder 11 = .ok (.iload 4, 2) := by decide +kernel
theorem dX11_aheadInOrder_13 : decode cX11_aheadInOrder 13 = .ok (.aload_n 0, 1) := by decide +kernel
theorem dX11_aheadInOrder_14 : decode cX11_aheadInOrder 14 = .ok (.getfield 12, 3) := by decide +kernel
theorem dX11_aheadInOrder_17 : decode cX11_aheadInOrder 17 = .ok (.getfield 76, 3) := by decide +kernel
theorem dX11_aheadInOrder_20 : decode cX11_aheadInOrder 20 = .ok (.if_icmp .ge 38, 3) := by decide +kernel
theorem dX11_aheadInOrder_23 : decode cX11_aheadInOrder 23 = .ok (.aload_n 0, 1) := by decide +kernel
theorem dX11_aheadInOrder_24 : decode cX11_aheadInOrder 24 = .ok (.iload 4, 2) := by decide +kernel
theorem dX11_aheadInOrder_26 : decode cX11_aheadInOrder 26 = .ok (.invokevirtual 258, 3) := by decide +kernel
theorem dX11_aheadInOrder_29 : decode cX11_aheadInOrder 29 = .ok (.istore 5, 2) := by decide +kernel
theorem dX11_aheadInOrder_31 : decode cX11_aheadInOrder 31 = .ok (.iload 5, 2) := by decide +kernel
theorem dX11_aheadInOrder_33 : decode cX11_aheadInOrder 33 = .ok (.iload_n 2, 1) := by decide +kernel
theorem dX11_aheadInOrder_34 : decode cX11_aheadInOrder 34 = .ok (.if_icmp .gt 15, 3) := by decide +kernel
theorem dX11_aheadInOrder_37 : decode cX11_aheadInOrder 37 = .ok (.iload 5, 2) := by decide +kernel
theorem dX11_aheadInOrder_39 : decode cX11_aheadInOrder 39 = .ok (.iload_n 2, 1) := by decide +kernel
theorem dX11_aheadInOrder_40 : decode cX11_aheadInOrder 40 = .ok (.if_icmp .ne 12, 3) := by decide +kernel
theorem dX11_aheadInOrder_43 : decode cX11_aheadInOrder 43 = .ok (.iload 4, 2) := by decide +kernel
theorem dX11_aheadInOrder_45 : decode cX11_aheadInOrder 45 = .ok (.iload_n 1, 1) := by decide +kernel
theorem dX11_aheadInOrder_46 : decode cX11_aheadInOrder 46 = .ok (.if_icmp .ge 6, 3) := by decide +kernel
theorem dX11_aheadInOrder_49 : decode cX11_aheadInOrder 49 = .ok (.iinc 3 1, 3) := by decide +kernel
theorem dX11_aheadInOrder_52 : decode cX11_aheadInOrder 52 = .ok (.iinc 4 1, 3) := by decide +kernel
theorem dX11_aheadInOrder_55 : decode cX11_aheadInOrder 55 = .ok (.goto (-44), 3) := by decide +kernel
theorem dX11_aheadInOrder_58 : decode cX11_aheadInOrder 58 = .ok (.iload_n 3, 1) := by decide +kernel
theorem dX11_aheadInOrder_59 : decode cX11_aheadInOrder 59 = .ok (.ireturn, 1) := by decide +kernel
theorem dX11_ring_0 : decode cX11_ring 0 = .ok (.iconst 0, 1) := by decide +kernel
theorem dX11_ring_1 : decode cX11_ring 1 = .ok (.istore_n 1, 1) := by decide +kernel
theorem dX11_ring_2 : decode cX11_ring 2 = .ok (.iload_n 1, 1) := by decide +kernel
theorem dX11_ring_3 : decode cX11_ring 3 = .ok (.aload_n 0, 1) := by decide +kernel
theorem dX11_ring_4 : decode cX11_ring 4 = .ok (.getfield 12, 3) := by decide +kernel
theorem dX11_ring_7 : decode cX11_ring 7 = .ok (.getfield 76, 3) := by decide +kernel
theorem dX11_ring_10 : decode cX11_ring 10 = .ok (.if_icmp .ge 86, 3) := by decide +kernel
theorem dX11_ring_13 : decode cX11_ring 13 = .ok (.iconst 0, 1) := by decide +kernel
theorem dX11_ring_14 : decode cX11_ring 14 = .ok (.istore_n 2, 1) := by decide +kernel
theorem dX11_ring_15 : decode cX11_ring 15 = .ok (.iload_n 2, 1) := by decide +kernel
theorem dX11_ring_16 : decode cX11_ring 16 = .ok (.aload_n 0, 1) := by decide +kernel
theorem dX11_ring_17 : decode cX11_ring 17 = .ok (.getfield 12, 3) := by decide +kernel
theorem dX11_ring_20 : decode cX11_ring 20 = .ok (.getfield 76, 3) := by decide +kernel
theorem dX11_ring_23 : decode cX11_ring 23 = .ok (.if_icmp .ge 67, 3) := by decide +kernel
theorem dX11_ring_26 : decode cX11_ring 26 = .ok (.iconst 0, 1) := by decide +kernel
theorem dX11_ring_27 : decode cX11_ring 27 = .ok (.istore_n 3, 1) := by decide +kernel
theorem dX11_ring_28 : decode cX11_ring 28 = .ok (.iload_n 3, 1) := by decide +kernel
theorem dX11_ring_29 : decode cX11_ring 29 = .ok (.aload_n 0, 1) := by decide +kernel
theorem dX11_ring_30 : decode cX11_ring 30 = .ok (.getfield 12, 3) := by decide +kernel
theorem dX11_ring_33 : decode cX11_ring 33 = .ok (.getfield 76, 3) := by decide +kernel
theorem dX11_ring_36 : decode cX11_ring 36 = .ok (.if_icmp .ge 48, 3) := by decide +kernel
theorem dX11_ring_39 : decode cX11_ring 39 = .ok (.aload_n 0, 1) := by decide +kernel
theorem dX11_ring_40 : decode cX11_ring 40 = .ok (.iload_n 1, 1) := by decide +kernel
theorem dX11_ring_41 : decode cX11_ring 41 = .ok (.iload_n 2, 1) := by decide +kernel
theorem dX11_ring_42 : decode cX11_ring 42 = .ok (.invokevirtual 363, 3) := by decide +kernel
theorem dX11_ring_45 : decode cX11_ring 45 = .ok (.ifCond .eq 33, 3) := by decide +kernel
theorem dX11_ring_48 : decode cX11_ring 48 = .ok (.aload_n 0, 1) := by decide +kernel
theorem dX11_ring_49 : decode cX11_ring 49 = .ok (.iload_n 2, 1) := by decide +kernel
theorem dX11_ring_50 : decode cX11_ring 50 = .ok (.iload_n 3, 1) := by decide +kernel
theorem dX11_ring_51 : decode cX11_ring 51 = .ok (.invokevirtual 363, 3) := by decide +kernel
theorem dX11_ring_54 : decode cX11_ring 54 = .ok (.ifCond .eq 24, 3) := by decide +kernel
theorem dX11_ring_57 : decode cX11_ring 57 = .ok (.aload_n 0, 1) := by decide +kernel
theorem dX11_ring_58 : decode cX11_ring 58 = .ok (.iload_n 3, 1) := by decide +kernel
theorem dX11_ring_59 : decode cX11_ring 59 = .ok (.iload_n 1, 1) := by decide +kernel
theorem dX11_ring_60 : decode cX11_ring 60 = .ok (.invokevirtual 363, 3) := by decide +kernel
theorem dX11_ring_63 : decode cX11_ring 63 = .ok (.ifCond .eq 15, 3) := by decide +kernel
theorem dX11_ring_66 : decode cX11_ring 66 = .ok (.bipush 100, 2) := by decide +kernel
theorem dX11_ring_68 : decode cX11_ring 68 = .ok (.iload_n 1, 1) := by decide +kernel
theorem dX11_ring_69 : decode cX11_ring 69 = .ok (.imul, 1) := by decide +kernel
theorem dX11_ring_70 : decode cX11_ring 70 = .ok (.bipush 10, 2) := by decide +kernel
theorem dX11_ring_72 : decode cX11_ring 72 = .ok (.iload_n 2, 1) := by decide +kernel
theorem dX11_ring_73 : decode cX11_ring 73 = .ok (.imul, 1) := by decide +kernel
theorem dX11_ring_74 : decode cX11_ring 74 = .ok (.iadd, 1) := by decide +kernel
theorem dX11_ring_75 : decode cX11_ring 75 = .ok (.iload_n 3, 1) := by decide +kernel
theorem dX11_ring_76 : decode cX11_ring 76 = .ok (.iadd, 1) := by decide +kernel
theorem dX11_ring_77 : decode cX11_ring 77 = .ok (.ireturn, 1) := by decide +kernel
theorem dX11_ring_78 : decode cX11_ring 78 = .ok (.iinc 3 1, 3) := by decide +kernel
theorem dX11_ring_81 : decode cX11_ring 81 = .ok (.goto (-53), 3) := by decide +kernel
theorem dX11_ring_84 : decode cX11_ring 84 = .ok (.iinc 2 1, 3) := by decide +kernel
theorem dX11_ring_87 : decode cX11_ring 87 = .ok (.goto (-72), 3) := by decide +kernel
theorem dX11_ring_90 : decode cX11_ring 90 = .ok (.iinc 1 1, 3) := by decide +kernel
theorem dX11_ring_93 : decode cX11_ring 93 = .ok (.goto (-91), 3) := by decide +kernel
theorem dX11_ring_96 : decode cX11_ring 96 = .ok (.bipush (-5), 2) := by decide +kernel
theorem dX11_ring_98 : decode cX11_ring 98 = .ok (.ireturn, 1) := by decide +kernel
theorem dX12_init_0 : decode cX12_init 0 = .ok (.aload_n 0, 1) := by decide +kernel
theorem dX12_init_1 : decode cX12_init 1 = .ok (.invokespecial 3, 3) := by decide +kernel
theorem dX12_init_4 : decode cX12_init 4 = .ok (.aload_n 0, 1) := by decide +kernel
theorem dX12_init_5 : decode cX12_init 5 = .ok (.sipush 1029, 3) := by decide +kernel
theorem dX12_init_8 : decode cX12_init 8 = .ok (.newarray .int, 2) := by decide +kernel
theorem dX12_init_10 : decode cX12_init 10 = .ok (.putfield 9, 3) := by decide +kernel
theorem dX12_init_13 : decode cX12_init 13 = .ok (.aload_n 0, 1) := by decide +kernel
theorem dX12_init_14 : decode cX12_init 14 = .ok (.sipush 1029, 3) := by decide +kernel
theorem dX12_init_17 : decode cX12_init 17 = .ok (.newarray .int, 2) := by decide +kernel
theorem dX12_init_19 : decode cX12_init 19 = .ok (.putfield 15, 3) := by decide +kernel
theorem dX12_init_22 : decode cX12_init 22 = .ok (.aload_n 0, 1) := by decide +kernel
theorem dX12_init_23 : decode cX12_init 23 = .ok (.iconst 5, 1) := by decide +kernel
theorem dX12_init_24 : decode cX12_init 24 = .ok (.newarray .int, 2) := by decide +kernel
theorem dX12_init_26 : decode cX12_init 26 = .ok (.putfield 18, 3) := by decide +kernel
theorem dX12_init_29 : decode cX12_init 29 = .ok (.aload_n 0, 1) := by decide +kernel
theorem dX12_init_30 : decode cX12_init 30 = .ok (.bipush 64, 2) := by decide +kernel
theorem dX12_init_32 : decode cX12_init 32 = .ok (.newarray .boolean, 2) := by decide +kernel
theorem dX12_init_34 : decode cX12_init 34 = .ok (.putfield 21, 3) := by decide +kernel
theorem dX12_init_37 : decode cX12_init 37 = .ok (.aload_n 0, 1) := by decide +kernel
theorem dX12_init_38 : decode cX12_init 38 = .ok (.bipush 63, 2) := by decide +kernel
theorem dX12_init_40 : decode cX12_init 40 = .ok (.newarray .int, 2) := by decide +kernel
theorem dX12_init_42 : decode cX12_init 42 = .ok (.putfield 25, 3) := by decide +kernel
theorem dX12_init_45 : decode cX12_init 45 = .ok (.aload_n 0, 1) := by decide +kernel
theorem dX12_init_46 : decode cX12_init 46 = .ok (.bipush 8, 2) := by decide +kernel
theorem dX12_init_48 : decode cX12_init 48 = .ok (.newarray .int, 2) := by decide +kernel
theorem dX12_init_50 : decode cX12_init 50 = .ok (.putfield 28, 3) := by decide +kernel
theorem dX12_init_53 : decode cX12_init 53 = .ok (.aload_n 0, 1) := by decide +kernel
theorem dX12_init_54 : decode cX12_init 54 = .ok (.bipush 48, 2) := by decide +kernel
theorem dX12_init_56 : decode cX12_init 56 = .ok (.newarray .boolean, 2) := by decide +kernel
theorem dX12_init_58 : decode cX12_init 58 = .ok (.putfield 31, 3) := by decide +kernel
theorem dX12_init_61 : decode cX12_init 61 = .ok (.aload_n 0, 1) := by decide +kernel
theorem dX12_init_62 : decode cX12_init 62 = .ok (.bipush 8, 2) := by decide +kernel
theorem dX12_init_64 : decode cX12_init 64 = .ok (.newarray .int, 2) := by decide +kernel
theorem dX12_init_66 : decode cX12_init 66 = .ok (.putfield 34, 3) := by decide +kernel
theorem dX12_init_69 : decode cX12_init 69 = .ok (.aload_n 0, 1) := by decide +kernel
theorem dX12_init_70 : decode cX12_init 70 = .ok (.bipush 6, 2) := by decide +kernel
theorem dX12_init_72 : decode cX12_init 72 = .ok (.newarray .int, 2) := by decide +kernel
theorem dX12_init_74 : decode cX12_init 74 = .ok (.putfield 37, 3) := by decide +kernel
theorem dX12_init_77 : decode cX12_init 77 = .ok (.aload_n 0, 1) := by decide +kernel
theorem dX12_init_78 : decode cX12_init 78 = .ok (.bipush 20, 2) := by decide +kernel
theorem dX12_init_80 : decode cX12_init 80 = .ok (.newarray .int, 2) := by decide +kernel
theorem dX12_init_82 : decode cX12_init 82 = .ok (.putfield 40, 3) := by decide +kernel
theorem dX12_init_85 : decode cX12_init 85 = .ok (.aload_n 0, 1) := by decide +kernel
theorem dX12_init_86 : decode cX12_init 86 = .ok (.getfield 9, 3) := by decide +kernel
theorem dX12_init_89 : decode cX12_init 89 = .ok (.bipush 7, 2) := by decide +kernel
theorem dX12_init_91 : decode cX12_init 91 = .ok (.iconst (-1), 1) := by decide +kernel
theorem dX12_init_92 : decode cX12_init 92 = .ok (.iastore, 1) := by decide +kernel
theorem dX12_init_93 : decode cX12_init 93 = .ok (.iconst 0, 1) := by decide +kernel
theorem dX12_init_94 : decode cX12_init 94 = .ok (.istore_n 1, 1) := by decide +kernel
theorem dX12_init_95 : decode cX12_init 95 = .ok (.iload_n 1, 1) := by decide +kernel
theorem dX12_init_96 : decode cX12_init 96 = .ok (.bipush 48, 2) := by decide +kernel
theorem dX12_init_98 : decode cX12_init 98 = .ok (.if_icmp .ge 20, 3) := by decide +kernel
theorem dX12_init_101 : decode cX12_init 101 = .ok (.aload_n 0, 1) := by decide +kernel
theorem dX12_init_102 : decode cX12_init 102 = .ok (.getfield 9, 3) := by decide +kernel
theorem dX12_init_105 : decode cX12_init 105 = .ok (.sipush 236, 3) := by decide +kernel
theorem dX12_init_108 : decode cX12_init 108 = .ok (.iload_n 1, 1) := by decide +kernel
theorem dX12_init_109 : decode cX12_init 109 = .ok (.iadd, 1) := by decide +kernel
theorem dX12_init_110 : decode cX12_init 110 = .ok (.iconst (-1), 1) := by decide +kernel
theorem dX12_init_111 : decode cX12_init 111 = .ok (.iastore, 1) := by decide +kernel
theorem dX12_init_112 : decode cX12_init 112 = .ok (.iinc 1 1, 3) := by decide +kernel
theorem dX12_init_115 : decode cX12_init 115 = .ok (.goto (-20), 3) := by decide +kernel
theorem dX12_init_118 : decode cX12_init 118 = .ok (.return_, 1) := by decide +kernel
theorem dX12_in_0 : decode cX12_in 0 = .ok (.iload_n 0, 1) := by decide +kernel
theorem dX12_in_1 : decode cX12_in 1 = .ok (.iload_n 1, 1) := by decide +kernel
theorem dX12_in_2 : decode cX12_in 2 = .ok (.if_icmp .lt 12, 3) := by decide +kernel
theorem dX12_in_5 : decode cX12_in 5 = .ok (.iload_n 0, 1) := by decide +kernel
theorem dX12_in_6 : decode cX12_in 6 = .ok (.iload_n 2, 1) := by decide +kernel
theorem dX12_in_7 : decode cX12_in 7 = .ok (.if_icmp .gt 7, 3) := by decide +kernel
theorem dX12_in_10 : decode cX12_in 10 = .ok (.iconst 1, 1) := by decide +kernel
theorem dX12_in_11 : decode cX12_in 11 = .ok (.goto 4, 3) := by decide +kernel
theorem dX12_in_14 : decode cX12_in 14 = .ok (.iconst 0, 1) := by decide +kernel
theorem dX12_in_15 : decode cX12_in 15 = .ok (.ireturn, 1) := by decide +kernel
theorem dX12_size_0 : decode cX12_size 0 = .ok (.iload_n 0, 1) := by decide +kernel
theorem dX12_size_1 : decode cX12_size 1 = .ok (.ifCond .ge 8, 3) := by decide +kernel
theorem dX12_size_4 : decode cX12_size 4 = .ok (.iload_n 0, 1) := by decide +kernel
theorem dX12_size_5 : decode cX12_size 5 = .ok (.ineg, 1) := by decide +kernel
theorem dX12_size_6 : decode cX12_size 6 = .ok (.goto 4, 3) := by decide +kernel
theorem dX12_size_9 : decode cX12_size 9 = .ok (.iload_n 0, 1) := by decide +kernel
theorem dX12_size_10 : decode cX12_size 10 = .ok (.ireturn, 1) := by decide +kernel
theorem dX12_isMirror_0 : decode cX12_isMirror 0 = .ok (.iload_n 1, 1) := by decide +kernel
theorem dX12_isMirror_1 : decode cX12_isMirror 1 = .ok (.iconst 0, 1) := by decide +kernel
theorem dX12_isMirror_2 : decode cX12_isMirror 2 = .ok (.aload_n 0, 1) := by decide +kernel
theorem dX12_isMirror_3 : decode cX12_isMirror 3 = .ok (.getfield 9, 3) := by decide +kernel
theorem dX12_isMirror_6 : decode cX12_isMirror 6 = .ok (.iconst 0, 1) := by decide +kernel
theorem dX12_isMirror_7 : decode cX12_isMirror 7 = .ok (.iaload, 1) := by decide +kernel
theorem dX12_isMirror_8 : decode cX12_isMirror 8 = .ok (.iconst 1, 1) := by decide +kernel
theorem dX12_isMirror_9 : decode cX12_isMirror 9 = .ok (.isub, 1) := by decide +kernel
theorem dX12_isMirror_10 : decode cX12_isMirror 10 = .ok (.invokestatic 47, 3) := by decide +kernel
theorem dX12_isMirror_13 : decode cX12_isMirror 13 = .ok (.ireturn, 1) := by decide +kernel
theorem dX12_isPatch_0 : decode cX12_isPatch 0 = .ok (.iload_n 1, 1) := by decide +kernel
theorem dX12_isPatch_1 : decode cX12_isPatch 1 = .ok (.iconst 0, 1) := by decide +kernel
theorem dX12_isPatch_2 : decode cX12_isPatch 2 = .ok (.aload_n 0, 1) := by decide +kernel
theorem dX12_isPatch_3 : decode cX12_isPatch 3 = .ok (.getfield 9, 3) := by decide +kernel
theorem dX12_isPatch_6 : decode cX12_isPatch 6 = .ok (.iconst 1, 1) := by decide +kernel
theorem dX12_isPatch_7 : decode cX12_isPatch 7 = .ok (.iaload, 1) := by decide +kernel
theorem dX12_isPatch_8 : decode cX12_isPatch 8 = .ok (.iconst 1, 1) := by decide +kernel
theorem dX12_isPatch_9 : decode cX12_isPatch 9 = .ok (.isub, 1) := by decide +kernel
theorem dX12_isPatch_10 : decode cX12_isPatch 10 = .ok (.invokestatic 47, 3) := by decide +kernel
theorem dX12_isPatch_13 : decode cX12_isPatch 13 = .ok (.ireturn, 1) := by decide +kernel
theorem dX12_isQuarter_0 : decode cX12_isQuarter 0 = .ok (.iload_n 0, 1) := by decide +kernel
theorem dX12_isQuarter_1 : decode cX12_isQuarter 1 = .ok (.iconst 0, 1) := by decide +kernel
theorem dX12_isQuarter_2 : decode cX12_isQuarter 2 = .ok (.bipush 7, 2) := by decide +kernel
theorem dX12_isQuarter_4 : decode cX12_isQuarter 4 = .ok (.invokestatic 47, 3) := by decide +kernel
theorem dX12_isQuarter_7 : decode cX12_isQuarter 7 = .ok (.ireturn, 1) := by decide +kernel
theorem dX12_isAt_0 : decode cX12_isAt 0 = .ok (.iload_n 0, 1) := by decide +kernel
theorem dX12_isAt_1 : decode cX12_isAt 1 = .ok (.iconst 0, 1) := by decide +kernel
theorem dX12_isAt_2 : decode cX12_isAt 2 = .ok (.sipush 4040, 3) := by decide +kernel
theorem dX12_isAt_5 : decode cX12_isAt 5 = .ok (.invokestatic 47, 3) := by decide +kernel
theorem dX12_isAt_8 : decode cX12_isAt 8 = .ok (.ifCond .eq 16, 3) := by decide +kernel
theorem dX12_isAt_11 : decode cX12_isAt 11 = .ok (.iload_n 0, 1) := by decide +kernel
theorem dX12_isAt_12 : decode cX12_isAt 12 = .ok (.bipush 100, 2) := by decide +kernel
theorem dX12_isAt_14 : decode cX12_isAt 14 = .ok (.irem, 1) := by decide +kernel
theorem dX12_isAt_15 : decode cX12_isAt 15 = .ok (.bipush 40, 2) := by decide +kernel
theorem dX12_isAt_17 : decode cX12_isAt 17 = .ok (.if_icmp .gt 7, 3) := by decide +kernel
theorem dX12_isAt_20 : decode cX12_isAt 20 = .ok (.iconst 1, 1) := by decide +kernel
theorem dX12_isAt_21 : decode cX12_isAt 21 = .ok (.goto 4, 3) := by decide +kernel
theorem dX12_isAt_24 : decode cX12_isAt 24 = .ok (.iconst 0, 1) := by decide +kernel
theorem dX12_isAt_25 : decode cX12_isAt 25 = .ok (.ireturn, 1) := by decide +kernel
theorem dX12_mirror_0 : decode cX12_mirror 0 = .ok (.iload_n 1, 1) := by decide +kernel
theorem dX12_mirror_1 : decode cX12_mirror 1 = .ok (.iconst 0, 1) := by decide +kernel
theorem dX12_mirror_2 : decode cX12_mirror 2 = .ok (.bipush 6, 2) := by decide +kernel
theorem dX12_mirror_4 : decode cX12_mirror 4 = .ok (.invokestatic 47, 3) := by decide +kernel
theorem dX12_mirror_7 : decode cX12_mirror 7 = .ok (.ifCond .ne 5, 3) := by decide +kernel
theorem dX12_mirror_10 : decode cX12_mirror 10 = .ok (.iconst (-1), 1) := by decide +kernel
theorem dX12_mirror_11 : decode cX12_mirror 11 = .ok (.ireturn, 1) := by decide +kernel
theorem dX12_mirror_12 : decode cX12_mirror 12 = .ok (.iload_n 2, 1) := by decide +kernel
theorem dX12_mirror_13 : decode cX12_mirror 13 = .ok (.invokestatic 51, 3) := by decide +kernel
theorem dX12_mirror_16 : decode cX12_mirror 16 = .ok (.ifCond .eq 39, 3) := by decide +kernel
theorem dX12_mirror_19 : decode cX12_mirror 19 = .ok (.iload_n 3, 1) := by decide +kernel
theorem dX12_mirror_20 : decode cX12_mirror 20 = .ok (.iconst 0, 1) := by decide +kernel
theorem dX12_mirror_21 : decode cX12_mirror 21 = .ok (.ldc 55, 2) := by decide +kernel
theorem dX12_mirror_23 : decode cX12_mirror 23 = .ok (.invokestatic 47, 3) := by decide +kernel
theorem dX12_mirror_26 : decode cX12_mirror 26 = .ok (.ifCond .eq 29, 3) := by decide +kernel
theorem dX12_mirror_29 : decode cX12_mirror 29 = .ok (.iload_n 3, 1) := by decide +kernel
theorem dX12_mirror_30 : decode cX12_mirror 30 = .ok (.bipush 100, 2) := by decide +kernel
theorem dX12_mirror_32 : decode cX12_mirror 32 = .ok (.idiv, 1) := by decide +kernel
theorem dX12_mirror_33 : decode cX12_mirror 33 = .ok (.bipush 100, 2) := by decide +kernel
theorem dX12_mirror_35 : decode cX12_mirror 35 = .ok (.irem, 1) := by decide +kernel
theorem dX12_mirror_36 : decode cX12_mirror 36 = .ok (.iconst 1, 1) := by decide +kernel
theorem dX12_mirror_37 : decode cX12_mirror 37 = .ok (.bipush 40, 2) := by decide +kernel
theorem dX12_mirror_39 : decode cX12_mirror 39 = .ok (.invokestatic 47, 3) := by decide +kernel
theorem dX12_mirror_42 : decode cX12_mirror 42 = .ok (.ifCond .eq 13, 3) := by decide +kernel
theorem dX12_mirror_45 : decode cX12_mirror 45 = .ok (.iload_n 3, 1) := by decide +kernel
theorem dX12_mirror_46 : decode cX12_mirror 46 = .ok (.bipush 10, 2) := by decide +kernel
theorem dX12_mirror_48 : decode cX12_mirror 48 = .ok (.idiv, 1) := by decide +kernel
theorem dX12_mirror_49 : decode cX12_mirror 49 = .ok (.bipush 10, 2) := by decide +kernel
theorem dX12_mirror_51 : decode cX12_mirror 51 = .ok (.irem, 1) := by decide +kernel
theorem dX12_mirror_52 : decode cX12_mirror 52 = .ok (.ifCond .ne 6, 3) := by decide +kernel
theorem dX12_mirror_55 : decode cX12_mirror 55 = .ok (.bipush (-2), 2) := by decide +kernel
theorem dX12_mirror_57 : decode cX12_mirror 57 = .ok (.ireturn, 1) := by decide +kernel
theorem dX12_mirror_58 : decode cX12_mirror 58 = .ok (.aload_n 0, 1) := by decide +kernel
theorem dX12_mirror_59 : decode cX12_mirror 59 = .ok (.getfield 9, 3) := by decide +kernel
theorem dX12_mirror_62 : decode cX12_mirror 62 = .ok (.iconst 0, 1) := by decide +kernel
theorem dX12_mirror_63 : decode cX12_mirror 63 = .ok (.iaload, 1) := by decide +kernel
theorem dX12_mirror_64 : decode cX12_mirror 64 = .ok (.bipush 6, 2) := by decide +kernel
theorem dX12_mirror_66 : decode cX12_mirror 66 = .ok (.if_icmp .ne 6, 3) := by decide +kernel
theorem dX12_mirror_69 : decode cX12_mirror 69 = .ok (.bipush (-4), 2) := by decide +kernel
theorem dX12_mirror_71 : decode cX12_mirror 71 = .ok (.ireturn, 1) := by decide +kernel
theorem dX12_mirror_72 : decode cX12_mirror 72 = .ok (.aload_n 0, 1) := by decide +kernel
theorem dX12_mirror_73 : decode cX12_mirror 73 = .ok (.getfield 9, 3) := by decide +kernel
theorem dX12_mirror_76 : decode cX12_mirror 76 = .ok (.iconst 0, 1) := by decide +kernel
theorem dX12_mirror_77 : decode cX12_mirror 77 = .ok (.iaload, 1) := by decide +kernel
theorem dX12_mirror_78 : decode cX12_mirror 78 = .ok (.istore 4, 2) := by decide +kernel
theorem dX12_mirror_80 : decode cX12_mirror 80 = .ok (.aload_n 0, 1) := by decide +kernel
theorem dX12_mirror_81 : decode cX12_mirror 81 = .ok (.getfield 9, 3) := by decide +kernel
theorem dX12_mirror_84 : decode cX12_mirror 84 = .ok (.sipush 130, 3) := by decide +kernel
theorem dX12_mirror_87 : decode cX12_mirror 87 = .ok (.iload 4, 2) := by decide +kernel
theorem dX12_mirror_89 : decode cX12_mirror 89 = .ok (.iadd, 1) := by decide +kernel
theorem dX12_mirror_90 : decode cX12_mirror 90 = .ok (.iload_n 1, 1) := by decide +kernel
theorem dX12_mirror_91 : decode cX12_mirror 91 = .ok (.iastore, 1) := by decide +kernel
theorem dX12_mirror_92 : decode cX12_mirror 92 = .ok (.aload_n 0, 1) := by decide +kernel
theorem dX12_mirror_93 : decode cX12_mirror 93 = .ok (.getfield 9, 3) := by decide +kernel
theorem dX12_mirror_96 : decode cX12_mirror 96 = .ok (.sipush 136, 3) := by decide +kernel
theorem dX12_mirror_99 : decode cX12_mirror 99 = .ok (.iload 4, 2) := by decide +kernel
theorem dX12_mirror_101 : decode cX12_mirror 101 = .ok (.iadd, 1) := by decide +kernel
theorem dX12_mirror_102 : decode cX12_mirror 102 = .ok (.iload_n 2, 1) := by decide +kernel
theorem dX12_mirror_103 : decode cX12_mirror 103 = .ok (.bipush 100, 2) := by decide +kernel
theorem dX12_mirror_105 : decode cX12_mirror 105 = .ok (.idiv, 1) := by decide +kernel
theorem dX12_mirror_106 : decode cX12_mirror 106 = .ok (.iastore, 1) := by decide +kernel
theorem dX12_mirror_107 : decode cX12_mirror 107 = .ok (.aload_n 0, 1) := by decide +kernel
theorem dX12_mirror_108 : decode cX12_mirror 108 = .ok (.getfield 9, 3) := by decide +kernel
theorem dX12_mirror_111 : decode cX12_mirror 111 = .ok (.sipush 142, 3) := by decide +kernel
theorem dX12_mirror_114 : decode cX12_mirror 114 = .ok (.iload 4, 2) := by decide +kernel
theorem dX12_mirror_116 : decode cX12_mirror 116 = .ok (.iadd, 1) := by decide +kernel
theorem dX12_mirror_117 : decode cX12_mirror 117 = .ok (.iload_n 2, 1) := by decide +kernel
theorem dX12_mirror_118 : decode cX12_mirror 118 = .ok (.bipush 100, 2) := by decide +kernel
theorem dX12_mirror_120 : decode cX12_mirror 120 = .ok (.irem, 1) := by decide +kernel
theorem dX12_mirror_121 : decode cX12_mirror 121 = .ok (.iastore, 1) := by decide +kernel
theorem dX12_mirror_122 : decode cX12_mirror 122 = .ok (.aload_n 0, 1) := by decide +kernel
theorem dX12_mirror_123 : decode cX12_mirror 123 = .ok (.getfield 9, 3) := by decide +kernel
theorem dX12_mirror_126 : decode cX12_mirror 126 = .ok (.sipush 148, 3) := by decide +kernel
theorem dX12_mirror_129 : decode cX12_mirror 129 = .ok (.iload 4, 2) := by decide +kernel
theorem dX12_mirror_131 : decode cX12_mirror 131 = .ok (.iadd, 1) := by decide +kernel
theorem dX12_mirror_132 : decode cX12_mirror 132 = .ok (.iload_n 3, 1) := by decide +kernel
theorem dX12_mirror_133 : decode cX12_mirror 133 = .ok (.bipush 100, 2) := by decide +kernel
theorem dX12_mirror_135 : decode cX12_mirror 135 = .ok (.idiv, 1) := by decide +kernel
theorem dX12_mirror_136 : decode cX12_mirror 136 = .ok (.bipush 100, 2) := by decide +kernel
theorem dX12_mirror_138 : decode cX12_mirror 138 = .ok (.irem, 1) := by decide +kernel
theorem dX12_mirror_139 : decode cX12_mirror 139 = .ok (.iastore, 1) := by decide +kernel
theorem dX12_mirror_140 : decode cX12_mirror 140 = .ok (.aload_n 0, 1) := by decide +kernel
theorem dX12_mirror_141 : decode cX12_mirror 141 = .ok (.getfield 9, 3) := by decide +kernel
theorem dX12_mirror_144 : decode cX12_mirror 144 = .ok (.sipush 154, 3) := by decide +kernel
theorem dX12_mirror_147 : decode cX12_mirror 147 = .ok (.iload 4, 2) := by decide +kernel
theorem dX12_mirror_149 : decode cX12_mirror 149 = .ok (.iadd, 1) := by decide +kernel
theorem dX12_mirror_150 : decode cX12_mirror 150 = .ok (.iload_n 3, 1) := by decide +kernel
theorem dX12_mirror_151 : decode cX12_mirror 151 = .ok (.bipush 10, 2) := by decide +kernel
theorem dX12_mirror_153 : decode cX12_mirror 153 = .ok (.idiv, 1) := by decide +kernel
theorem dX12_mirror_154 : decode cX12_mirror 154 = .ok (.bipush 10, 2) := by decide +kernel
theorem dX12_mirror_156 : decode cX12_mirror 156 = .ok (.irem, 1) := by decide +kernel
theorem dX12_mirror_157 : decode cX12_mirror 157 = .ok (.iastore, 1) := by decide +kernel
theorem dX12_mirror_158 : decode cX12_mirror 158 = .ok (.aload_n 0, 1) := by decide +kernel
theorem dX12_mirror_159 : decode cX12_mirror 159 = .ok (.getfield 9, 3) := by decide +kernel
theorem dX12_mirror_162 : decode cX12_mirror 162 = .ok (.sipush 160, 3) := by decide +kernel
theorem dX12_mirror_165 : decode cX12_mirror 165 = .ok (.iload 4, 2) := by decide +kernel
theorem dX12_mirror_167 : decode cX12_mirror 167 = .ok (.iadd, 1) := by decide +kernel
theorem dX12_mirror_168 : decode cX12_mirror 168 = .ok (.iload_n 3, 1) := by decide +kernel
theorem dX12_mirror_169 : decode cX12_mirror 169 = .ok (.sipush 10000, 3) := by decide +kernel
theorem dX12_mirror_172 : decode cX12_mirror 172 = .ok (.idiv, 1) := by decide +kernel
theorem dX12_mirror_173 : decode cX12_mirror 173 = .ok (.iastore, 1) := by decide +kernel
theorem dX12_mirror_174 : decode cX12_mirror 174 = .ok (.aload_n 0, 1) := by decide +kernel
theorem dX12_mirror_175 : decode cX12_mirror 175 = .ok (.getfield 9, 3) := by decide +kernel
theorem dX12_mirror_178 : decode cX12_mirror 178 = .ok (.sipush 166, 3) := by decide +kernel
theorem dX12_mirror_181 : decode cX12_mirror 181 = .ok (.iload 4, 2) := by decide +kernel
theorem dX12_mirror_183 : decode cX12_mirror 183 = .ok (.iadd, 1) := by decide +kernel
theorem dX12_mirror_184 : decode cX12_mirror 184 = .ok (.iload_n 3, 1) := by decide +kernel
theorem dX12_mirror_185 : decode cX12_mirror 185 = .ok (.bipush 10, 2) := by decide +kernel
theorem dX12_mirror_187 : decode cX12_mirror 187 = .ok (.irem, 1) := by decide +kernel
theorem dX12_mirror_188 : decode cX12_mirror 188 = .ok (.iastore, 1) := by decide +kernel
theorem dX12_mirror_189 : decode cX12_mirror 189 = .ok (.aload_n 0, 1) := by decide +kernel
theorem dX12_mirror_190 : decode cX12_mirror 190 = .ok (.getfield 9, 3) := by decide +kernel
theorem dX12_mirror_193 : decode cX12_mirror 193 = .ok (.iconst 0, 1) := by decide +kernel
theorem dX12_mirror_194 : decode cX12_mirror 194 = .ok (.dup2, 1) := by decide +kernel
theorem dX12_mirror_195 : decode cX12_mirror 195 = .ok (.iaload, 1) := by decide +kernel
theorem dX12_mirror_196 : decode cX12_mirror 196 = .ok (.iconst 1, 1) := by decide +kernel
theorem dX12_mirror_197 : decode cX12_mirror 197 = .ok (.iadd, 1) := by decide +kernel
theorem dX12_mirror_198 : decode cX12_mirror 198 = .ok (.iastore, 1) := by decide +kernel
theorem dX12_mirror_199 : decode cX12_mirror 199 = .ok (.iload 4, 2) := by decide +kernel
theorem dX12_mirror_201 : decode cX12_mirror 201 = .ok (.ireturn, 1) := by decide +kernel
theorem dX12_patch_0 : decode cX12_patch 0 = .ok (.iload_n 1, 1) := by decide +kernel
theorem dX12_patch_1 : decode cX12_patch 1 = .ok (.invokestatic 51, 3) := by decide +kernel
theorem dX12_patch_4 : decode cX12_patch 4 = .ok (.ifCond .eq 23, 3) := by decide +kernel
theorem dX12_patch_7 : decode cX12_patch 7 = .ok (.iload_n 2, 1) := by decide +kernel
theorem dX12_patch_8 : decode cX12_patch 8 = .ok (.iconst 0, 1) := by decide +kernel
theorem dX12_patch_9 : decode cX12_patch 9 = .ok (.bipush 20, 2) := by decide +kernel
theorem dX12_patch_11 : decode cX12_patch 11 = .ok (.invokestatic 47, 3) := by decide +kernel
theorem dX12_patch_14 : decode cX12_patch 14 = .ok (.ifCond .eq 13, 3) := by decide +kernel
theorem dX12_patch_17 : decode cX12_patch 17 = .ok (.iload_n 3, 1) := by decide +kernel
theorem dX12_patch_18 : decode cX12_patch 18 = .ok (.iconst 0, 1) := by decide +kernel
theorem dX12_patch_19 : decode cX12_patch 19 = .ok (.bipush 20, 2) := by decide +kernel
theorem dX12_patch_21 : decode cX12_patch 21 = .ok (.invokestatic 47, 3) := by decide +kernel
theorem dX12_patch_24 : decode cX12_patch 24 = .ok (.ifCond .ne 6, 3) := by decide +kernel
theorem dX12_patch_27 : decode cX12_patch 27 = .ok (.bipush (-2), 2) := by decide +kernel
theorem dX12_patch_29 : decode cX12_patch 29 = .ok (.ireturn, 1) := by decide +kernel
theorem dX12_patch_30 : decode cX12_patch 30 = .ok (.aload_n 0, 1) := by decide +kernel
theorem dX12_patch_31 : decode cX12_patch 31 = .ok (.getfield 9, 3) := by decide +kernel
theorem dX12_patch_34 : decode cX12_patch 34 = .ok (.iconst 1, 1) := by decide +kernel
theorem dX12_patch_35 : decode cX12_patch 35 = .ok (.iaload, 1) := by decide +kernel
theorem dX12_patch_36 : decode cX12_patch 36 = .ok (.bipush 6, 2) := by decide +kernel
theorem dX12_patch_38 : decode cX12_patch 38 = .ok (.if_icmp .ne 6, 3) := by decide +kernel
theorem dX12_patch_41 : decode cX12_patch 41 = .ok (.bipush (-4), 2) := by decide +kernel
theorem dX12_patch_43 : decode cX12_patch 43 = .ok (.ireturn, 1) := by decide +kernel
theorem dX12_patch_44 : decode cX12_patch 44 = .ok (.aload_n 0, 1) := by decide +kernel
theorem dX12_patch_45 : decode cX12_patch 45 = .ok (.getfield 9, 3) := by decide +kernel
theorem dX12_patch_48 : decode cX12_patch 48 = .ok (.iconst 1, 1) := by decide +kernel
theorem dX12_patch_49 : decode cX12_patch 49 = .ok (.iaload, 1) := by decide +kernel
theorem dX12_patch_50 : decode cX12_patch 50 = .ok (.istore 4, 2) := by decide +kernel
theorem dX12_patch_52 : decode cX12_patch 52 = .ok (.aload_n 0, 1) := by decide +kernel
theorem dX12_patch_53 : decode cX12_patch 53 = .ok (.getfield 9, 3) := by decide +kernel
theorem dX12_patch_56 : decode cX12_patch 56 = .ok (.sipush 172, 3) := by decide +kernel
theorem dX12_patch_59 : decode cX12_patch 59 = .ok (.iload 4, 2) := by decide +kernel
theorem dX12_patch_61 : decode cX12_patch 61 = .ok (.iadd, 1) := by decide +kernel
theorem dX12_patch_62 : decode cX12_patch 62 = .ok (.iload_n 1, 1) := by decide +kernel
theorem dX12_patch_63 : decode cX12_patch 63 = .ok (.bipush 100, 2) := by decide +kernel
theorem dX12_patch_65 : decode cX12_patch 65 = .ok (.idiv, 1) := by decide +kernel
theorem dX12_patch_66 : decode cX12_patch 66 = .ok (.iastore, 1) := by decide +kernel
theorem dX12_patch_67 : decode cX12_patch 67 = .ok (.aload_n 0, 1) := by decide +kernel
theorem dX12_patch_68 : decode cX12_patch 68 = .ok (.getfield 9, 3) := by decide +kernel
theorem dX12_patch_71 : decode cX12_patch 71 = .ok (.sipush 178, 3) := by decide +kernel
theorem dX12_patch_74 : decode cX12_patch 74 = .ok (.iload 4, 2) := by decide +kernel
theorem dX12_patch_76 : decode cX12_patch 76 = .ok (.iadd, 1) := by decide +kernel
theorem dX12_patch_77 : decode cX12_patch 77 = .ok (.iload_n 1, 1) := by decide +kernel
theorem dX12_patch_78 : decode cX12_patch 78 = .ok (.bipush 100, 2) := by decide +kernel
theorem dX12_patch_80 : decode cX12_patch 80 = .ok (.irem, 1) := by decide +kernel
theorem dX12_patch_81 : decode cX12_patch 81 = .ok (.iastore, 1) := by decide +kernel
theorem dX12_patch_82 : decode cX12_patch 82 = .ok (.aload_n 0, 1) := by decide +kernel
theorem dX12_patch_83 : decode cX12_patch 83 = .ok (.getfield 9, 3) := by decide +kernel
theorem dX12_patch_86 : decode cX12_patch 86 = .ok (.sipush 184, 3) := by decide +kernel
theorem dX12_patch_89 : decode cX12_patch 89 = .ok (.iload 4, 2) := by decide +kernel
theorem dX12_patch_91 : decode cX12_patch 91 = .ok (.iadd, 1) := by decide +kernel
theorem dX12_patch_92 : decode cX12_patch 92 = .ok (.iload_n 2, 1) := by decide +kernel
theorem dX12_patch_93 : decode cX12_patch 93 = .ok (.iastore, 1) := by decide +kernel
theorem dX12_patch_94 : decode cX12_patch 94 = .ok (.aload_n 0, 1) := by decide +kernel
theorem dX12_patch_95 : decode cX12_patch 95 = .ok (.getfield 9, 3) := by decide +kernel
theorem dX12_patch_98 : decode cX12_patch 98 = .ok (.sipush 190, 3) := by decide +kernel
theorem dX12_patch_101 : decode cX12_patch 101 = .ok (.iload 4, 2) := by decide +kernel
theorem dX12_patch_103 : decode cX12_patch 103 = .ok (.iadd, 1) := by decide +kernel
theorem dX12_patch_104 : decode cX12_patch 104 = .ok (.iload_n 3, 1) := by decide +kernel
theorem dX12_patch_105 : decode cX12_patch 105 = .ok (.iastore, 1) := by decide +kernel
theorem dX12_patch_106 : decode cX12_patch 106 = .ok (.aload_n 0, 1) := by decide +kernel
theorem dX12_patch_107 : decode cX12_patch 107 = .ok (.getfield 9, 3) := by decide +kernel
theorem dX12_patch_110 : decode cX12_patch 110 = .ok (.iconst 1, 1) := by decide +kernel
theorem dX12_patch_111 : decode cX12_patch 111 = .ok (.dup2, 1) := by decide +kernel
theorem dX12_patch_112 : decode cX12_patch 112 = .ok (.iaload, 1) := by decide +kernel
theorem dX12_patch_113 : decode cX12_patch 113 = .ok (.iconst 1, 1) := by decide +kernel
theorem dX12_patch_114 : decode cX12_patch 114 = .ok (.iadd, 1) := by decide +kernel
theorem dX12_patch_115 : decode cX12_patch 115 = .ok (.iastore, 1) := by decide +kernel
theorem dX12_patch_116 : decode cX12_patch 116 = .ok (.iload 4, 2) := by decide +kernel
theorem dX12_patch_118 : decode cX12_patch 118 = .ok (.ireturn, 1) := by decide +kernel
theorem dX12_wall_0 : decode cX12_wall 0 = .ok (.iload_n 1, 1) := by decide +kernel
theorem dX12_wall_1 : decode cX12_wall 1 = .ok (.invokestatic 51, 3) := by decide +kernel
theorem dX12_wall_4 : decode cX12_wall 4 = .ok (.ifCond .eq 20, 3) := by decide +kernel
theorem dX12_wall_7 : decode cX12_wall 7 = .ok (.iload_n 2, 1) := by decide +kernel
theorem dX12_wall_8 : decode cX12_wall 8 = .ok (.invokestatic 51, 3) := by decide +kernel
theorem dX12_wall_11 : decode cX12_wall 11 = .ok (.ifCond .eq 13, 3) := by decide +kernel
theorem dX12_wall_14 : decode cX12_wall 14 = .ok (.iload_n 3, 1) := by decide +kernel
theorem dX12_wall_15 : decode cX12_wall 15 = .ok (.iconst 1, 1) := by decide +kernel
theorem dX12_wall_16 : decode cX12_wall 16 = .ok (.bipush 40, 2) := by decide +kernel
theorem dX12_wall_18 : decode cX12_wall 18 = .ok (.invokestatic 47, 3) := by decide +kernel
theorem dX12_wall_21 : decode cX12_wall 21 = .ok (.ifCond .ne 6, 3) := by decide +kernel
theorem dX12_wall_24 : decode cX12_wall 24 = .ok (.bipush (-2), 2) := by decide +kernel
theorem dX12_wall_26 : decode cX12_wall 26 = .ok (.ireturn, 1) := by decide +kernel
theorem dX12_wall_27 : decode cX12_wall 27 = .ok (.aload_n 0, 1) := by decide +kernel
theorem dX12_wall_28 : decode cX12_wall 28 = .ok (.getfield 9, 3) := by decide +kernel
theorem dX12_wall_31 : decode cX12_wall 31 = .ok (.iconst 2, 1) := by decide +kernel
theorem dX12_wall_32 : decode cX12_wall 32 = .ok (.iaload, 1) := by decide +kernel
theorem dX12_wall_33 : decode cX12_wall 33 = .ok (.bipush 8, 2) := by decide +kernel
theorem dX12_wall_35 : decode cX12_wall 35 = .ok (.if_icmp .ne 6, 3) := by decide +kernel
theorem dX12_wall_38 : decode cX12_wall 38 = .ok (.bipush (-4), 2) := by decide +kernel
theorem dX12_wall_40 : decode cX12_wall 40 = .ok (.ireturn, 1) := by decide +kernel
theorem dX12_wall_41 : decode cX12_wall 41 = .ok (.aload_n 0, 1) := by decide +kernel
theorem dX12_wall_42 : decode cX12_wall 42 = .ok (.getfield 9, 3) := by decide +kernel
theorem dX12_wall_45 : decode cX12_wall 45 = .ok (.iconst 2, 1) := by decide +kernel
theorem dX12_wall_46 : decode cX12_wall 46 = .ok (.iaload, 1) := by decide +kernel
theorem dX12_wall_47 : decode cX12_wall 47 = .ok (.istore 4, 2) := by decide +kernel
theorem dX12_wall_49 : decode cX12_wall 49 = .ok (.aload_n 0, 1) := by decide +kernel
theorem dX12_wall_50 : decode cX12_wall 50 = .ok (.getfield 9, 3) := by decide +kernel
theorem dX12_wall_53 : decode cX12_wall 53 = .ok (.sipush 196, 3) := by decide +kernel
theorem dX12_wall_56 : decode cX12_wall 56 = .ok (.iload 4, 2) := by decide +kernel
theorem dX12_wall_58 : decode cX12_wall 58 = .ok (.iadd, 1) := by decide +kernel
theorem dX12_wall_59 : decode cX12_wall 59 = .ok (.iload_n 1, 1) := by decide +kernel
theorem dX12_wall_60 : decode cX12_wall 60 = .ok (.bipush 100, 2) := by decide +kernel
theorem dX12_wall_62 : decode cX12_wall 62 = .ok (.idiv, 1) := by decide +kernel
theorem dX12_wall_63 : decode cX12_wall 63 = .ok (.iastore, 1) := by decide +kernel
theorem dX12_wall_64 : decode cX12_wall 64 = .ok (.aload_n 0, 1) := by decide +kernel
theorem dX12_wall_65 : decode cX12_wall 65 = .ok (.getfield 9, 3) := by decide +kernel
theorem dX12_wall_68 : decode cX12_wall 68 = .ok (.sipush 204, 3) := by decide +kernel
theorem dX12_wall_71 : decode cX12_wall 71 = .ok (.iload 4, 2) := by decide +kernel
theorem dX12_wall_73 : decode cX12_wall 73 = .ok (.iadd, 1) := by decide +kernel
theorem dX12_wall_74 : decode cX12_wall 74 = .ok (.iload_n 1, 1) := by decide +kernel
theorem dX12_wall_75 : decode cX12_wall 75 = .ok (.bipush 100, 2) := by decide +kernel
theorem dX12_wall_77 : decode cX12_wall 77 = .ok (.irem, 1) := by decide +kernel
theorem dX12_wall_78 : decode cX12_wall 78 = .ok (.iastore, 1) := by decide +kernel
theorem dX12_wall_79 : decode cX12_wall 79 = .ok (.aload_n 0, 1) := by decide +kernel
theorem dX12_wall_80 : decode cX12_wall 80 = .ok (.getfield 9, 3) := by decide +kernel
theorem dX12_wall_83 : decode cX12_wall 83 = .ok (.sipush 212, 3) := by decide +kernel
theorem dX12_wall_86 : decode cX12_wall 86 = .ok (.iload 4, 2) := by decide +kernel
theorem dX12_wall_88 : decode cX12_wall 88 = .ok (.iadd, 1) := by decide +kernel
theorem dX12_wall_89 : decode cX12_wall 89 = .ok (.iload_n 2, 1) := by decide +kernel
theorem dX12_wall_90 : decode cX12_wall 90 = .ok (.bipush 100, 2) := by decide +kernel
theorem dX12_wall_92 : decode cX12_wall 92 = .ok (.idiv, 1) := by decide +kernel
theorem dX12_wall_93 : decode cX12_wall 93 = .ok (.iastore, 1) := by decide +kernel
theorem dX12_wall_94 : decode cX12_wall 94 = .ok (.aload_n 0, 1) := by decide +kernel
theorem dX12_wall_95 : decode cX12_wall 95 = .ok (.getfield 9, 3) := by decide +kernel
theorem dX12_wall_98 : decode cX12_wall 98 = .ok (.sipush 220, 3) := by decide +kernel
theorem dX12_wall_101 : decode cX12_wall 101 = .ok (.iload 4, 2) := by decide +kernel
theorem dX12_wall_103 : decode cX12_wall 103 = .ok (.iadd, 1) := by decide +kernel
theorem dX12_wall_104 : decode cX12_wall 104 = .ok (.iload_n 2, 1) := by decide +kernel
theorem dX12_wall_105 : decode cX12_wall 105 = .ok (.bipush 100, 2) := by decide +kernel
theorem dX12_wall_107 : decode cX12_wall 107 = .ok (.irem, 1) := by decide +kernel
theorem dX12_wall_108 : decode cX12_wall 108 = .ok (.iastore, 1) := by decide +kernel
theorem dX12_wall_109 : decode cX12_wall 109 = .ok (.aload_n 0, 1) := by decide +kernel
theorem dX12_wall_110 : decode cX12_wall 110 = .ok (.getfield 9, 3) := by decide +kernel
theorem dX12_wall_113 : decode cX12_wall 113 = .ok (.sipush 228, 3) := by decide +kernel
theorem dX12_wall_116 : decode cX12_wall 116 = .ok (.iload 4, 2) := by decide +kernel
theorem dX12_wall_118 : decode cX12_wall 118 = .ok (.iadd, 1) := by decide +kernel
theorem dX12_wall_119 : decode cX12_wall 119 = .ok (.iload_n 3, 1) := by decide +kernel
theorem dX12_wall_120 : decode cX12_wall 120 = .ok (.iastore, 1) := by decide +kernel
theorem dX12_wall_121 : decode cX12_wall 121 = .ok (.aload_n 0, 1) := by decide +kernel
theorem dX12_wall_122 : decode cX12_wall 122 = .ok (.getfield 9, 3) := by decide +kernel
theorem dX12_wall_125 : decode cX12_wall 125 = .ok (.iconst 2, 1) := by decide +kernel
theorem dX12_wall_126 : decode cX12_wall 126 = .ok (.dup2, 1) := by decide +kernel
theorem dX12_wall_127 : decode cX12_wall 127 = .ok (.iaload, 1) := by decide +kernel
theorem dX12_wall_128 : decode cX12_wall 128 = .ok (.iconst 1, 1) := by decide +kernel
theorem dX12_wall_129 : decode cX12_wall 129 = .ok (.iadd, 1) := by decide +kernel
theorem dX12_wall_130 : decode cX12_wall 130 = .ok (.iastore, 1) := by decide +kernel
theorem dX12_wall_131 : decode cX12_wall 131 = .ok (.iload 4, 2) := by decide +kernel
theorem dX12_wall_133 : decode cX12_wall 133 = .ok (.ireturn, 1) := by decide +kernel
theorem dX12_of_0 : decode cX12_of 0 = .ok (.aload_n 0, 1) := by decide +kernel
theorem dX12_of_1 : decode cX12_of 1 = .ok (.iload_n 1, 1) := by decide +kernel
theorem dX12_of_2 : decode cX12_of 2 = .ok (.invokevirtual 56, 3) := by decide +kernel
theorem dX12_of_5 : decode cX12_of 5 = .ok (.ifCond .eq 31, 3) := by decide +kernel
theorem dX12_of_8 : decode cX12_of 8 = .ok (.iload_n 2, 1) := by decide +kernel
theorem dX12_of_9 : decode cX12_of 9 = .ok (.iconst 0, 1) := by decide +kernel
theorem dX12_of_10 : decode cX12_of 10 = .ok (.bipush 6, 2) := by decide +kernel
theorem dX12_of_12 : decode cX12_of 12 = .ok (.invokestatic 47, 3) := by decide +kernel
theorem dX12_of_15 : decode cX12_of 15 = .ok (.ifCond .eq 21, 3) := by decide +kernel
theorem dX12_of_18 : decode cX12_of 18 = .ok (.aload_n 0, 1) := by decide +kernel
theorem dX12_of_19 : decode cX12_of 19 = .ok (.getfield 9, 3) := by decide +kernel
theorem dX12_of_22 : decode cX12_of 22 = .ok (.sipush 130, 3) := by decide +kernel
theorem dX12_of_25 : decode cX12_of 25 = .ok (.bipush 6, 2) := by decide +kernel
theorem dX12_of_27 : decode cX12_of 27 = .ok (.iload_n 2, 1) := by decide +kernel
theorem dX12_of_28 : decode cX12_of 28 = .ok (.imul, 1) := by decide +kernel
theorem dX12_of_29 : decode cX12_of 29 = .ok (.iadd, 1) := by decide +kernel
theorem dX12_of_30 : decode cX12_of 30 = .ok (.iload_n 1, 1) := by decide +kernel
theorem dX12_of_31 : decode cX12_of 31 = .ok (.iadd, 1) := by decide +kernel
theorem dX12_of_32 : decode cX12_of 32 = .ok (.iaload, 1) := by decide +kernel
theorem dX12_of_33 : decode cX12_of 33 = .ok (.goto 4, 3) := by decide +kernel
theorem dX12_of_36 : decode cX12_of 36 = .ok (.iconst (-1), 1) := by decide +kernel
theorem dX12_of_37 : decode cX12_of 37 = .ok (.ireturn, 1) := by decide +kernel
theorem dX12_is_0 : decode cX12_is 0 = .ok (.aload_n 0, 1) := by decide +kernel
theorem dX12_is_1 : decode cX12_is 1 = .ok (.iload_n 1, 1) := by decide +kernel
theorem dX12_is_2 : decode cX12_is 2 = .ok (.invokevirtual 59, 3) := by decide +kernel
theorem dX12_is_5 : decode cX12_is 5 = .ok (.ifCond .eq 30, 3) := by decide +kernel
theorem dX12_is_8 : decode cX12_is 8 = .ok (.iload_n 2, 1) := by decide +kernel
theorem dX12_is_9 : decode cX12_is 9 = .ok (.iconst 0, 1) := by decide +kernel
theorem dX12_is_10 : decode cX12_is 10 = .ok (.iconst 3, 1) := by decide +kernel
theorem dX12_is_11 : decode cX12_is 11 = .ok (.invokestatic 47, 3) := by decide +kernel
theorem dX12_is_14 : decode cX12_is 14 = .ok (.ifCond .eq 21, 3) := by decide +kernel
theorem dX12_is_17 : decode cX12_is 17 = .ok (.aload_n 0, 1) := by decide +kernel
theorem dX12_is_18 : decode cX12_is 18 = .ok (.getfield 9, 3) := by decide +kernel
theorem dX12_is_21 : decode cX12_is 21 = .ok (.sipush 172, 3) := by decide +kernel
theorem dX12_is_24 : decode cX12_is 24 = .ok (.bipush 6, 2) := by decide +kernel
theorem dX12_is_26 : decode cX12_is 26 = .ok (.iload_n 2, 1) := by decide +kernel
theorem dX12_is_27 : decode cX12_is 27 = .ok (.imul, 1) := by decide +kernel
theorem dX12_is_28 : decode cX12_is 28 = .ok (.iadd, 1) := by decide +kernel
theorem dX12_is_29 : decode cX12_is 29 = .ok (.iload_n 1, 1) := by decide +kernel
theorem dX12_is_30 : decode cX12_is 30 = .ok (.iadd, 1) := by decide +kernel
theorem dX12_is_31 : decode cX12_is 31 = .ok (.iaload, 1) := by decide +kernel
theorem dX12_is_32 : decode cX12_is 32 = .ok (.goto 4, 3) := by decide +kernel
theorem dX12_is_35 : decode cX12_is 35 = .ok (.iconst (-1), 1) := by decide +kernel
theorem dX12_is_36 : decode cX12_is 36 = .ok (.ireturn, 1) := by decide +kernel
theorem dX12_feed_0 : decode cX12_feed 0 = .ok (.iload_n 3, 1) := by decide +kernel
theorem dX12_feed_1 : decode cX12_feed 1 = .ok (.iconst 1, 1) := by decide +kernel
theorem dX12_feed_2 : decode cX12_feed 2 = .ok (.bipush 8, 2) := by decide +kernel
theorem dX12_feed_4 : decode cX12_feed 4 = .ok (.invokestatic 47, 3) := by decide +kernel
theorem dX12_feed_7 : decode cX12_feed 7 = .ok (.ifCond .ne 6, 3) := by decide +kernel
theorem dX12_feed_10 : decode cX12_feed 10 = .ok (.bipush (-2), 2) := by decide +kernel
theorem dX12_feed_12 : decode cX12_feed 12 = .ok (.ireturn, 1) := by decide +kernel
theorem dX12_feed_13 : decode cX12_feed 13 = .ok (.aload_n 0, 1) := by decide +kernel
theorem dX12_feed_14 : decode cX12_feed 14 = .ok (.getfield 9, 3) := by decide +kernel
theorem dX12_feed_17 : decode cX12_feed 17 = .ok (.bipush 6, 2) := by decide +kernel
theorem dX12_feed_19 : decode cX12_feed 19 = .ok (.iaload, 1) := by decide +kernel
theorem dX12_feed_20 : decode cX12_feed 20 = .ok (.iload_n 3, 1) := by decide +kernel
theorem dX12_feed_21 : decode cX12_feed 21 = .ok (.iadd, 1) := by decide +kernel
theorem dX12_feed_22 : decode cX12_feed 22 = .ok (.bipush 120, 2) := by decide +kernel
theorem dX12_feed_24 : decode cX12_feed 24 = .ok (.if_icmp .le 6, 3) := by decide +kernel
theorem dX12_feed_27 : decode cX12_feed 27 = .ok (.bipush (-4), 2) := by decide +kernel
theorem dX12_feed_29 : decode cX12_feed 29 = .ok (.ireturn, 1) := by decide +kernel
theorem dX12_feed_30 : decode cX12_feed 30 = .ok (.iload_n 3, 1) := by decide +kernel
theorem dX12_feed_31 : decode cX12_feed 31 = .ok (.iconst 1, 1) := by decide +kernel
theorem dX12_feed_32 : decode cX12_feed 32 = .ok (.isub, 1) := by decide +kernel
theorem dX12_feed_33 : decode cX12_feed 33 = .ok (.istore 4, 2) := by decide +kernel
theorem dX12_feed_35 : decode cX12_feed 35 = .ok (.iload 4, 2) := by decide +kernel
theorem dX12_feed_37 : decode cX12_feed 37 = .ok (.ifCond .lt 47, 3) := by decide +kernel
theorem dX12_feed_40 : decode cX12_feed 40 = .ok (.aload_n 0, 1) := by decide +kernel
theorem dX12_feed_41 : decode cX12_feed 41 = .ok (.getfield 9, 3) := by decide +kernel
theorem dX12_feed_44 : decode cX12_feed 44 = .ok (.bipush 10, 2) := by decide +kernel
theorem dX12_feed_46 : decode cX12_feed 46 = .ok (.aload_n 0, 1) := by decide +kernel
theorem dX12_feed_47 : decode cX12_feed 47 = .ok (.getfield 9, 3) := by decide +kernel
theorem dX12_feed_50 : decode cX12_feed 50 = .ok (.bipush 6, 2) := by decide +kernel
theorem dX12_feed_52 : decode cX12_feed 52 = .ok (.iaload, 1) := by decide +kernel
theorem dX12_feed_53 : decode cX12_feed 53 = .ok (.iadd, 1) := by decide +kernel
theorem dX12_feed_54 : decode cX12_feed 54 = .ok (.lload_n 1, 1) := by decide +kernel
theorem dX12_feed_55 : decode cX12_feed 55 = .ok (.bipush 8, 2) := by decide +kernel
theorem dX12_feed_57 : decode cX12_feed 57 = .ok (.iload 4, 2) := by decide +kernel
theorem dX12_feed_59 : decode cX12_feed 59 = .ok (.imul, 1) := by decide +kernel
theorem dX12_feed_60 : decode cX12_feed 60 = .ok (.lshr, 1) := by decide +kernel
theorem dX12_feed_61 : decode cX12_feed 61 = .ok (.ldc2_w 62, 3) := by decide +kernel
theorem dX12_feed_64 : decode cX12_feed 64 = .ok (.land, 1) := by decide +kernel
theorem dX12_feed_65 : decode cX12_feed 65 = .ok (.l2i, 1) := by decide +kernel
theorem dX12_feed_66 : decode cX12_feed 66 = .ok (.iastore, 1) := by decide +kernel
theorem dX12_feed_67 : decode cX12_feed 67 = .ok (.aload_n 0, 1) := by decide +kernel
theorem dX12_feed_68 : decode cX12_feed 68 = .ok (.getfield 9, 3) := by decide +kernel
theorem dX12_feed_71 : decode cX12_feed 71 = .ok (.bipush 6, 2) := by decide +kernel
theorem dX12_feed_73 : decode cX12_feed 73 = .ok (.dup2, 1) := by decide +kernel
theorem dX12_feed_74 : decode cX12_feed 74 = .ok (.iaload, 1) := by decide +kernel
theorem dX12_feed_75 : decode cX12_feed 75 = .ok (.iconst 1, 1) := by decide +kernel
theorem dX12_feed_76 : decode cX12_feed 76 = .ok (.iadd, 1) := by decide +kernel
theorem dX12_feed_77 : decode cX12_feed 77 = .ok (.iastore, 1) := by decide +kernel
theorem dX12_feed_78 : decode cX12_feed 78 = .ok (.iinc 4 (-1), 3) := by decide +kernel
theorem dX12_feed_81 : decode cX12_feed 81 = .ok (.goto (-46), 3) := by decide +kernel
theorem dX12_feed_84 : decode cX12_feed 84 = .ok (.aload_n 0, 1) := by decide +kernel
theorem dX12_feed_85 : decode cX12_feed 85 = .ok (.getfield 9, 3) := by decide +kernel
theorem dX12_feed_88 : decode cX12_feed 88 = .ok (.bipush 6, 2) := by decide +kernel
theorem dX12_feed_90 : decode cX12_feed 90 = .ok (.iaload, 1) := by decide +kernel
theorem dX12_feed_91 : decode cX12_feed 91 = .ok (.ireturn, 1) := by decide +kernel
theorem dX12_here_0 : decode cX12_here 0 = .ok (.aload_n 0, 1) := by decide +kernel
theorem dX12_here_1 : decode cX12_here 1 = .ok (.getfield 64, 3) := by decide +kernel
theorem dX12_here_4 : decode cX12_here 4 = .ok (.aload_n 0, 1) := by decide +kernel
theorem dX12_here_5 : decode cX12_here 5 = .ok (.getfield 67, 3) := by decide +kernel
theorem dX12_here_8 : decode cX12_here 8 = .ok (.if_icmp .ge 18, 3) := by decide +kernel
theorem dX12_here_11 : decode cX12_here 11 = .ok (.aload_n 0, 1) := by decide +kernel
theorem dX12_here_12 : decode cX12_here 12 = .ok (.getfield 9, 3) := by decide +kernel
theorem dX12_here_15 : decode cX12_here 15 = .ok (.bipush 10, 2) := by decide +kernel
theorem dX12_here_17 : decode cX12_here 17 = .ok (.aload_n 0, 1) := by decide +kernel
theorem dX12_here_18 : decode cX12_here 18 = .ok (.getfield 64, 3) := by decide +kernel
theorem dX12_here_21 : decode cX12_here 21 = .ok (.iadd, 1) := by decide +kernel
theorem dX12_here_22 : decode cX12_here 22 = .ok (.iaload, 1) := by decide +kernel
theorem dX12_here_23 : decode cX12_here 23 = .ok (.goto 4, 3) := by decide +kernel
theorem dX12_here_26 : decode cX12_here 26 = .ok (.iconst (-1), 1) := by decide +kernel
theorem dX12_here_27 : decode cX12_here 27 = .ok (.ireturn, 1) := by decide +kernel
theorem dX12_must_0 : decode cX12_must 0 = .ok (.aload_n 0, 1) := by decide +kernel
theorem dX12_must_1 : decode cX12_must 1 = .ok (.aload_n 0, 1) := by decide +kernel
theorem dX12_must_2 : decode cX12_must 2 = .ok (.getfield 70, 3) := by decide +kernel
theorem dX12_must_5 : decode cX12_must 5 = .ok (.ifCond .ne 11, 3) := by decide +kernel
theorem dX12_must_8 : decode cX12_must 8 = .ok (.aload_n 0, 1) := by decide +kernel
theorem dX12_must_9 : decode cX12_must 9 = .ok (.invokevirtual 74, 3) := by decide +kernel
theorem dX12_must_12 : decode cX12_must 12 = .ok (.iload_n 1, 1) := by decide +kernel
theorem dX12_must_13 : decode cX12_must 13 = .ok (.if_icmp .eq 7, 3) := by decide +kernel
theorem dX12_must_16 : decode cX12_must 16 = .ok (.iconst 1, 1) := by decide +kernel
theorem dX12_must_17 : decode cX12_must 17 = .ok (.goto 4, 3) := by decide +kernel
theorem dX12_must_20 : decode cX12_must 20 = .ok (.iconst 0, 1) := by decide +kernel
theorem dX12_must_21 : decode cX12_must 21 = .ok (.putfield 70, 3) := by decide +kernel
theorem dX12_must_24 : decode cX12_must 24 = .ok (.aload_n 0, 1) := by decide +kernel
theorem dX12_must_25 : decode cX12_must 25 = .ok (.dup, 1) := by decide +kernel
theorem dX12_must_26 : decode cX12_must 26 = .ok (.getfield 64, 3) := by decide +kernel
theorem dX12_must_29 : decode cX12_must 29 = .ok (.aload_n 0, 1) := by decide +kernel
theorem dX12_must_30 : decode cX12_must 30 = .ok (.getfield 70, 3) := by decide +kernel
theorem dX12_must_33 : decode cX12_must 33 = .ok (.ifCond .eq 7, 3) := by decide +kernel
theorem dX12_must_36 : decode cX12_must 36 = .ok (.iconst 0, 1) := by decide +kernel
theorem dX12_must_37 : decode cX12_must 37 = .ok (.goto 4, 3) := by decide +kernel
theorem dX12_must_40 : decode cX12_must 40 = .ok (.iconst 1, 1) := by decide +kernel
theorem dX12_must_41 : decode cX12_must 41 = .ok (.iadd, 1) := by decide +kernel
theorem dX12_must_42 : decode cX12_must 42 = .ok (.putfield 64, 3) := by decide +kernel
theorem dX12_must_45 : decode cX12_must 45 = .ok (.return_, 1) := by decide +kernel
theorem dX12_spells_0 : decode cX12_spells 0 = .ok (.iconst 0, 1) := by decide +kernel
theorem dX12_spells_1 : decode cX12_spells 1 = .ok (.istore_n 2, 1) := by decide +kernel
theorem dX12_spells_2 : decode cX12_spells 2 = .ok (.iload_n 2, 1) := by decide +kernel
theorem dX12_spells_3 : decode cX12_spells 3 = .ok (.aload_n 1, 1) := by decide +kernel
theorem dX12_spells_4 : decode cX12_spells 4 = .ok (.invokevirtual 78, 3) := by decide +kernel
theorem dX12_spells_7 : decode cX12_spells 7 = .ok (.if_icmp .ge 18, 3) := by decide +kernel
theorem dX12_spells_10 : decode cX12_spells 10 = .ok (.aload_n 0, 1) := by decide +kernel
theorem dX12_spells_11 : decode cX12_spells 11 = .ok (.aload_n 1, 1) := by decide +kernel
theorem dX12_spells_12 : decode cX12_spells 12 = .ok (.iload_n 2, 1) := by decide +kernel
theorem dX12_spells_13 : decode cX12_spells 13 = .ok (.invokevirtual 83, 3) := by decide +kernel
theorem dX12_spells_16 : decode cX12_spells 16 = .ok (.invokevirtual 87, 3) := by decide +kernel
theorem dX12_spells_19 : decode cX12_spells 19 = .ok (.iinc 2 1, 3) := by decide +kernel
theorem dX12_spells_22 : decode cX12_spells 22 = .ok (.goto (-20), 3) := by decide +kernel
theorem dX12_spells_25 : decode cX12_spells 25 = .ok (.return_, 1) := by decide +kernel
theorem dX12_figures_0 : decode cX12_figures 0 = .ok (.aload_n 0, 1) := by decide +kernel
theorem dX12_figures_1 : decode cX12_figures 1 = .ok (.aload_n 0, 1) := by decide +kernel
theorem dX12_figures_2 : decode cX12_figures 2 = .ok (.getfield 70, 3) := by decide +kernel
theorem dX12_figures_5 : decode cX12_figures 5 = .ok (.ifCond .ne 17, 3) := by decide +kernel
theorem dX12_figures_8 : decode cX12_figures 8 = .ok (.aload_n 0, 1) := by decide +kernel
theorem dX12_figures_9 : decode cX12_figures 9 = .ok (.invokevirtual 74, 3) := by decide +kernel
theorem dX12_figures_12 : decode cX12_figures 12 = .ok (.bipush 48, 2) := by decide +kernel
theorem dX12_figures_14 : decode cX12_figures 14 = .ok (.bipush 57, 2) := by decide +kernel
theorem dX12_figures_16 : decode cX12_figures 16 = .ok (.invokestatic 47, 3) := by decide +kernel
theorem dX12_figures_19 : decode cX12_figures 19 = .ok (.ifCond .ne 7, 3) := by decide +kernel
theorem dX12_figures_22 : decode cX12_figures 22 = .ok (.iconst 1, 1) := by decide +kernel
theorem dX12_figures_23 : decode cX12_figures 23 = .ok (.goto 4, 3) := by decide +kernel
theorem dX12_figures_26 : decode cX12_figures 26 = .ok (.iconst 0, 1) := by decide +kernel
theorem dX12_figures_27 : decode cX12_figures 27 = .ok (.putfield 70, 3) := by decide +kernel
theorem dX12_figures_30 : decode cX12_figures 30 = .ok (.iconst 0, 1) := by decide +kernel
theorem dX12_figures_31 : decode cX12_figures 31 = .ok (.istore_n 1, 1) := by decide +kernel
theorem dX12_figures_32 : decode cX12_figures 32 = .ok (.iconst 0, 1) := by decide +kernel
theorem dX12_figures_33 : decode cX12_figures 33 = .ok (.istore_n 2, 1) := by decide +kernel
theorem dX12_figures_34 : decode cX12_figures 34 = .ok (.iload_n 2, 1) := by decide +kernel
theorem dX12_figures_35 : decode cX12_figures 35 = .ok (.iconst 2, 1) := by decide +kernel
theorem dX12_figures_36 : decode cX12_figures 36 = .ok (.if_icmp .ge 61, 3) := by decide +kernel
theorem dX12_figures_39 : decode cX12_figures 39 = .ok (.aload_n 0, 1) := by decide +kernel
theorem dX12_figures_40 : decode cX12_figures 40 = .ok (.getfield 70, 3) := by decide +kernel
theorem dX12_figures_43 : decode cX12_figures 43 = .ok (.ifCond .ne 54, 3) := by decide +kernel
theorem dX12_figures_46 : decode cX12_figures 46 = .ok (.aload_n 0, 1) := by decide +kernel
theorem dX12_figures_47 : decode cX12_figures 47 = .ok (.invokevirtual 74, 3) := by decide +kernel
theorem dX12_figures_50 : decode cX12_figures 50 = .ok (.bipush 48, 2) := by decide +kernel
theorem dX12_figures_52 : decode cX12_figures 52 = .ok (.bipush 57, 2) := by decide +kernel
theorem dX12_figures_54 : decode cX12_figures 54 = .ok (.invokestatic 47, 3) := by decide +kernel
theorem dX12_figures_57 : decode cX12_figures 57 = .ok (.ifCond .eq 40, 3) := by decide +kernel
theorem dX12_figures_60 : decode cX12_figures 60 = .ok (.iload_n 2, 1) := by decide +kernel
theorem dX12_figures_61 : decode cX12_figures 61 = .ok (.ifCond .eq 7, 3) := by decide +kernel
theorem dX12_figures_64 : decode cX12_figures 64 = .ok (.iload_n 1, 1) := by decide +kernel
theorem dX12_figures_65 : decode cX12_figures 65 = .ok (.ifCond .le 32, 3) := by decide +kernel
theorem dX12_figures_68 : decode cX12_figures 68 = .ok (.bipush 10, 2) := by decide +kernel
theorem dX12_figures_70 : decode cX12_figures 70 = .ok (.iload_n 1, 1) := by decide +kernel
theorem dX12_figures_71 : decode cX12_figures 71 = .ok (.imul, 1) := by decide +kernel
theorem dX12_figures_72 : decode cX12_figures 72 = .ok (.aload_n 0, 1) := by decide +kernel
theorem dX12_figures_73 : decode cX12_figures 73 = .ok (.invokevirtual 74, 3) := by decide +kernel
theorem dX12_figures_76 : decode cX12_figures 76 = .ok (.iadd, 1) := by decide +kernel
theorem dX12_figures_77 : decode cX12_figures 77 = .ok (.bipush 48, 2) := by decide +kernel
theorem dX12_figures_79 : decode cX12_figures 79 = .ok (.isub, 1) := by decide +kernel
theorem dX12_figures_80 : decode cX12_figures 80 = .ok (.istore_n 1, 1) := by decide +kernel
theorem dX12_figures_81 : decode cX12_figures 81 = .ok (.aload_n 0, 1) := by decide +kernel
theorem dX12_figures_82 : decode cX12_figures 82 = .ok (.dup, 1) := by decide +kernel
theorem dX12_figures_83 : decode cX12_figures 83 = .ok (.getfield 64, 3) := by decide +kernel
theorem dX12_figures_86 : decode cX12_figures 86 = .ok (.iconst 1, 1) := by decide +kernel
theorem dX12_figures_87 : decode cX12_figures 87 = .ok (.iadd, 1) := by decide +kernel
theorem dX12_figures_88 : decode cX12_figures 88 = .ok (.putfield 64, 3) := by decide +kernel
theorem dX12_figures_91 : decode cX12_figures 91 = .ok (.iinc 2 1, 3) := by decide +kernel
theorem dX12_figures_94 : decode cX12_figures 94 = .ok (.goto (-60), 3) := by decide +kernel
theorem dX12_figures_97 : decode cX12_figures 97 = .ok (.iload_n 1, 1) := by decide +kernel
theorem dX12_figures_98 : decode cX12_figures 98 = .ok (.ireturn, 1) := by decide +kernel
theorem dX12_among_0 : decode cX12_among 0 = .ok (.iconst 0, 1) := by decide +kernel
theorem dX12_among_1 : decode cX12_among 1 = .ok (.istore_n 2, 1) := by decide +kernel
theorem dX12_among_2 : decode cX12_among 2 = .ok (.iload_n 2, 1) := by decide +kernel
theorem dX12_among_3 : decode cX12_among 3 = .ok (.aload_n 1, 1) := by decide +kernel
theorem dX12_among_4 : decode cX12_among 4 = .ok (.invokevirtual 78, 3) := by decide +kernel
theorem dX12_among_7 : decode cX12_among 7 = .ok (.if_icmp .ge 33, 3) := by decide +kernel
theorem dX12_among_10 : decode cX12_among 10 = .ok (.aload_n 0, 1) := by decide +kernel
theorem dX12_among_11 : decode cX12_among 11 = .ok (.invokevirtual 74, 3) := by decide +kernel
theorem dX12_among_14 : decode cX12_among 14 = .ok (.aload_n 1, 1) := by decide +kernel
theorem dX12_among_15 : decode cX12_among 15 = .ok (.iload_n 2, 1) := by decide +kernel
theorem dX12_among_16 : decode cX12_among 16 = .ok (.invokevirtual 83, 3) := by decide +kernel
theorem dX12_among_19 : decode cX12_among 19 = .ok (.if_icmp .ne 15, 3) := by decide +kernel
theorem dX12_among_22 : decode cX12_among 22 = .ok (.aload_n 0, 1) := by decide +kernel
theorem dX12_among_23 : decode cX12_among 23 = .ok (.dup, 1) := by decide +kernel
theorem dX12_among_24 : decode cX12_among 24 = .ok (.getfield 64, 3) := by decide +kernel
theorem dX12_among_27 : decode cX12_among 27 = .ok (.iconst 1, 1) := by decide +kernel
theorem dX12_among_28 : decode cX12_among 28 = .ok (.iadd, 1) := by decide +kernel
theorem dX12_among_29 : decode cX12_among 29 = .ok (.putfield 64, 3) := by decide +kernel
theorem dX12_among_32 : decode cX12_among 32 = .ok (.iload_n 2, 1) := by decide +kernel
theorem dX12_among_33 : decode cX12_among 33 = .ok (.ireturn, 1) := by decide +kernel
theorem dX12_among_34 : decode cX12_among 34 = .ok (.iinc 2 1, 3) := by decide +kernel
theorem dX12_among_37 : decode cX12_among 37 = .ok (.goto (-35), 3) := by decide +kernel
theorem dX12_among_40 : decode cX12_among 40 = .ok (.iconst (-1), 1) := by decide +kernel
theorem dX12_among_41 : decode cX12_among 41 = .ok (.ireturn, 1) := by decide +kernel
theorem dX12_emits_0 : decode cX12_emits 0 = .ok (.aload_n 0, 1) := by decide +kernel
theorem dX12_emits_1 : decode cX12_emits 1 = .ok (.getfield 70, 3) := by decide +kernel
theorem dX12_emits_4 : decode cX12_emits 4 = .ok (.ifCond .ne 52, 3) := by decide +kernel
theorem dX12_emits_7 : decode cX12_emits 7 = .ok (.aload_n 0, 1) := by decide +kernel
theorem dX12_emits_8 : decode cX12_emits 8 = .ok (.getfield 9, 3) := by decide +kernel
theorem dX12_emits_11 : decode cX12_emits 11 = .ok (.sipush 299, 3) := by decide +kernel
theorem dX12_emits_14 : decode cX12_emits 14 = .ok (.sipush 140, 3) := by decide +kernel
theorem dX12_emits_17 : decode cX12_emits 17 = .ok (.aload_n 0, 1) := by decide +kernel
theorem dX12_emits_18 : decode cX12_emits 18 = .ok (.getfield 91, 3) := by decide +kernel
theorem dX12_emits_21 : decode cX12_emits 21 = .ok (.imul, 1) := by decide +kernel
theorem dX12_emits_22 : decode cX12_emits 22 = .ok (.iadd, 1) := by decide +kernel
theorem dX12_emits_23 : decode cX12_emits 23 = .ok (.aload_n 0, 1) := by decide +kernel
theorem dX12_emits_24 : decode cX12_emits 24 = .ok (.getfield 9, 3) := by decide +kernel
theorem dX12_emits_27 : decode cX12_emits 27 = .ok (.sipush 294, 3) := by decide +kernel
theorem dX12_emits_30 : decode cX12_emits 30 = .ok (.aload_n 0, 1) := by decide +kernel
theorem dX12_emits_31 : decode cX12_emits 31 = .ok (.getfield 91, 3) := by decide +kernel
theorem dX12_emits_34 : decode cX12_emits 34 = .ok (.iadd, 1) := by decide +kernel
theorem dX12_emits_35 : decode cX12_emits 35 = .ok (.iaload, 1) := by decide +kernel
theorem dX12_emits_36 : decode cX12_emits 36 = .ok (.iadd, 1) := by decide +kernel
theorem dX12_emits_37 : decode cX12_emits 37 = .ok (.iload_n 1, 1) := by decide +kernel
theorem dX12_emits_38 : decode cX12_emits 38 = .ok (.iastore, 1) := by decide +kernel
theorem dX12_emits_39 : decode cX12_emits 39 = .ok (.aload_n 0, 1) := by decide +kernel
theorem dX12_emits_40 : decode cX12_emits 40 = .ok (.getfield 9, 3) := by decide +kernel
theorem dX12_emits_43 : decode cX12_emits 43 = .ok (.sipush 294, 3) := by decide +kernel
theorem dX12_emits_46 : decode cX12_emits 46 = .ok (.aload_n 0, 1) := by decide +kernel
theorem dX12_emits_47 : decode cX12_emits 47 = .ok (.getfield 91, 3) := by decide +kernel
theorem dX12_emits_50 : decode cX12_emits 50 = .ok (.iadd, 1) := by decide +kernel
theorem dX12_emits_51 : decode cX12_emits 51 = .ok (.dup2, 1) := by decide +kernel
theorem dX12_emits_52 : decode cX12_emits 52 = .ok (.iaload, 1) := by decide +kernel
theorem dX12_emits_53 : decode cX12_emits 53 = .ok (.iconst 1, 1) := by decide +kernel
theorem dX12_emits_54 : decode cX12_emits 54 = .ok (.iadd, 1) := by decide +kernel
theorem dX12_emits_55 : decode cX12_emits 55 = .ok (.iastore, 1) := by decide +kernel
theorem dX12_emits_56 : decode cX12_emits 56 = .ok (.return_, 1) := by decide +kernel
theorem dX12_factor_0 : decode cX12_factor 0 = .ok (.aload_n 0, 1) := by decide +kernel
theorem dX12_factor_1 : decode cX12_factor 1 = .ok (.getfield 70, 3) := by decide +kernel
theorem dX12_factor_4 : decode cX12_factor 4 = .ok (.ifCond .eq 4, 3) := by decide +kernel
theorem dX12_factor_7 : decode cX12_factor 7 = .ok (.return_, 1) := by decide +kernel
theorem dX12_factor_8 : decode cX12_factor 8 = .ok (.aload_n 0, 1) := by decide +kernel
theorem dX12_factor_9 : decode cX12_factor 9 = .ok (.invokevirtual 74, 3) := by decide +kernel
theorem dX12_factor_12 : decode cX12_factor 12 = .ok (.istore_n 1, 1) := by decide +kernel
theorem dX12_factor_13 : decode cX12_factor 13 = .ok (.iload_n 1, 1) := by decide +kernel
theorem dX12_factor_14 : decode cX12_factor 14 = .ok (.bipush 33, 2) := by decide +kernel
theorem dX12_factor_16 : decode cX12_factor 16 = .ok (.if_icmp .eq 9, 3) := by decide +kernel
theorem dX12_factor_19 : decode cX12_factor 19 = .ok (.iload_n 1, 1) := by decide +kernel
theorem dX12_factor_20 : decode cX12_factor 20 = .ok (.bipush 40, 2) := by decide +kernel
theorem dX12_factor_22 : decode cX12_factor 22 = .ok (.if_icmp .ne 90, 3) := by decide +kernel
theorem dX12_factor_25 : decode cX12_factor 25 = .ok (.aload_n 0, 1) := by decide +kernel
theorem dX12_factor_26 : decode cX12_factor 26 = .ok (.aload_n 0, 1) := by decide +kernel
theorem dX12_factor_27 : decode cX12_factor 27 = .ok (.getfield 94, 3) := by decide +kernel
theorem dX12_factor_30 : decode cX12_factor 30 = .ok (.iconst 5, 1) := by decide +kernel
theorem dX12_factor_31 : decode cX12_factor 31 = .ok (.if_icmp .ne 7, 3) := by decide +kernel
theorem dX12_factor_34 : decode cX12_factor 34 = .ok (.iconst 1, 1) := by decide +kernel
theorem dX12_factor_35 : decode cX12_factor 35 = .ok (.goto 4, 3) := by decide +kernel
theorem dX12_factor_38 : decode cX12_factor 38 = .ok (.iconst 0, 1) := by decide +kernel
theorem dX12_factor_39 : decode cX12_factor 39 = .ok (.putfield 70, 3) := by decide +kernel
theorem dX12_factor_42 : decode cX12_factor 42 = .ok (.aload_n 0, 1) := by decide +kernel
theorem dX12_factor_43 : decode cX12_factor 43 = .ok (.dup, 1) := by decide +kernel
theorem dX12_factor_44 : decode cX12_factor 44 = .ok (.getfield 94, 3) := by decide +kernel
theorem dX12_factor_47 : decode cX12_factor 47 = .ok (.iconst 1, 1) := by decide +kernel
theorem dX12_factor_48 : decode cX12_factor 48 = .ok (.iadd, 1) := by decide +kernel
theorem dX12_factor_49 : decode cX12_factor 49 = .ok (.putfield 94, 3) := by decide +kernel
theorem dX12_factor_52 : decode cX12_factor 52 = .ok (.aload_n 0, 1) := by decide +kernel
theorem dX12_factor_53 : decode cX12_factor 53 = .ok (.dup, 1) := by decide +kernel
theorem dX12_factor_54 : decode cX12_factor 54 = .ok (.getfield 64, 3) := by decide +kernel
theorem dX12_factor_57 : decode cX12_factor 57 = .ok (.aload_n 0, 1) := by decide +kernel
theorem dX12_factor_58 : decode cX12_factor 58 = .ok (.getfield 70, 3) := by decide +kernel
theorem dX12_factor_61 : decode cX12_factor 61 = .ok (.ifCond .eq 7, 3) := by decide +kernel
theorem dX12_factor_64 : decode cX12_factor 64 = .ok (.iconst 0, 1) := by decide +kernel
theorem dX12_factor_65 : decode cX12_factor 65 = .ok (.goto 4, 3) := by decide +kernel
theorem dX12_factor_68 : decode cX12_factor 68 = .ok (.iconst 1, 1) := by decide +kernel
theorem dX12_factor_69 : decode cX12_factor 69 = .ok (.iadd, 1) := by decide +kernel
theorem dX12_factor_70 : decode cX12_factor 70 = .ok (.putfield 64, 3) := by decide +kernel
theorem dX12_factor_73 : decode cX12_factor 73 = .ok (.iload_n 1, 1) := by decide +kernel
theorem dX12_factor_74 : decode cX12_factor 74 = .ok (.bipush 33, 2) := by decide +kernel
theorem dX12_factor_76 : decode cX12_factor 76 = .ok (.if_icmp .ne 15, 3) := by decide +kernel
theorem dX12_factor_79 : decode cX12_factor 79 = .ok (.aload_n 0, 1) := by decide +kernel
theorem dX12_factor_80 : decode cX12_factor 80 = .ok (.invokevirtual 97, 3) := by decide +kernel
theorem dX12_factor_83 : decode cX12_factor 83 = .ok (.aload_n 0, 1) := by decide +kernel
theorem dX12_factor_84 : decode cX12_factor 84 = .ok (.iconst (-1), 1) := by decide +kernel
theorem dX12_factor_85 : decode cX12_factor 85 = .ok (.invokevirtual 100, 3) := by decide +kernel
theorem dX12_factor_88 : decode cX12_factor 88 = .ok (.goto 13, 3) := by decide +kernel
theorem dX12_factor_91 : decode cX12_factor 91 = .ok (.aload_n 0, 1) := by decide +kernel
theorem dX12_factor_92 : decode cX12_factor 92 = .ok (.invokevirtual 103, 3) := by decide +kernel
theorem dX12_factor_95 : decode cX12_factor 95 = .ok (.aload_n 0, 1) := by decide +kernel
theorem dX12_factor_96 : decode cX12_factor 96 = .ok (.bipush 41, 2) := by decide +kernel
theorem dX12_factor_98 : decode cX12_factor 98 = .ok (.invokevirtual 87, 3) := by decide +kernel
theorem dX12_factor_101 : decode cX12_factor 101 = .ok (.aload_n 0, 1) := by decide +kernel
theorem dX12_factor_102 : decode cX12_factor 102 = .ok (.dup, 1) := by decide +kernel
theorem dX12_factor_103 : decode cX12_factor 103 = .ok (.getfield 94, 3) := by decide +kernel
theorem dX12_factor_106 : decode cX12_factor 106 = .ok (.iconst 1, 1) := by decide +kernel
theorem dX12_factor_107 : decode cX12_factor 107 = .ok (.isub, 1) := by decide +kernel
theorem dX12_factor_108 : decode cX12_factor 108 = .ok (.putfield 94, 3) := by decide +kernel
theorem dX12_factor_111 : decode cX12_factor 111 = .ok (.return_, 1) := by decide +kernel
theorem dX12_factor_112 : decode cX12_factor 112 = .ok (.aload_n 0, 1) := by decide +kernel
theorem dX12_factor_113 : decode cX12_factor 113 = .ok (.ldc 106, 2) := by decide +kernel
theorem dX12_factor_115 : decode cX12_factor 115 = .ok (.invokevirtual 108, 3) := by decide +kernel
theorem dX12_factor_118 : decode cX12_factor 118 = .ok (.istore_n 2, 1) := by decide +kernel
theorem dX12_factor_119 : decode cX12_factor 119 = .ok (.aload_n 0, 1) := by decide +kernel
theorem dX12_factor_120 : decode cX12_factor 120 = .ok (.iload_n 2, 1) := by decide +kernel
theorem dX12_factor_121 : decode cX12_factor 121 = .ok (.iconst (-1), 1) := by decide +kernel
theorem dX12_factor_122 : decode cX12_factor 122 = .ok (.if_icmp .ne 7, 3) := by decide +kernel
theorem dX12_factor_125 : decode cX12_factor 125 = .ok (.iconst 1, 1) := by decide +kernel
theorem dX12_factor_126 : decode cX12_factor 126 = .ok (.goto 4, 3) := by decide +kernel
theorem dX12_factor_129 : decode cX12_factor 129 = .ok (.iconst 0, 1) := by decide +kernel
theorem dX12_factor_130 : decode cX12_factor 130 = .ok (.putfield 70, 3) := by decide +kernel
theorem dX12_factor_133 : decode cX12_factor 133 = .ok (.aload_n 0, 1) := by decide +kernel
theorem dX12_factor_134 : decode cX12_factor 134 = .ok (.getfield 70, 3) := by decide +kernel
theorem dX12_factor_137 : decode cX12_factor 137 = .ok (.ifCond .eq 7, 3) := by decide +kernel
theorem dX12_factor_140 : decode cX12_factor 140 = .ok (.iconst 0, 1) := by decide +kernel
theorem dX12_factor_141 : decode cX12_factor 141 = .ok (.goto 9, 3) := by decide +kernel
theorem dX12_factor_144 : decode cX12_factor 144 = .ok (.aload_n 0, 1) := by decide +kernel
theorem dX12_factor_145 : decode cX12_factor 145 = .ok (.ldc 112, 2) := by decide +kernel
theorem dX12_factor_147 : decode cX12_factor 147 = .ok (.invokevirtual 108, 3) := by decide +kernel
theorem dX12_factor_150 : decode cX12_factor 150 = .ok (.istore_n 3, 1) := by decide +kernel
theorem dX12_factor_151 : decode cX12_factor 151 = .ok (.aload_n 0, 1) := by decide +kernel
theorem dX12_factor_152 : decode cX12_factor 152 = .ok (.aload_n 0, 1) := by decide +kernel
theorem dX12_factor_153 : decode cX12_factor 153 = .ok (.getfield 70, 3) := by decide +kernel
theorem dX12_factor_156 : decode cX12_factor 156 = .ok (.ifCond .ne 8, 3) := by decide +kernel
theorem dX12_factor_159 : decode cX12_factor 159 = .ok (.iload_n 3, 1) := by decide +kernel
theorem dX12_factor_160 : decode cX12_factor 160 = .ok (.iconst (-1), 1) := by decide +kernel
theorem dX12_factor_161 : decode cX12_factor 161 = .ok (.if_icmp .ne 7, 3) := by decide +kernel
theorem dX12_factor_164 : decode cX12_factor 164 = .ok (.iconst 1, 1) := by decide +kernel
theorem dX12_factor_165 : decode cX12_factor 165 = .ok (.goto 4, 3) := by decide +kernel
theorem dX12_factor_168 : decode cX12_factor 168 = .ok (.iconst 0, 1) := by decide +kernel
theorem dX12_factor_169 : decode cX12_factor 169 = .ok (.putfield 70, 3) := by decide +kernel
theorem dX12_factor_172 : decode cX12_factor 172 = .ok (.aload_n 0, 1) := by decide +kernel
theorem dX12_factor_173 : decode cX12_factor 173 = .ok (.invokevirtual 114, 3) := by decide +kernel
theorem dX12_factor_176 : decode cX12_factor 176 = .ok (.istore 4, 2) := by decide +kernel
theorem dX12_factor_178 : decode cX12_factor 178 = .ok (.aload_n 0, 1) := by decide +kernel
theorem dX12_factor_179 : decode cX12_factor 179 = .ok (.iload_n 2, 1) := by decide +kernel
theorem dX12_factor_180 : decode cX12_factor 180 = .ok (.bipush 8, 2) := by decide +kernel
theorem dX12_factor_182 : decode cX12_factor 182 = .ok (.iload_n 3, 1) := by decide +kernel
theorem dX12_factor_183 : decode cX12_factor 183 = .ok (.imul, 1) := by decide +kernel
theorem dX12_factor_184 : decode cX12_factor 184 = .ok (.iadd, 1) := by decide +kernel
theorem dX12_factor_185 : decode cX12_factor 185 = .ok (.bipush 32, 2) := by decide +kernel
theorem dX12_factor_187 : decode cX12_factor 187 = .ok (.iload 4, 2) := by decide +kernel
theorem dX12_factor_189 : decode cX12_factor 189 = .ok (.imul, 1) := by decide +kernel
theorem dX12_factor_190 : decode cX12_factor 190 = .ok (.iadd, 1) := by decide +kernel
theorem dX12_factor_191 : decode cX12_factor 191 = .ok (.invokevirtual 100, 3) := by decide +kernel
theorem dX12_factor_194 : decode cX12_factor 194 = .ok (.return_, 1) := by decide +kernel
theorem dX12_every_0 : decode cX12_every 0 = .ok (.aload_n 0, 1) := by decide +kernel
theorem dX12_every_1 : decode cX12_every 1 = .ok (.invokevirtual 97, 3) := by decide +kernel
theorem dX12_every_4 : decode cX12_every 4 = .ok (.aload_n 0, 1) := by decide +kernel
theorem dX12_every_5 : decode cX12_every 5 = .ok (.getfield 70, 3) := by decide +kernel
theorem dX12_every_8 : decode cX12_every 8 = .ok (.ifCond .ne 35, 3) := by decide +kernel
theorem dX12_every_11 : decode cX12_every 11 = .ok (.aload_n 0, 1) := by decide +kernel
theorem dX12_every_12 : decode cX12_every 12 = .ok (.invokevirtual 74, 3) := by decide +kernel
theorem dX12_every_15 : decode cX12_every 15 = .ok (.bipush 38, 2) := by decide +kernel
theorem dX12_every_17 : decode cX12_every 17 = .ok (.if_icmp .ne 26, 3) := by decide +kernel
theorem dX12_every_20 : decode cX12_every 20 = .ok (.aload_n 0, 1) := by decide +kernel
theorem dX12_every_21 : decode cX12_every 21 = .ok (.dup, 1) := by decide +kernel
theorem dX12_every_22 : decode cX12_every 22 = .ok (.getfield 64, 3) := by decide +kernel
theorem dX12_every_25 : decode cX12_every 25 = .ok (.iconst 1, 1) := by decide +kernel
theorem dX12_every_26 : decode cX12_every 26 = .ok (.iadd, 1) := by decide +kernel
theorem dX12_every_27 : decode cX12_every 27 = .ok (.putfield 64, 3) := by decide +kernel
theorem dX12_every_30 : decode cX12_every 30 = .ok (.aload_n 0, 1) := by decide +kernel
theorem dX12_every_31 : decode cX12_every 31 = .ok (.invokevirtual 97, 3) := by decide +kernel
theorem dX12_every_34 : decode cX12_every 34 = .ok (.aload_n 0, 1) := by decide +kernel
theorem dX12_every_35 : decode cX12_every 35 = .ok (.bipush (-2), 2) := by decide +kernel
theorem dX12_every_37 : decode cX12_every 37 = .ok (.invokevirtual 100, 3) := by decide +kernel
theorem dX12_every_40 : decode cX12_every 40 = .ok (.goto (-36), 3) := by decide +kernel
theorem dX12_every_43 : decode cX12_every 43 = .ok (.return_, 1) := by decide +kernel
theorem dX12_some_0 : decode cX12_some 0 = .ok (.aload_n 0, 1) := by decide +kernel
theorem dX12_some_1 : decode cX12_some 1 = .ok (.invokevirtual 117, 3) := by decide +kernel
theorem dX12_some_4 : decode cX12_some 4 = .ok (.aload_n 0, 1) := by decide +kernel
theorem dX12_some_5 : decode cX12_some 5 = .ok (.getfield 70, 3) := by decide +kernel
theorem dX12_some_8 : decode cX12_some 8 = .ok (.ifCond .ne 35, 3) := by decide +kernel
theorem dX12_some_11 : decode cX12_some 11 = .ok (.aload_n 0, 1) := by decide +kernel
theorem dX12_some_12 : decode cX12_some 12 = .ok (.invokevirtual 74, 3) := by decide +kernel
theorem dX12_some_15 : decode cX12_some 15 = .ok (.bipush 124, 2) := by decide +kernel
theorem dX12_some_17 : decode cX12_some 17 = .ok (.if_icmp .ne 26, 3) := by decide +kernel
theorem dX12_some_20 : decode cX12_some 20 = .ok (.aload_n 0, 1) := by decide +kernel
theorem dX12_some_21 : decode cX12_some 21 = .ok (.dup, 1) := by decide +kernel
theorem dX12_some_22 : decode cX12_some 22 = .ok (.getfield 64, 3) := by decide +kernel
theorem dX12_some_25 : decode cX12_some 25 = .ok (.iconst 1, 1) := by decide +kernel
theorem dX12_some_26 : decode cX12_some 26 = .ok (.iadd, 1) := by decide +kernel
theorem dX12_some_27 : decode cX12_some 27 = .ok (.putfield 64, 3) := by decide +kernel
theorem dX12_some_30 : decode cX12_some 30 = .ok (.aload_n 0, 1) := by decide +kernel
theorem dX12_some_31 : decode cX12_some 31 = .ok (.invokevirtual 117, 3) := by decide +kernel
theorem dX12_some_34 : decode cX12_some 34 = .ok (.aload_n 0, 1) := by decide +kernel
theorem dX12_some_35 : decode cX12_some 35 = .ok (.bipush (-3), 2) := by decide +kernel
theorem dX12_some_37 : decode cX12_some 37 = .ok (.invokevirtual 100, 3) := by decide +kernel
theorem dX12_some_40 : decode cX12_some 40 = .ok (.goto (-36), 3) := by decide +kernel
theorem dX12_some_43 : decode cX12_some 43 = .ok (.return_, 1) := by decide +kernel
theorem dX12_when_0 : decode cX12_when 0 = .ok (.aload_n 0, 1) := by decide +kernel
theorem dX12_when_1 : decode cX12_when 1 = .ok (.aload_n 2, 1) := by decide +kernel
theorem dX12_when_2 : decode cX12_when 2 = .ok (.invokevirtual 120, 3) := by decide +kernel
theorem dX12_when_5 : decode cX12_when 5 = .ok (.aload_n 0, 1) := by decide +kernel
theorem dX12_when_6 : decode cX12_when 6 = .ok (.invokevirtual 103, 3) := by decide +kernel
theorem dX12_when_9 : decode cX12_when 9 = .ok (.aload_n 0, 1) := by decide +kernel
theorem dX12_when_10 : decode cX12_when 10 = .ok (.iload_n 1, 1) := by decide +kernel
theorem dX12_when_11 : decode cX12_when 11 = .ok (.invokevirtual 100, 3) := by decide +kernel
theorem dX12_when_14 : decode cX12_when 14 = .ok (.return_, 1) := by decide +kernel
theorem dX12_tellsHere_0 : decode cX12_tellsHere 0 = .ok (.aload_n 0, 1) := by decide +kernel
theorem dX12_tellsHere_1 : decode cX12_tellsHere 1 = .ok (.aload_n 2, 1) := by decide +kernel
theorem dX12_tellsHere_2 : decode cX12_tellsHere 2 = .ok (.invokevirtual 120, 3) := by decide +kernel
theorem dX12_tellsHere_5 : decode cX12_tellsHere 5 = .ok (.aload_n 0, 1) := by decide +kernel
theorem dX12_tellsHere_6 : decode cX12_tellsHere 6 = .ok (.invokevirtual 114, 3) := by decide +kernel
theorem dX12_tellsHere_9 : decode cX12_tellsHere 9 = .ok (.istore 4, 2) := by decide +kernel
theorem dX12_tellsHere_11 : decode cX12_tellsHere 11 = .ok (.aload_n 0, 1) := by decide +kernel
theorem dX12_tellsHere_12 : decode cX12_tellsHere 12 = .ok (.getfield 70, 3) := by decide +kernel
theorem dX12_tellsHere_15 : decode cX12_tellsHere 15 = .ok (.ifCond .ne 26, 3) := by decide +kernel
theorem dX12_tellsHere_18 : decode cX12_tellsHere 18 = .ok (.aload_n 0, 1) := by decide +kernel
theorem dX12_tellsHere_19 : decode cX12_tellsHere 19 = .ok (.getfield 9, 3) := by decide +kernel
theorem dX12_tellsHere_22 : decode cX12_tellsHere 22 = .ok (.iload_n 1, 1) := by decide +kernel
theorem dX12_tellsHere_23 : decode cX12_tellsHere 23 = .ok (.aload_n 0, 1) := by decide +kernel
theorem dX12_tellsHere_24 : decode cX12_tellsHere 24 = .ok (.getfield 91, 3) := by decide +kernel
theorem dX12_tellsHere_27 : decode cX12_tellsHere 27 = .ok (.iadd, 1) := by decide +kernel
theorem dX12_tellsHere_28 : decode cX12_tellsHere 28 = .ok (.iload 4, 2) := by decide +kernel
theorem dX12_tellsHere_30 : decode cX12_tellsHere 30 = .ok (.iload_n 3, 1) := by decide +kernel
theorem dX12_tellsHere_31 : decode cX12_tellsHere 31 = .ok (.if_icmp .le 7, 3) := by decide +kernel
theorem dX12_tellsHere_34 : decode cX12_tellsHere 34 = .ok (.iload_n 3, 1) := by decide +kernel
theorem dX12_tellsHere_35 : decode cX12_tellsHere 35 = .ok (.goto 5, 3) := by decide +kernel
theorem dX12_tellsHere_38 : decode cX12_tellsHere 38 = .ok (.iload 4, 2) := by decide +kernel
theorem dX12_tellsHere_40 : decode cX12_tellsHere 40 = .ok (.iastore, 1) := by decide +kernel
theorem dX12_tellsHere_41 : decode cX12_tellsHere 41 = .ok (.return_, 1) := by decide +kernel
theorem dX12_clauseHere_0 : decode cX12_clauseHere 0 = .ok (.aload_n 0, 1) := by decide +kernel
theorem dX12_clauseHere_1 : decode cX12_clauseHere 1 = .ok (.invokevirtual 74, 3) := by decide +kernel
theorem dX12_clauseHere_4 : decode cX12_clauseHere 4 = .ok (.lookupswitch 113 #[(99, 85), (101, 63), (108, 52), (111, 74), (116, 99)], 52) := by decide +kernel
theorem dX12_clauseHere_56 : decode cX12_clauseHere 56 = .ok (.aload_n 0, 1) := by decide +kernel
theorem dX12_clauseHere_57 : decode cX12_clauseHere 57 = .ok (.bipush (-11), 2) := by decide +kernel
theorem dX12_clauseHere_59 : decode cX12_clauseHere 59 = .ok (.ldc 124, 2) := by decide +kernel
theorem dX12_clauseHere_61 : decode cX12_clauseHere 61 = .ok (.invokevirtual 126, 3) := by decide +kernel
theorem dX12_clauseHere_64 : decode cX12_clauseHere 64 = .ok (.goto 58, 3) := by decide +kernel
theorem dX12_clauseHere_67 : decode cX12_clauseHere 67 = .ok (.aload_n 0, 1) := by decide +kernel
theorem dX12_clauseHere_68 : decode cX12_clauseHere 68 = .ok (.bipush (-12), 2) := by decide +kernel
theorem dX12_clauseHere_70 : decode cX12_clauseHere 70 = .ok (.ldc 130, 2) := by decide +kernel
theorem dX12_clauseHere_72 : decode cX12_clauseHere 72 = .ok (.invokevirtual 126, 3) := by decide +kernel
theorem dX12_clauseHere_75 : decode cX12_clauseHere 75 = .ok (.goto 47, 3) := by decide +kernel
theorem dX12_clauseHere_78 : decode cX12_clauseHere 78 = .ok (.aload_n 0, 1) := by decide +kernel
theorem dX12_clauseHere_79 : decode cX12_clauseHere 79 = .ok (.bipush (-13), 2) := by decide +kernel
theorem dX12_clauseHere_81 : decode cX12_clauseHere 81 = .ok (.ldc 132, 2) := by decide +kernel
theorem dX12_clauseHere_83 : decode cX12_clauseHere 83 = .ok (.invokevirtual 126, 3) := by decide +kernel
theorem dX12_clauseHere_86 : decode cX12_clauseHere 86 = .ok (.goto 36, 3) := by decide +kernel
theorem dX12_clauseHere_89 : decode cX12_clauseHere 89 = .ok (.aload_n 0, 1) := by decide +kernel
theorem dX12_clauseHere_90 : decode cX12_clauseHere 90 = .ok (.sipush 284, 3) := by decide +kernel
theorem dX12_clauseHere_93 : decode cX12_clauseHere 93 = .ok (.ldc 134, 2) := by decide +kernel
theorem dX12_clauseHere_95 : decode cX12_clauseHere 95 = .ok (.bipush 10, 2) := by decide +kernel
theorem dX12_clauseHere_97 : decode cX12_clauseHere 97 = .ok (.invokevirtual 136, 3) := by decide +kernel
theorem dX12_clauseHere_100 : decode cX12_clauseHere 100 = .ok (.goto 22, 3) := by decide +kernel
theorem dX12_clauseHere_103 : decode cX12_clauseHere 103 = .ok (.aload_n 0, 1) := by decide +kernel
theorem dX12_clauseHere_104 : decode cX12_clauseHere 104 = .ok (.sipush 289, 3) := by decide +kernel
theorem dX12_clauseHere_107 : decode cX12_clauseHere 107 = .ok (.ldc 140, 2) := by decide +kernel
theorem dX12_clauseHere_109 : decode cX12_clauseHere 109 = .ok (.bipush 99, 2) := by decide +kernel
theorem dX12_clauseHere_111 : decode cX12_clauseHere 111 = .ok (.invokevirtual 136, 3) := by decide +kernel
theorem dX12_clauseHere_114 : decode cX12_clauseHere 114 = .ok (.goto 8, 3) := by decide +kernel
theorem dX12_clauseHere_117 : decode cX12_clauseHere 117 = .ok (.aload_n 0, 1) := by decide +kernel
theorem dX12_clauseHere_118 : decode cX12_clauseHere 118 = .ok (.iconst 1, 1) := by decide +kernel
theorem dX12_clauseHere_119 : decode cX12_clauseHere 119 = .ok (.putfield 70, 3) := by decide +kernel
theorem dX12_clauseHere_122 : decode cX12_clauseHere 122 = .ok (.return_, 1) := by decide +kernel
theorem dX12_valley_0 : decode cX12_valley 0 = .ok (.aload_n 0, 1) := by decide +kernel
theorem dX12_valley_1 : decode cX12_valley 1 = .ok (.getfield 9, 3) := by decide +kernel
theorem dX12_valley_4 : decode cX12_valley 4 = .ok (.iconst 3, 1) := by decide +kernel
theorem dX12_valley_5 : decode cX12_valley 5 = .ok (.iaload, 1) := by decide +kernel
theorem dX12_valley_6 : decode cX12_valley 6 = .ok (.iconst 5, 1) := by decide +kernel
theorem dX12_valley_7 : decode cX12_valley 7 = .ok (.if_icmp .ne 6, 3) := by decide +kernel
theorem dX12_valley_10 : decode cX12_valley 10 = .ok (.bipush (-4), 2) := by decide +kernel
theorem dX12_valley_12 : decode cX12_valley 12 = .ok (.ireturn, 1) := by decide +kernel
theorem dX12_valley_13 : decode cX12_valley 13 = .ok (.aload_n 0, 1) := by decide +kernel
theorem dX12_valley_14 : decode cX12_valley 14 = .ok (.aload_n 0, 1) := by decide +kernel
theorem dX12_valley_15 : decode cX12_valley 15 = .ok (.getfield 9, 3) := by decide +kernel
theorem dX12_valley_18 : decode cX12_valley 18 = .ok (.iconst 3, 1) := by decide +kernel
theorem dX12_valley_19 : decode cX12_valley 19 = .ok (.iaload, 1) := by decide +kernel
theorem dX12_valley_20 : decode cX12_valley 20 = .ok (.putfield 91, 3) := by decide +kernel
theorem dX12_valley_23 : decode cX12_valley 23 = .ok (.aload_n 0, 1) := by decide +kernel
theorem dX12_valley_24 : decode cX12_valley 24 = .ok (.aload_n 0, 1) := by decide +kernel
theorem dX12_valley_25 : decode cX12_valley 25 = .ok (.getfield 9, 3) := by decide +kernel
theorem dX12_valley_28 : decode cX12_valley 28 = .ok (.bipush 6, 2) := by decide +kernel
theorem dX12_valley_30 : decode cX12_valley 30 = .ok (.iaload, 1) := by decide +kernel
theorem dX12_valley_31 : decode cX12_valley 31 = .ok (.putfield 67, 3) := by decide +kernel
theorem dX12_valley_34 : decode cX12_valley 34 = .ok (.aload_n 0, 1) := by decide +kernel
theorem dX12_valley_35 : decode cX12_valley 35 = .ok (.getfield 9, 3) := by decide +kernel
theorem dX12_valley_38 : decode cX12_valley 38 = .ok (.bipush 6, 2) := by decide +kernel
theorem dX12_valley_40 : decode cX12_valley 40 = .ok (.iconst 0, 1) := by decide +kernel
theorem dX12_valley_41 : decode cX12_valley 41 = .ok (.iastore, 1) := by decide +kernel
theorem dX12_valley_42 : decode cX12_valley 42 = .ok (.aload_n 0, 1) := by decide +kernel
theorem dX12_valley_43 : decode cX12_valley 43 = .ok (.getfield 9, 3) := by decide +kernel
theorem dX12_valley_46 : decode cX12_valley 46 = .ok (.sipush 284, 3) := by decide +kernel
theorem dX12_valley_49 : decode cX12_valley 49 = .ok (.aload_n 0, 1) := by decide +kernel
theorem dX12_valley_50 : decode cX12_valley 50 = .ok (.getfield 91, 3) := by decide +kernel
theorem dX12_valley_53 : decode cX12_valley 53 = .ok (.iadd, 1) := by decide +kernel
theorem dX12_valley_54 : decode cX12_valley 54 = .ok (.iconst 0, 1) := by decide +kernel
theorem dX12_valley_55 : decode cX12_valley 55 = .ok (.iastore, 1) := by decide +kernel
theorem dX12_valley_56 : decode cX12_valley 56 = .ok (.aload_n 0, 1) := by decide +kernel
theorem dX12_valley_57 : decode cX12_valley 57 = .ok (.getfield 9, 3) := by decide +kernel
theorem dX12_valley_60 : decode cX12_valley 60 = .ok (.sipush 289, 3) := by decide +kernel
theorem dX12_valley_63 : decode cX12_valley 63 = .ok (.aload_n 0, 1) := by decide +kernel
theorem dX12_valley_64 : decode cX12_valley 64 = .ok (.getfield 91, 3) := by decide +kernel
theorem dX12_valley_67 : decode cX12_valley 67 = .ok (.iadd, 1) := by decide +kernel
theorem dX12_valley_68 : decode cX12_valley 68 = .ok (.bipush 9, 2) := by decide +kernel
theorem dX12_valley_70 : decode cX12_valley 70 = .ok (.iastore, 1) := by decide +kernel
theorem dX12_valley_71 : decode cX12_valley 71 = .ok (.aload_n 0, 1) := by decide +kernel
theorem dX12_valley_72 : decode cX12_valley 72 = .ok (.getfield 9, 3) := by decide +kernel
theorem dX12_valley_75 : decode cX12_valley 75 = .ok (.sipush 294, 3) := by decide +kernel
theorem dX12_valley_78 : decode cX12_valley 78 = .ok (.aload_n 0, 1) := by decide +kernel
theorem dX12_valley_79 : decode cX12_valley 79 = .ok (.getfield 91, 3) := by decide +kernel
theorem dX12_valley_82 : decode cX12_valley 82 = .ok (.iadd, 1) := by decide +kernel
theorem dX12_valley_83 : decode cX12_valley 83 = .ok (.iconst 0, 1) := by decide +kernel
theorem dX12_valley_84 : decode cX12_valley 84 = .ok (.iastore, 1) := by decide +kernel
theorem dX12_valley_85 : decode cX12_valley 85 = .ok (.aload_n 0, 1) := by decide +kernel
theorem dX12_valley_86 : decode cX12_valley 86 = .ok (.iconst 0, 1) := by decide +kernel
theorem dX12_valley_87 : decode cX12_valley 87 = .ok (.putfield 64, 3) := by decide +kernel
theorem dX12_valley_90 : decode cX12_valley 90 = .ok (.aload_n 0, 1) := by decide +kernel
theorem dX12_valley_91 : decode cX12_valley 91 = .ok (.iconst 0, 1) := by decide +kernel
theorem dX12_valley_92 : decode cX12_valley 92 = .ok (.putfield 70, 3) := by decide +kernel
theorem dX12_valley_95 : decode cX12_valley 95 = .ok (.aload_n 0, 1) := by decide +kernel
theorem dX12_valley_96 : decode cX12_valley 96 = .ok (.iconst 0, 1) := by decide +kernel
theorem dX12_valley_97 : decode cX12_valley 97 = .ok (.putfield 94, 3) := by decide +kernel
theorem dX12_valley_100 : decode cX12_valley 100 = .ok (.iconst 1, 1) := by decide +kernel
theorem dX12_valley_101 : decode cX12_valley 101 = .ok (.istore_n 1, 1) := by decide +kernel
theorem dX12_valley_102 : decode cX12_valley 102 = .ok (.aload_n 0, 1) := by decide +kernel
theorem dX12_valley_103 : decode cX12_valley 103 = .ok (.invokevirtual 142, 3) := by decide +kernel
theorem dX12_valley_106 : decode cX12_valley 106 = .ok (.aload_n 0, 1) := by decide +kernel
theorem dX12_valley_107 : decode cX12_valley 107 = .ok (.getfield 70, 3) := by decide +kernel
theorem dX12_valley_110 : decode cX12_valley 110 = .ok (.ifCond .ne 38, 3) := by decide +kernel
theorem dX12_valley_113 : decode cX12_valley 113 = .ok (.iload_n 1, 1) := by decide +kernel
theorem dX12_valley_114 : decode cX12_valley 114 = .ok (.bipush 10, 2) := by decide +kernel
theorem dX12_valley_116 : decode cX12_valley 116 = .ok (.if_icmp .ge 32, 3) := by decide +kernel
theorem dX12_valley_119 : decode cX12_valley 119 = .ok (.aload_n 0, 1) := by decide +kernel
theorem dX12_valley_120 : decode cX12_valley 120 = .ok (.invokevirtual 74, 3) := by decide +kernel
theorem dX12_valley_123 : decode cX12_valley 123 = .ok (.bipush 59, 2) := by decide +kernel
theorem dX12_valley_125 : decode cX12_valley 125 = .ok (.if_icmp .ne 23, 3) := by decide +kernel
theorem dX12_valley_128 : decode cX12_valley 128 = .ok (.aload_n 0, 1) := by decide +kernel
theorem dX12_valley_129 : decode cX12_valley 129 = .ok (.dup, 1) := by decide +kernel
theorem dX12_valley_130 : decode cX12_valley 130 = .ok (.getfield 64, 3) := by decide +kernel
theorem dX12_valley_133 : decode cX12_valley 133 = .ok (.iconst 1, 1) := by decide +kernel
theorem dX12_valley_134 : decode cX12_valley 134 = .ok (.iadd, 1) := by decide +kernel
theorem dX12_valley_135 : decode cX12_valley 135 = .ok (.putfield 64, 3) := by decide +kernel
theorem dX12_valley_138 : decode cX12_valley 138 = .ok (.aload_n 0, 1) := by decide +kernel
theorem dX12_valley_139 : decode cX12_valley 139 = .ok (.invokevirtual 142, 3) := by decide +kernel
theorem dX12_valley_142 : decode cX12_valley 142 = .ok (.iinc 1 1, 3) := by decide +kernel
theorem dX12_valley_145 : decode cX12_valley 145 = .ok (.goto (-39), 3) := by decide +kernel
theorem dX12_valley_148 : decode cX12_valley 148 = .ok (.aload_n 0, 1) := by decide +kernel
theorem dX12_valley_149 : decode cX12_valley 149 = .ok (.getfield 70, 3) := by decide +kernel
theorem dX12_valley_152 : decode cX12_valley 152 = .ok (.ifCond .ne 14, 3) := by decide +kernel
theorem dX12_valley_155 : decode cX12_valley 155 = .ok (.aload_n 0, 1) := by decide +kernel
theorem dX12_valley_156 : decode cX12_valley 156 = .ok (.getfield 64, 3) := by decide +kernel
theorem dX12_valley_159 : decode cX12_valley 159 = .ok (.aload_n 0, 1) := by decide +kernel
theorem dX12_valley_160 : decode cX12_valley 160 = .ok (.getfield 67, 3) := by decide +kernel
theorem dX12_valley_163 : decode cX12_valley 163 = .ok (.if_icmp .eq 11, 3) := by decide +kernel
theorem dX12_valley_166 : decode cX12_valley 166 = .ok (.bipush (-10), 2) := by decide +kernel
theorem dX12_valley_168 : decode cX12_valley 168 = .ok (.aload_n 0, 1) := by decide +kernel
theorem dX12_valley_169 : decode cX12_valley 169 = .ok (.getfield 64, 3) := by decide +kernel
theorem dX12_valley_172 : decode cX12_valley 172 = .ok (.isub, 1) := by decide +kernel
theorem dX12_valley_173 : decode cX12_valley 173 = .ok (.ireturn, 1) := by decide +kernel
theorem dX12_valley_174 : decode cX12_valley 174 = .ok (.aload_n 0, 1) := by decide +kernel
theorem dX12_valley_175 : decode cX12_valley 175 = .ok (.getfield 9, 3) := by decide +kernel
theorem dX12_valley_178 : decode cX12_valley 178 = .ok (.iconst 3, 1) := by decide +kernel
theorem dX12_valley_179 : decode cX12_valley 179 = .ok (.dup2, 1) := by decide +kernel
theorem dX12_valley_180 : decode cX12_valley 180 = .ok (.iaload, 1) := by decide +kernel
theorem dX12_valley_181 : decode cX12_valley 181 = .ok (.iconst 1, 1) := by decide +kernel
theorem dX12_valley_182 : decode cX12_valley 182 = .ok (.iadd, 1) := by decide +kernel
theorem dX12_valley_183 : decode cX12_valley 183 = .ok (.iastore, 1) := by decide +kernel
theorem dX12_valley_184 : decode cX12_valley 184 = .ok (.aload_n 0, 1) := by decide +kernel
theorem dX12_valley_185 : decode cX12_valley 185 = .ok (.getfield 9, 3) := by decide +kernel
theorem dX12_valley_188 : decode cX12_valley 188 = .ok (.bipush 7, 2) := by decide +kernel
theorem dX12_valley_190 : decode cX12_valley 190 = .ok (.aload_n 0, 1) := by decide +kernel
theorem dX12_valley_191 : decode cX12_valley 191 = .ok (.getfield 91, 3) := by decide +kernel
theorem dX12_valley_194 : decode cX12_valley 194 = .ok (.iastore, 1) := by decide +kernel
theorem dX12_valley_195 : decode cX12_valley 195 = .ok (.aload_n 0, 1) := by decide +kernel
theorem dX12_valley_196 : decode cX12_valley 196 = .ok (.getfield 91, 3) := by decide +kernel
theorem dX12_valley_199 : decode cX12_valley 199 = .ok (.ireturn, 1) := by decide +kernel
theorem dX12_tellsOf_0 : decode cX12_tellsOf 0 = .ok (.aload_n 0, 1) := by decide +kernel
theorem dX12_tellsOf_1 : decode cX12_tellsOf 1 = .ok (.getfield 9, 3) := by decide +kernel
theorem dX12_tellsOf_4 : decode cX12_tellsOf 4 = .ok (.bipush 7, 2) := by decide +kernel
theorem dX12_tellsOf_6 : decode cX12_tellsOf 6 = .ok (.iaload, 1) := by decide +kernel
theorem dX12_tellsOf_7 : decode cX12_tellsOf 7 = .ok (.iconst (-1), 1) := by decide +kernel
theorem dX12_tellsOf_8 : decode cX12_tellsOf 8 = .ok (.if_icmp .ne 7, 3) := by decide +kernel
theorem dX12_tellsOf_11 : decode cX12_tellsOf 11 = .ok (.iload_n 2, 1) := by decide +kernel
theorem dX12_tellsOf_12 : decode cX12_tellsOf 12 = .ok (.goto 17, 3) := by decide +kernel
theorem dX12_tellsOf_15 : decode cX12_tellsOf 15 = .ok (.aload_n 0, 1) := by decide +kernel
theorem dX12_tellsOf_16 : decode cX12_tellsOf 16 = .ok (.getfield 9, 3) := by decide +kernel
theorem dX12_tellsOf_19 : decode cX12_tellsOf 19 = .ok (.iload_n 1, 1) := by decide +kernel
theorem dX12_tellsOf_20 : decode cX12_tellsOf 20 = .ok (.aload_n 0, 1) := by decide +kernel
theorem dX12_tellsOf_21 : decode cX12_tellsOf 21 = .ok (.getfield 9, 3) := by decide +kernel
theorem dX12_tellsOf_24 : decode cX12_tellsOf 24 = .ok (.bipush 7, 2) := by decide +kernel
theorem dX12_tellsOf_26 : decode cX12_tellsOf 26 = .ok (.iaload, 1) := by decide +kernel
theorem dX12_tellsOf_27 : decode cX12_tellsOf 27 = .ok (.iadd, 1) := by decide +kernel
theorem dX12_tellsOf_28 : decode cX12_tellsOf 28 = .ok (.iaload, 1) := by decide +kernel
theorem dX12_tellsOf_29 : decode cX12_tellsOf 29 = .ok (.ireturn, 1) := by decide +kernel
theorem dX12_isSo_0 : decode cX12_isSo 0 = .ok (.aload_n 0, 1) := by decide +kernel
theorem dX12_isSo_1 : decode cX12_isSo 1 = .ok (.getfield 18, 3) := by decide +kernel
theorem dX12_isSo_4 : decode cX12_isSo 4 = .ok (.iconst 0, 1) := by decide +kernel
theorem dX12_isSo_5 : decode cX12_isSo 5 = .ok (.iload_n 2, 1) := by decide +kernel
theorem dX12_isSo_6 : decode cX12_isSo 6 = .ok (.iastore, 1) := by decide +kernel
theorem dX12_isSo_7 : decode cX12_isSo 7 = .ok (.aload_n 0, 1) := by decide +kernel
theorem dX12_isSo_8 : decode cX12_isSo 8 = .ok (.getfield 18, 3) := by decide +kernel
theorem dX12_isSo_11 : decode cX12_isSo 11 = .ok (.iconst 1, 1) := by decide +kernel
theorem dX12_isSo_12 : decode cX12_isSo 12 = .ok (.iload_n 3, 1) := by decide +kernel
theorem dX12_isSo_13 : decode cX12_isSo 13 = .ok (.iastore, 1) := by decide +kernel
theorem dX12_isSo_14 : decode cX12_isSo 14 = .ok (.aload_n 0, 1) := by decide +kernel
theorem dX12_isSo_15 : decode cX12_isSo 15 = .ok (.getfield 18, 3) := by decide +kernel
theorem dX12_isSo_18 : decode cX12_isSo 18 = .ok (.iconst 2, 1) := by decide +kernel
theorem dX12_isSo_19 : decode cX12_isSo 19 = .ok (.iload 4, 2) := by decide +kernel
theorem dX12_isSo_21 : decode cX12_isSo 21 = .ok (.iastore, 1) := by decide +kernel
theorem dX12_isSo_22 : decode cX12_isSo 22 = .ok (.aload_n 0, 1) := by decide +kernel
theorem dX12_isSo_23 : decode cX12_isSo 23 = .ok (.getfield 18, 3) := by decide +kernel
theorem dX12_isSo_26 : decode cX12_isSo 26 = .ok (.iconst 3, 1) := by decide +kernel
theorem dX12_isSo_27 : decode cX12_isSo 27 = .ok (.aload_n 0, 1) := by decide +kernel
theorem dX12_isSo_28 : decode cX12_isSo 28 = .ok (.getfield 145, 3) := by decide +kernel
theorem dX12_isSo_31 : decode cX12_isSo 31 = .ok (.iastore, 1) := by decide +kernel
theorem dX12_isSo_32 : decode cX12_isSo 32 = .ok (.aload_n 0, 1) := by decide +kernel
theorem dX12_isSo_33 : decode cX12_isSo 33 = .ok (.getfield 18, 3) := by decide +kernel
theorem dX12_isSo_36 : decode cX12_isSo 36 = .ok (.iconst 4, 1) := by decide +kernel
theorem dX12_isSo_37 : decode cX12_isSo 37 = .ok (.iload_n 2, 1) := by decide +kernel
theorem dX12_isSo_38 : decode cX12_isSo 38 = .ok (.bipush 99, 2) := by decide +kernel
theorem dX12_isSo_40 : decode cX12_isSo 40 = .ok (.if_icmp .ne 7, 3) := by decide +kernel
theorem dX12_isSo_43 : decode cX12_isSo 43 = .ok (.iconst 0, 1) := by decide +kernel
theorem dX12_isSo_44 : decode cX12_isSo 44 = .ok (.goto 13, 3) := by decide +kernel
theorem dX12_isSo_47 : decode cX12_isSo 47 = .ok (.aload_n 0, 1) := by decide +kernel
theorem dX12_isSo_48 : decode cX12_isSo 48 = .ok (.getfield 9, 3) := by decide +kernel
theorem dX12_isSo_51 : decode cX12_isSo 51 = .ok (.sipush 148, 3) := by decide +kernel
theorem dX12_isSo_54 : decode cX12_isSo 54 = .ok (.iload_n 2, 1) := by decide +kernel
theorem dX12_isSo_55 : decode cX12_isSo 55 = .ok (.iadd, 1) := by decide +kernel
theorem dX12_isSo_56 : decode cX12_isSo 56 = .ok (.iaload, 1) := by decide +kernel
theorem dX12_isSo_57 : decode cX12_isSo 57 = .ok (.iastore, 1) := by decide +kernel
theorem dX12_isSo_58 : decode cX12_isSo 58 = .ok (.aload_n 0, 1) := by decide +kernel
theorem dX12_isSo_59 : decode cX12_isSo 59 = .ok (.sipush 294, 3) := by decide +kernel
theorem dX12_isSo_62 : decode cX12_isSo 62 = .ok (.iconst 0, 1) := by decide +kernel
theorem dX12_isSo_63 : decode cX12_isSo 63 = .ok (.invokevirtual 148, 3) := by decide +kernel
theorem dX12_isSo_66 : decode cX12_isSo 66 = .ok (.istore 5, 2) := by decide +kernel
theorem dX12_isSo_68 : decode cX12_isSo 68 = .ok (.sipush 299, 3) := by decide +kernel
theorem dX12_isSo_71 : decode cX12_isSo 71 = .ok (.sipush 140, 3) := by decide +kernel
theorem dX12_isSo_74 : decode cX12_isSo 74 = .ok (.aload_n 0, 1) := by decide +kernel
theorem dX12_isSo_75 : decode cX12_isSo 75 = .ok (.getfield 9, 3) := by decide +kernel
theorem dX12_isSo_78 : decode cX12_isSo 78 = .ok (.bipush 7, 2) := by decide +kernel
theorem dX12_isSo_80 : decode cX12_isSo 80 = .ok (.iaload, 1) := by decide +kernel
theorem dX12_isSo_81 : decode cX12_isSo 81 = .ok (.imul, 1) := by decide +kernel
theorem dX12_isSo_82 : decode cX12_isSo 82 = .ok (.iadd, 1) := by decide +kernel
theorem dX12_isSo_83 : decode cX12_isSo 83 = .ok (.istore 6, 2) := by decide +kernel
theorem dX12_isSo_85 : decode cX12_isSo 85 = .ok (.iconst 0, 1) := by decide +kernel
theorem dX12_isSo_86 : decode cX12_isSo 86 = .ok (.istore 7, 2) := by decide +kernel
theorem dX12_isSo_88 : decode cX12_isSo 88 = .ok (.iconst 0, 1) := by decide +kernel
theorem dX12_isSo_89 : decode cX12_isSo 89 = .ok (.istore 8, 2) := by decide +kernel
theorem dX12_isSo_91 : decode cX12_isSo 91 = .ok (.iload 6, 2) := by decide +kernel
theorem dX12_isSo_93 : decode cX12_isSo 93 = .ok (.istore 9, 2) := by decide +kernel
theorem dX12_isSo_95 : decode cX12_isSo 95 = .ok (.iload 9, 2) := by decide +kernel
theorem dX12_isSo_97 : decode cX12_isSo 97 = .ok (.iload 6, 2) := by decide +kernel
theorem dX12_isSo_99 : decode cX12_isSo 99 = .ok (.iload 5, 2) := by decide +kernel
theorem dX12_isSo_101 : decode cX12_isSo 101 = .ok (.iadd, 1) := by decide +kernel
theorem dX12_isSo_102 : decode cX12_isSo 102 = .ok (.if_icmp .ge 268, 3) := by decide +kernel
theorem dX12_isSo_105 : decode cX12_isSo 105 = .ok (.aload_n 0, 1) := by decide +kernel
theorem dX12_isSo_106 : decode cX12_isSo 106 = .ok (.getfield 9, 3) := by decide +kernel
theorem dX12_isSo_109 : decode cX12_isSo 109 = .ok (.iload 9, 2) := by decide +kernel
theorem dX12_isSo_111 : decode cX12_isSo 111 = .ok (.iaload, 1) := by decide +kernel
theorem dX12_isSo_112 : decode cX12_isSo 112 = .ok (.istore 10, 2) := by decide +kernel
theorem dX12_isSo_114 : decode cX12_isSo 114 = .ok (.iload 10, 2) := by decide +kernel
theorem dX12_isSo_116 : decode cX12_isSo 116 = .ok (.ifCond .lt 97, 3) := by decide +kernel
theorem dX12_isSo_119 : decode cX12_isSo 119 = .ok (.iload 10, 2) := by decide +kernel
theorem dX12_isSo_121 : decode cX12_isSo 121 = .ok (.bipush 32, 2) := by decide +kernel
theorem dX12_isSo_123 : decode cX12_isSo 123 = .ok (.idiv, 1) := by decide +kernel
theorem dX12_isSo_124 : decode cX12_isSo 124 = .ok (.istore 11, 2) := by decide +kernel
theorem dX12_isSo_126 : decode cX12_isSo 126 = .ok (.iload 10, 2) := by decide +kernel
theorem dX12_isSo_128 : decode cX12_isSo 128 = .ok (.bipush 8, 2) := by decide +kernel
theorem dX12_isSo_130 : decode cX12_isSo 130 = .ok (.idiv, 1) := by decide +kernel
theorem dX12_isSo_131 : decode cX12_isSo 131 = .ok (.iconst 4, 1) := by decide +kernel
theorem dX12_isSo_132 : decode cX12_isSo 132 = .ok (.irem, 1) := by decide +kernel
theorem dX12_isSo_133 : decode cX12_isSo 133 = .ok (.istore 12, 2) := by decide +kernel
theorem dX12_isSo_135 : decode cX12_isSo 135 = .ok (.aload_n 0, 1) := by decide +kernel
theorem dX12_isSo_136 : decode cX12_isSo 136 = .ok (.getfield 18, 3) := by decide +kernel
theorem dX12_isSo_139 : decode cX12_isSo 139 = .ok (.iload 10, 2) := by decide +kernel
theorem dX12_isSo_141 : decode cX12_isSo 141 = .ok (.bipush 8, 2) := by decide +kernel
theorem dX12_isSo_143 : decode cX12_isSo 143 = .ok (.irem, 1) := by decide +kernel
theorem dX12_isSo_144 : decode cX12_isSo 144 = .ok (.iaload, 1) := by decide +kernel
theorem dX12_isSo_145 : decode cX12_isSo 145 = .ok (.istore 13, 2) := by decide +kernel
theorem dX12_isSo_147 : decode cX12_isSo 147 = .ok (.aload_n 0, 1) := by decide +kernel
theorem dX12_isSo_148 : decode cX12_isSo 148 = .ok (.getfield 21, 3) := by decide +kernel
theorem dX12_isSo_151 : decode cX12_isSo 151 = .ok (.iload 7, 2) := by decide +kernel
theorem dX12_isSo_153 : decode cX12_isSo 153 = .ok (.iload 12, 2) := by decide +kernel
theorem dX12_isSo_155 : decode cX12_isSo 155 = .ok (.ifCond .ne 18, 3) := by decide +kernel
theorem dX12_isSo_158 : decode cX12_isSo 158 = .ok (.iload 13, 2) := by decide +kernel
theorem dX12_isSo_160 : decode cX12_isSo 160 = .ok (.iload 11, 2) := by decide +kernel
theorem dX12_isSo_162 : decode cX12_isSo 162 = .ok (.if_icmp .ge 7, 3) := by decide +kernel
theorem dX12_isSo_165 : decode cX12_isSo 165 = .ok (.iconst 1, 1) := by decide +kernel
theorem dX12_isSo_166 : decode cX12_isSo 166 = .ok (.goto 40, 3) := by decide +kernel
theorem dX12_isSo_169 : decode cX12_isSo 169 = .ok (.iconst 0, 1) := by decide +kernel
theorem dX12_isSo_170 : decode cX12_isSo 170 = .ok (.goto 36, 3) := by decide +kernel
theorem dX12_isSo_173 : decode cX12_isSo 173 = .ok (.iload 12, 2) := by decide +kernel
theorem dX12_isSo_175 : decode cX12_isSo 175 = .ok (.iconst 1, 1) := by decide +kernel
theorem dX12_isSo_176 : decode cX12_isSo 176 = .ok (.if_icmp .ne 18, 3) := by decide +kernel
theorem dX12_isSo_179 : decode cX12_isSo 179 = .ok (.iload 13, 2) := by decide +kernel
theorem dX12_isSo_181 : decode cX12_isSo 181 = .ok (.iload 11, 2) := by decide +kernel
theorem dX12_isSo_183 : decode cX12_isSo 183 = .ok (.if_icmp .ne 7, 3) := by decide +kernel
theorem dX12_isSo_186 : decode cX12_isSo 186 = .ok (.iconst 1, 1) := by decide +kernel
theorem dX12_isSo_187 : decode cX12_isSo 187 = .ok (.goto 19, 3) := by decide +kernel
theorem dX12_isSo_190 : decode cX12_isSo 190 = .ok (.iconst 0, 1) := by decide +kernel
theorem dX12_isSo_191 : decode cX12_isSo 191 = .ok (.goto 15, 3) := by decide +kernel
theorem dX12_isSo_194 : decode cX12_isSo 194 = .ok (.iload 13, 2) := by decide +kernel
theorem dX12_isSo_196 : decode cX12_isSo 196 = .ok (.iload 11, 2) := by decide +kernel
theorem dX12_isSo_198 : decode cX12_isSo 198 = .ok (.if_icmp .le 7, 3) := by decide +kernel
theorem dX12_isSo_201 : decode cX12_isSo 201 = .ok (.iconst 1, 1) := by decide +kernel
theorem dX12_isSo_202 : decode cX12_isSo 202 = .ok (.goto 4, 3) := by decide +kernel
theorem dX12_isSo_205 : decode cX12_isSo 205 = .ok (.iconst 0, 1) := by decide +kernel
theorem dX12_isSo_206 : decode cX12_isSo 206 = .ok (.bastore, 1) := by decide +kernel
theorem dX12_isSo_207 : decode cX12_isSo 207 = .ok (.iinc 7 1, 3) := by decide +kernel
theorem dX12_isSo_210 : decode cX12_isSo 210 = .ok (.goto 154, 3) := by decide +kernel
theorem dX12_isSo_213 : decode cX12_isSo 213 = .ok (.iload 10, 2) := by decide +kernel
theorem dX12_isSo_215 : decode cX12_isSo 215 = .ok (.iconst (-1), 1) := by decide +kernel
theorem dX12_isSo_216 : decode cX12_isSo 216 = .ok (.if_icmp .ne 32, 3) := by decide +kernel
theorem dX12_isSo_219 : decode cX12_isSo 219 = .ok (.aload_n 0, 1) := by decide +kernel
theorem dX12_isSo_220 : decode cX12_isSo 220 = .ok (.getfield 21, 3) := by decide +kernel
theorem dX12_isSo_223 : decode cX12_isSo 223 = .ok (.iload 7, 2) := by decide +kernel
theorem dX12_isSo_225 : decode cX12_isSo 225 = .ok (.iconst 1, 1) := by decide +kernel
theorem dX12_isSo_226 : decode cX12_isSo 226 = .ok (.isub, 1) := by decide +kernel
theorem dX12_isSo_227 : decode cX12_isSo 227 = .ok (.aload_n 0, 1) := by decide +kernel
theorem dX12_isSo_228 : decode cX12_isSo 228 = .ok (.getfield 21, 3) := by decide +kernel
theorem dX12_isSo_231 : decode cX12_isSo 231 = .ok (.iload 7, 2) := by decide +kernel
theorem dX12_isSo_233 : decode cX12_isSo 233 = .ok (.iconst 1, 1) := by decide +kernel
theorem dX12_isSo_234 : decode cX12_isSo 234 = .ok (.isub, 1) := by decide +kernel
theorem dX12_isSo_235 : decode cX12_isSo 235 = .ok (.baload, 1) := by decide +kernel
theorem dX12_isSo_236 : decode cX12_isSo 236 = .ok (.ifCond .ne 7, 3) := by decide +kernel
theorem dX12_isSo_239 : decode cX12_isSo 239 = .ok (.iconst 1, 1) := by decide +kernel
theorem dX12_isSo_240 : decode cX12_isSo 240 = .ok (.goto 4, 3) := by decide +kernel
theorem dX12_isSo_243 : decode cX12_isSo 243 = .ok (.iconst 0, 1) := by decide +kernel
theorem dX12_isSo_244 : decode cX12_isSo 244 = .ok (.bastore, 1) := by decide +kernel
theorem dX12_isSo_245 : decode cX12_isSo 245 = .ok (.goto 119, 3) := by decide +kernel
theorem dX12_isSo_248 : decode cX12_isSo 248 = .ok (.iload 10, 2) := by decide +kernel
theorem dX12_isSo_250 : decode cX12_isSo 250 = .ok (.bipush (-11), 2) := by decide +kernel
theorem dX12_isSo_252 : decode cX12_isSo 252 = .ok (.if_icmp .le 82, 3) := by decide +kernel
theorem dX12_isSo_255 : decode cX12_isSo 255 = .ok (.iinc 7 (-1), 3) := by decide +kernel
theorem dX12_isSo_258 : decode cX12_isSo 258 = .ok (.aload_n 0, 1) := by decide +kernel
theorem dX12_isSo_259 : decode cX12_isSo 259 = .ok (.getfield 21, 3) := by decide +kernel
theorem dX12_isSo_262 : decode cX12_isSo 262 = .ok (.iload 7, 2) := by decide +kernel
theorem dX12_isSo_264 : decode cX12_isSo 264 = .ok (.iconst 1, 1) := by decide +kernel
theorem dX12_isSo_265 : decode cX12_isSo 265 = .ok (.isub, 1) := by decide +kernel
theorem dX12_isSo_266 : decode cX12_isSo 266 = .ok (.iload 10, 2) := by decide +kernel
theorem dX12_isSo_268 : decode cX12_isSo 268 = .ok (.bipush (-2), 2) := by decide +kernel
theorem dX12_isSo_270 : decode cX12_isSo 270 = .ok (.if_icmp .ne 33, 3) := by decide +kernel
theorem dX12_isSo_273 : decode cX12_isSo 273 = .ok (.aload_n 0, 1) := by decide +kernel
theorem dX12_isSo_274 : decode cX12_isSo 274 = .ok (.getfield 21, 3) := by decide +kernel
theorem dX12_isSo_277 : decode cX12_isSo 277 = .ok (.iload 7, 2) := by decide +kernel
theorem dX12_isSo_279 : decode cX12_isSo 279 = .ok (.iconst 1, 1) := by decide +kernel
theorem dX12_isSo_280 : decode cX12_isSo 280 = .ok (.isub, 1) := by decide +kernel
theorem dX12_isSo_281 : decode cX12_isSo 281 = .ok (.baload, 1) := by decide +kernel
theorem dX12_isSo_282 : decode cX12_isSo 282 = .ok (.ifCond .eq 17, 3) := by decide +kernel
theorem dX12_isSo_285 : decode cX12_isSo 285 = .ok (.aload_n 0, 1) := by decide +kernel
theorem dX12_isSo_286 : decode cX12_isSo 286 = .ok (.getfield 21, 3) := by decide +kernel
theorem dX12_isSo_289 : decode cX12_isSo 289 = .ok (.iload 7, 2) := by decide +kernel
theorem dX12_isSo_291 : decode cX12_isSo 291 = .ok (.baload, 1) := by decide +kernel
theorem dX12_isSo_292 : decode cX12_isSo 292 = .ok (.ifCond .eq 7, 3) := by decide +kernel
theorem dX12_isSo_295 : decode cX12_isSo 295 = .ok (.iconst 1, 1) := by decide +kernel
theorem dX12_isSo_296 : decode cX12_isSo 296 = .ok (.goto 34, 3) := by decide +kernel
theorem dX12_isSo_299 : decode cX12_isSo 299 = .ok (.iconst 0, 1) := by decide +kernel
theorem dX12_isSo_300 : decode cX12_isSo 300 = .ok (.goto 30, 3) := by decide +kernel
theorem dX12_isSo_303 : decode cX12_isSo 303 = .ok (.aload_n 0, 1) := by decide +kernel
theorem dX12_isSo_304 : decode cX12_isSo 304 = .ok (.getfield 21, 3) := by decide +kernel
theorem dX12_isSo_307 : decode cX12_isSo 307 = .ok (.iload 7, 2) := by decide +kernel
theorem dX12_isSo_309 : decode cX12_isSo 309 = .ok (.iconst 1, 1) := by decide +kernel
theorem dX12_isSo_310 : decode cX12_isSo 310 = .ok (.isub, 1) := by decide +kernel
theorem dX12_isSo_311 : decode cX12_isSo 311 = .ok (.baload, 1) := by decide +kernel
theorem dX12_isSo_312 : decode cX12_isSo 312 = .ok (.ifCond .ne 13, 3) := by decide +kernel
theorem dX12_isSo_315 : decode cX12_isSo 315 = .ok (.aload_n 0, 1) := by decide +kernel
theorem dX12_isSo_316 : decode cX12_isSo 316 = .ok (.getfield 21, 3) := by decide +kernel
theorem dX12_isSo_319 : decode cX12_isSo 319 = .ok (.iload 7, 2) := by decide +kernel
theorem dX12_isSo_321 : decode cX12_isSo 321 = .ok (.baload, 1) := by decide +kernel
theorem dX12_isSo_322 : decode cX12_isSo 322 = .ok (.ifCond .eq 7, 3) := by decide +kernel
theorem dX12_isSo_325 : decode cX12_isSo 325 = .ok (.iconst 1, 1) := by decide +kernel
theorem dX12_isSo_326 : decode cX12_isSo 326 = .ok (.goto 4, 3) := by decide +kernel
theorem dX12_isSo_329 : decode cX12_isSo 329 = .ok (.iconst 0, 1) := by decide +kernel
theorem dX12_isSo_330 : decode cX12_isSo 330 = .ok (.bastore, 1) := by decide +kernel
theorem dX12_isSo_331 : decode cX12_isSo 331 = .ok (.goto 33, 3) := by decide +kernel
theorem dX12_isSo_334 : decode cX12_isSo 334 = .ok (.iconst 0, 1) := by decide +kernel
theorem dX12_isSo_335 : decode cX12_isSo 335 = .ok (.istore 7, 2) := by decide +kernel
theorem dX12_isSo_337 : decode cX12_isSo 337 = .ok (.iload 8, 2) := by decide +kernel
theorem dX12_isSo_339 : decode cX12_isSo 339 = .ok (.ifCond .ne 18, 3) := by decide +kernel
theorem dX12_isSo_342 : decode cX12_isSo 342 = .ok (.iload 10, 2) := by decide +kernel
theorem dX12_isSo_344 : decode cX12_isSo 344 = .ok (.iload_n 1, 1) := by decide +kernel
theorem dX12_isSo_345 : decode cX12_isSo 345 = .ok (.if_icmp .ne 16, 3) := by decide +kernel
theorem dX12_isSo_348 : decode cX12_isSo 348 = .ok (.aload_n 0, 1) := by decide +kernel
theorem dX12_isSo_349 : decode cX12_isSo 349 = .ok (.getfield 21, 3) := by decide +kernel
theorem dX12_isSo_352 : decode cX12_isSo 352 = .ok (.iconst 0, 1) := by decide +kernel
theorem dX12_isSo_353 : decode cX12_isSo 353 = .ok (.baload, 1) := by decide +kernel
theorem dX12_isSo_354 : decode cX12_isSo 354 = .ok (.ifCond .eq 7, 3) := by decide +kernel
theorem dX12_isSo_357 : decode cX12_isSo 357 = .ok (.iconst 1, 1) := by decide +kernel
theorem dX12_isSo_358 : decode cX12_isSo 358 = .ok (.goto 4, 3) := by decide +kernel
theorem dX12_isSo_361 : decode cX12_isSo 361 = .ok (.iconst 0, 1) := by decide +kernel
theorem dX12_isSo_362 : decode cX12_isSo 362 = .ok (.istore 8, 2) := by decide +kernel
theorem dX12_isSo_364 : decode cX12_isSo 364 = .ok (.iinc 9 1, 3) := by decide +kernel
theorem dX12_isSo_367 : decode cX12_isSo 367 = .ok (.goto (-272), 3) := by decide +kernel
theorem dX12_isSo_370 : decode cX12_isSo 370 = .ok (.iload 8, 2) := by decide +kernel
theorem dX12_isSo_372 : decode cX12_isSo 372 = .ok (.ireturn, 1) := by decide +kernel
theorem dX12_isBetween_0 : decode cX12_isBetween 0 = .ok (.iload 5, 2) := by decide +kernel
theorem dX12_isBetween_2 : decode cX12_isBetween 2 = .ok (.iload_n 2, 1) := by decide +kernel
theorem dX12_isBetween_3 : decode cX12_isBetween 3 = .ok (.isub, 1) := by decide +kernel
theorem dX12_isBetween_4 : decode cX12_isBetween 4 = .ok (.istore 8, 2) := by decide +kernel
theorem dX12_isBetween_6 : decode cX12_isBetween 6 = .ok (.iload 6, 2) := by decide +kernel
theorem dX12_isBetween_8 : decode cX12_isBetween 8 = .ok (.iload_n 3, 1) := by decide +kernel
theorem dX12_isBetween_9 : decode cX12_isBetween 9 = .ok (.isub, 1) := by decide +kernel
theorem dX12_isBetween_10 : decode cX12_isBetween 10 = .ok (.istore 9, 2) := by decide +kernel
theorem dX12_isBetween_12 : decode cX12_isBetween 12 = .ok (.aload_n 0, 1) := by decide +kernel
theorem dX12_isBetween_13 : decode cX12_isBetween 13 = .ok (.getfield 9, 3) := by decide +kernel
theorem dX12_isBetween_16 : decode cX12_isBetween 16 = .ok (.sipush 212, 3) := by decide +kernel
theorem dX12_isBetween_19 : decode cX12_isBetween 19 = .ok (.iload_n 1, 1) := by decide +kernel
theorem dX12_isBetween_20 : decode cX12_isBetween 20 = .ok (.iadd, 1) := by decide +kernel
theorem dX12_isBetween_21 : decode cX12_isBetween 21 = .ok (.iaload, 1) := by decide +kernel
theorem dX12_isBetween_22 : decode cX12_isBetween 22 = .ok (.aload_n 0, 1) := by decide +kernel
theorem dX12_isBetween_23 : decode cX12_isBetween 23 = .ok (.getfield 9, 3) := by decide +kernel
theorem dX12_isBetween_26 : decode cX12_isBetween 26 = .ok (.sipush 196, 3) := by decide +kernel
theorem dX12_isBetween_29 : decode cX12_isBetween 29 = .ok (.iload_n 1, 1) := by decide +kernel
theorem dX12_isBetween_30 : decode cX12_isBetween 30 = .ok (.iadd, 1) := by decide +kernel
theorem dX12_isBetween_31 : decode cX12_isBetween 31 = .ok (.iaload, 1) := by decide +kernel
theorem dX12_isBetween_32 : decode cX12_isBetween 32 = .ok (.isub, 1) := by decide +kernel
theorem dX12_isBetween_33 : decode cX12_isBetween 33 = .ok (.istore 10, 2) := by decide +kernel
theorem dX12_isBetween_35 : decode cX12_isBetween 35 = .ok (.aload_n 0, 1) := by decide +kernel
theorem dX12_isBetween_36 : decode cX12_isBetween 36 = .ok (.getfield 9, 3) := by decide +kernel
theorem dX12_isBetween_39 : decode cX12_isBetween 39 = .ok (.sipush 220, 3) := by decide +kernel
theorem dX12_isBetween_42 : decode cX12_isBetween 42 = .ok (.iload_n 1, 1) := by decide +kernel
theorem dX12_isBetween_43 : decode cX12_isBetween 43 = .ok (.iadd, 1) := by decide +kernel
theorem dX12_isBetween_44 : decode cX12_isBetween 44 = .ok (.iaload, 1) := by decide +kernel
theorem dX12_isBetween_45 : decode cX12_isBetween 45 = .ok (.aload_n 0, 1) := by decide +kernel
theorem dX12_isBetween_46 : decode cX12_isBetween 46 = .ok (.getfield 9, 3) := by decide +kernel
theorem dX12_isBetween_49 : decode cX12_isBetween 49 = .ok (.sipush 204, 3) := by decide +kernel
theorem dX12_isBetween_52 : decode cX12_isBetween 52 = .ok (.iload_n 1, 1) := by decide +kernel
theorem dX12_isBetween_53 : decode cX12_isBetween 53 = .ok (.iadd, 1) := by decide +kernel
theorem dX12_isBetween_54 : decode cX12_isBetween 54 = .ok (.iaload, 1) := by decide +kernel
theorem dX12_isBetween_55 : decode cX12_isBetween 55 = .ok (.isub, 1) := by decide +kernel
theorem dX12_isBetween_56 : decode cX12_isBetween 56 = .ok (.istore 11, 2) := by decide +kernel
theorem dX12_isBetween_58 : decode cX12_isBetween 58 = .ok (.aload_n 0, 1) := by decide +kernel
theorem dX12_isBetween_59 : decode cX12_isBetween 59 = .ok (.getfield 9, 3) := by decide +kernel
theorem dX12_isBetween_62 : decode cX12_isBetween 62 = .ok (.sipush 196, 3) := by decide +kernel
theorem dX12_isBetween_65 : decode cX12_isBetween 65 = .ok (.iload_n 1, 1) := by decide +kernel
theorem dX12_isBetween_66 : decode cX12_isBetween 66 = .ok (.iadd, 1) := by decide +kernel
theorem dX12_isBetween_67 : decode cX12_isBetween 67 = .ok (.iaload, 1) := by decide +kernel
theorem dX12_isBetween_68 : decode cX12_isBetween 68 = .ok (.iload_n 2, 1) := by decide +kernel
theorem dX12_isBetween_69 : decode cX12_isBetween 69 = .ok (.isub, 1) := by decide +kernel
theorem dX12_isBetween_70 : decode cX12_isBetween 70 = .ok (.istore 12, 2) := by decide +kernel
theorem dX12_isBetween_72 : decode cX12_isBetween 72 = .ok (.aload_n 0, 1) := by decide +kernel
theorem dX12_isBetween_73 : decode cX12_isBetween 73 = .ok (.getfield 9, 3) := by decide +kernel
theorem dX12_isBetween_76 : decode cX12_isBetween 76 = .ok (.sipush 204, 3) := by decide +kernel
theorem dX12_isBetween_79 : decode cX12_isBetween 79 = .ok (.iload_n 1, 1) := by decide +kernel
theorem dX12_isBetween_80 : decode cX12_isBetween 80 = .ok (.iadd, 1) := by decide +kernel
theorem dX12_isBetween_81 : decode cX12_isBetween 81 = .ok (.iaload, 1) := by decide +kernel
theorem dX12_isBetween_82 : decode cX12_isBetween 82 = .ok (.iload_n 3, 1) := by decide +kernel
theorem dX12_isBetween_83 : decode cX12_isBetween 83 = .ok (.isub, 1) := by decide +kernel
theorem dX12_isBetween_84 : decode cX12_isBetween 84 = .ok (.istore 13, 2) := by decide +kernel
theorem dX12_isBetween_86 : decode cX12_isBetween 86 = .ok (.iload 8, 2) := by decide +kernel
theorem dX12_isBetween_88 : decode cX12_isBetween 88 = .ok (.iload 11, 2) := by decide +kernel
theorem dX12_isBetween_90 : decode cX12_isBetween 90 = .ok (.imul, 1) := by decide +kernel
theorem dX12_isBetween_91 : decode cX12_isBetween 91 = .ok (.iload 9, 2) := by decide +kernel
theorem dX12_isBetween_93 : decode cX12_isBetween 93 = .ok (.iload 10, 2) := by decide +kernel
theorem dX12_isBetween_95 : decode cX12_isBetween 95 = .ok (.imul, 1) := by decide +kernel
theorem dX12_isBetween_96 : decode cX12_isBetween 96 = .ok (.isub, 1) := by decide +kernel
theorem dX12_isBetween_97 : decode cX12_isBetween 97 = .ok (.istore 14, 2) := by decide +kernel
theorem dX12_isBetween_99 : decode cX12_isBetween 99 = .ok (.iload 12, 2) := by decide +kernel
theorem dX12_isBetween_101 : decode cX12_isBetween 101 = .ok (.iload 11, 2) := by decide +kernel
theorem dX12_isBetween_103 : decode cX12_isBetween 103 = .ok (.imul, 1) := by decide +kernel
theorem dX12_isBetween_104 : decode cX12_isBetween 104 = .ok (.iload 13, 2) := by decide +kernel
theorem dX12_isBetween_106 : decode cX12_isBetween 106 = .ok (.iload 10, 2) := by decide +kernel
theorem dX12_isBetween_108 : decode cX12_isBetween 108 = .ok (.imul, 1) := by decide +kernel
theorem dX12_isBetween_109 : decode cX12_isBetween 109 = .ok (.isub, 1) := by decide +kernel
theorem dX12_isBetween_110 : decode cX12_isBetween 110 = .ok (.istore 15, 2) := by decide +kernel
theorem dX12_isBetween_112 : decode cX12_isBetween 112 = .ok (.iload 12, 2) := by decide +kernel
theorem dX12_isBetween_114 : decode cX12_isBetween 114 = .ok (.iload 9, 2) := by decide +kernel
theorem dX12_isBetween_116 : decode cX12_isBetween 116 = .ok (.imul, 1) := by decide +kernel
theorem dX12_isBetween_117 : decode cX12_isBetween 117 = .ok (.iload 13, 2) := by decide +kernel
theorem dX12_isBetween_119 : decode cX12_isBetween 119 = .ok (.iload 8, 2) := by decide +kernel
theorem dX12_isBetween_121 : decode cX12_isBetween 121 = .ok (.imul, 1) := by decide +kernel
theorem dX12_isBetween_122 : decode cX12_isBetween 122 = .ok (.isub, 1) := by decide +kernel
theorem dX12_isBetween_123 : decode cX12_isBetween 123 = .ok (.istore 16, 2) := by decide +kernel
theorem dX12_isBetween_125 : decode cX12_isBetween 125 = .ok (.iload 14, 2) := by decide +kernel
theorem dX12_isBetween_127 : decode cX12_isBetween 127 = .ok (.ifCond .ge 18, 3) := by decide +kernel
theorem dX12_isBetween_130 : decode cX12_isBetween 130 = .ok (.iload 14, 2) := by decide +kernel
theorem dX12_isBetween_132 : decode cX12_isBetween 132 = .ok (.ineg, 1) := by decide +kernel
theorem dX12_isBetween_133 : decode cX12_isBetween 133 = .ok (.istore 14, 2) := by decide +kernel
theorem dX12_isBetween_135 : decode cX12_isBetween 135 = .ok (.iload 15, 2) := by decide +kernel
theorem dX12_isBetween_137 : decode cX12_isBetween 137 = .ok (.ineg, 1) := by decide +kernel
theorem dX12_isBetween_138 : decode cX12_isBetween 138 = .ok (.istore 15, 2) := by decide +kernel
theorem dX12_isBetween_140 : decode cX12_isBetween 140 = .ok (.iload 16, 2) := by decide +kernel
theorem dX12_isBetween_142 : decode cX12_isBetween 142 = .ok (.ineg, 1) := by decide +kernel
theorem dX12_isBetween_143 : decode cX12_isBetween 143 = .ok (.istore 16, 2) := by decide +kernel
theorem dX12_isBetween_145 : decode cX12_isBetween 145 = .ok (.iload 14, 2) := by decide +kernel
theorem dX12_isBetween_147 : decode cX12_isBetween 147 = .ok (.ifCond .eq 59, 3) := by decide +kernel
theorem dX12_isBetween_150 : decode cX12_isBetween 150 = .ok (.iload 15, 2) := by decide +kernel
theorem dX12_isBetween_152 : decode cX12_isBetween 152 = .ok (.iconst 0, 1) := by decide +kernel
theorem dX12_isBetween_153 : decode cX12_isBetween 153 = .ok (.iload 14, 2) := by decide +kernel
theorem dX12_isBetween_155 : decode cX12_isBetween 155 = .ok (.invokestatic 47, 3) := by decide +kernel
theorem dX12_isBetween_158 : decode cX12_isBetween 158 = .ok (.ifCond .eq 48, 3) := by decide +kernel
theorem dX12_isBetween_161 : decode cX12_isBetween 161 = .ok (.iload 16, 2) := by decide +kernel
theorem dX12_isBetween_163 : decode cX12_isBetween 163 = .ok (.iconst 0, 1) := by decide +kernel
theorem dX12_isBetween_164 : decode cX12_isBetween 164 = .ok (.iload 14, 2) := by decide +kernel
theorem dX12_isBetween_166 : decode cX12_isBetween 166 = .ok (.invokestatic 47, 3) := by decide +kernel
theorem dX12_isBetween_169 : decode cX12_isBetween 169 = .ok (.ifCond .eq 37, 3) := by decide +kernel
theorem dX12_isBetween_172 : decode cX12_isBetween 172 = .ok (.iload 4, 2) := by decide +kernel
theorem dX12_isBetween_174 : decode cX12_isBetween 174 = .ok (.iload 14, 2) := by decide +kernel
theorem dX12_isBetween_176 : decode cX12_isBetween 176 = .ok (.iload 15, 2) := by decide +kernel
theorem dX12_isBetween_178 : decode cX12_isBetween 178 = .ok (.isub, 1) := by decide +kernel
theorem dX12_isBetween_179 : decode cX12_isBetween 179 = .ok (.imul, 1) := by decide +kernel
theorem dX12_isBetween_180 : decode cX12_isBetween 180 = .ok (.iload 7, 2) := by decide +kernel
theorem dX12_isBetween_182 : decode cX12_isBetween 182 = .ok (.iload 15, 2) := by decide +kernel
theorem dX12_isBetween_184 : decode cX12_isBetween 184 = .ok (.imul, 1) := by decide +kernel
theorem dX12_isBetween_185 : decode cX12_isBetween 185 = .ok (.iadd, 1) := by decide +kernel
theorem dX12_isBetween_186 : decode cX12_isBetween 186 = .ok (.aload_n 0, 1) := by decide +kernel
theorem dX12_isBetween_187 : decode cX12_isBetween 187 = .ok (.getfield 9, 3) := by decide +kernel
theorem dX12_isBetween_190 : decode cX12_isBetween 190 = .ok (.sipush 228, 3) := by decide +kernel
theorem dX12_isBetween_193 : decode cX12_isBetween 193 = .ok (.iload_n 1, 1) := by decide +kernel
theorem dX12_isBetween_194 : decode cX12_isBetween 194 = .ok (.iadd, 1) := by decide +kernel
theorem dX12_isBetween_195 : decode cX12_isBetween 195 = .ok (.iaload, 1) := by decide +kernel
theorem dX12_isBetween_196 : decode cX12_isBetween 196 = .ok (.iload 14, 2) := by decide +kernel
theorem dX12_isBetween_198 : decode cX12_isBetween 198 = .ok (.imul, 1) := by decide +kernel
theorem dX12_isBetween_199 : decode cX12_isBetween 199 = .ok (.if_icmp .ge 7, 3) := by decide +kernel
theorem dX12_isBetween_202 : decode cX12_isBetween 202 = .ok (.iconst 1, 1) := by decide +kernel
theorem dX12_isBetween_203 : decode cX12_isBetween 203 = .ok (.goto 4, 3) := by decide +kernel
theorem dX12_isBetween_206 : decode cX12_isBetween 206 = .ok (.iconst 0, 1) := by decide +kernel
theorem dX12_isBetween_207 : decode cX12_isBetween 207 = .ok (.ireturn, 1) := by decide +kernel
theorem dX12_areOpen_0 : decode cX12_areOpen 0 = .ok (.iconst 1, 1) := by decide +kernel
theorem dX12_areOpen_1 : decode cX12_areOpen 1 = .ok (.istore 7, 2) := by decide +kernel
theorem dX12_areOpen_3 : decode cX12_areOpen 3 = .ok (.iconst 0, 1) := by decide +kernel
theorem dX12_areOpen_4 : decode cX12_areOpen 4 = .ok (.istore 8, 2) := by decide +kernel
theorem dX12_areOpen_6 : decode cX12_areOpen 6 = .ok (.iload 8, 2) := by decide +kernel
theorem dX12_areOpen_8 : decode cX12_areOpen 8 = .ok (.aload_n 0, 1) := by decide +kernel
theorem dX12_areOpen_9 : decode cX12_areOpen 9 = .ok (.getfield 9, 3) := by decide +kernel
theorem dX12_areOpen_12 : decode cX12_areOpen 12 = .ok (.iconst 2, 1) := by decide +kernel
theorem dX12_areOpen_13 : decode cX12_areOpen 13 = .ok (.iaload, 1) := by decide +kernel
theorem dX12_areOpen_14 : decode cX12_areOpen 14 = .ok (.if_icmp .ge 39, 3) := by decide +kernel
theorem dX12_areOpen_17 : decode cX12_areOpen 17 = .ok (.iload 7, 2) := by decide +kernel
theorem dX12_areOpen_19 : decode cX12_areOpen 19 = .ok (.ifCond .eq 25, 3) := by decide +kernel
theorem dX12_areOpen_22 : decode cX12_areOpen 22 = .ok (.aload_n 0, 1) := by decide +kernel
theorem dX12_areOpen_23 : decode cX12_areOpen 23 = .ok (.iload 8, 2) := by decide +kernel
theorem dX12_areOpen_25 : decode cX12_areOpen 25 = .ok (.iload_n 1, 1) := by decide +kernel
theorem dX12_areOpen_26 : decode cX12_areOpen 26 = .ok (.iload_n 2, 1) := by decide +kernel
theorem dX12_areOpen_27 : decode cX12_areOpen 27 = .ok (.iload_n 3, 1) := by decide +kernel
theorem dX12_areOpen_28 : decode cX12_areOpen 28 = .ok (.iload 4, 2) := by decide +kernel
theorem dX12_areOpen_30 : decode cX12_areOpen 30 = .ok (.iload 5, 2) := by decide +kernel
theorem dX12_areOpen_32 : decode cX12_areOpen 32 = .ok (.iload 6, 2) := by decide +kernel
theorem dX12_areOpen_34 : decode cX12_areOpen 34 = .ok (.invokevirtual 152, 3) := by decide +kernel
theorem dX12_areOpen_37 : decode cX12_areOpen 37 = .ok (.ifCond .ne 7, 3) := by decide +kernel
theorem dX12_areOpen_40 : decode cX12_areOpen 40 = .ok (.iconst 1, 1) := by decide +kernel
theorem dX12_areOpen_41 : decode cX12_areOpen 41 = .ok (.goto 4, 3) := by decide +kernel
theorem dX12_areOpen_44 : decode cX12_areOpen 44 = .ok (.iconst 0, 1) := by decide +kernel
theorem dX12_areOpen_45 : decode cX12_areOpen 45 = .ok (.istore 7, 2) := by decide +kernel
theorem dX12_areOpen_47 : decode cX12_areOpen 47 = .ok (.iinc 8 1, 3) := by decide +kernel
theorem dX12_areOpen_50 : decode cX12_areOpen 50 = .ok (.goto (-44), 3) := by decide +kernel
theorem dX12_areOpen_53 : decode cX12_areOpen 53 = .ok (.iload 7, 2) := by decide +kernel
theorem dX12_areOpen_55 : decode cX12_areOpen 55 = .ok (.ireturn, 1) := by decide +kernel
theorem dX12_isFree_0 : decode cX12_isFree 0 = .ok (.aload_n 0, 1) := by decide +kernel
theorem dX12_isFree_1 : decode cX12_isFree 1 = .ok (.aload_n 0, 1) := by decide +kernel
theorem dX12_isFree_2 : decode cX12_isFree 2 = .ok (.getfield 9, 3) := by decide +kernel
theorem dX12_isFree_5 : decode cX12_isFree 5 = .ok (.sipush 136, 3) := by decide +kernel
theorem dX12_isFree_8 : decode cX12_isFree 8 = .ok (.iload_n 1, 1) := by decide +kernel
theorem dX12_isFree_9 : decode cX12_isFree 9 = .ok (.iadd, 1) := by decide +kernel
theorem dX12_isFree_10 : decode cX12_isFree 10 = .ok (.iaload, 1) := by decide +kernel
theorem dX12_isFree_11 : decode cX12_isFree 11 = .ok (.aload_n 0, 1) := by decide +kernel
theorem dX12_isFree_12 : decode cX12_isFree 12 = .ok (.getfield 9, 3) := by decide +kernel
theorem dX12_isFree_15 : decode cX12_isFree 15 = .ok (.sipush 142, 3) := by decide +kernel
theorem dX12_isFree_18 : decode cX12_isFree 18 = .ok (.iload_n 1, 1) := by decide +kernel
theorem dX12_isFree_19 : decode cX12_isFree 19 = .ok (.iadd, 1) := by decide +kernel
theorem dX12_isFree_20 : decode cX12_isFree 20 = .ok (.iaload, 1) := by decide +kernel
theorem dX12_isFree_21 : decode cX12_isFree 21 = .ok (.aload_n 0, 1) := by decide +kernel
theorem dX12_isFree_22 : decode cX12_isFree 22 = .ok (.getfield 9, 3) := by decide +kernel
theorem dX12_isFree_25 : decode cX12_isFree 25 = .ok (.sipush 148, 3) := by decide +kernel
theorem dX12_isFree_28 : decode cX12_isFree 28 = .ok (.iload_n 1, 1) := by decide +kernel
theorem dX12_isFree_29 : decode cX12_isFree 29 = .ok (.iadd, 1) := by decide +kernel
theorem dX12_isFree_30 : decode cX12_isFree 30 = .ok (.iaload, 1) := by decide +kernel
theorem dX12_isFree_31 : decode cX12_isFree 31 = .ok (.aload_n 0, 1) := by decide +kernel
theorem dX12_isFree_32 : decode cX12_isFree 32 = .ok (.getfield 9, 3) := by decide +kernel
theorem dX12_isFree_35 : decode cX12_isFree 35 = .ok (.sipush 172, 3) := by decide +kernel
theorem dX12_isFree_38 : decode cX12_isFree 38 = .ok (.iload_n 2, 1) := by decide +kernel
theorem dX12_isFree_39 : decode cX12_isFree 39 = .ok (.iadd, 1) := by decide +kernel
theorem dX12_isFree_40 : decode cX12_isFree 40 = .ok (.iaload, 1) := by decide +kernel
theorem dX12_isFree_41 : decode cX12_isFree 41 = .ok (.aload_n 0, 1) := by decide +kernel
theorem dX12_isFree_42 : decode cX12_isFree 42 = .ok (.getfield 9, 3) := by decide +kernel
theorem dX12_isFree_45 : decode cX12_isFree 45 = .ok (.sipush 178, 3) := by decide +kernel
theorem dX12_isFree_48 : decode cX12_isFree 48 = .ok (.iload_n 2, 1) := by decide +kernel
theorem dX12_isFree_49 : decode cX12_isFree 49 = .ok (.iadd, 1) := by decide +kernel
theorem dX12_isFree_50 : decode cX12_isFree 50 = .ok (.iaload, 1) := by decide +kernel
theorem dX12_isFree_51 : decode cX12_isFree 51 = .ok (.iconst 0, 1) := by decide +kernel
theorem dX12_isFree_52 : decode cX12_isFree 52 = .ok (.invokevirtual 156, 3) := by decide +kernel
theorem dX12_isFree_55 : decode cX12_isFree 55 = .ok (.ireturn, 1) := by decide +kernel
theorem dX12_free_0 : decode cX12_free 0 = .ok (.aload_n 0, 1) := by decide +kernel
theorem dX12_free_1 : decode cX12_free 1 = .ok (.iload_n 1, 1) := by decide +kernel
theorem dX12_free_2 : decode cX12_free 2 = .ok (.invokevirtual 56, 3) := by decide +kernel
theorem dX12_free_5 : decode cX12_free 5 = .ok (.ifCond .eq 11, 3) := by decide +kernel
theorem dX12_free_8 : decode cX12_free 8 = .ok (.aload_n 0, 1) := by decide +kernel
theorem dX12_free_9 : decode cX12_free 9 = .ok (.iload_n 2, 1) := by decide +kernel
theorem dX12_free_10 : decode cX12_free 10 = .ok (.invokevirtual 59, 3) := by decide +kernel
theorem dX12_free_13 : decode cX12_free 13 = .ok (.ifCond .ne 5, 3) := by decide +kernel
theorem dX12_free_16 : decode cX12_free 16 = .ok (.iconst (-1), 1) := by decide +kernel
theorem dX12_free_17 : decode cX12_free 17 = .ok (.ireturn, 1) := by decide +kernel
theorem dX12_free_18 : decode cX12_free 18 = .ok (.aload_n 0, 1) := by decide +kernel
theorem dX12_free_19 : decode cX12_free 19 = .ok (.iload_n 1, 1) := by decide +kernel
theorem dX12_free_20 : decode cX12_free 20 = .ok (.iload_n 2, 1) := by decide +kernel
theorem dX12_free_21 : decode cX12_free 21 = .ok (.invokevirtual 160, 3) := by decide +kernel
theorem dX12_free_24 : decode cX12_free 24 = .ok (.ifCond .eq 7, 3) := by decide +kernel
theorem dX12_free_27 : decode cX12_free 27 = .ok (.iconst 1, 1) := by decide +kernel
theorem dX12_free_28 : decode cX12_free 28 = .ok (.goto 4, 3) := by decide +kernel
theorem dX12_free_31 : decode cX12_free 31 = .ok (.iconst 0, 1) := by decide +kernel
theorem dX12_free_32 : decode cX12_free 32 = .ok (.ireturn, 1) := by decide +kernel
theorem dX12_isLit_0 : decode cX12_isLit 0 = .ok (.aload_n 0, 1) := by decide +kernel
theorem dX12_isLit_1 : decode cX12_isLit 1 = .ok (.bipush (-11), 2) := by decide +kernel
theorem dX12_isLit_3 : decode cX12_isLit 3 = .ok (.iload_n 1, 1) := by decide +kernel
theorem dX12_isLit_4 : decode cX12_isLit 4 = .ok (.bipush 99, 2) := by decide +kernel
theorem dX12_isLit_6 : decode cX12_isLit 6 = .ok (.iload_n 2, 1) := by decide +kernel
theorem dX12_isLit_7 : decode cX12_isLit 7 = .ok (.invokevirtual 164, 3) := by decide +kernel
theorem dX12_isLit_10 : decode cX12_isLit 10 = .ok (.ireturn, 1) := by decide +kernel
theorem dX12_may_0 : decode cX12_may 0 = .ok (.aload_n 0, 1) := by decide +kernel
theorem dX12_may_1 : decode cX12_may 1 = .ok (.getfield 9, 3) := by decide +kernel
theorem dX12_may_4 : decode cX12_may 4 = .ok (.sipush 166, 3) := by decide +kernel
theorem dX12_may_7 : decode cX12_may 7 = .ok (.iload_n 1, 1) := by decide +kernel
theorem dX12_may_8 : decode cX12_may 8 = .ok (.iadd, 1) := by decide +kernel
theorem dX12_may_9 : decode cX12_may 9 = .ok (.iaload, 1) := by decide +kernel
theorem dX12_may_10 : decode cX12_may 10 = .ok (.istore_n 3, 1) := by decide +kernel
theorem dX12_may_11 : decode cX12_may 11 = .ok (.aload_n 0, 1) := by decide +kernel
theorem dX12_may_12 : decode cX12_may 12 = .ok (.getfield 9, 3) := by decide +kernel
theorem dX12_may_15 : decode cX12_may 15 = .ok (.sipush 136, 3) := by decide +kernel
theorem dX12_may_18 : decode cX12_may 18 = .ok (.iload_n 1, 1) := by decide +kernel
theorem dX12_may_19 : decode cX12_may 19 = .ok (.iadd, 1) := by decide +kernel
theorem dX12_may_20 : decode cX12_may 20 = .ok (.iaload, 1) := by decide +kernel
theorem dX12_may_21 : decode cX12_may 21 = .ok (.aload_n 0, 1) := by decide +kernel
theorem dX12_may_22 : decode cX12_may 22 = .ok (.getfield 9, 3) := by decide +kernel
theorem dX12_may_25 : decode cX12_may 25 = .ok (.sipush 172, 3) := by decide +kernel
theorem dX12_may_28 : decode cX12_may 28 = .ok (.iload_n 2, 1) := by decide +kernel
theorem dX12_may_29 : decode cX12_may 29 = .ok (.iadd, 1) := by decide +kernel
theorem dX12_may_30 : decode cX12_may 30 = .ok (.iaload, 1) := by decide +kernel
theorem dX12_may_31 : decode cX12_may 31 = .ok (.isub, 1) := by decide +kernel
theorem dX12_may_32 : decode cX12_may 32 = .ok (.invokestatic 168, 3) := by decide +kernel
theorem dX12_may_35 : decode cX12_may 35 = .ok (.istore 4, 2) := by decide +kernel
theorem dX12_may_37 : decode cX12_may 37 = .ok (.aload_n 0, 1) := by decide +kernel
theorem dX12_may_38 : decode cX12_may 38 = .ok (.getfield 9, 3) := by decide +kernel
theorem dX12_may_41 : decode cX12_may 41 = .ok (.sipush 142, 3) := by decide +kernel
theorem dX12_may_44 : decode cX12_may 44 = .ok (.iload_n 1, 1) := by decide +kernel
theorem dX12_may_45 : decode cX12_may 45 = .ok (.iadd, 1) := by decide +kernel
theorem dX12_may_46 : decode cX12_may 46 = .ok (.iaload, 1) := by decide +kernel
theorem dX12_may_47 : decode cX12_may 47 = .ok (.aload_n 0, 1) := by decide +kernel
theorem dX12_may_48 : decode cX12_may 48 = .ok (.getfield 9, 3) := by decide +kernel
theorem dX12_may_51 : decode cX12_may 51 = .ok (.sipush 178, 3) := by decide +kernel
theorem dX12_may_54 : decode cX12_may 54 = .ok (.iload_n 2, 1) := by decide +kernel
theorem dX12_may_55 : decode cX12_may 55 = .ok (.iadd, 1) := by decide +kernel
theorem dX12_may_56 : decode cX12_may 56 = .ok (.iaload, 1) := by decide +kernel
theorem dX12_may_57 : decode cX12_may 57 = .ok (.isub, 1) := by decide +kernel
theorem dX12_may_58 : decode cX12_may 58 = .ok (.invokestatic 168, 3) := by decide +kernel
theorem dX12_may_61 : decode cX12_may 61 = .ok (.istore 5, 2) := by decide +kernel
theorem dX12_may_63 : decode cX12_may 63 = .ok (.iload 4, 2) := by decide +kernel
theorem dX12_may_65 : decode cX12_may 65 = .ok (.iload 5, 2) := by decide +kernel
theorem dX12_may_67 : decode cX12_may 67 = .ok (.iadd, 1) := by decide +kernel
theorem dX12_may_68 : decode cX12_may 68 = .ok (.ifCond .le 7, 3) := by decide +kernel
theorem dX12_may_71 : decode cX12_may 71 = .ok (.iconst 1, 1) := by decide +kernel
theorem dX12_may_72 : decode cX12_may 72 = .ok (.goto 4, 3) := by decide +kernel
theorem dX12_may_75 : decode cX12_may 75 = .ok (.iconst 0, 1) := by decide +kernel
theorem dX12_may_76 : decode cX12_may 76 = .ok (.istore 6, 2) := by decide +kernel
theorem dX12_may_78 : decode cX12_may 78 = .ok (.aload_n 0, 1) := by decide +kernel
theorem dX12_may_79 : decode cX12_may 79 = .ok (.getfield 9, 3) := by decide +kernel
theorem dX12_may_82 : decode cX12_may 82 = .ok (.sipush 130, 3) := by decide +kernel
theorem dX12_may_85 : decode cX12_may 85 = .ok (.iload_n 1, 1) := by decide +kernel
theorem dX12_may_86 : decode cX12_may 86 = .ok (.iadd, 1) := by decide +kernel
theorem dX12_may_87 : decode cX12_may 87 = .ok (.iaload, 1) := by decide +kernel
theorem dX12_may_88 : decode cX12_may 88 = .ok (.tableswitch 99 1 6 #[40, 43, 54, 71, 43, 88], 40) := by decide +kernel
theorem dX12_may_128 : decode cX12_may 128 = .ok (.iload 6, 2) := by decide +kernel
theorem dX12_may_130 : decode cX12_may 130 = .ok (.ireturn, 1) := by decide +kernel
theorem dX12_may_131 : decode cX12_may 131 = .ok (.iload_n 2, 1) := by decide +kernel
theorem dX12_may_132 : decode cX12_may 132 = .ok (.iload_n 3, 1) := by decide +kernel
theorem dX12_may_133 : decode cX12_may 133 = .ok (.if_icmp .ne 7, 3) := by decide +kernel
theorem dX12_may_136 : decode cX12_may 136 = .ok (.iconst 1, 1) := by decide +kernel
theorem dX12_may_137 : decode cX12_may 137 = .ok (.goto 4, 3) := by decide +kernel
theorem dX12_may_140 : decode cX12_may 140 = .ok (.iconst 0, 1) := by decide +kernel
theorem dX12_may_141 : decode cX12_may 141 = .ok (.ireturn, 1) := by decide +kernel
theorem dX12_may_142 : decode cX12_may 142 = .ok (.iload 6, 2) := by decide +kernel
theorem dX12_may_144 : decode cX12_may 144 = .ok (.ifCond .eq 13, 3) := by decide +kernel
theorem dX12_may_147 : decode cX12_may 147 = .ok (.iload 5, 2) := by decide +kernel
theorem dX12_may_149 : decode cX12_may 149 = .ok (.iload_n 3, 1) := by decide +kernel
theorem dX12_may_150 : decode cX12_may 150 = .ok (.if_icmp .gt 7, 3) := by decide +kernel
theorem dX12_may_153 : decode cX12_may 153 = .ok (.iconst 1, 1) := by decide +kernel
theorem dX12_may_154 : decode cX12_may 154 = .ok (.goto 4, 3) := by decide +kernel
theorem dX12_may_157 : decode cX12_may 157 = .ok (.iconst 0, 1) := by decide +kernel
theorem dX12_may_158 : decode cX12_may 158 = .ok (.ireturn, 1) := by decide +kernel
theorem dX12_may_159 : decode cX12_may 159 = .ok (.iload 6, 2) := by decide +kernel
theorem dX12_may_161 : decode cX12_may 161 = .ok (.ifCond .eq 13, 3) := by decide +kernel
theorem dX12_may_164 : decode cX12_may 164 = .ok (.iload 4, 2) := by decide +kernel
theorem dX12_may_166 : decode cX12_may 166 = .ok (.iload_n 3, 1) := by decide +kernel
theorem dX12_may_167 : decode cX12_may 167 = .ok (.if_icmp .lt 7, 3) := by decide +kernel
theorem dX12_may_170 : decode cX12_may 170 = .ok (.iconst 1, 1) := by decide +kernel
theorem dX12_may_171 : decode cX12_may 171 = .ok (.goto 4, 3) := by decide +kernel
theorem dX12_may_174 : decode cX12_may 174 = .ok (.iconst 0, 1) := by decide +kernel
theorem dX12_may_175 : decode cX12_may 175 = .ok (.ireturn, 1) := by decide +kernel
theorem dX12_may_176 : decode cX12_may 176 = .ok (.iload_n 2, 1) := by decide +kernel
theorem dX12_may_177 : decode cX12_may 177 = .ok (.iload_n 3, 1) := by decide +kernel
theorem dX12_may_178 : decode cX12_may 178 = .ok (.if_icmp .eq 7, 3) := by decide +kernel
theorem dX12_may_181 : decode cX12_may 181 = .ok (.iconst 1, 1) := by decide +kernel
theorem dX12_may_182 : decode cX12_may 182 = .ok (.goto 4, 3) := by decide +kernel
theorem dX12_may_185 : decode cX12_may 185 = .ok (.iconst 0, 1) := by decide +kernel
theorem dX12_may_186 : decode cX12_may 186 = .ok (.ireturn, 1) := by decide +kernel
theorem dX12_may_187 : decode cX12_may 187 = .ok (.iconst 1, 1) := by decide +kernel
theorem dX12_may_188 : decode cX12_may 188 = .ok (.ireturn, 1) := by decide +kernel
theorem dX12_canThrow_0 : decode cX12_canThrow 0 = .ok (.aload_n 0, 1) := by decide +kernel
theorem dX12_canThrow_1 : decode cX12_canThrow 1 = .ok (.iload_n 1, 1) := by decide +kernel
theorem dX12_canThrow_2 : decode cX12_canThrow 2 = .ok (.iload_n 3, 1) := by decide +kernel
theorem dX12_canThrow_3 : decode cX12_canThrow 3 = .ok (.invokevirtual 172, 3) := by decide +kernel
theorem dX12_canThrow_6 : decode cX12_canThrow 6 = .ok (.ifCond .eq 37, 3) := by decide +kernel
theorem dX12_canThrow_9 : decode cX12_canThrow 9 = .ok (.aload_n 0, 1) := by decide +kernel
theorem dX12_canThrow_10 : decode cX12_canThrow 10 = .ok (.iload_n 1, 1) := by decide +kernel
theorem dX12_canThrow_11 : decode cX12_canThrow 11 = .ok (.iload_n 2, 1) := by decide +kernel
theorem dX12_canThrow_12 : decode cX12_canThrow 12 = .ok (.invokevirtual 175, 3) := by decide +kernel
theorem dX12_canThrow_15 : decode cX12_canThrow 15 = .ok (.ifCond .eq 28, 3) := by decide +kernel
theorem dX12_canThrow_18 : decode cX12_canThrow 18 = .ok (.aload_n 0, 1) := by decide +kernel
theorem dX12_canThrow_19 : decode cX12_canThrow 19 = .ok (.iload_n 1, 1) := by decide +kernel
theorem dX12_canThrow_20 : decode cX12_canThrow 20 = .ok (.iload_n 2, 1) := by decide +kernel
theorem dX12_canThrow_21 : decode cX12_canThrow 21 = .ok (.invokevirtual 160, 3) := by decide +kernel
theorem dX12_canThrow_24 : decode cX12_canThrow 24 = .ok (.ifCond .eq 19, 3) := by decide +kernel
theorem dX12_canThrow_27 : decode cX12_canThrow 27 = .ok (.aload_n 0, 1) := by decide +kernel
theorem dX12_canThrow_28 : decode cX12_canThrow 28 = .ok (.bipush (-12), 2) := by decide +kernel
theorem dX12_canThrow_30 : decode cX12_canThrow 30 = .ok (.iload_n 1, 1) := by decide +kernel
theorem dX12_canThrow_31 : decode cX12_canThrow 31 = .ok (.iload_n 2, 1) := by decide +kernel
theorem dX12_canThrow_32 : decode cX12_canThrow 32 = .ok (.iload_n 3, 1) := by decide +kernel
theorem dX12_canThrow_33 : decode cX12_canThrow 33 = .ok (.invokevirtual 164, 3) := by decide +kernel
theorem dX12_canThrow_36 : decode cX12_canThrow 36 = .ok (.ifCond .ne 7, 3) := by decide +kernel
theorem dX12_canThrow_39 : decode cX12_canThrow 39 = .ok (.iconst 1, 1) := by decide +kernel
theorem dX12_canThrow_40 : decode cX12_canThrow 40 = .ok (.goto 4, 3) := by decide +kernel
theorem dX12_canThrow_43 : decode cX12_canThrow 43 = .ok (.iconst 0, 1) := by decide +kernel
theorem dX12_canThrow_44 : decode cX12_canThrow 44 = .ok (.ireturn, 1) := by decide +kernel
theorem dX12_can_0 : decode cX12_can 0 = .ok (.aload_n 0, 1) := by decide +kernel
theorem dX12_can_1 : decode cX12_can 1 = .ok (.iload_n 1, 1) := by decide +kernel
theorem dX12_can_2 : decode cX12_can 2 = .ok (.invokevirtual 56, 3) := by decide +kernel
theorem dX12_can_5 : decode cX12_can 5 = .ok (.ifCond .eq 20, 3) := by decide +kernel
theorem dX12_can_8 : decode cX12_can 8 = .ok (.aload_n 0, 1) := by decide +kernel
theorem dX12_can_9 : decode cX12_can 9 = .ok (.iload_n 2, 1) := by decide +kernel
theorem dX12_can_10 : decode cX12_can 10 = .ok (.invokevirtual 59, 3) := by decide +kernel
theorem dX12_can_13 : decode cX12_can 13 = .ok (.ifCond .eq 12, 3) := by decide +kernel
theorem dX12_can_16 : decode cX12_can 16 = .ok (.iload_n 3, 1) := by decide +kernel
theorem dX12_can_17 : decode cX12_can 17 = .ok (.iconst 0, 1) := by decide +kernel
theorem dX12_can_18 : decode cX12_can 18 = .ok (.iconst 1, 1) := by decide +kernel
theorem dX12_can_19 : decode cX12_can 19 = .ok (.invokestatic 47, 3) := by decide +kernel
theorem dX12_can_22 : decode cX12_can 22 = .ok (.ifCond .ne 5, 3) := by decide +kernel
theorem dX12_can_25 : decode cX12_can 25 = .ok (.iconst (-1), 1) := by decide +kernel
theorem dX12_can_26 : decode cX12_can 26 = .ok (.ireturn, 1) := by decide +kernel
theorem dX12_can_27 : decode cX12_can 27 = .ok (.aload_n 0, 1) := by decide +kernel
theorem dX12_can_28 : decode cX12_can 28 = .ok (.aload_n 0, 1) := by decide +kernel
theorem dX12_can_29 : decode cX12_can 29 = .ok (.getfield 9, 3) := by decide +kernel
theorem dX12_can_32 : decode cX12_can 32 = .ok (.iconst 4, 1) := by decide +kernel
theorem dX12_can_33 : decode cX12_can 33 = .ok (.iaload, 1) := by decide +kernel
theorem dX12_can_34 : decode cX12_can 34 = .ok (.putfield 145, 3) := by decide +kernel
theorem dX12_can_37 : decode cX12_can 37 = .ok (.iconst 0, 1) := by decide +kernel
theorem dX12_can_38 : decode cX12_can 38 = .ok (.istore 4, 2) := by decide +kernel
theorem dX12_can_40 : decode cX12_can 40 = .ok (.iconst 0, 1) := by decide +kernel
theorem dX12_can_41 : decode cX12_can 41 = .ok (.istore 5, 2) := by decide +kernel
theorem dX12_can_43 : decode cX12_can 43 = .ok (.iload 5, 2) := by decide +kernel
theorem dX12_can_45 : decode cX12_can 45 = .ok (.bipush 8, 2) := by decide +kernel
theorem dX12_can_47 : decode cX12_can 47 = .ok (.if_icmp .ge 51, 3) := by decide +kernel
theorem dX12_can_50 : decode cX12_can 50 = .ok (.iload_n 3, 1) := by decide +kernel
theorem dX12_can_51 : decode cX12_can 51 = .ok (.ifCond .ne 13, 3) := by decide +kernel
theorem dX12_can_54 : decode cX12_can 54 = .ok (.aload_n 0, 1) := by decide +kernel
theorem dX12_can_55 : decode cX12_can 55 = .ok (.iload_n 1, 1) := by decide +kernel
theorem dX12_can_56 : decode cX12_can 56 = .ok (.iload 5, 2) := by decide +kernel
theorem dX12_can_58 : decode cX12_can 58 = .ok (.invokevirtual 172, 3) := by decide +kernel
theorem dX12_can_61 : decode cX12_can 61 = .ok (.goto 11, 3) := by decide +kernel
theorem dX12_can_64 : decode cX12_can 64 = .ok (.aload_n 0, 1) := by decide +kernel
theorem dX12_can_65 : decode cX12_can 65 = .ok (.iload_n 1, 1) := by decide +kernel
theorem dX12_can_66 : decode cX12_can 66 = .ok (.iload_n 2, 1) := by decide +kernel
theorem dX12_can_67 : decode cX12_can 67 = .ok (.iload 5, 2) := by decide +kernel
theorem dX12_can_69 : decode cX12_can 69 = .ok (.invokevirtual 178, 3) := by decide +kernel
theorem dX12_can_72 : decode cX12_can 72 = .ok (.istore 6, 2) := by decide +kernel
theorem dX12_can_74 : decode cX12_can 74 = .ok (.iload 4, 2) := by decide +kernel
theorem dX12_can_76 : decode cX12_can 76 = .ok (.iload 6, 2) := by decide +kernel
theorem dX12_can_78 : decode cX12_can 78 = .ok (.ifCond .eq 10, 3) := by decide +kernel
theorem dX12_can_81 : decode cX12_can 81 = .ok (.iconst 1, 1) := by decide +kernel
theorem dX12_can_82 : decode cX12_can 82 = .ok (.iload 5, 2) := by decide +kernel
theorem dX12_can_84 : decode cX12_can 84 = .ok (.ishl, 1) := by decide +kernel
theorem dX12_can_85 : decode cX12_can 85 = .ok (.goto 4, 3) := by decide +kernel
theorem dX12_can_88 : decode cX12_can 88 = .ok (.iconst 0, 1) := by decide +kernel
theorem dX12_can_89 : decode cX12_can 89 = .ok (.ior, 1) := by decide +kernel
theorem dX12_can_90 : decode cX12_can 90 = .ok (.istore 4, 2) := by decide +kernel
theorem dX12_can_92 : decode cX12_can 92 = .ok (.iinc 5 1, 3) := by decide +kernel
theorem dX12_can_95 : decode cX12_can 95 = .ok (.goto (-52), 3) := by decide +kernel
theorem dX12_can_98 : decode cX12_can 98 = .ok (.iload 4, 2) := by decide +kernel
theorem dX12_can_100 : decode cX12_can 100 = .ok (.ireturn, 1) := by decide +kernel
theorem dX12_plan_0 : decode cX12_plan 0 = .ok (.aload_n 0, 1) := by decide +kernel
theorem dX12_plan_1 : decode cX12_plan 1 = .ok (.iload_n 1, 1) := by decide +kernel
theorem dX12_plan_2 : decode cX12_plan 2 = .ok (.invokevirtual 56, 3) := by decide +kernel
theorem dX12_plan_5 : decode cX12_plan 5 = .ok (.ifCond .eq 26, 3) := by decide +kernel
theorem dX12_plan_8 : decode cX12_plan 8 = .ok (.iload_n 2, 1) := by decide +kernel
theorem dX12_plan_9 : decode cX12_plan 9 = .ok (.invokestatic 181, 3) := by decide +kernel
theorem dX12_plan_12 : decode cX12_plan 12 = .ok (.ifCond .eq 19, 3) := by decide +kernel
theorem dX12_plan_15 : decode cX12_plan 15 = .ok (.iload_n 3, 1) := by decide +kernel
theorem dX12_plan_16 : decode cX12_plan 16 = .ok (.iconst (-1), 1) := by decide +kernel
theorem dX12_plan_17 : decode cX12_plan 17 = .ok (.aload_n 0, 1) := by decide +kernel
theorem dX12_plan_18 : decode cX12_plan 18 = .ok (.getfield 9, 3) := by decide +kernel
theorem dX12_plan_21 : decode cX12_plan 21 = .ok (.iconst 1, 1) := by decide +kernel
theorem dX12_plan_22 : decode cX12_plan 22 = .ok (.iaload, 1) := by decide +kernel
theorem dX12_plan_23 : decode cX12_plan 23 = .ok (.iconst 1, 1) := by decide +kernel
theorem dX12_plan_24 : decode cX12_plan 24 = .ok (.isub, 1) := by decide +kernel
theorem dX12_plan_25 : decode cX12_plan 25 = .ok (.invokestatic 47, 3) := by decide +kernel
theorem dX12_plan_28 : decode cX12_plan 28 = .ok (.ifCond .ne 5, 3) := by decide +kernel
theorem dX12_plan_31 : decode cX12_plan 31 = .ok (.iconst (-1), 1) := by decide +kernel
theorem dX12_plan_32 : decode cX12_plan 32 = .ok (.ireturn, 1) := by decide +kernel
theorem dX12_plan_33 : decode cX12_plan 33 = .ok (.sipush 236, 3) := by decide +kernel
theorem dX12_plan_36 : decode cX12_plan 36 = .ok (.bipush 8, 2) := by decide +kernel
theorem dX12_plan_38 : decode cX12_plan 38 = .ok (.iload_n 1, 1) := by decide +kernel
theorem dX12_plan_39 : decode cX12_plan 39 = .ok (.imul, 1) := by decide +kernel
theorem dX12_plan_40 : decode cX12_plan 40 = .ok (.iadd, 1) := by decide +kernel
theorem dX12_plan_41 : decode cX12_plan 41 = .ok (.iload_n 2, 1) := by decide +kernel
theorem dX12_plan_42 : decode cX12_plan 42 = .ok (.iadd, 1) := by decide +kernel
theorem dX12_plan_43 : decode cX12_plan 43 = .ok (.istore 4, 2) := by decide +kernel
theorem dX12_plan_45 : decode cX12_plan 45 = .ok (.aload_n 0, 1) := by decide +kernel
theorem dX12_plan_46 : decode cX12_plan 46 = .ok (.getfield 9, 3) := by decide +kernel
theorem dX12_plan_49 : decode cX12_plan 49 = .ok (.iload 4, 2) := by decide +kernel
theorem dX12_plan_51 : decode cX12_plan 51 = .ok (.iaload, 1) := by decide +kernel
theorem dX12_plan_52 : decode cX12_plan 52 = .ok (.istore 5, 2) := by decide +kernel
theorem dX12_plan_54 : decode cX12_plan 54 = .ok (.aload_n 0, 1) := by decide +kernel
theorem dX12_plan_55 : decode cX12_plan 55 = .ok (.getfield 9, 3) := by decide +kernel
theorem dX12_plan_58 : decode cX12_plan 58 = .ok (.iload 4, 2) := by decide +kernel
theorem dX12_plan_60 : decode cX12_plan 60 = .ok (.iload_n 3, 1) := by decide +kernel
theorem dX12_plan_61 : decode cX12_plan 61 = .ok (.iastore, 1) := by decide +kernel
theorem dX12_plan_62 : decode cX12_plan 62 = .ok (.iload 5, 2) := by decide +kernel
theorem dX12_plan_64 : decode cX12_plan 64 = .ok (.iconst (-1), 1) := by decide +kernel
theorem dX12_plan_65 : decode cX12_plan 65 = .ok (.if_icmp .ne 8, 3) := by decide +kernel
theorem dX12_plan_68 : decode cX12_plan 68 = .ok (.bipush (-5), 2) := by decide +kernel
theorem dX12_plan_70 : decode cX12_plan 70 = .ok (.goto 5, 3) := by decide +kernel
theorem dX12_plan_73 : decode cX12_plan 73 = .ok (.iload 5, 2) := by decide +kernel
theorem dX12_plan_75 : decode cX12_plan 75 = .ok (.ireturn, 1) := by decide +kernel
theorem dX12_turnsTooFar_0 : decode cX12_turnsTooFar 0 = .ok (.iload_n 1, 1) := by decide +kernel
theorem dX12_turnsTooFar_1 : decode cX12_turnsTooFar 1 = .ok (.iconst (-1), 1) := by decide +kernel
theorem dX12_turnsTooFar_2 : decode cX12_turnsTooFar 2 = .ok (.if_icmp .eq 30, 3) := by decide +kernel
theorem dX12_turnsTooFar_5 : decode cX12_turnsTooFar 5 = .ok (.iload_n 2, 1) := by decide +kernel
theorem dX12_turnsTooFar_6 : decode cX12_turnsTooFar 6 = .ok (.iconst (-1), 1) := by decide +kernel
theorem dX12_turnsTooFar_7 : decode cX12_turnsTooFar 7 = .ok (.if_icmp .eq 25, 3) := by decide +kernel
theorem dX12_turnsTooFar_10 : decode cX12_turnsTooFar 10 = .ok (.iload_n 1, 1) := by decide +kernel
theorem dX12_turnsTooFar_11 : decode cX12_turnsTooFar 11 = .ok (.iload_n 2, 1) := by decide +kernel
theorem dX12_turnsTooFar_12 : decode cX12_turnsTooFar 12 = .ok (.isub, 1) := by decide +kernel
theorem dX12_turnsTooFar_13 : decode cX12_turnsTooFar 13 = .ok (.invokestatic 168, 3) := by decide +kernel
theorem dX12_turnsTooFar_16 : decode cX12_turnsTooFar 16 = .ok (.aload_n 0, 1) := by decide +kernel
theorem dX12_turnsTooFar_17 : decode cX12_turnsTooFar 17 = .ok (.sipush 289, 3) := by decide +kernel
theorem dX12_turnsTooFar_20 : decode cX12_turnsTooFar 20 = .ok (.bipush 9, 2) := by decide +kernel
theorem dX12_turnsTooFar_22 : decode cX12_turnsTooFar 22 = .ok (.invokevirtual 148, 3) := by decide +kernel
theorem dX12_turnsTooFar_25 : decode cX12_turnsTooFar 25 = .ok (.if_icmp .le 7, 3) := by decide +kernel
theorem dX12_turnsTooFar_28 : decode cX12_turnsTooFar 28 = .ok (.iconst 1, 1) := by decide +kernel
theorem dX12_turnsTooFar_29 : decode cX12_turnsTooFar 29 = .ok (.goto 4, 3) := by decide +kernel
theorem dX12_turnsTooFar_32 : decode cX12_turnsTooFar 32 = .ok (.iconst 0, 1) := by decide +kernel
theorem dX12_turnsTooFar_33 : decode cX12_turnsTooFar 33 = .ok (.ireturn, 1) := by decide +kernel
theorem dX12_judged_0 : decode cX12_judged 0 = .ok (.aload_n 0, 1) := by decide +kernel
theorem dX12_judged_1 : decode cX12_judged 1 = .ok (.aload_n 0, 1) := by decide +kernel
theorem dX12_judged_2 : decode cX12_judged 2 = .ok (.getfield 9, 3) := by decide +kernel
theorem dX12_judged_5 : decode cX12_judged 5 = .ok (.iconst 4, 1) := by decide +kernel
theorem dX12_judged_6 : decode cX12_judged 6 = .ok (.iaload, 1) := by decide +kernel
theorem dX12_judged_7 : decode cX12_judged 7 = .ok (.putfield 145, 3) := by decide +kernel
theorem dX12_judged_10 : decode cX12_judged 10 = .ok (.iconst 0, 1) := by decide +kernel
theorem dX12_judged_11 : decode cX12_judged 11 = .ok (.istore_n 1, 1) := by decide +kernel
theorem dX12_judged_12 : decode cX12_judged 12 = .ok (.iload_n 1, 1) := by decide +kernel
theorem dX12_judged_13 : decode cX12_judged 13 = .ok (.bipush 8, 2) := by decide +kernel
theorem dX12_judged_15 : decode cX12_judged 15 = .ok (.if_icmp .ge 94, 3) := by decide +kernel
theorem dX12_judged_18 : decode cX12_judged 18 = .ok (.iconst 0, 1) := by decide +kernel
theorem dX12_judged_19 : decode cX12_judged 19 = .ok (.istore_n 2, 1) := by decide +kernel
theorem dX12_judged_20 : decode cX12_judged 20 = .ok (.iload_n 2, 1) := by decide +kernel
theorem dX12_judged_21 : decode cX12_judged 21 = .ok (.aload_n 0, 1) := by decide +kernel
theorem dX12_judged_22 : decode cX12_judged 22 = .ok (.getfield 9, 3) := by decide +kernel
theorem dX12_judged_25 : decode cX12_judged 25 = .ok (.iconst 0, 1) := by decide +kernel
theorem dX12_judged_26 : decode cX12_judged 26 = .ok (.iaload, 1) := by decide +kernel
theorem dX12_judged_27 : decode cX12_judged 27 = .ok (.if_icmp .ge 76, 3) := by decide +kernel
theorem dX12_judged_30 : decode cX12_judged 30 = .ok (.aload_n 0, 1) := by decide +kernel
theorem dX12_judged_31 : decode cX12_judged 31 = .ok (.getfield 9, 3) := by decide +kernel
theorem dX12_judged_34 : decode cX12_judged 34 = .ok (.sipush 236, 3) := by decide +kernel
theorem dX12_judged_37 : decode cX12_judged 37 = .ok (.bipush 8, 2) := by decide +kernel
theorem dX12_judged_39 : decode cX12_judged 39 = .ok (.iload_n 2, 1) := by decide +kernel
theorem dX12_judged_40 : decode cX12_judged 40 = .ok (.imul, 1) := by decide +kernel
theorem dX12_judged_41 : decode cX12_judged 41 = .ok (.iadd, 1) := by decide +kernel
theorem dX12_judged_42 : decode cX12_judged 42 = .ok (.iload_n 1, 1) := by decide +kernel
theorem dX12_judged_43 : decode cX12_judged 43 = .ok (.iadd, 1) := by decide +kernel
theorem dX12_judged_44 : decode cX12_judged 44 = .ok (.iaload, 1) := by decide +kernel
theorem dX12_judged_45 : decode cX12_judged 45 = .ok (.istore_n 3, 1) := by decide +kernel
theorem dX12_judged_46 : decode cX12_judged 46 = .ok (.iload_n 3, 1) := by decide +kernel
theorem dX12_judged_47 : decode cX12_judged 47 = .ok (.iconst (-1), 1) := by decide +kernel
theorem dX12_judged_48 : decode cX12_judged 48 = .ok (.if_icmp .eq 49, 3) := by decide +kernel
theorem dX12_judged_51 : decode cX12_judged 51 = .ok (.aload_n 0, 1) := by decide +kernel
theorem dX12_judged_52 : decode cX12_judged 52 = .ok (.iload_n 2, 1) := by decide +kernel
theorem dX12_judged_53 : decode cX12_judged 53 = .ok (.iload_n 3, 1) := by decide +kernel
theorem dX12_judged_54 : decode cX12_judged 54 = .ok (.iload_n 1, 1) := by decide +kernel
theorem dX12_judged_55 : decode cX12_judged 55 = .ok (.invokevirtual 178, 3) := by decide +kernel
theorem dX12_judged_58 : decode cX12_judged 58 = .ok (.ifCond .eq 32, 3) := by decide +kernel
theorem dX12_judged_61 : decode cX12_judged 61 = .ok (.iload_n 1, 1) := by decide +kernel
theorem dX12_judged_62 : decode cX12_judged 62 = .ok (.ifCond .le 35, 3) := by decide +kernel
theorem dX12_judged_65 : decode cX12_judged 65 = .ok (.aload_n 0, 1) := by decide +kernel
theorem dX12_judged_66 : decode cX12_judged 66 = .ok (.iload_n 3, 1) := by decide +kernel
theorem dX12_judged_67 : decode cX12_judged 67 = .ok (.aload_n 0, 1) := by decide +kernel
theorem dX12_judged_68 : decode cX12_judged 68 = .ok (.getfield 9, 3) := by decide +kernel
theorem dX12_judged_71 : decode cX12_judged 71 = .ok (.sipush 236, 3) := by decide +kernel
theorem dX12_judged_74 : decode cX12_judged 74 = .ok (.bipush 8, 2) := by decide +kernel
theorem dX12_judged_76 : decode cX12_judged 76 = .ok (.iload_n 2, 1) := by decide +kernel
theorem dX12_judged_77 : decode cX12_judged 77 = .ok (.imul, 1) := by decide +kernel
theorem dX12_judged_78 : decode cX12_judged 78 = .ok (.iadd, 1) := by decide +kernel
theorem dX12_judged_79 : decode cX12_judged 79 = .ok (.iload_n 1, 1) := by decide +kernel
theorem dX12_judged_80 : decode cX12_judged 80 = .ok (.iadd, 1) := by decide +kernel
theorem dX12_judged_81 : decode cX12_judged 81 = .ok (.iconst 1, 1) := by decide +kernel
theorem dX12_judged_82 : decode cX12_judged 82 = .ok (.isub, 1) := by decide +kernel
theorem dX12_judged_83 : decode cX12_judged 83 = .ok (.iaload, 1) := by decide +kernel
theorem dX12_judged_84 : decode cX12_judged 84 = .ok (.invokevirtual 184, 3) := by decide +kernel
theorem dX12_judged_87 : decode cX12_judged 87 = .ok (.ifCond .eq 10, 3) := by decide +kernel
theorem dX12_judged_90 : decode cX12_judged 90 = .ok (.bipush 10, 2) := by decide +kernel
theorem dX12_judged_92 : decode cX12_judged 92 = .ok (.iload_n 1, 1) := by decide +kernel
theorem dX12_judged_93 : decode cX12_judged 93 = .ok (.imul, 1) := by decide +kernel
theorem dX12_judged_94 : decode cX12_judged 94 = .ok (.iload_n 2, 1) := by decide +kernel
theorem dX12_judged_95 : decode cX12_judged 95 = .ok (.iadd, 1) := by decide +kernel
theorem dX12_judged_96 : decode cX12_judged 96 = .ok (.ireturn, 1) := by decide +kernel
theorem dX12_judged_97 : decode cX12_judged 97 = .ok (.iinc 2 1, 3) := by decide +kernel
theorem dX12_judged_100 : decode cX12_judged 100 = .ok (.goto (-80), 3) := by decide +kernel
theorem dX12_judged_103 : decode cX12_judged 103 = .ok (.iinc 1 1, 3) := by decide +kernel
theorem dX12_judged_106 : decode cX12_judged 106 = .ok (.goto (-94), 3) := by decide +kernel
theorem dX12_judged_109 : decode cX12_judged 109 = .ok (.bipush (-5), 2) := by decide +kernel
theorem dX12_judged_111 : decode cX12_judged 111 = .ok (.ireturn, 1) := by decide +kernel
theorem dX12_lightOf_0 : decode cX12_lightOf 0 = .ok (.aload_n 0, 1) := by decide +kernel
theorem dX12_lightOf_1 : decode cX12_lightOf 1 = .ok (.getfield 9, 3) := by decide +kernel
theorem dX12_lightOf_4 : decode cX12_lightOf 4 = .ok (.sipush 130, 3) := by decide +kernel
theorem dX12_lightOf_7 : decode cX12_lightOf 7 = .ok (.iload_n 1, 1) := by decide +kernel
theorem dX12_lightOf_8 : decode cX12_lightOf 8 = .ok (.iadd, 1) := by decide +kernel
theorem dX12_lightOf_9 : decode cX12_lightOf 9 = .ok (.iaload, 1) := by decide +kernel
theorem dX12_lightOf_10 : decode cX12_lightOf 10 = .ok (.iconst 4, 1) := by decide +kernel
theorem dX12_lightOf_11 : decode cX12_lightOf 11 = .ok (.if_icmp .ne 18, 3) := by decide +kernel
theorem dX12_lightOf_14 : decode cX12_lightOf 14 = .ok (.iconst 2, 1) := by decide +kernel
theorem dX12_lightOf_15 : decode cX12_lightOf 15 = .ok (.aload_n 0, 1) := by decide +kernel
theorem dX12_lightOf_16 : decode cX12_lightOf 16 = .ok (.getfield 9, 3) := by decide +kernel
theorem dX12_lightOf_19 : decode cX12_lightOf 19 = .ok (.sipush 154, 3) := by decide +kernel
theorem dX12_lightOf_22 : decode cX12_lightOf 22 = .ok (.iload_n 1, 1) := by decide +kernel
theorem dX12_lightOf_23 : decode cX12_lightOf 23 = .ok (.iadd, 1) := by decide +kernel
theorem dX12_lightOf_24 : decode cX12_lightOf 24 = .ok (.iaload, 1) := by decide +kernel
theorem dX12_lightOf_25 : decode cX12_lightOf 25 = .ok (.imul, 1) := by decide +kernel
theorem dX12_lightOf_26 : decode cX12_lightOf 26 = .ok (.goto 13, 3) := by decide +kernel
theorem dX12_lightOf_29 : decode cX12_lightOf 29 = .ok (.aload_n 0, 1) := by decide +kernel
theorem dX12_lightOf_30 : decode cX12_lightOf 30 = .ok (.getfield 9, 3) := by decide +kernel
theorem dX12_lightOf_33 : decode cX12_lightOf 33 = .ok (.sipush 154, 3) := by decide +kernel
theorem dX12_lightOf_36 : decode cX12_lightOf 36 = .ok (.iload_n 1, 1) := by decide +kernel
theorem dX12_lightOf_37 : decode cX12_lightOf 37 = .ok (.iadd, 1) := by decide +kernel
theorem dX12_lightOf_38 : decode cX12_lightOf 38 = .ok (.iaload, 1) := by decide +kernel
theorem dX12_lightOf_39 : decode cX12_lightOf 39 = .ok (.ireturn, 1) := by decide +kernel
theorem dX12_lightAt_0 : decode cX12_lightAt 0 = .ok (.iconst 0, 1) := by decide +kernel
theorem dX12_lightAt_1 : decode cX12_lightAt 1 = .ok (.istore_n 3, 1) := by decide +kernel
theorem dX12_lightAt_2 : decode cX12_lightAt 2 = .ok (.iconst 0, 1) := by decide +kernel
theorem dX12_lightAt_3 : decode cX12_lightAt 3 = .ok (.istore 4, 2) := by decide +kernel
theorem dX12_lightAt_5 : decode cX12_lightAt 5 = .ok (.iload 4, 2) := by decide +kernel
theorem dX12_lightAt_7 : decode cX12_lightAt 7 = .ok (.aload_n 0, 1) := by decide +kernel
theorem dX12_lightAt_8 : decode cX12_lightAt 8 = .ok (.getfield 9, 3) := by decide +kernel
theorem dX12_lightAt_11 : decode cX12_lightAt 11 = .ok (.iconst 0, 1) := by decide +kernel
theorem dX12_lightAt_12 : decode cX12_lightAt 12 = .ok (.iaload, 1) := by decide +kernel
theorem dX12_lightAt_13 : decode cX12_lightAt 13 = .ok (.if_icmp .ge 53, 3) := by decide +kernel
theorem dX12_lightAt_16 : decode cX12_lightAt 16 = .ok (.iload_n 3, 1) := by decide +kernel
theorem dX12_lightAt_17 : decode cX12_lightAt 17 = .ok (.aload_n 0, 1) := by decide +kernel
theorem dX12_lightAt_18 : decode cX12_lightAt 18 = .ok (.getfield 9, 3) := by decide +kernel
theorem dX12_lightAt_21 : decode cX12_lightAt 21 = .ok (.sipush 236, 3) := by decide +kernel
theorem dX12_lightAt_24 : decode cX12_lightAt 24 = .ok (.bipush 8, 2) := by decide +kernel
theorem dX12_lightAt_26 : decode cX12_lightAt 26 = .ok (.iload 4, 2) := by decide +kernel
theorem dX12_lightAt_28 : decode cX12_lightAt 28 = .ok (.imul, 1) := by decide +kernel
theorem dX12_lightAt_29 : decode cX12_lightAt 29 = .ok (.iadd, 1) := by decide +kernel
theorem dX12_lightAt_30 : decode cX12_lightAt 30 = .ok (.iload_n 2, 1) := by decide +kernel
theorem dX12_lightAt_31 : decode cX12_lightAt 31 = .ok (.iadd, 1) := by decide +kernel
theorem dX12_lightAt_32 : decode cX12_lightAt 32 = .ok (.iaload, 1) := by decide +kernel
theorem dX12_lightAt_33 : decode cX12_lightAt 33 = .ok (.iload_n 1, 1) := by decide +kernel
theorem dX12_lightAt_34 : decode cX12_lightAt 34 = .ok (.if_icmp .ne 23, 3) := by decide +kernel
theorem dX12_lightAt_37 : decode cX12_lightAt 37 = .ok (.aload_n 0, 1) := by decide +kernel
theorem dX12_lightAt_38 : decode cX12_lightAt 38 = .ok (.iload 4, 2) := by decide +kernel
theorem dX12_lightAt_40 : decode cX12_lightAt 40 = .ok (.iload_n 1, 1) := by decide +kernel
theorem dX12_lightAt_41 : decode cX12_lightAt 41 = .ok (.iload_n 2, 1) := by decide +kernel
theorem dX12_lightAt_42 : decode cX12_lightAt 42 = .ok (.invokevirtual 178, 3) := by decide +kernel
theorem dX12_lightAt_45 : decode cX12_lightAt 45 = .ok (.ifCond .eq 12, 3) := by decide +kernel
theorem dX12_lightAt_48 : decode cX12_lightAt 48 = .ok (.aload_n 0, 1) := by decide +kernel
theorem dX12_lightAt_49 : decode cX12_lightAt 49 = .ok (.iload 4, 2) := by decide +kernel
theorem dX12_lightAt_51 : decode cX12_lightAt 51 = .ok (.invokevirtual 187, 3) := by decide +kernel
theorem dX12_lightAt_54 : decode cX12_lightAt 54 = .ok (.goto 4, 3) := by decide +kernel
theorem dX12_lightAt_57 : decode cX12_lightAt 57 = .ok (.iconst 0, 1) := by decide +kernel
theorem dX12_lightAt_58 : decode cX12_lightAt 58 = .ok (.iadd, 1) := by decide +kernel
theorem dX12_lightAt_59 : decode cX12_lightAt 59 = .ok (.istore_n 3, 1) := by decide +kernel
theorem dX12_lightAt_60 : decode cX12_lightAt 60 = .ok (.iinc 4 1, 3) := by decide +kernel
theorem dX12_lightAt_63 : decode cX12_lightAt 63 = .ok (.goto (-58), 3) := by decide +kernel
theorem dX12_lightAt_66 : decode cX12_lightAt 66 = .ok (.iload_n 3, 1) := by decide +kernel
theorem dX12_lightAt_67 : decode cX12_lightAt 67 = .ok (.ireturn, 1) := by decide +kernel
theorem dX12_hasOf_0 : decode cX12_hasOf 0 = .ok (.iconst 0, 1) := by decide +kernel
theorem dX12_hasOf_1 : decode cX12_hasOf 1 = .ok (.istore_n 2, 1) := by decide +kernel
theorem dX12_hasOf_2 : decode cX12_hasOf 2 = .ok (.iconst 0, 1) := by decide +kernel
theorem dX12_hasOf_3 : decode cX12_hasOf 3 = .ok (.istore_n 3, 1) := by decide +kernel
theorem dX12_hasOf_4 : decode cX12_hasOf 4 = .ok (.iload_n 3, 1) := by decide +kernel
theorem dX12_hasOf_5 : decode cX12_hasOf 5 = .ok (.bipush 8, 2) := by decide +kernel
theorem dX12_hasOf_7 : decode cX12_hasOf 7 = .ok (.if_icmp .ge 18, 3) := by decide +kernel
theorem dX12_hasOf_10 : decode cX12_hasOf 10 = .ok (.iload_n 2, 1) := by decide +kernel
theorem dX12_hasOf_11 : decode cX12_hasOf 11 = .ok (.aload_n 0, 1) := by decide +kernel
theorem dX12_hasOf_12 : decode cX12_hasOf 12 = .ok (.iload_n 1, 1) := by decide +kernel
theorem dX12_hasOf_13 : decode cX12_hasOf 13 = .ok (.iload_n 3, 1) := by decide +kernel
theorem dX12_hasOf_14 : decode cX12_hasOf 14 = .ok (.invokevirtual 190, 3) := by decide +kernel
theorem dX12_hasOf_17 : decode cX12_hasOf 17 = .ok (.iadd, 1) := by decide +kernel
theorem dX12_hasOf_18 : decode cX12_hasOf 18 = .ok (.istore_n 2, 1) := by decide +kernel
theorem dX12_hasOf_19 : decode cX12_hasOf 19 = .ok (.iinc 3 1, 3) := by decide +kernel
theorem dX12_hasOf_22 : decode cX12_hasOf 22 = .ok (.goto (-18), 3) := by decide +kernel
theorem dX12_hasOf_25 : decode cX12_hasOf 25 = .ok (.iload_n 2, 1) := by decide +kernel
theorem dX12_hasOf_26 : decode cX12_hasOf 26 = .ok (.ireturn, 1) := by decide +kernel
theorem dX12_hasOwn_0 : decode cX12_hasOwn 0 = .ok (.aload_n 0, 1) := by decide +kernel
theorem dX12_hasOwn_1 : decode cX12_hasOwn 1 = .ok (.bipush (-13), 2) := by decide +kernel
theorem dX12_hasOwn_3 : decode cX12_hasOwn 3 = .ok (.bipush 99, 2) := by decide +kernel
theorem dX12_hasOwn_5 : decode cX12_hasOwn 5 = .ok (.iload_n 1, 1) := by decide +kernel
theorem dX12_hasOwn_6 : decode cX12_hasOwn 6 = .ok (.iload_n 2, 1) := by decide +kernel
theorem dX12_hasOwn_7 : decode cX12_hasOwn 7 = .ok (.invokevirtual 164, 3) := by decide +kernel
theorem dX12_hasOwn_10 : decode cX12_hasOwn 10 = .ok (.ireturn, 1) := by decide +kernel
theorem dX12_has_0 : decode cX12_has 0 = .ok (.aload_n 0, 1) := by decide +kernel
theorem dX12_has_1 : decode cX12_has 1 = .ok (.iload_n 1, 1) := by decide +kernel
theorem dX12_has_2 : decode cX12_has 2 = .ok (.invokevirtual 59, 3) := by decide +kernel
theorem dX12_has_5 : decode cX12_has 5 = .ok (.ifCond .eq 12, 3) := by decide +kernel
theorem dX12_has_8 : decode cX12_has 8 = .ok (.iload_n 2, 1) := by decide +kernel
theorem dX12_has_9 : decode cX12_has 9 = .ok (.iconst 0, 1) := by decide +kernel
theorem dX12_has_10 : decode cX12_has 10 = .ok (.iconst 2, 1) := by decide +kernel
theorem dX12_has_11 : decode cX12_has 11 = .ok (.invokestatic 47, 3) := by decide +kernel
theorem dX12_has_14 : decode cX12_has 14 = .ok (.ifCond .ne 5, 3) := by decide +kernel
theorem dX12_has_17 : decode cX12_has 17 = .ok (.iconst (-1), 1) := by decide +kernel
theorem dX12_has_18 : decode cX12_has 18 = .ok (.ireturn, 1) := by decide +kernel
theorem dX12_has_19 : decode cX12_has 19 = .ok (.aload_n 0, 1) := by decide +kernel
theorem dX12_has_20 : decode cX12_has 20 = .ok (.aload_n 0, 1) := by decide +kernel
theorem dX12_has_21 : decode cX12_has 21 = .ok (.getfield 9, 3) := by decide +kernel
theorem dX12_has_24 : decode cX12_has 24 = .ok (.iconst 4, 1) := by decide +kernel
theorem dX12_has_25 : decode cX12_has 25 = .ok (.iaload, 1) := by decide +kernel
theorem dX12_has_26 : decode cX12_has 26 = .ok (.putfield 145, 3) := by decide +kernel
theorem dX12_has_29 : decode cX12_has 29 = .ok (.iload_n 2, 1) := by decide +kernel
theorem dX12_has_30 : decode cX12_has 30 = .ok (.ifCond .ne 9, 3) := by decide +kernel
theorem dX12_has_33 : decode cX12_has 33 = .ok (.aload_n 0, 1) := by decide +kernel
theorem dX12_has_34 : decode cX12_has 34 = .ok (.iload_n 1, 1) := by decide +kernel
theorem dX12_has_35 : decode cX12_has 35 = .ok (.invokevirtual 193, 3) := by decide +kernel
theorem dX12_has_38 : decode cX12_has 38 = .ok (.ireturn, 1) := by decide +kernel
theorem dX12_has_39 : decode cX12_has 39 = .ok (.iconst 0, 1) := by decide +kernel
theorem dX12_has_40 : decode cX12_has 40 = .ok (.istore_n 3, 1) := by decide +kernel
theorem dX12_has_41 : decode cX12_has 41 = .ok (.iconst 0, 1) := by decide +kernel
theorem dX12_has_42 : decode cX12_has 42 = .ok (.istore 4, 2) := by decide +kernel
theorem dX12_has_44 : decode cX12_has 44 = .ok (.iload 4, 2) := by decide +kernel
theorem dX12_has_46 : decode cX12_has 46 = .ok (.bipush 8, 2) := by decide +kernel
theorem dX12_has_48 : decode cX12_has 48 = .ok (.if_icmp .ge 66, 3) := by decide +kernel
theorem dX12_has_51 : decode cX12_has 51 = .ok (.aload_n 0, 1) := by decide +kernel
theorem dX12_has_52 : decode cX12_has 52 = .ok (.iload_n 1, 1) := by decide +kernel
theorem dX12_has_53 : decode cX12_has 53 = .ok (.iload 4, 2) := by decide +kernel
theorem dX12_has_55 : decode cX12_has 55 = .ok (.invokevirtual 196, 3) := by decide +kernel
theorem dX12_has_58 : decode cX12_has 58 = .ok (.istore 5, 2) := by decide +kernel
theorem dX12_has_60 : decode cX12_has 60 = .ok (.iload_n 2, 1) := by decide +kernel
theorem dX12_has_61 : decode cX12_has 61 = .ok (.iconst 2, 1) := by decide +kernel
theorem dX12_has_62 : decode cX12_has 62 = .ok (.if_icmp .ne 8, 3) := by decide +kernel
theorem dX12_has_65 : decode cX12_has 65 = .ok (.iload 5, 2) := by decide +kernel
theorem dX12_has_67 : decode cX12_has 67 = .ok (.goto 23, 3) := by decide +kernel
theorem dX12_has_70 : decode cX12_has 70 = .ok (.iload 5, 2) := by decide +kernel
theorem dX12_has_72 : decode cX12_has 72 = .ok (.ifCond .ne 17, 3) := by decide +kernel
theorem dX12_has_75 : decode cX12_has 75 = .ok (.aload_n 0, 1) := by decide +kernel
theorem dX12_has_76 : decode cX12_has 76 = .ok (.iload_n 1, 1) := by decide +kernel
theorem dX12_has_77 : decode cX12_has 77 = .ok (.iload 4, 2) := by decide +kernel
theorem dX12_has_79 : decode cX12_has 79 = .ok (.invokevirtual 190, 3) := by decide +kernel
theorem dX12_has_82 : decode cX12_has 82 = .ok (.ifCond .ne 7, 3) := by decide +kernel
theorem dX12_has_85 : decode cX12_has 85 = .ok (.iconst 1, 1) := by decide +kernel
theorem dX12_has_86 : decode cX12_has 86 = .ok (.goto 4, 3) := by decide +kernel
theorem dX12_has_89 : decode cX12_has 89 = .ok (.iconst 0, 1) := by decide +kernel
theorem dX12_has_90 : decode cX12_has 90 = .ok (.istore 6, 2) := by decide +kernel
theorem dX12_has_92 : decode cX12_has 92 = .ok (.iload_n 3, 1) := by decide +kernel
theorem dX12_has_93 : decode cX12_has 93 = .ok (.iload 6, 2) := by decide +kernel
theorem dX12_has_95 : decode cX12_has 95 = .ok (.ifCond .eq 10, 3) := by decide +kernel
theorem dX12_has_98 : decode cX12_has 98 = .ok (.iconst 1, 1) := by decide +kernel
theorem dX12_has_99 : decode cX12_has 99 = .ok (.iload 4, 2) := by decide +kernel
theorem dX12_has_101 : decode cX12_has 101 = .ok (.ishl, 1) := by decide +kernel
theorem dX12_has_102 : decode cX12_has 102 = .ok (.goto 4, 3) := by decide +kernel
theorem dX12_has_105 : decode cX12_has 105 = .ok (.iconst 0, 1) := by decide +kernel
theorem dX12_has_106 : decode cX12_has 106 = .ok (.ior, 1) := by decide +kernel
theorem dX12_has_107 : decode cX12_has 107 = .ok (.istore_n 3, 1) := by decide +kernel
theorem dX12_has_108 : decode cX12_has 108 = .ok (.iinc 4 1, 3) := by decide +kernel
theorem dX12_has_111 : decode cX12_has 111 = .ok (.goto (-67), 3) := by decide +kernel
theorem dX12_has_114 : decode cX12_has 114 = .ok (.iload_n 3, 1) := by decide +kernel
theorem dX12_has_115 : decode cX12_has 115 = .ok (.ireturn, 1) := by decide +kernel
theorem dX12_worstOff_0 : decode cX12_worstOff 0 = .ok (.bipush (-5), 2) := by decide +kernel
theorem dX12_worstOff_2 : decode cX12_worstOff 2 = .ok (.istore_n 1, 1) := by decide +kernel
theorem dX12_worstOff_3 : decode cX12_worstOff 3 = .ok (.iconst 0, 1) := by decide +kernel
theorem dX12_worstOff_4 : decode cX12_worstOff 4 = .ok (.istore_n 2, 1) := by decide +kernel
theorem dX12_worstOff_5 : decode cX12_worstOff 5 = .ok (.iconst 0, 1) := by decide +kernel
theorem dX12_worstOff_6 : decode cX12_worstOff 6 = .ok (.istore_n 3, 1) := by decide +kernel
theorem dX12_worstOff_7 : decode cX12_worstOff 7 = .ok (.iload_n 3, 1) := by decide +kernel
theorem dX12_worstOff_8 : decode cX12_worstOff 8 = .ok (.aload_n 0, 1) := by decide +kernel
theorem dX12_worstOff_9 : decode cX12_worstOff 9 = .ok (.getfield 9, 3) := by decide +kernel
theorem dX12_worstOff_12 : decode cX12_worstOff 12 = .ok (.iconst 1, 1) := by decide +kernel
theorem dX12_worstOff_13 : decode cX12_worstOff 13 = .ok (.iaload, 1) := by decide +kernel
theorem dX12_worstOff_14 : decode cX12_worstOff 14 = .ok (.if_icmp .ge 58, 3) := by decide +kernel
theorem dX12_worstOff_17 : decode cX12_worstOff 17 = .ok (.aload_n 0, 1) := by decide +kernel
theorem dX12_worstOff_18 : decode cX12_worstOff 18 = .ok (.iload_n 3, 1) := by decide +kernel
theorem dX12_worstOff_19 : decode cX12_worstOff 19 = .ok (.invokevirtual 193, 3) := by decide +kernel
theorem dX12_worstOff_22 : decode cX12_worstOff 22 = .ok (.istore 4, 2) := by decide +kernel
theorem dX12_worstOff_24 : decode cX12_worstOff 24 = .ok (.iload_n 1, 1) := by decide +kernel
theorem dX12_worstOff_25 : decode cX12_worstOff 25 = .ok (.bipush (-5), 2) := by decide +kernel
theorem dX12_worstOff_27 : decode cX12_worstOff 27 = .ok (.if_icmp .eq 9, 3) := by decide +kernel
theorem dX12_worstOff_30 : decode cX12_worstOff 30 = .ok (.iload 4, 2) := by decide +kernel
theorem dX12_worstOff_32 : decode cX12_worstOff 32 = .ok (.iload_n 2, 1) := by decide +kernel
theorem dX12_worstOff_33 : decode cX12_worstOff 33 = .ok (.if_icmp .ge 7, 3) := by decide +kernel
theorem dX12_worstOff_36 : decode cX12_worstOff 36 = .ok (.iconst 1, 1) := by decide +kernel
theorem dX12_worstOff_37 : decode cX12_worstOff 37 = .ok (.goto 4, 3) := by decide +kernel
theorem dX12_worstOff_40 : decode cX12_worstOff 40 = .ok (.iconst 0, 1) := by decide +kernel
theorem dX12_worstOff_41 : decode cX12_worstOff 41 = .ok (.istore 5, 2) := by decide +kernel
theorem dX12_worstOff_43 : decode cX12_worstOff 43 = .ok (.iload 5, 2) := by decide +kernel
theorem dX12_worstOff_45 : decode cX12_worstOff 45 = .ok (.ifCond .eq 7, 3) := by decide +kernel
theorem dX12_worstOff_48 : decode cX12_worstOff 48 = .ok (.iload_n 3, 1) := by decide +kernel
theorem dX12_worstOff_49 : decode cX12_worstOff 49 = .ok (.goto 4, 3) := by decide +kernel
theorem dX12_worstOff_52 : decode cX12_worstOff 52 = .ok (.iload_n 1, 1) := by decide +kernel
theorem dX12_worstOff_53 : decode cX12_worstOff 53 = .ok (.istore_n 1, 1) := by decide +kernel
theorem dX12_worstOff_54 : decode cX12_worstOff 54 = .ok (.iload 5, 2) := by decide +kernel
theorem dX12_worstOff_56 : decode cX12_worstOff 56 = .ok (.ifCond .eq 8, 3) := by decide +kernel
theorem dX12_worstOff_59 : decode cX12_worstOff 59 = .ok (.iload 4, 2) := by decide +kernel
theorem dX12_worstOff_61 : decode cX12_worstOff 61 = .ok (.goto 4, 3) := by decide +kernel
theorem dX12_worstOff_64 : decode cX12_worstOff 64 = .ok (.iload_n 2, 1) := by decide +kernel
theorem dX12_worstOff_65 : decode cX12_worstOff 65 = .ok (.istore_n 2, 1) := by decide +kernel
theorem dX12_worstOff_66 : decode cX12_worstOff 66 = .ok (.iinc 3 1, 3) := by decide +kernel
theorem dX12_worstOff_69 : decode cX12_worstOff 69 = .ok (.goto (-62), 3) := by decide +kernel
theorem dX12_worstOff_72 : decode cX12_worstOff 72 = .ok (.iload_n 1, 1) := by decide +kernel
theorem dX12_worstOff_73 : decode cX12_worstOff 73 = .ok (.ireturn, 1) := by decide +kernel
theorem dX12_worth_0 : decode cX12_worth 0 = .ok (.iload_n 1, 1) := by decide +kernel
theorem dX12_worth_1 : decode cX12_worth 1 = .ok (.iconst 0, 1) := by decide +kernel
theorem dX12_worth_2 : decode cX12_worth 2 = .ok (.iconst 1, 1) := by decide +kernel
theorem dX12_worth_3 : decode cX12_worth 3 = .ok (.invokestatic 47, 3) := by decide +kernel
theorem dX12_worth_6 : decode cX12_worth 6 = .ok (.ifCond .ne 5, 3) := by decide +kernel
theorem dX12_worth_9 : decode cX12_worth 9 = .ok (.iconst (-1), 1) := by decide +kernel
theorem dX12_worth_10 : decode cX12_worth 10 = .ok (.ireturn, 1) := by decide +kernel
theorem dX12_worth_11 : decode cX12_worth 11 = .ok (.aload_n 0, 1) := by decide +kernel
theorem dX12_worth_12 : decode cX12_worth 12 = .ok (.aload_n 0, 1) := by decide +kernel
theorem dX12_worth_13 : decode cX12_worth 13 = .ok (.getfield 9, 3) := by decide +kernel
theorem dX12_worth_16 : decode cX12_worth 16 = .ok (.iconst 4, 1) := by decide +kernel
theorem dX12_worth_17 : decode cX12_worth 17 = .ok (.iaload, 1) := by decide +kernel
theorem dX12_worth_18 : decode cX12_worth 18 = .ok (.putfield 145, 3) := by decide +kernel
theorem dX12_worth_21 : decode cX12_worth 21 = .ok (.iload_n 1, 1) := by decide +kernel
theorem dX12_worth_22 : decode cX12_worth 22 = .ok (.iconst 1, 1) := by decide +kernel
theorem dX12_worth_23 : decode cX12_worth 23 = .ok (.if_icmp .ne 8, 3) := by decide +kernel
theorem dX12_worth_26 : decode cX12_worth 26 = .ok (.aload_n 0, 1) := by decide +kernel
theorem dX12_worth_27 : decode cX12_worth 27 = .ok (.invokevirtual 199, 3) := by decide +kernel
theorem dX12_worth_30 : decode cX12_worth 30 = .ok (.ireturn, 1) := by decide +kernel
theorem dX12_worth_31 : decode cX12_worth 31 = .ok (.iconst 0, 1) := by decide +kernel
theorem dX12_worth_32 : decode cX12_worth 32 = .ok (.istore_n 2, 1) := by decide +kernel
theorem dX12_worth_33 : decode cX12_worth 33 = .ok (.iconst 0, 1) := by decide +kernel
theorem dX12_worth_34 : decode cX12_worth 34 = .ok (.istore_n 3, 1) := by decide +kernel
theorem dX12_worth_35 : decode cX12_worth 35 = .ok (.iload_n 3, 1) := by decide +kernel
theorem dX12_worth_36 : decode cX12_worth 36 = .ok (.aload_n 0, 1) := by decide +kernel
theorem dX12_worth_37 : decode cX12_worth 37 = .ok (.getfield 9, 3) := by decide +kernel
theorem dX12_worth_40 : decode cX12_worth 40 = .ok (.iconst 1, 1) := by decide +kernel
theorem dX12_worth_41 : decode cX12_worth 41 = .ok (.iaload, 1) := by decide +kernel
theorem dX12_worth_42 : decode cX12_worth 42 = .ok (.if_icmp .ge 28, 3) := by decide +kernel
theorem dX12_worth_45 : decode cX12_worth 45 = .ok (.iload_n 2, 1) := by decide +kernel
theorem dX12_worth_46 : decode cX12_worth 46 = .ok (.aload_n 0, 1) := by decide +kernel
theorem dX12_worth_47 : decode cX12_worth 47 = .ok (.getfield 9, 3) := by decide +kernel
theorem dX12_worth_50 : decode cX12_worth 50 = .ok (.sipush 184, 3) := by decide +kernel
theorem dX12_worth_53 : decode cX12_worth 53 = .ok (.iload_n 3, 1) := by decide +kernel
theorem dX12_worth_54 : decode cX12_worth 54 = .ok (.iadd, 1) := by decide +kernel
theorem dX12_worth_55 : decode cX12_worth 55 = .ok (.iaload, 1) := by decide +kernel
theorem dX12_worth_56 : decode cX12_worth 56 = .ok (.aload_n 0, 1) := by decide +kernel
theorem dX12_worth_57 : decode cX12_worth 57 = .ok (.iload_n 3, 1) := by decide +kernel
theorem dX12_worth_58 : decode cX12_worth 58 = .ok (.invokevirtual 193, 3) := by decide +kernel
theorem dX12_worth_61 : decode cX12_worth 61 = .ok (.imul, 1) := by decide +kernel
theorem dX12_worth_62 : decode cX12_worth 62 = .ok (.iadd, 1) := by decide +kernel
theorem dX12_worth_63 : decode cX12_worth 63 = .ok (.istore_n 2, 1) := by decide +kernel
theorem dX12_worth_64 : decode cX12_worth 64 = .ok (.iinc 3 1, 3) := by decide +kernel
theorem dX12_worth_67 : decode cX12_worth 67 = .ok (.goto (-32), 3) := by decide +kernel
theorem dX12_worth_70 : decode cX12_worth 70 = .ok (.iload_n 2, 1) := by decide +kernel
theorem dX12_worth_71 : decode cX12_worth 71 = .ok (.ireturn, 1) := by decide +kernel
theorem dX12_worthThere_0 : decode cX12_worthThere 0 = .ok (.iload_n 2, 1) := by decide +kernel
theorem dX12_worthThere_1 : decode cX12_worthThere 1 = .ok (.iconst (-1), 1) := by decide +kernel
theorem dX12_worthThere_2 : decode cX12_worthThere 2 = .ok (.if_icmp .ne 7, 3) := by decide +kernel
theorem dX12_worthThere_5 : decode cX12_worthThere 5 = .ok (.iconst 0, 1) := by decide +kernel
theorem dX12_worthThere_6 : decode cX12_worthThere 6 = .ok (.goto 19, 3) := by decide +kernel
theorem dX12_worthThere_9 : decode cX12_worthThere 9 = .ok (.aload_n 0, 1) := by decide +kernel
theorem dX12_worthThere_10 : decode cX12_worthThere 10 = .ok (.getfield 9, 3) := by decide +kernel
theorem dX12_worthThere_13 : decode cX12_worthThere 13 = .ok (.sipush 184, 3) := by decide +kernel
theorem dX12_worthThere_16 : decode cX12_worthThere 16 = .ok (.iload_n 2, 1) := by decide +kernel
theorem dX12_worthThere_17 : decode cX12_worthThere 17 = .ok (.iadd, 1) := by decide +kernel
theorem dX12_worthThere_18 : decode cX12_worthThere 18 = .ok (.iaload, 1) := by decide +kernel
theorem dX12_worthThere_19 : decode cX12_worthThere 19 = .ok (.aload_n 0, 1) := by decide +kernel
theorem dX12_worthThere_20 : decode cX12_worthThere 20 = .ok (.iload_n 1, 1) := by decide +kernel
theorem dX12_worthThere_21 : decode cX12_worthThere 21 = .ok (.invokevirtual 187, 3) := by decide +kernel
theorem dX12_worthThere_24 : decode cX12_worthThere 24 = .ok (.imul, 1) := by decide +kernel
theorem dX12_worthThere_25 : decode cX12_worthThere 25 = .ok (.ireturn, 1) := by decide +kernel
theorem dX12_isNext_0 : decode cX12_isNext 0 = .ok (.iload_n 3, 1) := by decide +kernel
theorem dX12_isNext_1 : decode cX12_isNext 1 = .ok (.iconst (-1), 1) := by decide +kernel
theorem dX12_isNext_2 : decode cX12_isNext 2 = .ok (.if_icmp .eq 26, 3) := by decide +kernel
theorem dX12_isNext_5 : decode cX12_isNext 5 = .ok (.aload_n 0, 1) := by decide +kernel
theorem dX12_isNext_6 : decode cX12_isNext 6 = .ok (.getfield 31, 3) := by decide +kernel
theorem dX12_isNext_9 : decode cX12_isNext 9 = .ok (.bipush 6, 2) := by decide +kernel
theorem dX12_isNext_11 : decode cX12_isNext 11 = .ok (.iload_n 1, 1) := by decide +kernel
theorem dX12_isNext_12 : decode cX12_isNext 12 = .ok (.imul, 1) := by decide +kernel
theorem dX12_isNext_13 : decode cX12_isNext 13 = .ok (.iload_n 3, 1) := by decide +kernel
theorem dX12_isNext_14 : decode cX12_isNext 14 = .ok (.iadd, 1) := by decide +kernel
theorem dX12_isNext_15 : decode cX12_isNext 15 = .ok (.baload, 1) := by decide +kernel
theorem dX12_isNext_16 : decode cX12_isNext 16 = .ok (.ifCond .eq 16, 3) := by decide +kernel
theorem dX12_isNext_19 : decode cX12_isNext 19 = .ok (.aload_n 0, 1) := by decide +kernel
theorem dX12_isNext_20 : decode cX12_isNext 20 = .ok (.iload_n 2, 1) := by decide +kernel
theorem dX12_isNext_21 : decode cX12_isNext 21 = .ok (.iload_n 3, 1) := by decide +kernel
theorem dX12_isNext_22 : decode cX12_isNext 22 = .ok (.invokevirtual 184, 3) := by decide +kernel
theorem dX12_isNext_25 : decode cX12_isNext 25 = .ok (.ifCond .ne 7, 3) := by decide +kernel
theorem dX12_isNext_28 : decode cX12_isNext 28 = .ok (.iconst 1, 1) := by decide +kernel
theorem dX12_isNext_29 : decode cX12_isNext 29 = .ok (.goto 4, 3) := by decide +kernel
theorem dX12_isNext_32 : decode cX12_isNext 32 = .ok (.iconst 0, 1) := by decide +kernel
theorem dX12_isNext_33 : decode cX12_isNext 33 = .ok (.ireturn, 1) := by decide +kernel
theorem dX12_best_0 : decode cX12_best 0 = .ok (.aload_n 0, 1) := by decide +kernel
theorem dX12_best_1 : decode cX12_best 1 = .ok (.iload_n 1, 1) := by decide +kernel
theorem dX12_best_2 : decode cX12_best 2 = .ok (.invokevirtual 56, 3) := by decide +kernel
theorem dX12_best_5 : decode cX12_best 5 = .ok (.ifCond .eq 13, 3) := by decide +kernel
theorem dX12_best_8 : decode cX12_best 8 = .ok (.iload_n 2, 1) := by decide +kernel
theorem dX12_best_9 : decode cX12_best 9 = .ok (.iconst (-1), 1) := by decide +kernel
theorem dX12_best_10 : decode cX12_best 10 = .ok (.bipush 7, 2) := by decide +kernel
theorem dX12_best_12 : decode cX12_best 12 = .ok (.invokestatic 47, 3) := by decide +kernel
theorem dX12_best_15 : decode cX12_best 15 = .ok (.ifCond .ne 5, 3) := by decide +kernel
theorem dX12_best_18 : decode cX12_best 18 = .ok (.iconst (-1), 1) := by decide +kernel
theorem dX12_best_19 : decode cX12_best 19 = .ok (.ireturn, 1) := by decide +kernel
theorem dX12_best_20 : decode cX12_best 20 = .ok (.aload_n 0, 1) := by decide +kernel
theorem dX12_best_21 : decode cX12_best 21 = .ok (.aload_n 0, 1) := by decide +kernel
theorem dX12_best_22 : decode cX12_best 22 = .ok (.getfield 9, 3) := by decide +kernel
theorem dX12_best_25 : decode cX12_best 25 = .ok (.iconst 4, 1) := by decide +kernel
theorem dX12_best_26 : decode cX12_best 26 = .ok (.iaload, 1) := by decide +kernel
theorem dX12_best_27 : decode cX12_best 27 = .ok (.putfield 145, 3) := by decide +kernel
theorem dX12_best_30 : decode cX12_best 30 = .ok (.iconst 0, 1) := by decide +kernel
theorem dX12_best_31 : decode cX12_best 31 = .ok (.istore_n 3, 1) := by decide +kernel
theorem dX12_best_32 : decode cX12_best 32 = .ok (.iload_n 3, 1) := by decide +kernel
theorem dX12_best_33 : decode cX12_best 33 = .ok (.bipush 8, 2) := by decide +kernel
theorem dX12_best_35 : decode cX12_best 35 = .ok (.if_icmp .ge 49, 3) := by decide +kernel
theorem dX12_best_38 : decode cX12_best 38 = .ok (.iconst 0, 1) := by decide +kernel
theorem dX12_best_39 : decode cX12_best 39 = .ok (.istore 4, 2) := by decide +kernel
theorem dX12_best_41 : decode cX12_best 41 = .ok (.iload 4, 2) := by decide +kernel
theorem dX12_best_43 : decode cX12_best 43 = .ok (.aload_n 0, 1) := by decide +kernel
theorem dX12_best_44 : decode cX12_best 44 = .ok (.getfield 9, 3) := by decide +kernel
theorem dX12_best_47 : decode cX12_best 47 = .ok (.iconst 1, 1) := by decide +kernel
theorem dX12_best_48 : decode cX12_best 48 = .ok (.iaload, 1) := by decide +kernel
theorem dX12_best_49 : decode cX12_best 49 = .ok (.if_icmp .ge 29, 3) := by decide +kernel
theorem dX12_best_52 : decode cX12_best 52 = .ok (.aload_n 0, 1) := by decide +kernel
theorem dX12_best_53 : decode cX12_best 53 = .ok (.getfield 31, 3) := by decide +kernel
theorem dX12_best_56 : decode cX12_best 56 = .ok (.bipush 6, 2) := by decide +kernel
theorem dX12_best_58 : decode cX12_best 58 = .ok (.iload_n 3, 1) := by decide +kernel
theorem dX12_best_59 : decode cX12_best 59 = .ok (.imul, 1) := by decide +kernel
theorem dX12_best_60 : decode cX12_best 60 = .ok (.iload 4, 2) := by decide +kernel
theorem dX12_best_62 : decode cX12_best 62 = .ok (.iadd, 1) := by decide +kernel
theorem dX12_best_63 : decode cX12_best 63 = .ok (.aload_n 0, 1) := by decide +kernel
theorem dX12_best_64 : decode cX12_best 64 = .ok (.iload_n 1, 1) := by decide +kernel
theorem dX12_best_65 : decode cX12_best 65 = .ok (.iload 4, 2) := by decide +kernel
theorem dX12_best_67 : decode cX12_best 67 = .ok (.iload_n 3, 1) := by decide +kernel
theorem dX12_best_68 : decode cX12_best 68 = .ok (.invokevirtual 178, 3) := by decide +kernel
theorem dX12_best_71 : decode cX12_best 71 = .ok (.bastore, 1) := by decide +kernel
theorem dX12_best_72 : decode cX12_best 72 = .ok (.iinc 4 1, 3) := by decide +kernel
theorem dX12_best_75 : decode cX12_best 75 = .ok (.goto (-34), 3) := by decide +kernel
theorem dX12_best_78 : decode cX12_best 78 = .ok (.iinc 3 1, 3) := by decide +kernel
theorem dX12_best_81 : decode cX12_best 81 = .ok (.goto (-49), 3) := by decide +kernel
theorem dX12_best_84 : decode cX12_best 84 = .ok (.iconst 0, 1) := by decide +kernel
theorem dX12_best_85 : decode cX12_best 85 = .ok (.istore_n 3, 1) := by decide +kernel
theorem dX12_best_86 : decode cX12_best 86 = .ok (.iload_n 3, 1) := by decide +kernel
theorem dX12_best_87 : decode cX12_best 87 = .ok (.bipush 7, 2) := by decide +kernel
theorem dX12_best_89 : decode cX12_best 89 = .ok (.if_icmp .ge 19, 3) := by decide +kernel
theorem dX12_best_92 : decode cX12_best 92 = .ok (.aload_n 0, 1) := by decide +kernel
theorem dX12_best_93 : decode cX12_best 93 = .ok (.getfield 25, 3) := by decide +kernel
theorem dX12_best_96 : decode cX12_best 96 = .ok (.bipush 56, 2) := by decide +kernel
theorem dX12_best_98 : decode cX12_best 98 = .ok (.iload_n 3, 1) := by decide +kernel
theorem dX12_best_99 : decode cX12_best 99 = .ok (.iadd, 1) := by decide +kernel
theorem dX12_best_100 : decode cX12_best 100 = .ok (.iconst 0, 1) := by decide +kernel
theorem dX12_best_101 : decode cX12_best 101 = .ok (.iastore, 1) := by decide +kernel
theorem dX12_best_102 : decode cX12_best 102 = .ok (.iinc 3 1, 3) := by decide +kernel
theorem dX12_best_105 : decode cX12_best 105 = .ok (.goto (-19), 3) := by decide +kernel
theorem dX12_best_108 : decode cX12_best 108 = .ok (.bipush 7, 2) := by decide +kernel
theorem dX12_best_110 : decode cX12_best 110 = .ok (.istore_n 3, 1) := by decide +kernel
theorem dX12_best_111 : decode cX12_best 111 = .ok (.iload_n 3, 1) := by decide +kernel
theorem dX12_best_112 : decode cX12_best 112 = .ok (.ifCond .lt 126, 3) := by decide +kernel
theorem dX12_best_115 : decode cX12_best 115 = .ok (.iconst (-1), 1) := by decide +kernel
theorem dX12_best_116 : decode cX12_best 116 = .ok (.istore 4, 2) := by decide +kernel
theorem dX12_best_118 : decode cX12_best 118 = .ok (.iload 4, 2) := by decide +kernel
theorem dX12_best_120 : decode cX12_best 120 = .ok (.aload_n 0, 1) := by decide +kernel
theorem dX12_best_121 : decode cX12_best 121 = .ok (.getfield 9, 3) := by decide +kernel
theorem dX12_best_124 : decode cX12_best 124 = .ok (.iconst 1, 1) := by decide +kernel
theorem dX12_best_125 : decode cX12_best 125 = .ok (.iaload, 1) := by decide +kernel
theorem dX12_best_126 : decode cX12_best 126 = .ok (.if_icmp .ge 106, 3) := by decide +kernel
theorem dX12_best_129 : decode cX12_best 129 = .ok (.iconst 0, 1) := by decide +kernel
theorem dX12_best_130 : decode cX12_best 130 = .ok (.istore 5, 2) := by decide +kernel
theorem dX12_best_132 : decode cX12_best 132 = .ok (.iconst (-1), 1) := by decide +kernel
theorem dX12_best_133 : decode cX12_best 133 = .ok (.istore 6, 2) := by decide +kernel
theorem dX12_best_135 : decode cX12_best 135 = .ok (.iload 6, 2) := by decide +kernel
theorem dX12_best_137 : decode cX12_best 137 = .ok (.aload_n 0, 1) := by decide +kernel
theorem dX12_best_138 : decode cX12_best 138 = .ok (.getfield 9, 3) := by decide +kernel
theorem dX12_best_141 : decode cX12_best 141 = .ok (.iconst 1, 1) := by decide +kernel
theorem dX12_best_142 : decode cX12_best 142 = .ok (.iaload, 1) := by decide +kernel
theorem dX12_best_143 : decode cX12_best 143 = .ok (.if_icmp .ge 67, 3) := by decide +kernel
theorem dX12_best_146 : decode cX12_best 146 = .ok (.aload_n 0, 1) := by decide +kernel
theorem dX12_best_147 : decode cX12_best 147 = .ok (.iload_n 3, 1) := by decide +kernel
theorem dX12_best_148 : decode cX12_best 148 = .ok (.iload 4, 2) := by decide +kernel
theorem dX12_best_150 : decode cX12_best 150 = .ok (.iload 6, 2) := by decide +kernel
theorem dX12_best_152 : decode cX12_best 152 = .ok (.invokevirtual 202, 3) := by decide +kernel
theorem dX12_best_155 : decode cX12_best 155 = .ok (.ifCond .eq 30, 3) := by decide +kernel
theorem dX12_best_158 : decode cX12_best 158 = .ok (.aload_n 0, 1) := by decide +kernel
theorem dX12_best_159 : decode cX12_best 159 = .ok (.iload_n 1, 1) := by decide +kernel
theorem dX12_best_160 : decode cX12_best 160 = .ok (.iload 6, 2) := by decide +kernel
theorem dX12_best_162 : decode cX12_best 162 = .ok (.invokevirtual 205, 3) := by decide +kernel
theorem dX12_best_165 : decode cX12_best 165 = .ok (.aload_n 0, 1) := by decide +kernel
theorem dX12_best_166 : decode cX12_best 166 = .ok (.getfield 25, 3) := by decide +kernel
theorem dX12_best_169 : decode cX12_best 169 = .ok (.bipush 7, 2) := by decide +kernel
theorem dX12_best_171 : decode cX12_best 171 = .ok (.iload_n 3, 1) := by decide +kernel
theorem dX12_best_172 : decode cX12_best 172 = .ok (.iconst 1, 1) := by decide +kernel
theorem dX12_best_173 : decode cX12_best 173 = .ok (.iadd, 1) := by decide +kernel
theorem dX12_best_174 : decode cX12_best 174 = .ok (.imul, 1) := by decide +kernel
theorem dX12_best_175 : decode cX12_best 175 = .ok (.iload 6, 2) := by decide +kernel
theorem dX12_best_177 : decode cX12_best 177 = .ok (.iadd, 1) := by decide +kernel
theorem dX12_best_178 : decode cX12_best 178 = .ok (.iconst 1, 1) := by decide +kernel
theorem dX12_best_179 : decode cX12_best 179 = .ok (.iadd, 1) := by decide +kernel
theorem dX12_best_180 : decode cX12_best 180 = .ok (.iaload, 1) := by decide +kernel
theorem dX12_best_181 : decode cX12_best 181 = .ok (.iadd, 1) := by decide +kernel
theorem dX12_best_182 : decode cX12_best 182 = .ok (.goto 4, 3) := by decide +kernel
theorem dX12_best_185 : decode cX12_best 185 = .ok (.iconst 0, 1) := by decide +kernel
theorem dX12_best_186 : decode cX12_best 186 = .ok (.istore 7, 2) := by decide +kernel
theorem dX12_best_188 : decode cX12_best 188 = .ok (.iload 7, 2) := by decide +kernel
theorem dX12_best_190 : decode cX12_best 190 = .ok (.iload 5, 2) := by decide +kernel
theorem dX12_best_192 : decode cX12_best 192 = .ok (.if_icmp .le 8, 3) := by decide +kernel
theorem dX12_best_195 : decode cX12_best 195 = .ok (.iload 7, 2) := by decide +kernel
theorem dX12_best_197 : decode cX12_best 197 = .ok (.goto 5, 3) := by decide +kernel
theorem dX12_best_200 : decode cX12_best 200 = .ok (.iload 5, 2) := by decide +kernel
theorem dX12_best_202 : decode cX12_best 202 = .ok (.istore 5, 2) := by decide +kernel
theorem dX12_best_204 : decode cX12_best 204 = .ok (.iinc 6 1, 3) := by decide +kernel
theorem dX12_best_207 : decode cX12_best 207 = .ok (.goto (-72), 3) := by decide +kernel
theorem dX12_best_210 : decode cX12_best 210 = .ok (.aload_n 0, 1) := by decide +kernel
theorem dX12_best_211 : decode cX12_best 211 = .ok (.getfield 25, 3) := by decide +kernel
theorem dX12_best_214 : decode cX12_best 214 = .ok (.bipush 7, 2) := by decide +kernel
theorem dX12_best_216 : decode cX12_best 216 = .ok (.iload_n 3, 1) := by decide +kernel
theorem dX12_best_217 : decode cX12_best 217 = .ok (.imul, 1) := by decide +kernel
theorem dX12_best_218 : decode cX12_best 218 = .ok (.iload 4, 2) := by decide +kernel
theorem dX12_best_220 : decode cX12_best 220 = .ok (.iadd, 1) := by decide +kernel
theorem dX12_best_221 : decode cX12_best 221 = .ok (.iconst 1, 1) := by decide +kernel
theorem dX12_best_222 : decode cX12_best 222 = .ok (.iadd, 1) := by decide +kernel
theorem dX12_best_223 : decode cX12_best 223 = .ok (.iload 5, 2) := by decide +kernel
theorem dX12_best_225 : decode cX12_best 225 = .ok (.iastore, 1) := by decide +kernel
theorem dX12_best_226 : decode cX12_best 226 = .ok (.iinc 4 1, 3) := by decide +kernel
theorem dX12_best_229 : decode cX12_best 229 = .ok (.goto (-111), 3) := by decide +kernel
theorem dX12_best_232 : decode cX12_best 232 = .ok (.iinc 3 (-1), 3) := by decide +kernel
theorem dX12_best_235 : decode cX12_best 235 = .ok (.goto (-124), 3) := by decide +kernel
theorem dX12_best_238 : decode cX12_best 238 = .ok (.iconst (-1), 1) := by decide +kernel
theorem dX12_best_239 : decode cX12_best 239 = .ok (.istore_n 3, 1) := by decide +kernel
theorem dX12_best_240 : decode cX12_best 240 = .ok (.iconst 0, 1) := by decide +kernel
theorem dX12_best_241 : decode cX12_best 241 = .ok (.istore 4, 2) := by decide +kernel
theorem dX12_best_243 : decode cX12_best 243 = .ok (.iload 4, 2) := by decide +kernel
theorem dX12_best_245 : decode cX12_best 245 = .ok (.bipush 8, 2) := by decide +kernel
theorem dX12_best_247 : decode cX12_best 247 = .ok (.if_icmp .ge 84, 3) := by decide +kernel
theorem dX12_best_250 : decode cX12_best 250 = .ok (.iconst (-1), 1) := by decide +kernel
theorem dX12_best_251 : decode cX12_best 251 = .ok (.istore 5, 2) := by decide +kernel
theorem dX12_best_253 : decode cX12_best 253 = .ok (.aload_n 0, 1) := by decide +kernel
theorem dX12_best_254 : decode cX12_best 254 = .ok (.iload 4, 2) := by decide +kernel
theorem dX12_best_256 : decode cX12_best 256 = .ok (.iload_n 3, 1) := by decide +kernel
theorem dX12_best_257 : decode cX12_best 257 = .ok (.iload 5, 2) := by decide +kernel
theorem dX12_best_259 : decode cX12_best 259 = .ok (.invokevirtual 202, 3) := by decide +kernel
theorem dX12_best_262 : decode cX12_best 262 = .ok (.ifCond .eq 45, 3) := by decide +kernel
theorem dX12_best_265 : decode cX12_best 265 = .ok (.aload_n 0, 1) := by decide +kernel
theorem dX12_best_266 : decode cX12_best 266 = .ok (.iload_n 1, 1) := by decide +kernel
theorem dX12_best_267 : decode cX12_best 267 = .ok (.iload 5, 2) := by decide +kernel
theorem dX12_best_269 : decode cX12_best 269 = .ok (.invokevirtual 205, 3) := by decide +kernel
theorem dX12_best_272 : decode cX12_best 272 = .ok (.aload_n 0, 1) := by decide +kernel
theorem dX12_best_273 : decode cX12_best 273 = .ok (.getfield 25, 3) := by decide +kernel
theorem dX12_best_276 : decode cX12_best 276 = .ok (.bipush 7, 2) := by decide +kernel
theorem dX12_best_278 : decode cX12_best 278 = .ok (.iload 4, 2) := by decide +kernel
theorem dX12_best_280 : decode cX12_best 280 = .ok (.iconst 1, 1) := by decide +kernel
theorem dX12_best_281 : decode cX12_best 281 = .ok (.iadd, 1) := by decide +kernel
theorem dX12_best_282 : decode cX12_best 282 = .ok (.imul, 1) := by decide +kernel
theorem dX12_best_283 : decode cX12_best 283 = .ok (.iload 5, 2) := by decide +kernel
theorem dX12_best_285 : decode cX12_best 285 = .ok (.iadd, 1) := by decide +kernel
theorem dX12_best_286 : decode cX12_best 286 = .ok (.iconst 1, 1) := by decide +kernel
theorem dX12_best_287 : decode cX12_best 287 = .ok (.iadd, 1) := by decide +kernel
theorem dX12_best_288 : decode cX12_best 288 = .ok (.iaload, 1) := by decide +kernel
theorem dX12_best_289 : decode cX12_best 289 = .ok (.iadd, 1) := by decide +kernel
theorem dX12_best_290 : decode cX12_best 290 = .ok (.aload_n 0, 1) := by decide +kernel
theorem dX12_best_291 : decode cX12_best 291 = .ok (.getfield 25, 3) := by decide +kernel
theorem dX12_best_294 : decode cX12_best 294 = .ok (.bipush 7, 2) := by decide +kernel
theorem dX12_best_296 : decode cX12_best 296 = .ok (.iload 4, 2) := by decide +kernel
theorem dX12_best_298 : decode cX12_best 298 = .ok (.imul, 1) := by decide +kernel
theorem dX12_best_299 : decode cX12_best 299 = .ok (.iload_n 3, 1) := by decide +kernel
theorem dX12_best_300 : decode cX12_best 300 = .ok (.iadd, 1) := by decide +kernel
theorem dX12_best_301 : decode cX12_best 301 = .ok (.iconst 1, 1) := by decide +kernel
theorem dX12_best_302 : decode cX12_best 302 = .ok (.iadd, 1) := by decide +kernel
theorem dX12_best_303 : decode cX12_best 303 = .ok (.iaload, 1) := by decide +kernel
theorem dX12_best_304 : decode cX12_best 304 = .ok (.if_icmp .eq 9, 3) := by decide +kernel
theorem dX12_best_307 : decode cX12_best 307 = .ok (.iinc 5 1, 3) := by decide +kernel
theorem dX12_best_310 : decode cX12_best 310 = .ok (.goto (-57), 3) := by decide +kernel
theorem dX12_best_313 : decode cX12_best 313 = .ok (.aload_n 0, 1) := by decide +kernel
theorem dX12_best_314 : decode cX12_best 314 = .ok (.getfield 28, 3) := by decide +kernel
theorem dX12_best_317 : decode cX12_best 317 = .ok (.iload 4, 2) := by decide +kernel
theorem dX12_best_319 : decode cX12_best 319 = .ok (.iload 5, 2) := by decide +kernel
theorem dX12_best_321 : decode cX12_best 321 = .ok (.iastore, 1) := by decide +kernel
theorem dX12_best_322 : decode cX12_best 322 = .ok (.iload 5, 2) := by decide +kernel
theorem dX12_best_324 : decode cX12_best 324 = .ok (.istore_n 3, 1) := by decide +kernel
theorem dX12_best_325 : decode cX12_best 325 = .ok (.iinc 4 1, 3) := by decide +kernel
theorem dX12_best_328 : decode cX12_best 328 = .ok (.goto (-85), 3) := by decide +kernel
theorem dX12_best_331 : decode cX12_best 331 = .ok (.iload_n 2, 1) := by decide +kernel
theorem dX12_best_332 : decode cX12_best 332 = .ok (.iconst (-1), 1) := by decide +kernel
theorem dX12_best_333 : decode cX12_best 333 = .ok (.if_icmp .ne 12, 3) := by decide +kernel
theorem dX12_best_336 : decode cX12_best 336 = .ok (.aload_n 0, 1) := by decide +kernel
theorem dX12_best_337 : decode cX12_best 337 = .ok (.getfield 25, 3) := by decide +kernel
theorem dX12_best_340 : decode cX12_best 340 = .ok (.iconst 0, 1) := by decide +kernel
theorem dX12_best_341 : decode cX12_best 341 = .ok (.iaload, 1) := by decide +kernel
theorem dX12_best_342 : decode cX12_best 342 = .ok (.goto 24, 3) := by decide +kernel
theorem dX12_best_345 : decode cX12_best 345 = .ok (.aload_n 0, 1) := by decide +kernel
theorem dX12_best_346 : decode cX12_best 346 = .ok (.getfield 28, 3) := by decide +kernel
theorem dX12_best_349 : decode cX12_best 349 = .ok (.iload_n 2, 1) := by decide +kernel
theorem dX12_best_350 : decode cX12_best 350 = .ok (.iaload, 1) := by decide +kernel
theorem dX12_best_351 : decode cX12_best 351 = .ok (.iconst (-1), 1) := by decide +kernel
theorem dX12_best_352 : decode cX12_best 352 = .ok (.if_icmp .ne 8, 3) := by decide +kernel
theorem dX12_best_355 : decode cX12_best 355 = .ok (.bipush (-5), 2) := by decide +kernel
theorem dX12_best_357 : decode cX12_best 357 = .ok (.goto 9, 3) := by decide +kernel
theorem dX12_best_360 : decode cX12_best 360 = .ok (.aload_n 0, 1) := by decide +kernel
theorem dX12_best_361 : decode cX12_best 361 = .ok (.getfield 28, 3) := by decide +kernel
theorem dX12_best_364 : decode cX12_best 364 = .ok (.iload_n 2, 1) := by decide +kernel
theorem dX12_best_365 : decode cX12_best 365 = .ok (.iaload, 1) := by decide +kernel
theorem dX12_best_366 : decode cX12_best 366 = .ok (.ireturn, 1) := by decide +kernel
theorem dX12_fair_0 : decode cX12_fair 0 = .ok (.iload_n 1, 1) := by decide +kernel
theorem dX12_fair_1 : decode cX12_fair 1 = .ok (.iconst 0, 1) := by decide +kernel
theorem dX12_fair_2 : decode cX12_fair 2 = .ok (.iconst 1, 1) := by decide +kernel
theorem dX12_fair_3 : decode cX12_fair 3 = .ok (.invokestatic 47, 3) := by decide +kernel
theorem dX12_fair_6 : decode cX12_fair 6 = .ok (.ifCond .ne 5, 3) := by decide +kernel
theorem dX12_fair_9 : decode cX12_fair 9 = .ok (.iconst (-1), 1) := by decide +kernel
theorem dX12_fair_10 : decode cX12_fair 10 = .ok (.ireturn, 1) := by decide +kernel
theorem dX12_fair_11 : decode cX12_fair 11 = .ok (.aload_n 0, 1) := by decide +kernel
theorem dX12_fair_12 : decode cX12_fair 12 = .ok (.aload_n 0, 1) := by decide +kernel
theorem dX12_fair_13 : decode cX12_fair 13 = .ok (.getfield 9, 3) := by decide +kernel
theorem dX12_fair_16 : decode cX12_fair 16 = .ok (.iconst 4, 1) := by decide +kernel
theorem dX12_fair_17 : decode cX12_fair 17 = .ok (.iaload, 1) := by decide +kernel
theorem dX12_fair_18 : decode cX12_fair 18 = .ok (.putfield 145, 3) := by decide +kernel
theorem dX12_fair_21 : decode cX12_fair 21 = .ok (.bipush (-5), 2) := by decide +kernel
theorem dX12_fair_23 : decode cX12_fair 23 = .ok (.istore_n 2, 1) := by decide +kernel
theorem dX12_fair_24 : decode cX12_fair 24 = .ok (.bipush (-5), 2) := by decide +kernel
theorem dX12_fair_26 : decode cX12_fair 26 = .ok (.istore_n 3, 1) := by decide +kernel
theorem dX12_fair_27 : decode cX12_fair 27 = .ok (.iconst 0, 1) := by decide +kernel
theorem dX12_fair_28 : decode cX12_fair 28 = .ok (.istore 4, 2) := by decide +kernel
theorem dX12_fair_30 : decode cX12_fair 30 = .ok (.iload 4, 2) := by decide +kernel
theorem dX12_fair_32 : decode cX12_fair 32 = .ok (.aload_n 0, 1) := by decide +kernel
theorem dX12_fair_33 : decode cX12_fair 33 = .ok (.getfield 9, 3) := by decide +kernel
theorem dX12_fair_36 : decode cX12_fair 36 = .ok (.iconst 0, 1) := by decide +kernel
theorem dX12_fair_37 : decode cX12_fair 37 = .ok (.iaload, 1) := by decide +kernel
theorem dX12_fair_38 : decode cX12_fair 38 = .ok (.if_icmp .ge 186, 3) := by decide +kernel
theorem dX12_fair_41 : decode cX12_fair 41 = .ok (.iconst 0, 1) := by decide +kernel
theorem dX12_fair_42 : decode cX12_fair 42 = .ok (.istore 5, 2) := by decide +kernel
theorem dX12_fair_44 : decode cX12_fair 44 = .ok (.iload 5, 2) := by decide +kernel
theorem dX12_fair_46 : decode cX12_fair 46 = .ok (.bipush 8, 2) := by decide +kernel
theorem dX12_fair_48 : decode cX12_fair 48 = .ok (.if_icmp .ge 33, 3) := by decide +kernel
theorem dX12_fair_51 : decode cX12_fair 51 = .ok (.aload_n 0, 1) := by decide +kernel
theorem dX12_fair_52 : decode cX12_fair 52 = .ok (.getfield 34, 3) := by decide +kernel
theorem dX12_fair_55 : decode cX12_fair 55 = .ok (.iload 5, 2) := by decide +kernel
theorem dX12_fair_57 : decode cX12_fair 57 = .ok (.aload_n 0, 1) := by decide +kernel
theorem dX12_fair_58 : decode cX12_fair 58 = .ok (.getfield 9, 3) := by decide +kernel
theorem dX12_fair_61 : decode cX12_fair 61 = .ok (.sipush 236, 3) := by decide +kernel
theorem dX12_fair_64 : decode cX12_fair 64 = .ok (.bipush 8, 2) := by decide +kernel
theorem dX12_fair_66 : decode cX12_fair 66 = .ok (.iload 4, 2) := by decide +kernel
theorem dX12_fair_68 : decode cX12_fair 68 = .ok (.imul, 1) := by decide +kernel
theorem dX12_fair_69 : decode cX12_fair 69 = .ok (.iadd, 1) := by decide +kernel
theorem dX12_fair_70 : decode cX12_fair 70 = .ok (.iload 5, 2) := by decide +kernel
theorem dX12_fair_72 : decode cX12_fair 72 = .ok (.iadd, 1) := by decide +kernel
theorem dX12_fair_73 : decode cX12_fair 73 = .ok (.iaload, 1) := by decide +kernel
theorem dX12_fair_74 : decode cX12_fair 74 = .ok (.iastore, 1) := by decide +kernel
theorem dX12_fair_75 : decode cX12_fair 75 = .ok (.iinc 5 1, 3) := by decide +kernel
theorem dX12_fair_78 : decode cX12_fair 78 = .ok (.goto (-34), 3) := by decide +kernel
theorem dX12_fair_81 : decode cX12_fair 81 = .ok (.iconst 0, 1) := by decide +kernel
theorem dX12_fair_82 : decode cX12_fair 82 = .ok (.istore 5, 2) := by decide +kernel
theorem dX12_fair_84 : decode cX12_fair 84 = .ok (.iload 5, 2) := by decide +kernel
theorem dX12_fair_86 : decode cX12_fair 86 = .ok (.aload_n 0, 1) := by decide +kernel
theorem dX12_fair_87 : decode cX12_fair 87 = .ok (.getfield 9, 3) := by decide +kernel
theorem dX12_fair_90 : decode cX12_fair 90 = .ok (.iconst 1, 1) := by decide +kernel
theorem dX12_fair_91 : decode cX12_fair 91 = .ok (.iaload, 1) := by decide +kernel
theorem dX12_fair_92 : decode cX12_fair 92 = .ok (.if_icmp .ge 86, 3) := by decide +kernel
theorem dX12_fair_95 : decode cX12_fair 95 = .ok (.iconst 0, 1) := by decide +kernel
theorem dX12_fair_96 : decode cX12_fair 96 = .ok (.istore 6, 2) := by decide +kernel
theorem dX12_fair_98 : decode cX12_fair 98 = .ok (.iload 6, 2) := by decide +kernel
theorem dX12_fair_100 : decode cX12_fair 100 = .ok (.bipush 8, 2) := by decide +kernel
theorem dX12_fair_102 : decode cX12_fair 102 = .ok (.if_icmp .ge 28, 3) := by decide +kernel
theorem dX12_fair_105 : decode cX12_fair 105 = .ok (.aload_n 0, 1) := by decide +kernel
theorem dX12_fair_106 : decode cX12_fair 106 = .ok (.getfield 9, 3) := by decide +kernel
theorem dX12_fair_109 : decode cX12_fair 109 = .ok (.sipush 236, 3) := by decide +kernel
theorem dX12_fair_112 : decode cX12_fair 112 = .ok (.bipush 8, 2) := by decide +kernel
theorem dX12_fair_114 : decode cX12_fair 114 = .ok (.iload 4, 2) := by decide +kernel
theorem dX12_fair_116 : decode cX12_fair 116 = .ok (.imul, 1) := by decide +kernel
theorem dX12_fair_117 : decode cX12_fair 117 = .ok (.iadd, 1) := by decide +kernel
theorem dX12_fair_118 : decode cX12_fair 118 = .ok (.iload 6, 2) := by decide +kernel
theorem dX12_fair_120 : decode cX12_fair 120 = .ok (.iadd, 1) := by decide +kernel
theorem dX12_fair_121 : decode cX12_fair 121 = .ok (.iload 5, 2) := by decide +kernel
theorem dX12_fair_123 : decode cX12_fair 123 = .ok (.iastore, 1) := by decide +kernel
theorem dX12_fair_124 : decode cX12_fair 124 = .ok (.iinc 6 1, 3) := by decide +kernel
theorem dX12_fair_127 : decode cX12_fair 127 = .ok (.goto (-29), 3) := by decide +kernel
theorem dX12_fair_130 : decode cX12_fair 130 = .ok (.aload_n 0, 1) := by decide +kernel
theorem dX12_fair_131 : decode cX12_fair 131 = .ok (.aload_n 0, 1) := by decide +kernel
theorem dX12_fair_132 : decode cX12_fair 132 = .ok (.invokevirtual 199, 3) := by decide +kernel
theorem dX12_fair_135 : decode cX12_fair 135 = .ok (.invokevirtual 193, 3) := by decide +kernel
theorem dX12_fair_138 : decode cX12_fair 138 = .ok (.istore 6, 2) := by decide +kernel
theorem dX12_fair_140 : decode cX12_fair 140 = .ok (.iload 6, 2) := by decide +kernel
theorem dX12_fair_142 : decode cX12_fair 142 = .ok (.iload_n 3, 1) := by decide +kernel
theorem dX12_fair_143 : decode cX12_fair 143 = .ok (.if_icmp .le 14, 3) := by decide +kernel
theorem dX12_fair_146 : decode cX12_fair 146 = .ok (.bipush 10, 2) := by decide +kernel
theorem dX12_fair_148 : decode cX12_fair 148 = .ok (.iload 4, 2) := by decide +kernel
theorem dX12_fair_150 : decode cX12_fair 150 = .ok (.imul, 1) := by decide +kernel
theorem dX12_fair_151 : decode cX12_fair 151 = .ok (.iload 5, 2) := by decide +kernel
theorem dX12_fair_153 : decode cX12_fair 153 = .ok (.iadd, 1) := by decide +kernel
theorem dX12_fair_154 : decode cX12_fair 154 = .ok (.goto 4, 3) := by decide +kernel
theorem dX12_fair_157 : decode cX12_fair 157 = .ok (.iload_n 2, 1) := by decide +kernel
theorem dX12_fair_158 : decode cX12_fair 158 = .ok (.istore_n 2, 1) := by decide +kernel
theorem dX12_fair_159 : decode cX12_fair 159 = .ok (.iload 6, 2) := by decide +kernel
theorem dX12_fair_161 : decode cX12_fair 161 = .ok (.iload_n 3, 1) := by decide +kernel
theorem dX12_fair_162 : decode cX12_fair 162 = .ok (.if_icmp .le 8, 3) := by decide +kernel
theorem dX12_fair_165 : decode cX12_fair 165 = .ok (.iload 6, 2) := by decide +kernel
theorem dX12_fair_167 : decode cX12_fair 167 = .ok (.goto 4, 3) := by decide +kernel
theorem dX12_fair_170 : decode cX12_fair 170 = .ok (.iload_n 3, 1) := by decide +kernel
theorem dX12_fair_171 : decode cX12_fair 171 = .ok (.istore_n 3, 1) := by decide +kernel
theorem dX12_fair_172 : decode cX12_fair 172 = .ok (.iinc 5 1, 3) := by decide +kernel
theorem dX12_fair_175 : decode cX12_fair 175 = .ok (.goto (-91), 3) := by decide +kernel
theorem dX12_fair_178 : decode cX12_fair 178 = .ok (.iconst 0, 1) := by decide +kernel
theorem dX12_fair_179 : decode cX12_fair 179 = .ok (.istore 5, 2) := by decide +kernel
theorem dX12_fair_181 : decode cX12_fair 181 = .ok (.iload 5, 2) := by decide +kernel
theorem dX12_fair_183 : decode cX12_fair 183 = .ok (.bipush 8, 2) := by decide +kernel
theorem dX12_fair_185 : decode cX12_fair 185 = .ok (.if_icmp .ge 33, 3) := by decide +kernel
theorem dX12_fair_188 : decode cX12_fair 188 = .ok (.aload_n 0, 1) := by decide +kernel
theorem dX12_fair_189 : decode cX12_fair 189 = .ok (.getfield 9, 3) := by decide +kernel
theorem dX12_fair_192 : decode cX12_fair 192 = .ok (.sipush 236, 3) := by decide +kernel
theorem dX12_fair_195 : decode cX12_fair 195 = .ok (.bipush 8, 2) := by decide +kernel
theorem dX12_fair_197 : decode cX12_fair 197 = .ok (.iload 4, 2) := by decide +kernel
theorem dX12_fair_199 : decode cX12_fair 199 = .ok (.imul, 1) := by decide +kernel
theorem dX12_fair_200 : decode cX12_fair 200 = .ok (.iadd, 1) := by decide +kernel
theorem dX12_fair_201 : decode cX12_fair 201 = .ok (.iload 5, 2) := by decide +kernel
theorem dX12_fair_203 : decode cX12_fair 203 = .ok (.iadd, 1) := by decide +kernel
theorem dX12_fair_204 : decode cX12_fair 204 = .ok (.aload_n 0, 1) := by decide +kernel
theorem dX12_fair_205 : decode cX12_fair 205 = .ok (.getfield 34, 3) := by decide +kernel
theorem dX12_fair_208 : decode cX12_fair 208 = .ok (.iload 5, 2) := by decide +kernel
theorem dX12_fair_210 : decode cX12_fair 210 = .ok (.iaload, 1) := by decide +kernel
theorem dX12_fair_211 : decode cX12_fair 211 = .ok (.iastore, 1) := by decide +kernel
theorem dX12_fair_212 : decode cX12_fair 212 = .ok (.iinc 5 1, 3) := by decide +kernel
theorem dX12_fair_215 : decode cX12_fair 215 = .ok (.goto (-34), 3) := by decide +kernel
theorem dX12_fair_218 : decode cX12_fair 218 = .ok (.iinc 4 1, 3) := by decide +kernel
theorem dX12_fair_221 : decode cX12_fair 221 = .ok (.goto (-191), 3) := by decide +kernel
theorem dX12_fair_224 : decode cX12_fair 224 = .ok (.iload_n 1, 1) := by decide +kernel
theorem dX12_fair_225 : decode cX12_fair 225 = .ok (.ifCond .ne 7, 3) := by decide +kernel
theorem dX12_fair_228 : decode cX12_fair 228 = .ok (.iload_n 2, 1) := by decide +kernel
theorem dX12_fair_229 : decode cX12_fair 229 = .ok (.goto 4, 3) := by decide +kernel
theorem dX12_fair_232 : decode cX12_fair 232 = .ok (.iload_n 3, 1) := by decide +kernel
theorem dX12_fair_233 : decode cX12_fair 233 = .ok (.ireturn, 1) := by decide +kernel
theorem dX12_take_0 : decode cX12_take 0 = .ok (.iload_n 2, 1) := by decide +kernel
theorem dX12_take_1 : decode cX12_take 1 = .ok (.iconst 0, 1) := by decide +kernel
theorem dX12_take_2 : decode cX12_take 2 = .ok (.iconst 2, 1) := by decide +kernel
theorem dX12_take_3 : decode cX12_take 3 = .ok (.invokestatic 47, 3) := by decide +kernel
theorem dX12_take_6 : decode cX12_take 6 = .ok (.ifCond .ne 5, 3) := by decide +kernel
theorem dX12_take_9 : decode cX12_take 9 = .ok (.iconst (-1), 1) := by decide +kernel
theorem dX12_take_10 : decode cX12_take 10 = .ok (.ireturn, 1) := by decide +kernel
theorem dX12_take_11 : decode cX12_take 11 = .ok (.iload_n 1, 1) := by decide +kernel
theorem dX12_take_12 : decode cX12_take 12 = .ok (.iconst 0, 1) := by decide +kernel
theorem dX12_take_13 : decode cX12_take 13 = .ok (.sipush 300, 3) := by decide +kernel
theorem dX12_take_16 : decode cX12_take 16 = .ok (.invokestatic 47, 3) := by decide +kernel
theorem dX12_take_19 : decode cX12_take 19 = .ok (.ifCond .ne 6, 3) := by decide +kernel
theorem dX12_take_22 : decode cX12_take 22 = .ok (.bipush (-2), 2) := by decide +kernel
theorem dX12_take_24 : decode cX12_take 24 = .ok (.ireturn, 1) := by decide +kernel
theorem dX12_take_25 : decode cX12_take 25 = .ok (.aload_n 0, 1) := by decide +kernel
theorem dX12_take_26 : decode cX12_take 26 = .ok (.aload_n 0, 1) := by decide +kernel
theorem dX12_take_27 : decode cX12_take 27 = .ok (.getfield 9, 3) := by decide +kernel
theorem dX12_take_30 : decode cX12_take 30 = .ok (.iconst 4, 1) := by decide +kernel
theorem dX12_take_31 : decode cX12_take 31 = .ok (.iaload, 1) := by decide +kernel
theorem dX12_take_32 : decode cX12_take 32 = .ok (.putfield 145, 3) := by decide +kernel
theorem dX12_take_35 : decode cX12_take 35 = .ok (.iconst 0, 1) := by decide +kernel
theorem dX12_take_36 : decode cX12_take 36 = .ok (.istore_n 3, 1) := by decide +kernel
theorem dX12_take_37 : decode cX12_take 37 = .ok (.iload_n 3, 1) := by decide +kernel
theorem dX12_take_38 : decode cX12_take 38 = .ok (.aload_n 0, 1) := by decide +kernel
theorem dX12_take_39 : decode cX12_take 39 = .ok (.getfield 9, 3) := by decide +kernel
theorem dX12_take_42 : decode cX12_take 42 = .ok (.iconst 0, 1) := by decide +kernel
theorem dX12_take_43 : decode cX12_take 43 = .ok (.iaload, 1) := by decide +kernel
theorem dX12_take_44 : decode cX12_take 44 = .ok (.if_icmp .ge 56, 3) := by decide +kernel
theorem dX12_take_47 : decode cX12_take 47 = .ok (.aload_n 0, 1) := by decide +kernel
theorem dX12_take_48 : decode cX12_take 48 = .ok (.getfield 37, 3) := by decide +kernel
theorem dX12_take_51 : decode cX12_take 51 = .ok (.iload_n 3, 1) := by decide +kernel
theorem dX12_take_52 : decode cX12_take 52 = .ok (.iconst 0, 1) := by decide +kernel
theorem dX12_take_53 : decode cX12_take 53 = .ok (.iastore, 1) := by decide +kernel
theorem dX12_take_54 : decode cX12_take 54 = .ok (.iconst 0, 1) := by decide +kernel
theorem dX12_take_55 : decode cX12_take 55 = .ok (.istore 4, 2) := by decide +kernel
theorem dX12_take_57 : decode cX12_take 57 = .ok (.iload 4, 2) := by decide +kernel
theorem dX12_take_59 : decode cX12_take 59 = .ok (.bipush 8, 2) := by decide +kernel
theorem dX12_take_61 : decode cX12_take 61 = .ok (.if_icmp .ge 33, 3) := by decide +kernel
theorem dX12_take_64 : decode cX12_take 64 = .ok (.aload_n 0, 1) := by decide +kernel
theorem dX12_take_65 : decode cX12_take 65 = .ok (.getfield 37, 3) := by decide +kernel
theorem dX12_take_68 : decode cX12_take 68 = .ok (.iload_n 3, 1) := by decide +kernel
theorem dX12_take_69 : decode cX12_take 69 = .ok (.dup2, 1) := by decide +kernel
theorem dX12_take_70 : decode cX12_take 70 = .ok (.iaload, 1) := by decide +kernel
theorem dX12_take_71 : decode cX12_take 71 = .ok (.aload_n 0, 1) := by decide +kernel
theorem dX12_take_72 : decode cX12_take 72 = .ok (.iload_n 3, 1) := by decide +kernel
theorem dX12_take_73 : decode cX12_take 73 = .ok (.iload 4, 2) := by decide +kernel
theorem dX12_take_75 : decode cX12_take 75 = .ok (.invokevirtual 172, 3) := by decide +kernel
theorem dX12_take_78 : decode cX12_take 78 = .ok (.ifCond .eq 7, 3) := by decide +kernel
theorem dX12_take_81 : decode cX12_take 81 = .ok (.iconst 1, 1) := by decide +kernel
theorem dX12_take_82 : decode cX12_take 82 = .ok (.goto 4, 3) := by decide +kernel
theorem dX12_take_85 : decode cX12_take 85 = .ok (.iconst 0, 1) := by decide +kernel
theorem dX12_take_86 : decode cX12_take 86 = .ok (.iadd, 1) := by decide +kernel
theorem dX12_take_87 : decode cX12_take 87 = .ok (.iastore, 1) := by decide +kernel
theorem dX12_take_88 : decode cX12_take 88 = .ok (.iinc 4 1, 3) := by decide +kernel
theorem dX12_take_91 : decode cX12_take 91 = .ok (.goto (-34), 3) := by decide +kernel
theorem dX12_take_94 : decode cX12_take 94 = .ok (.iinc 3 1, 3) := by decide +kernel
theorem dX12_take_97 : decode cX12_take 97 = .ok (.goto (-60), 3) := by decide +kernel
theorem dX12_take_100 : decode cX12_take 100 = .ok (.iconst 0, 1) := by decide +kernel
theorem dX12_take_101 : decode cX12_take 101 = .ok (.istore_n 3, 1) := by decide +kernel
theorem dX12_take_102 : decode cX12_take 102 = .ok (.iconst 0, 1) := by decide +kernel
theorem dX12_take_103 : decode cX12_take 103 = .ok (.istore 4, 2) := by decide +kernel
theorem dX12_take_105 : decode cX12_take 105 = .ok (.iconst 0, 1) := by decide +kernel
theorem dX12_take_106 : decode cX12_take 106 = .ok (.istore 5, 2) := by decide +kernel
theorem dX12_take_108 : decode cX12_take 108 = .ok (.iconst 1, 1) := by decide +kernel
theorem dX12_take_109 : decode cX12_take 109 = .ok (.istore 6, 2) := by decide +kernel
theorem dX12_take_111 : decode cX12_take 111 = .ok (.iload 6, 2) := by decide +kernel
theorem dX12_take_113 : decode cX12_take 113 = .ok (.iconst 1, 1) := by decide +kernel
theorem dX12_take_114 : decode cX12_take 114 = .ok (.aload_n 0, 1) := by decide +kernel
theorem dX12_take_115 : decode cX12_take 115 = .ok (.getfield 9, 3) := by decide +kernel
theorem dX12_take_118 : decode cX12_take 118 = .ok (.iconst 0, 1) := by decide +kernel
theorem dX12_take_119 : decode cX12_take 119 = .ok (.iaload, 1) := by decide +kernel
theorem dX12_take_120 : decode cX12_take 120 = .ok (.ishl, 1) := by decide +kernel
theorem dX12_take_121 : decode cX12_take 121 = .ok (.if_icmp .ge 131, 3) := by decide +kernel
theorem dX12_take_124 : decode cX12_take 124 = .ok (.iconst 0, 1) := by decide +kernel
theorem dX12_take_125 : decode cX12_take 125 = .ok (.istore 7, 2) := by decide +kernel
theorem dX12_take_127 : decode cX12_take 127 = .ok (.iconst 0, 1) := by decide +kernel
theorem dX12_take_128 : decode cX12_take 128 = .ok (.istore 8, 2) := by decide +kernel
theorem dX12_take_130 : decode cX12_take 130 = .ok (.iconst 0, 1) := by decide +kernel
theorem dX12_take_131 : decode cX12_take 131 = .ok (.istore 9, 2) := by decide +kernel
theorem dX12_take_133 : decode cX12_take 133 = .ok (.iload 9, 2) := by decide +kernel
theorem dX12_take_135 : decode cX12_take 135 = .ok (.aload_n 0, 1) := by decide +kernel
theorem dX12_take_136 : decode cX12_take 136 = .ok (.getfield 9, 3) := by decide +kernel
theorem dX12_take_139 : decode cX12_take 139 = .ok (.iconst 0, 1) := by decide +kernel
theorem dX12_take_140 : decode cX12_take 140 = .ok (.iaload, 1) := by decide +kernel
theorem dX12_take_141 : decode cX12_take 141 = .ok (.if_icmp .ge 67, 3) := by decide +kernel
theorem dX12_take_144 : decode cX12_take 144 = .ok (.iload 7, 2) := by decide +kernel
theorem dX12_take_146 : decode cX12_take 146 = .ok (.iload 6, 2) := by decide +kernel
theorem dX12_take_148 : decode cX12_take 148 = .ok (.iload 9, 2) := by decide +kernel
theorem dX12_take_150 : decode cX12_take 150 = .ok (.ishr, 1) := by decide +kernel
theorem dX12_take_151 : decode cX12_take 151 = .ok (.iconst 1, 1) := by decide +kernel
theorem dX12_take_152 : decode cX12_take 152 = .ok (.iand, 1) := by decide +kernel
theorem dX12_take_153 : decode cX12_take 153 = .ok (.iconst 1, 1) := by decide +kernel
theorem dX12_take_154 : decode cX12_take 154 = .ok (.if_icmp .ne 13, 3) := by decide +kernel
theorem dX12_take_157 : decode cX12_take 157 = .ok (.aload_n 0, 1) := by decide +kernel
theorem dX12_take_158 : decode cX12_take 158 = .ok (.getfield 37, 3) := by decide +kernel
theorem dX12_take_161 : decode cX12_take 161 = .ok (.iload 9, 2) := by decide +kernel
theorem dX12_take_163 : decode cX12_take 163 = .ok (.iaload, 1) := by decide +kernel
theorem dX12_take_164 : decode cX12_take 164 = .ok (.goto 4, 3) := by decide +kernel
theorem dX12_take_167 : decode cX12_take 167 = .ok (.iconst 0, 1) := by decide +kernel
theorem dX12_take_168 : decode cX12_take 168 = .ok (.iadd, 1) := by decide +kernel
theorem dX12_take_169 : decode cX12_take 169 = .ok (.istore 7, 2) := by decide +kernel
theorem dX12_take_171 : decode cX12_take 171 = .ok (.iload 8, 2) := by decide +kernel
theorem dX12_take_173 : decode cX12_take 173 = .ok (.iload 6, 2) := by decide +kernel
theorem dX12_take_175 : decode cX12_take 175 = .ok (.iload 9, 2) := by decide +kernel
theorem dX12_take_177 : decode cX12_take 177 = .ok (.ishr, 1) := by decide +kernel
theorem dX12_take_178 : decode cX12_take 178 = .ok (.iconst 1, 1) := by decide +kernel
theorem dX12_take_179 : decode cX12_take 179 = .ok (.iand, 1) := by decide +kernel
theorem dX12_take_180 : decode cX12_take 180 = .ok (.iconst 1, 1) := by decide +kernel
theorem dX12_take_181 : decode cX12_take 181 = .ok (.if_icmp .ne 17, 3) := by decide +kernel
theorem dX12_take_184 : decode cX12_take 184 = .ok (.aload_n 0, 1) := by decide +kernel
theorem dX12_take_185 : decode cX12_take 185 = .ok (.getfield 9, 3) := by decide +kernel
theorem dX12_take_188 : decode cX12_take 188 = .ok (.sipush 160, 3) := by decide +kernel
theorem dX12_take_191 : decode cX12_take 191 = .ok (.iload 9, 2) := by decide +kernel
theorem dX12_take_193 : decode cX12_take 193 = .ok (.iadd, 1) := by decide +kernel
theorem dX12_take_194 : decode cX12_take 194 = .ok (.iaload, 1) := by decide +kernel
theorem dX12_take_195 : decode cX12_take 195 = .ok (.goto 4, 3) := by decide +kernel
theorem dX12_take_198 : decode cX12_take 198 = .ok (.iconst 0, 1) := by decide +kernel
theorem dX12_take_199 : decode cX12_take 199 = .ok (.iadd, 1) := by decide +kernel
theorem dX12_take_200 : decode cX12_take 200 = .ok (.istore 8, 2) := by decide +kernel
theorem dX12_take_202 : decode cX12_take 202 = .ok (.iinc 9 1, 3) := by decide +kernel
theorem dX12_take_205 : decode cX12_take 205 = .ok (.goto (-72), 3) := by decide +kernel
theorem dX12_take_208 : decode cX12_take 208 = .ok (.iload 8, 2) := by decide +kernel
theorem dX12_take_210 : decode cX12_take 210 = .ok (.iload_n 1, 1) := by decide +kernel
theorem dX12_take_211 : decode cX12_take 211 = .ok (.if_icmp .gt 35, 3) := by decide +kernel
theorem dX12_take_214 : decode cX12_take 214 = .ok (.iload 7, 2) := by decide +kernel
theorem dX12_take_216 : decode cX12_take 216 = .ok (.iload 4, 2) := by decide +kernel
theorem dX12_take_218 : decode cX12_take 218 = .ok (.if_icmp .gt 17, 3) := by decide +kernel
theorem dX12_take_221 : decode cX12_take 221 = .ok (.iload 7, 2) := by decide +kernel
theorem dX12_take_223 : decode cX12_take 223 = .ok (.iload 4, 2) := by decide +kernel
theorem dX12_take_225 : decode cX12_take 225 = .ok (.if_icmp .ne 21, 3) := by decide +kernel
theorem dX12_take_228 : decode cX12_take 228 = .ok (.iload 8, 2) := by decide +kernel
theorem dX12_take_230 : decode cX12_take 230 = .ok (.iload 5, 2) := by decide +kernel
theorem dX12_take_232 : decode cX12_take 232 = .ok (.if_icmp .ge 14, 3) := by decide +kernel
theorem dX12_take_235 : decode cX12_take 235 = .ok (.iload 6, 2) := by decide +kernel
theorem dX12_take_237 : decode cX12_take 237 = .ok (.istore_n 3, 1) := by decide +kernel
theorem dX12_take_238 : decode cX12_take 238 = .ok (.iload 7, 2) := by decide +kernel
theorem dX12_take_240 : decode cX12_take 240 = .ok (.istore 4, 2) := by decide +kernel
theorem dX12_take_242 : decode cX12_take 242 = .ok (.iload 8, 2) := by decide +kernel
theorem dX12_take_244 : decode cX12_take 244 = .ok (.istore 5, 2) := by decide +kernel
theorem dX12_take_246 : decode cX12_take 246 = .ok (.iinc 6 1, 3) := by decide +kernel
theorem dX12_take_249 : decode cX12_take 249 = .ok (.goto (-138), 3) := by decide +kernel
theorem dX12_take_252 : decode cX12_take 252 = .ok (.iload_n 2, 1) := by decide +kernel
theorem dX12_take_253 : decode cX12_take 253 = .ok (.ifCond .ne 7, 3) := by decide +kernel
theorem dX12_take_256 : decode cX12_take 256 = .ok (.iload_n 3, 1) := by decide +kernel
theorem dX12_take_257 : decode cX12_take 257 = .ok (.goto 15, 3) := by decide +kernel
theorem dX12_take_260 : decode cX12_take 260 = .ok (.iload_n 2, 1) := by decide +kernel
theorem dX12_take_261 : decode cX12_take 261 = .ok (.iconst 1, 1) := by decide +kernel
theorem dX12_take_262 : decode cX12_take 262 = .ok (.if_icmp .ne 8, 3) := by decide +kernel
theorem dX12_take_265 : decode cX12_take 265 = .ok (.iload 4, 2) := by decide +kernel
theorem dX12_take_267 : decode cX12_take 267 = .ok (.goto 5, 3) := by decide +kernel
theorem dX12_take_270 : decode cX12_take 270 = .ok (.iload 5, 2) := by decide +kernel
theorem dX12_take_272 : decode cX12_take 272 = .ok (.ireturn, 1) := by decide +kernel
theorem dX12_canThrowOnSome_0 : decode cX12_canThrowOnSome 0 = .ok (.iconst 0, 1) := by decide +kernel
theorem dX12_canThrowOnSome_1 : decode cX12_canThrowOnSome 1 = .ok (.istore_n 3, 1) := by decide +kernel
theorem dX12_canThrowOnSome_2 : decode cX12_canThrowOnSome 2 = .ok (.iconst 0, 1) := by decide +kernel
theorem dX12_canThrowOnSome_3 : decode cX12_canThrowOnSome 3 = .ok (.istore 4, 2) := by decide +kernel
theorem dX12_canThrowOnSome_5 : decode cX12_canThrowOnSome 5 = .ok (.iload 4, 2) := by decide +kernel
theorem dX12_canThrowOnSome_7 : decode cX12_canThrowOnSome 7 = .ok (.bipush 8, 2) := by decide +kernel
theorem dX12_canThrowOnSome_9 : decode cX12_canThrowOnSome 9 = .ok (.if_icmp .ge 50, 3) := by decide +kernel
theorem dX12_canThrowOnSome_12 : decode cX12_canThrowOnSome 12 = .ok (.iload_n 3, 1) := by decide +kernel
theorem dX12_canThrowOnSome_13 : decode cX12_canThrowOnSome 13 = .ok (.ifCond .ne 46, 3) := by decide +kernel
theorem dX12_canThrowOnSome_16 : decode cX12_canThrowOnSome 16 = .ok (.iconst 0, 1) := by decide +kernel
theorem dX12_canThrowOnSome_17 : decode cX12_canThrowOnSome 17 = .ok (.istore 5, 2) := by decide +kernel
theorem dX12_canThrowOnSome_19 : decode cX12_canThrowOnSome 19 = .ok (.iload 5, 2) := by decide +kernel
theorem dX12_canThrowOnSome_21 : decode cX12_canThrowOnSome 21 = .ok (.aload_n 0, 1) := by decide +kernel
theorem dX12_canThrowOnSome_22 : decode cX12_canThrowOnSome 22 = .ok (.getfield 9, 3) := by decide +kernel
theorem dX12_canThrowOnSome_25 : decode cX12_canThrowOnSome 25 = .ok (.iconst 1, 1) := by decide +kernel
theorem dX12_canThrowOnSome_26 : decode cX12_canThrowOnSome 26 = .ok (.iaload, 1) := by decide +kernel
theorem dX12_canThrowOnSome_27 : decode cX12_canThrowOnSome 27 = .ok (.if_icmp .ge 26, 3) := by decide +kernel
theorem dX12_canThrowOnSome_30 : decode cX12_canThrowOnSome 30 = .ok (.iload_n 3, 1) := by decide +kernel
theorem dX12_canThrowOnSome_31 : decode cX12_canThrowOnSome 31 = .ok (.ifCond .ne 22, 3) := by decide +kernel
theorem dX12_canThrowOnSome_34 : decode cX12_canThrowOnSome 34 = .ok (.aload_n 0, 1) := by decide +kernel
theorem dX12_canThrowOnSome_35 : decode cX12_canThrowOnSome 35 = .ok (.iload_n 1, 1) := by decide +kernel
theorem dX12_canThrowOnSome_36 : decode cX12_canThrowOnSome 36 = .ok (.iload 5, 2) := by decide +kernel
theorem dX12_canThrowOnSome_38 : decode cX12_canThrowOnSome 38 = .ok (.iload 4, 2) := by decide +kernel
theorem dX12_canThrowOnSome_40 : decode cX12_canThrowOnSome 40 = .ok (.invokevirtual 178, 3) := by decide +kernel
theorem dX12_canThrowOnSome_43 : decode cX12_canThrowOnSome 43 = .ok (.istore_n 3, 1) := by decide +kernel
theorem dX12_canThrowOnSome_44 : decode cX12_canThrowOnSome 44 = .ok (.iload 5, 2) := by decide +kernel
theorem dX12_canThrowOnSome_46 : decode cX12_canThrowOnSome 46 = .ok (.iload_n 2, 1) := by decide +kernel
theorem dX12_canThrowOnSome_47 : decode cX12_canThrowOnSome 47 = .ok (.iadd, 1) := by decide +kernel
theorem dX12_canThrowOnSome_48 : decode cX12_canThrowOnSome 48 = .ok (.istore 5, 2) := by decide +kernel
theorem dX12_canThrowOnSome_50 : decode cX12_canThrowOnSome 50 = .ok (.goto (-31), 3) := by decide +kernel
theorem dX12_canThrowOnSome_53 : decode cX12_canThrowOnSome 53 = .ok (.iinc 4 1, 3) := by decide +kernel
theorem dX12_canThrowOnSome_56 : decode cX12_canThrowOnSome 56 = .ok (.goto (-51), 3) := by decide +kernel
theorem dX12_canThrowOnSome_59 : decode cX12_canThrowOnSome 59 = .ok (.iload_n 3, 1) := by decide +kernel
theorem dX12_canThrowOnSome_60 : decode cX12_canThrowOnSome 60 = .ok (.ireturn, 1) := by decide +kernel
theorem dX12_coarse_0 : decode cX12_coarse 0 = .ok (.iload_n 1, 1) := by decide +kernel
theorem dX12_coarse_1 : decode cX12_coarse 1 = .ok (.iconst 1, 1) := by decide +kernel
theorem dX12_coarse_2 : decode cX12_coarse 2 = .ok (.bipush 9, 2) := by decide +kernel
theorem dX12_coarse_4 : decode cX12_coarse 4 = .ok (.invokestatic 47, 3) := by decide +kernel
theorem dX12_coarse_7 : decode cX12_coarse 7 = .ok (.ifCond .ne 6, 3) := by decide +kernel
theorem dX12_coarse_10 : decode cX12_coarse 10 = .ok (.bipush (-2), 2) := by decide +kernel
theorem dX12_coarse_12 : decode cX12_coarse 12 = .ok (.ireturn, 1) := by decide +kernel
theorem dX12_coarse_13 : decode cX12_coarse 13 = .ok (.aload_n 0, 1) := by decide +kernel
theorem dX12_coarse_14 : decode cX12_coarse 14 = .ok (.aload_n 0, 1) := by decide +kernel
theorem dX12_coarse_15 : decode cX12_coarse 15 = .ok (.getfield 9, 3) := by decide +kernel
theorem dX12_coarse_18 : decode cX12_coarse 18 = .ok (.iconst 4, 1) := by decide +kernel
theorem dX12_coarse_19 : decode cX12_coarse 19 = .ok (.iaload, 1) := by decide +kernel
theorem dX12_coarse_20 : decode cX12_coarse 20 = .ok (.putfield 145, 3) := by decide +kernel
theorem dX12_coarse_23 : decode cX12_coarse 23 = .ok (.iconst 0, 1) := by decide +kernel
theorem dX12_coarse_24 : decode cX12_coarse 24 = .ok (.istore_n 2, 1) := by decide +kernel
theorem dX12_coarse_25 : decode cX12_coarse 25 = .ok (.iconst 0, 1) := by decide +kernel
theorem dX12_coarse_26 : decode cX12_coarse 26 = .ok (.istore_n 3, 1) := by decide +kernel
theorem dX12_coarse_27 : decode cX12_coarse 27 = .ok (.iload_n 3, 1) := by decide +kernel
theorem dX12_coarse_28 : decode cX12_coarse 28 = .ok (.aload_n 0, 1) := by decide +kernel
theorem dX12_coarse_29 : decode cX12_coarse 29 = .ok (.getfield 9, 3) := by decide +kernel
theorem dX12_coarse_32 : decode cX12_coarse 32 = .ok (.iconst 0, 1) := by decide +kernel
theorem dX12_coarse_33 : decode cX12_coarse 33 = .ok (.iaload, 1) := by decide +kernel
theorem dX12_coarse_34 : decode cX12_coarse 34 = .ok (.if_icmp .ge 28, 3) := by decide +kernel
theorem dX12_coarse_37 : decode cX12_coarse 37 = .ok (.iload_n 2, 1) := by decide +kernel
theorem dX12_coarse_38 : decode cX12_coarse 38 = .ok (.aload_n 0, 1) := by decide +kernel
theorem dX12_coarse_39 : decode cX12_coarse 39 = .ok (.iload_n 3, 1) := by decide +kernel
theorem dX12_coarse_40 : decode cX12_coarse 40 = .ok (.iload_n 1, 1) := by decide +kernel
theorem dX12_coarse_41 : decode cX12_coarse 41 = .ok (.invokevirtual 208, 3) := by decide +kernel
theorem dX12_coarse_44 : decode cX12_coarse 44 = .ok (.ifCond .eq 7, 3) := by decide +kernel
theorem dX12_coarse_47 : decode cX12_coarse 47 = .ok (.iconst 0, 1) := by decide +kernel
theorem dX12_coarse_48 : decode cX12_coarse 48 = .ok (.goto 6, 3) := by decide +kernel
theorem dX12_coarse_51 : decode cX12_coarse 51 = .ok (.iconst 1, 1) := by decide +kernel
theorem dX12_coarse_52 : decode cX12_coarse 52 = .ok (.iload_n 3, 1) := by decide +kernel
theorem dX12_coarse_53 : decode cX12_coarse 53 = .ok (.ishl, 1) := by decide +kernel
theorem dX12_coarse_54 : decode cX12_coarse 54 = .ok (.ior, 1) := by decide +kernel
theorem dX12_coarse_55 : decode cX12_coarse 55 = .ok (.istore_n 2, 1) := by decide +kernel
theorem dX12_coarse_56 : decode cX12_coarse 56 = .ok (.iinc 3 1, 3) := by decide +kernel
theorem dX12_coarse_59 : decode cX12_coarse 59 = .ok (.goto (-32), 3) := by decide +kernel
theorem dX12_coarse_62 : decode cX12_coarse 62 = .ok (.iload_n 2, 1) := by decide +kernel
theorem dX12_coarse_63 : decode cX12_coarse 63 = .ok (.ireturn, 1) := by decide +kernel
theorem dX12_divisor_0 : decode cX12_divisor 0 = .ok (.lload_n 0, 1) := by decide +kernel
theorem dX12_divisor_1 : decode cX12_divisor 1 = .ok (.lstore 4, 2) := by decide +kernel
theorem dX12_divisor_3 : decode cX12_divisor 3 = .ok (.lload_n 2, 1) := by decide +kernel
theorem dX12_divisor_4 : decode cX12_divisor 4 = .ok (.lstore 6, 2) := by decide +kernel
theorem dX12_divisor_6 : decode cX12_divisor 6 = .ok (.lload 6, 2) := by decide +kernel
theorem dX12_divisor_8 : decode cX12_divisor 8 = .ok (.lconst 0, 1) := by decide +kernel
theorem dX12_divisor_9 : decode cX12_divisor 9 = .ok (.lcmp, 1) := by decide +kernel
theorem dX12_divisor_10 : decode cX12_divisor 10 = .ok (.ifCond .eq 21, 3) := by decide +kernel
theorem dX12_divisor_13 : decode cX12_divisor 13 = .ok (.lload 4, 2) := by decide +kernel
theorem dX12_divisor_15 : decode cX12_divisor 15 = .ok (.lload 6, 2) := by decide +kernel
theorem dX12_divisor_17 : decode cX12_divisor 17 = .ok (.lrem, 1) := by decide +kernel
theorem dX12_divisor_18 : decode cX12_divisor 18 = .ok (.lstore 8, 2) := by decide +kernel
theorem dX12_divisor_20 : decode cX12_divisor 20 = .ok (.lload 6, 2) := by decide +kernel
theorem dX12_divisor_22 : decode cX12_divisor 22 = .ok (.lstore 4, 2) := by decide +kernel
theorem dX12_divisor_24 : decode cX12_divisor 24 = .ok (.lload 8, 2) := by decide +kernel
theorem dX12_divisor_26 : decode cX12_divisor 26 = .ok (.lstore 6, 2) := by decide +kernel
theorem dX12_divisor_28 : decode cX12_divisor 28 = .ok (.goto (-22), 3) := by decide +kernel
theorem dX12_divisor_31 : decode cX12_divisor 31 = .ok (.lload 4, 2) := by decide +kernel
theorem dX12_divisor_33 : decode cX12_divisor 33 = .ok (.lreturn, 1) := by decide +kernel
theorem dX12_power_0 : decode cX12_power 0 = .ok (.lconst 1, 1) := by decide +kernel
theorem dX12_power_1 : decode cX12_power 1 = .ok (.lstore_n 3, 1) := by decide +kernel
theorem dX12_power_2 : decode cX12_power 2 = .ok (.iconst 0, 1) := by decide +kernel
theorem dX12_power_3 : decode cX12_power 3 = .ok (.istore 5, 2) := by decide +kernel
theorem dX12_power_5 : decode cX12_power 5 = .ok (.iload 5, 2) := by decide +kernel
theorem dX12_power_7 : decode cX12_power 7 = .ok (.iload_n 2, 1) := by decide +kernel
theorem dX12_power_8 : decode cX12_power 8 = .ok (.if_icmp .ge 13, 3) := by decide +kernel
theorem dX12_power_11 : decode cX12_power 11 = .ok (.lload_n 3, 1) := by decide +kernel
theorem dX12_power_12 : decode cX12_power 12 = .ok (.lload_n 0, 1) := by decide +kernel
theorem dX12_power_13 : decode cX12_power 13 = .ok (.lmul, 1) := by decide +kernel
theorem dX12_power_14 : decode cX12_power 14 = .ok (.lstore_n 3, 1) := by decide +kernel
theorem dX12_power_15 : decode cX12_power 15 = .ok (.iinc 5 1, 3) := by decide +kernel
theorem dX12_power_18 : decode cX12_power 18 = .ok (.goto (-13), 3) := by decide +kernel
theorem dX12_power_21 : decode cX12_power 21 = .ok (.lload_n 3, 1) := by decide +kernel
theorem dX12_power_22 : decode cX12_power 22 = .ok (.lreturn, 1) := by decide +kernel
theorem dX12_choose_0 : decode cX12_choose 0 = .ok (.lconst 1, 1) := by decide +kernel
theorem dX12_choose_1 : decode cX12_choose 1 = .ok (.lstore_n 2, 1) := by decide +kernel
theorem dX12_choose_2 : decode cX12_choose 2 = .ok (.iconst 0, 1) := by decide +kernel
theorem dX12_choose_3 : decode cX12_choose 3 = .ok (.istore 4, 2) := by decide +kernel
theorem dX12_choose_5 : decode cX12_choose 5 = .ok (.iload 4, 2) := by decide +kernel
theorem dX12_choose_7 : decode cX12_choose 7 = .ok (.iload_n 1, 1) := by decide +kernel
theorem dX12_choose_8 : decode cX12_choose 8 = .ok (.if_icmp .ge 23, 3) := by decide +kernel
theorem dX12_choose_11 : decode cX12_choose 11 = .ok (.lload_n 2, 1) := by decide +kernel
theorem dX12_choose_12 : decode cX12_choose 12 = .ok (.iload_n 0, 1) := by decide +kernel
theorem dX12_choose_13 : decode cX12_choose 13 = .ok (.iload 4, 2) := by decide +kernel
theorem dX12_choose_15 : decode cX12_choose 15 = .ok (.isub, 1) := by decide +kernel
theorem dX12_choose_16 : decode cX12_choose 16 = .ok (.i2l, 1) := by decide +kernel
theorem dX12_choose_17 : decode cX12_choose 17 = .ok (.lmul, 1) := by decide +kernel
theorem dX12_choose_18 : decode cX12_choose 18 = .ok (.iload 4, 2) := by decide +kernel
theorem dX12_choose_20 : decode cX12_choose 20 = .ok (.iconst 1, 1) := by decide +kernel
theorem dX12_choose_21 : decode cX12_choose 21 = .ok (.iadd, 1) := by decide +kernel
theorem dX12_choose_22 : decode cX12_choose 22 = .ok (.i2l, 1) := by decide +kernel
theorem dX12_choose_23 : decode cX12_choose 23 = .ok (.ldiv, 1) := by decide +kernel
theorem dX12_choose_24 : decode cX12_choose 24 = .ok (.lstore_n 2, 1) := by decide +kernel
theorem dX12_choose_25 : decode cX12_choose 25 = .ok (.iinc 4 1, 3) := by decide +kernel
theorem dX12_choose_28 : decode cX12_choose 28 = .ok (.goto (-23), 3) := by decide +kernel
theorem dX12_choose_31 : decode cX12_choose 31 = .ok (.lload_n 2, 1) := by decide +kernel
theorem dX12_choose_32 : decode cX12_choose 32 = .ok (.lreturn, 1) := by decide +kernel
theorem dX12_kept_0 : decode cX12_kept 0 = .ok (.aload_n 0, 1) := by decide +kernel
theorem dX12_kept_1 : decode cX12_kept 1 = .ok (.iload_n 1, 1) := by decide +kernel
theorem dX12_kept_2 : decode cX12_kept 2 = .ok (.invokevirtual 59, 3) := by decide +kernel
theorem dX12_kept_5 : decode cX12_kept 5 = .ok (.ifCond .eq 22, 3) := by decide +kernel
theorem dX12_kept_8 : decode cX12_kept 8 = .ok (.iload_n 2, 1) := by decide +kernel
theorem dX12_kept_9 : decode cX12_kept 9 = .ok (.iconst 0, 1) := by decide +kernel
theorem dX12_kept_10 : decode cX12_kept 10 = .ok (.bipush 8, 2) := by decide +kernel
theorem dX12_kept_12 : decode cX12_kept 12 = .ok (.invokestatic 47, 3) := by decide +kernel
theorem dX12_kept_15 : decode cX12_kept 15 = .ok (.ifCond .eq 12, 3) := by decide +kernel
theorem dX12_kept_18 : decode cX12_kept 18 = .ok (.iload_n 3, 1) := by decide +kernel
theorem dX12_kept_19 : decode cX12_kept 19 = .ok (.iconst 0, 1) := by decide +kernel
theorem dX12_kept_20 : decode cX12_kept 20 = .ok (.iconst 1, 1) := by decide +kernel
theorem dX12_kept_21 : decode cX12_kept 21 = .ok (.invokestatic 47, 3) := by decide +kernel
theorem dX12_kept_24 : decode cX12_kept 24 = .ok (.ifCond .ne 7, 3) := by decide +kernel
theorem dX12_kept_27 : decode cX12_kept 27 = .ok (.ldc2_w 211, 3) := by decide +kernel
theorem dX12_kept_30 : decode cX12_kept 30 = .ok (.lreturn, 1) := by decide +kernel
theorem dX12_kept_31 : decode cX12_kept 31 = .ok (.aload_n 0, 1) := by decide +kernel
theorem dX12_kept_32 : decode cX12_kept 32 = .ok (.aload_n 0, 1) := by decide +kernel
theorem dX12_kept_33 : decode cX12_kept 33 = .ok (.getfield 9, 3) := by decide +kernel
theorem dX12_kept_36 : decode cX12_kept 36 = .ok (.iconst 4, 1) := by decide +kernel
theorem dX12_kept_37 : decode cX12_kept 37 = .ok (.iaload, 1) := by decide +kernel
theorem dX12_kept_38 : decode cX12_kept 38 = .ok (.putfield 145, 3) := by decide +kernel
theorem dX12_kept_41 : decode cX12_kept 41 = .ok (.iconst 0, 1) := by decide +kernel
theorem dX12_kept_42 : decode cX12_kept 42 = .ok (.istore 4, 2) := by decide +kernel
theorem dX12_kept_44 : decode cX12_kept 44 = .ok (.iconst 0, 1) := by decide +kernel
theorem dX12_kept_45 : decode cX12_kept 45 = .ok (.istore 5, 2) := by decide +kernel
theorem dX12_kept_47 : decode cX12_kept 47 = .ok (.iload 5, 2) := by decide +kernel
theorem dX12_kept_49 : decode cX12_kept 49 = .ok (.bipush 8, 2) := by decide +kernel
theorem dX12_kept_51 : decode cX12_kept 51 = .ok (.if_icmp .ge 29, 3) := by decide +kernel
theorem dX12_kept_54 : decode cX12_kept 54 = .ok (.iload 4, 2) := by decide +kernel
theorem dX12_kept_56 : decode cX12_kept 56 = .ok (.aload_n 0, 1) := by decide +kernel
theorem dX12_kept_57 : decode cX12_kept 57 = .ok (.iload_n 1, 1) := by decide +kernel
theorem dX12_kept_58 : decode cX12_kept 58 = .ok (.iload 5, 2) := by decide +kernel
theorem dX12_kept_60 : decode cX12_kept 60 = .ok (.invokevirtual 190, 3) := by decide +kernel
theorem dX12_kept_63 : decode cX12_kept 63 = .ok (.ifCond .le 7, 3) := by decide +kernel
theorem dX12_kept_66 : decode cX12_kept 66 = .ok (.iconst 1, 1) := by decide +kernel
theorem dX12_kept_67 : decode cX12_kept 67 = .ok (.goto 4, 3) := by decide +kernel
theorem dX12_kept_70 : decode cX12_kept 70 = .ok (.iconst 0, 1) := by decide +kernel
theorem dX12_kept_71 : decode cX12_kept 71 = .ok (.iadd, 1) := by decide +kernel
theorem dX12_kept_72 : decode cX12_kept 72 = .ok (.istore 4, 2) := by decide +kernel
theorem dX12_kept_74 : decode cX12_kept 74 = .ok (.iinc 5 1, 3) := by decide +kernel
theorem dX12_kept_77 : decode cX12_kept 77 = .ok (.goto (-30), 3) := by decide +kernel
theorem dX12_kept_80 : decode cX12_kept 80 = .ok (.aload_n 0, 1) := by decide +kernel
theorem dX12_kept_81 : decode cX12_kept 81 = .ok (.sipush 284, 3) := by decide +kernel
theorem dX12_kept_84 : decode cX12_kept 84 = .ok (.iconst 0, 1) := by decide +kernel
theorem dX12_kept_85 : decode cX12_kept 85 = .ok (.invokevirtual 148, 3) := by decide +kernel
theorem dX12_kept_88 : decode cX12_kept 88 = .ok (.istore 5, 2) := by decide +kernel
theorem dX12_kept_90 : decode cX12_kept 90 = .ok (.lconst 0, 1) := by decide +kernel
theorem dX12_kept_91 : decode cX12_kept 91 = .ok (.lstore 6, 2) := by decide +kernel
theorem dX12_kept_93 : decode cX12_kept 93 = .ok (.iload_n 2, 1) := by decide +kernel
theorem dX12_kept_94 : decode cX12_kept 94 = .ok (.istore 8, 2) := by decide +kernel
theorem dX12_kept_96 : decode cX12_kept 96 = .ok (.iload 8, 2) := by decide +kernel
theorem dX12_kept_98 : decode cX12_kept 98 = .ok (.iload 4, 2) := by decide +kernel
theorem dX12_kept_100 : decode cX12_kept 100 = .ok (.if_icmp .gt 45, 3) := by decide +kernel
theorem dX12_kept_103 : decode cX12_kept 103 = .ok (.lload 6, 2) := by decide +kernel
theorem dX12_kept_105 : decode cX12_kept 105 = .ok (.iload 4, 2) := by decide +kernel
theorem dX12_kept_107 : decode cX12_kept 107 = .ok (.iload 8, 2) := by decide +kernel
theorem dX12_kept_109 : decode cX12_kept 109 = .ok (.invokestatic 213, 3) := by decide +kernel
theorem dX12_kept_112 : decode cX12_kept 112 = .ok (.bipush 10, 2) := by decide +kernel
theorem dX12_kept_114 : decode cX12_kept 114 = .ok (.iload 5, 2) := by decide +kernel
theorem dX12_kept_116 : decode cX12_kept 116 = .ok (.isub, 1) := by decide +kernel
theorem dX12_kept_117 : decode cX12_kept 117 = .ok (.i2l, 1) := by decide +kernel
theorem dX12_kept_118 : decode cX12_kept 118 = .ok (.iload 8, 2) := by decide +kernel
theorem dX12_kept_120 : decode cX12_kept 120 = .ok (.invokestatic 217, 3) := by decide +kernel
theorem dX12_kept_123 : decode cX12_kept 123 = .ok (.lmul, 1) := by decide +kernel
theorem dX12_kept_124 : decode cX12_kept 124 = .ok (.iload 5, 2) := by decide +kernel
theorem dX12_kept_126 : decode cX12_kept 126 = .ok (.i2l, 1) := by decide +kernel
theorem dX12_kept_127 : decode cX12_kept 127 = .ok (.iload 4, 2) := by decide +kernel
theorem dX12_kept_129 : decode cX12_kept 129 = .ok (.iload 8, 2) := by decide +kernel
theorem dX12_kept_131 : decode cX12_kept 131 = .ok (.isub, 1) := by decide +kernel
theorem dX12_kept_132 : decode cX12_kept 132 = .ok (.invokestatic 217, 3) := by decide +kernel
theorem dX12_kept_135 : decode cX12_kept 135 = .ok (.lmul, 1) := by decide +kernel
theorem dX12_kept_136 : decode cX12_kept 136 = .ok (.ladd, 1) := by decide +kernel
theorem dX12_kept_137 : decode cX12_kept 137 = .ok (.lstore 6, 2) := by decide +kernel
theorem dX12_kept_139 : decode cX12_kept 139 = .ok (.iinc 8 1, 3) := by decide +kernel
theorem dX12_kept_142 : decode cX12_kept 142 = .ok (.goto (-46), 3) := by decide +kernel
theorem dX12_kept_145 : decode cX12_kept 145 = .ok (.ldc2_w 221, 3) := by decide +kernel
theorem dX12_kept_148 : decode cX12_kept 148 = .ok (.iload 4, 2) := by decide +kernel
theorem dX12_kept_150 : decode cX12_kept 150 = .ok (.invokestatic 217, 3) := by decide +kernel
theorem dX12_kept_153 : decode cX12_kept 153 = .ok (.lstore 8, 2) := by decide +kernel
theorem dX12_kept_155 : decode cX12_kept 155 = .ok (.iload_n 3, 1) := by decide +kernel
theorem dX12_kept_156 : decode cX12_kept 156 = .ok (.ifCond .ne 8, 3) := by decide +kernel
theorem dX12_kept_159 : decode cX12_kept 159 = .ok (.lload 6, 2) := by decide +kernel
theorem dX12_kept_161 : decode cX12_kept 161 = .ok (.goto 5, 3) := by decide +kernel
theorem dX12_kept_164 : decode cX12_kept 164 = .ok (.lload 8, 2) := by decide +kernel
theorem dX12_kept_166 : decode cX12_kept 166 = .ok (.lload 6, 2) := by decide +kernel
theorem dX12_kept_168 : decode cX12_kept 168 = .ok (.lload 8, 2) := by decide +kernel
theorem dX12_kept_170 : decode cX12_kept 170 = .ok (.invokestatic 223, 3) := by decide +kernel
theorem dX12_kept_173 : decode cX12_kept 173 = .ok (.ldiv, 1) := by decide +kernel
theorem dX12_kept_174 : decode cX12_kept 174 = .ok (.lreturn, 1) := by decide +kernel
theorem dX12_sunny_0 : decode cX12_sunny 0 = .ok (.iconst 0, 1) := by decide +kernel
theorem dX12_sunny_1 : decode cX12_sunny 1 = .ok (.istore_n 2, 1) := by decide +kernel
theorem dX12_sunny_2 : decode cX12_sunny 2 = .ok (.iconst 0, 1) := by decide +kernel
theorem dX12_sunny_3 : decode cX12_sunny 3 = .ok (.istore_n 3, 1) := by decide +kernel
theorem dX12_sunny_4 : decode cX12_sunny 4 = .ok (.iload_n 3, 1) := by decide +kernel
theorem dX12_sunny_5 : decode cX12_sunny 5 = .ok (.bipush 8, 2) := by decide +kernel
theorem dX12_sunny_7 : decode cX12_sunny 7 = .ok (.if_icmp .ge 35, 3) := by decide +kernel
theorem dX12_sunny_10 : decode cX12_sunny 10 = .ok (.iload_n 2, 1) := by decide +kernel
theorem dX12_sunny_11 : decode cX12_sunny 11 = .ok (.aload_n 0, 1) := by decide +kernel
theorem dX12_sunny_12 : decode cX12_sunny 12 = .ok (.iload_n 1, 1) := by decide +kernel
theorem dX12_sunny_13 : decode cX12_sunny 13 = .ok (.iload_n 3, 1) := by decide +kernel
theorem dX12_sunny_14 : decode cX12_sunny 14 = .ok (.invokevirtual 196, 3) := by decide +kernel
theorem dX12_sunny_17 : decode cX12_sunny 17 = .ok (.ifCond .ne 12, 3) := by decide +kernel
theorem dX12_sunny_20 : decode cX12_sunny 20 = .ok (.aload_n 0, 1) := by decide +kernel
theorem dX12_sunny_21 : decode cX12_sunny 21 = .ok (.iload_n 1, 1) := by decide +kernel
theorem dX12_sunny_22 : decode cX12_sunny 22 = .ok (.iload_n 3, 1) := by decide +kernel
theorem dX12_sunny_23 : decode cX12_sunny 23 = .ok (.invokevirtual 190, 3) := by decide +kernel
theorem dX12_sunny_26 : decode cX12_sunny 26 = .ok (.ifCond .le 7, 3) := by decide +kernel
theorem dX12_sunny_29 : decode cX12_sunny 29 = .ok (.iconst 1, 1) := by decide +kernel
theorem dX12_sunny_30 : decode cX12_sunny 30 = .ok (.goto 4, 3) := by decide +kernel
theorem dX12_sunny_33 : decode cX12_sunny 33 = .ok (.iconst 0, 1) := by decide +kernel
theorem dX12_sunny_34 : decode cX12_sunny 34 = .ok (.iadd, 1) := by decide +kernel
theorem dX12_sunny_35 : decode cX12_sunny 35 = .ok (.istore_n 2, 1) := by decide +kernel
theorem dX12_sunny_36 : decode cX12_sunny 36 = .ok (.iinc 3 1, 3) := by decide +kernel
theorem dX12_sunny_39 : decode cX12_sunny 39 = .ok (.goto (-35), 3) := by decide +kernel
theorem dX12_sunny_42 : decode cX12_sunny 42 = .ok (.iload_n 2, 1) := by decide +kernel
theorem dX12_sunny_43 : decode cX12_sunny 43 = .ok (.ireturn, 1) := by decide +kernel
theorem dX12_gone_0 : decode cX12_gone 0 = .ok (.aload_n 0, 1) := by decide +kernel
theorem dX12_gone_1 : decode cX12_gone 1 = .ok (.iload_n 1, 1) := by decide +kernel
theorem dX12_gone_2 : decode cX12_gone 2 = .ok (.invokevirtual 59, 3) := by decide +kernel
theorem dX12_gone_5 : decode cX12_gone 5 = .ok (.ifCond .ne 5, 3) := by decide +kernel
theorem dX12_gone_8 : decode cX12_gone 8 = .ok (.iconst (-1), 1) := by decide +kernel
theorem dX12_gone_9 : decode cX12_gone 9 = .ok (.ireturn, 1) := by decide +kernel
theorem dX12_gone_10 : decode cX12_gone 10 = .ok (.aload_n 0, 1) := by decide +kernel
theorem dX12_gone_11 : decode cX12_gone 11 = .ok (.getfield 9, 3) := by decide +kernel
theorem dX12_gone_14 : decode cX12_gone 14 = .ok (.sipush 190, 3) := by decide +kernel
theorem dX12_gone_17 : decode cX12_gone 17 = .ok (.iload_n 1, 1) := by decide +kernel
theorem dX12_gone_18 : decode cX12_gone 18 = .ok (.iadd, 1) := by decide +kernel
theorem dX12_gone_19 : decode cX12_gone 19 = .ok (.iaload, 1) := by decide +kernel
theorem dX12_gone_20 : decode cX12_gone 20 = .ok (.istore_n 2, 1) := by decide +kernel
theorem dX12_gone_21 : decode cX12_gone 21 = .ok (.iconst 0, 1) := by decide +kernel
theorem dX12_gone_22 : decode cX12_gone 22 = .ok (.istore_n 3, 1) := by decide +kernel
theorem dX12_gone_23 : decode cX12_gone 23 = .ok (.iload_n 3, 1) := by decide +kernel
theorem dX12_gone_24 : decode cX12_gone 24 = .ok (.bipush 30, 2) := by decide +kernel
theorem dX12_gone_26 : decode cX12_gone 26 = .ok (.if_icmp .gt 35, 3) := by decide +kernel
theorem dX12_gone_29 : decode cX12_gone 29 = .ok (.iload_n 2, 1) := by decide +kernel
theorem dX12_gone_30 : decode cX12_gone 30 = .ok (.ifCond .gt 5, 3) := by decide +kernel
theorem dX12_gone_33 : decode cX12_gone 33 = .ok (.iload_n 3, 1) := by decide +kernel
theorem dX12_gone_34 : decode cX12_gone 34 = .ok (.ireturn, 1) := by decide +kernel
theorem dX12_gone_35 : decode cX12_gone 35 = .ok (.aload_n 0, 1) := by decide +kernel
theorem dX12_gone_36 : decode cX12_gone 36 = .ok (.aload_n 0, 1) := by decide +kernel
theorem dX12_gone_37 : decode cX12_gone 37 = .ok (.getfield 9, 3) := by decide +kernel
theorem dX12_gone_40 : decode cX12_gone 40 = .ok (.iconst 4, 1) := by decide +kernel
theorem dX12_gone_41 : decode cX12_gone 41 = .ok (.iaload, 1) := by decide +kernel
theorem dX12_gone_42 : decode cX12_gone 42 = .ok (.iload_n 3, 1) := by decide +kernel
theorem dX12_gone_43 : decode cX12_gone 43 = .ok (.iadd, 1) := by decide +kernel
theorem dX12_gone_44 : decode cX12_gone 44 = .ok (.putfield 145, 3) := by decide +kernel
theorem dX12_gone_47 : decode cX12_gone 47 = .ok (.iload_n 2, 1) := by decide +kernel
theorem dX12_gone_48 : decode cX12_gone 48 = .ok (.aload_n 0, 1) := by decide +kernel
theorem dX12_gone_49 : decode cX12_gone 49 = .ok (.iload_n 1, 1) := by decide +kernel
theorem dX12_gone_50 : decode cX12_gone 50 = .ok (.invokevirtual 227, 3) := by decide +kernel
theorem dX12_gone_53 : decode cX12_gone 53 = .ok (.isub, 1) := by decide +kernel
theorem dX12_gone_54 : decode cX12_gone 54 = .ok (.istore_n 2, 1) := by decide +kernel
theorem dX12_gone_55 : decode cX12_gone 55 = .ok (.iinc 3 1, 3) := by decide +kernel
theorem dX12_gone_58 : decode cX12_gone 58 = .ok (.goto (-35), 3) := by decide +kernel
theorem dX12_gone_61 : decode cX12_gone 61 = .ok (.bipush (-5), 2) := by decide +kernel
theorem dX12_gone_63 : decode cX12_gone 63 = .ok (.ireturn, 1) := by decide +kernel
theorem dX12_day_0 : decode cX12_day 0 = .ok (.aload_n 0, 1) := by decide +kernel
theorem dX12_day_1 : decode cX12_day 1 = .ok (.getfield 9, 3) := by decide +kernel
theorem dX12_day_4 : decode cX12_day 4 = .ok (.iconst 4, 1) := by decide +kernel
theorem dX12_day_5 : decode cX12_day 5 = .ok (.iaload, 1) := by decide +kernel
theorem dX12_day_6 : decode cX12_day 6 = .ok (.bipush 89, 2) := by decide +kernel
theorem dX12_day_8 : decode cX12_day 8 = .ok (.if_icmp .ne 6, 3) := by decide +kernel
theorem dX12_day_11 : decode cX12_day 11 = .ok (.bipush (-3), 2) := by decide +kernel
theorem dX12_day_13 : decode cX12_day 13 = .ok (.ireturn, 1) := by decide +kernel
theorem dX12_day_14 : decode cX12_day 14 = .ok (.aload_n 0, 1) := by decide +kernel
theorem dX12_day_15 : decode cX12_day 15 = .ok (.aload_n 0, 1) := by decide +kernel
theorem dX12_day_16 : decode cX12_day 16 = .ok (.getfield 9, 3) := by decide +kernel
theorem dX12_day_19 : decode cX12_day 19 = .ok (.iconst 4, 1) := by decide +kernel
theorem dX12_day_20 : decode cX12_day 20 = .ok (.iaload, 1) := by decide +kernel
theorem dX12_day_21 : decode cX12_day 21 = .ok (.putfield 145, 3) := by decide +kernel
theorem dX12_day_24 : decode cX12_day 24 = .ok (.iconst 0, 1) := by decide +kernel
theorem dX12_day_25 : decode cX12_day 25 = .ok (.istore_n 1, 1) := by decide +kernel
theorem dX12_day_26 : decode cX12_day 26 = .ok (.iload_n 1, 1) := by decide +kernel
theorem dX12_day_27 : decode cX12_day 27 = .ok (.aload_n 0, 1) := by decide +kernel
theorem dX12_day_28 : decode cX12_day 28 = .ok (.getfield 9, 3) := by decide +kernel
theorem dX12_day_31 : decode cX12_day 31 = .ok (.iconst 1, 1) := by decide +kernel
theorem dX12_day_32 : decode cX12_day 32 = .ok (.iaload, 1) := by decide +kernel
theorem dX12_day_33 : decode cX12_day 33 = .ok (.if_icmp .ge 45, 3) := by decide +kernel
theorem dX12_day_36 : decode cX12_day 36 = .ok (.aload_n 0, 1) := by decide +kernel
theorem dX12_day_37 : decode cX12_day 37 = .ok (.getfield 9, 3) := by decide +kernel
theorem dX12_day_40 : decode cX12_day 40 = .ok (.sipush 190, 3) := by decide +kernel
theorem dX12_day_43 : decode cX12_day 43 = .ok (.iload_n 1, 1) := by decide +kernel
theorem dX12_day_44 : decode cX12_day 44 = .ok (.iadd, 1) := by decide +kernel
theorem dX12_day_45 : decode cX12_day 45 = .ok (.iaload, 1) := by decide +kernel
theorem dX12_day_46 : decode cX12_day 46 = .ok (.aload_n 0, 1) := by decide +kernel
theorem dX12_day_47 : decode cX12_day 47 = .ok (.iload_n 1, 1) := by decide +kernel
theorem dX12_day_48 : decode cX12_day 48 = .ok (.invokevirtual 227, 3) := by decide +kernel
theorem dX12_day_51 : decode cX12_day 51 = .ok (.isub, 1) := by decide +kernel
theorem dX12_day_52 : decode cX12_day 52 = .ok (.istore_n 2, 1) := by decide +kernel
theorem dX12_day_53 : decode cX12_day 53 = .ok (.aload_n 0, 1) := by decide +kernel
theorem dX12_day_54 : decode cX12_day 54 = .ok (.getfield 9, 3) := by decide +kernel
theorem dX12_day_57 : decode cX12_day 57 = .ok (.sipush 190, 3) := by decide +kernel
theorem dX12_day_60 : decode cX12_day 60 = .ok (.iload_n 1, 1) := by decide +kernel
theorem dX12_day_61 : decode cX12_day 61 = .ok (.iadd, 1) := by decide +kernel
theorem dX12_day_62 : decode cX12_day 62 = .ok (.iload_n 2, 1) := by decide +kernel
theorem dX12_day_63 : decode cX12_day 63 = .ok (.ifCond .ge 7, 3) := by decide +kernel
theorem dX12_day_66 : decode cX12_day 66 = .ok (.iconst 0, 1) := by decide +kernel
theorem dX12_day_67 : decode cX12_day 67 = .ok (.goto 4, 3) := by decide +kernel
theorem dX12_day_70 : decode cX12_day 70 = .ok (.iload_n 2, 1) := by decide +kernel
theorem dX12_day_71 : decode cX12_day 71 = .ok (.iastore, 1) := by decide +kernel
theorem dX12_day_72 : decode cX12_day 72 = .ok (.iinc 1 1, 3) := by decide +kernel
theorem dX12_day_75 : decode cX12_day 75 = .ok (.goto (-49), 3) := by decide +kernel
theorem dX12_day_78 : decode cX12_day 78 = .ok (.aload_n 0, 1) := by decide +kernel
theorem dX12_day_79 : decode cX12_day 79 = .ok (.getfield 9, 3) := by decide +kernel
theorem dX12_day_82 : decode cX12_day 82 = .ok (.iconst 4, 1) := by decide +kernel
theorem dX12_day_83 : decode cX12_day 83 = .ok (.dup2, 1) := by decide +kernel
theorem dX12_day_84 : decode cX12_day 84 = .ok (.iaload, 1) := by decide +kernel
theorem dX12_day_85 : decode cX12_day 85 = .ok (.iconst 1, 1) := by decide +kernel
theorem dX12_day_86 : decode cX12_day 86 = .ok (.iadd, 1) := by decide +kernel
theorem dX12_day_87 : decode cX12_day 87 = .ok (.iastore, 1) := by decide +kernel
theorem dX12_day_88 : decode cX12_day 88 = .ok (.aload_n 0, 1) := by decide +kernel
theorem dX12_day_89 : decode cX12_day 89 = .ok (.getfield 9, 3) := by decide +kernel
theorem dX12_day_92 : decode cX12_day 92 = .ok (.iconst 4, 1) := by decide +kernel
theorem dX12_day_93 : decode cX12_day 93 = .ok (.iaload, 1) := by decide +kernel
theorem dX12_day_94 : decode cX12_day 94 = .ok (.ireturn, 1) := by decide +kernel
theorem dX12_passed_0 : decode cX12_passed 0 = .ok (.aload_n 0, 1) := by decide +kernel
theorem dX12_passed_1 : decode cX12_passed 1 = .ok (.iload_n 1, 1) := by decide +kernel
theorem dX12_passed_2 : decode cX12_passed 2 = .ok (.invokevirtual 56, 3) := by decide +kernel
theorem dX12_passed_5 : decode cX12_passed 5 = .ok (.ifCond .eq 18, 3) := by decide +kernel
theorem dX12_passed_8 : decode cX12_passed 8 = .ok (.aload_n 0, 1) := by decide +kernel
theorem dX12_passed_9 : decode cX12_passed 9 = .ok (.iload_n 2, 1) := by decide +kernel
theorem dX12_passed_10 : decode cX12_passed 10 = .ok (.invokevirtual 59, 3) := by decide +kernel
theorem dX12_passed_13 : decode cX12_passed 13 = .ok (.ifCond .eq 10, 3) := by decide +kernel
theorem dX12_passed_16 : decode cX12_passed 16 = .ok (.iload_n 3, 1) := by decide +kernel
theorem dX12_passed_17 : decode cX12_passed 17 = .ok (.invokestatic 181, 3) := by decide +kernel
theorem dX12_passed_20 : decode cX12_passed 20 = .ok (.ifCond .ne 5, 3) := by decide +kernel
theorem dX12_passed_23 : decode cX12_passed 23 = .ok (.iconst (-1), 1) := by decide +kernel
theorem dX12_passed_24 : decode cX12_passed 24 = .ok (.ireturn, 1) := by decide +kernel
theorem dX12_passed_25 : decode cX12_passed 25 = .ok (.aload_n 0, 1) := by decide +kernel
theorem dX12_passed_26 : decode cX12_passed 26 = .ok (.aload_n 0, 1) := by decide +kernel
theorem dX12_passed_27 : decode cX12_passed 27 = .ok (.getfield 9, 3) := by decide +kernel
theorem dX12_passed_30 : decode cX12_passed 30 = .ok (.iconst 4, 1) := by decide +kernel
theorem dX12_passed_31 : decode cX12_passed 31 = .ok (.iaload, 1) := by decide +kernel
theorem dX12_passed_32 : decode cX12_passed 32 = .ok (.putfield 145, 3) := by decide +kernel
theorem dX12_passed_35 : decode cX12_passed 35 = .ok (.aload_n 0, 1) := by decide +kernel
theorem dX12_passed_36 : decode cX12_passed 36 = .ok (.iload_n 1, 1) := by decide +kernel
theorem dX12_passed_37 : decode cX12_passed 37 = .ok (.iload_n 3, 1) := by decide +kernel
theorem dX12_passed_38 : decode cX12_passed 38 = .ok (.invokevirtual 172, 3) := by decide +kernel
theorem dX12_passed_41 : decode cX12_passed 41 = .ok (.ifCond .ne 6, 3) := by decide +kernel
theorem dX12_passed_44 : decode cX12_passed 44 = .ok (.bipush (-5), 2) := by decide +kernel
theorem dX12_passed_46 : decode cX12_passed 46 = .ok (.ireturn, 1) := by decide +kernel
theorem dX12_passed_47 : decode cX12_passed 47 = .ok (.iconst 0, 1) := by decide +kernel
theorem dX12_passed_48 : decode cX12_passed 48 = .ok (.istore 4, 2) := by decide +kernel
theorem dX12_passed_50 : decode cX12_passed 50 = .ok (.iload 4, 2) := by decide +kernel
theorem dX12_passed_52 : decode cX12_passed 52 = .ok (.aload_n 0, 1) := by decide +kernel
theorem dX12_passed_53 : decode cX12_passed 53 = .ok (.getfield 9, 3) := by decide +kernel
theorem dX12_passed_56 : decode cX12_passed 56 = .ok (.iconst 0, 1) := by decide +kernel
theorem dX12_passed_57 : decode cX12_passed 57 = .ok (.iaload, 1) := by decide +kernel
theorem dX12_passed_58 : decode cX12_passed 58 = .ok (.if_icmp .ge 125, 3) := by decide +kernel
theorem dX12_passed_61 : decode cX12_passed 61 = .ok (.iload 4, 2) := by decide +kernel
theorem dX12_passed_63 : decode cX12_passed 63 = .ok (.iload_n 1, 1) := by decide +kernel
theorem dX12_passed_64 : decode cX12_passed 64 = .ok (.if_icmp .eq 32, 3) := by decide +kernel
theorem dX12_passed_67 : decode cX12_passed 67 = .ok (.aload_n 0, 1) := by decide +kernel
theorem dX12_passed_68 : decode cX12_passed 68 = .ok (.getfield 9, 3) := by decide +kernel
theorem dX12_passed_71 : decode cX12_passed 71 = .ok (.sipush 130, 3) := by decide +kernel
theorem dX12_passed_74 : decode cX12_passed 74 = .ok (.iload 4, 2) := by decide +kernel
theorem dX12_passed_76 : decode cX12_passed 76 = .ok (.iadd, 1) := by decide +kernel
theorem dX12_passed_77 : decode cX12_passed 77 = .ok (.iaload, 1) := by decide +kernel
theorem dX12_passed_78 : decode cX12_passed 78 = .ok (.iconst 5, 1) := by decide +kernel
theorem dX12_passed_79 : decode cX12_passed 79 = .ok (.if_icmp .ne 17, 3) := by decide +kernel
theorem dX12_passed_82 : decode cX12_passed 82 = .ok (.aload_n 0, 1) := by decide +kernel
theorem dX12_passed_83 : decode cX12_passed 83 = .ok (.iload 4, 2) := by decide +kernel
theorem dX12_passed_85 : decode cX12_passed 85 = .ok (.iload_n 2, 1) := by decide +kernel
theorem dX12_passed_86 : decode cX12_passed 86 = .ok (.invokevirtual 160, 3) := by decide +kernel
theorem dX12_passed_89 : decode cX12_passed 89 = .ok (.ifCond .eq 7, 3) := by decide +kernel
theorem dX12_passed_92 : decode cX12_passed 92 = .ok (.iconst 1, 1) := by decide +kernel
theorem dX12_passed_93 : decode cX12_passed 93 = .ok (.goto 4, 3) := by decide +kernel
theorem dX12_passed_96 : decode cX12_passed 96 = .ok (.iconst 0, 1) := by decide +kernel
theorem dX12_passed_97 : decode cX12_passed 97 = .ok (.istore 5, 2) := by decide +kernel
theorem dX12_passed_99 : decode cX12_passed 99 = .ok (.iload 5, 2) := by decide +kernel
theorem dX12_passed_101 : decode cX12_passed 101 = .ok (.ifCond .eq 76, 3) := by decide +kernel
theorem dX12_passed_104 : decode cX12_passed 104 = .ok (.aload_n 0, 1) := by decide +kernel
theorem dX12_passed_105 : decode cX12_passed 105 = .ok (.aload_n 0, 1) := by decide +kernel
theorem dX12_passed_106 : decode cX12_passed 106 = .ok (.getfield 9, 3) := by decide +kernel
theorem dX12_passed_109 : decode cX12_passed 109 = .ok (.sipush 136, 3) := by decide +kernel
theorem dX12_passed_112 : decode cX12_passed 112 = .ok (.iload_n 1, 1) := by decide +kernel
theorem dX12_passed_113 : decode cX12_passed 113 = .ok (.iadd, 1) := by decide +kernel
theorem dX12_passed_114 : decode cX12_passed 114 = .ok (.iaload, 1) := by decide +kernel
theorem dX12_passed_115 : decode cX12_passed 115 = .ok (.aload_n 0, 1) := by decide +kernel
theorem dX12_passed_116 : decode cX12_passed 116 = .ok (.getfield 9, 3) := by decide +kernel
theorem dX12_passed_119 : decode cX12_passed 119 = .ok (.sipush 142, 3) := by decide +kernel
theorem dX12_passed_122 : decode cX12_passed 122 = .ok (.iload_n 1, 1) := by decide +kernel
theorem dX12_passed_123 : decode cX12_passed 123 = .ok (.iadd, 1) := by decide +kernel
theorem dX12_passed_124 : decode cX12_passed 124 = .ok (.iaload, 1) := by decide +kernel
theorem dX12_passed_125 : decode cX12_passed 125 = .ok (.aload_n 0, 1) := by decide +kernel
theorem dX12_passed_126 : decode cX12_passed 126 = .ok (.getfield 9, 3) := by decide +kernel
theorem dX12_passed_129 : decode cX12_passed 129 = .ok (.sipush 148, 3) := by decide +kernel
theorem dX12_passed_132 : decode cX12_passed 132 = .ok (.iload_n 1, 1) := by decide +kernel
theorem dX12_passed_133 : decode cX12_passed 133 = .ok (.iadd, 1) := by decide +kernel
theorem dX12_passed_134 : decode cX12_passed 134 = .ok (.iaload, 1) := by decide +kernel
theorem dX12_passed_135 : decode cX12_passed 135 = .ok (.aload_n 0, 1) := by decide +kernel
theorem dX12_passed_136 : decode cX12_passed 136 = .ok (.getfield 9, 3) := by decide +kernel
theorem dX12_passed_139 : decode cX12_passed 139 = .ok (.sipush 136, 3) := by decide +kernel
theorem dX12_passed_142 : decode cX12_passed 142 = .ok (.iload 4, 2) := by decide +kernel
theorem dX12_passed_144 : decode cX12_passed 144 = .ok (.iadd, 1) := by decide +kernel
theorem dX12_passed_145 : decode cX12_passed 145 = .ok (.iaload, 1) := by decide +kernel
theorem dX12_passed_146 : decode cX12_passed 146 = .ok (.aload_n 0, 1) := by decide +kernel
theorem dX12_passed_147 : decode cX12_passed 147 = .ok (.getfield 9, 3) := by decide +kernel
theorem dX12_passed_150 : decode cX12_passed 150 = .ok (.sipush 142, 3) := by decide +kernel
theorem dX12_passed_153 : decode cX12_passed 153 = .ok (.iload 4, 2) := by decide +kernel
theorem dX12_passed_155 : decode cX12_passed 155 = .ok (.iadd, 1) := by decide +kernel
theorem dX12_passed_156 : decode cX12_passed 156 = .ok (.iaload, 1) := by decide +kernel
theorem dX12_passed_157 : decode cX12_passed 157 = .ok (.aload_n 0, 1) := by decide +kernel
theorem dX12_passed_158 : decode cX12_passed 158 = .ok (.getfield 9, 3) := by decide +kernel
theorem dX12_passed_161 : decode cX12_passed 161 = .ok (.sipush 148, 3) := by decide +kernel
theorem dX12_passed_164 : decode cX12_passed 164 = .ok (.iload 4, 2) := by decide +kernel
theorem dX12_passed_166 : decode cX12_passed 166 = .ok (.iadd, 1) := by decide +kernel
theorem dX12_passed_167 : decode cX12_passed 167 = .ok (.iaload, 1) := by decide +kernel
theorem dX12_passed_168 : decode cX12_passed 168 = .ok (.invokevirtual 156, 3) := by decide +kernel
theorem dX12_passed_171 : decode cX12_passed 171 = .ok (.ifCond .eq 6, 3) := by decide +kernel
theorem dX12_passed_174 : decode cX12_passed 174 = .ok (.iload 4, 2) := by decide +kernel
theorem dX12_passed_176 : decode cX12_passed 176 = .ok (.ireturn, 1) := by decide +kernel
theorem dX12_passed_177 : decode cX12_passed 177 = .ok (.iinc 4 1, 3) := by decide +kernel
theorem dX12_passed_180 : decode cX12_passed 180 = .ok (.goto (-130), 3) := by decide +kernel
theorem dX12_passed_183 : decode cX12_passed 183 = .ok (.bipush (-5), 2) := by decide +kernel
theorem dX12_passed_185 : decode cX12_passed 185 = .ok (.ireturn, 1) := by decide +kernel
theorem dX12_vote_0 : decode cX12_vote 0 = .ok (.aload_n 0, 1) := by decide +kernel
theorem dX12_vote_1 : decode cX12_vote 1 = .ok (.getfield 9, 3) := by decide +kernel
theorem dX12_vote_4 : decode cX12_vote 4 = .ok (.iconst 1, 1) := by decide +kernel
theorem dX12_vote_5 : decode cX12_vote 5 = .ok (.iaload, 1) := by decide +kernel
theorem dX12_vote_6 : decode cX12_vote 6 = .ok (.istore_n 2, 1) := by decide +kernel
theorem dX12_vote_7 : decode cX12_vote 7 = .ok (.iload_n 2, 1) := by decide +kernel
theorem dX12_vote_8 : decode cX12_vote 8 = .ok (.ifCond .eq 23, 3) := by decide +kernel
theorem dX12_vote_11 : decode cX12_vote 11 = .ok (.aload_n 0, 1) := by decide +kernel
theorem dX12_vote_12 : decode cX12_vote 12 = .ok (.getfield 9, 3) := by decide +kernel
theorem dX12_vote_15 : decode cX12_vote 15 = .ok (.iconst 5, 1) := by decide +kernel
theorem dX12_vote_16 : decode cX12_vote 16 = .ok (.iaload, 1) := by decide +kernel
theorem dX12_vote_17 : decode cX12_vote 17 = .ok (.ifCond .le 17, 3) := by decide +kernel
theorem dX12_vote_20 : decode cX12_vote 20 = .ok (.aload_n 0, 1) := by decide +kernel
theorem dX12_vote_21 : decode cX12_vote 21 = .ok (.getfield 9, 3) := by decide +kernel
theorem dX12_vote_24 : decode cX12_vote 24 = .ok (.bipush 8, 2) := by decide +kernel
theorem dX12_vote_26 : decode cX12_vote 26 = .ok (.iaload, 1) := by decide +kernel
theorem dX12_vote_27 : decode cX12_vote 27 = .ok (.iload_n 2, 1) := by decide +kernel
theorem dX12_vote_28 : decode cX12_vote 28 = .ok (.if_icmp .eq 6, 3) := by decide +kernel
theorem dX12_vote_31 : decode cX12_vote 31 = .ok (.bipush (-3), 2) := by decide +kernel
theorem dX12_vote_33 : decode cX12_vote 33 = .ok (.ireturn, 1) := by decide +kernel
theorem dX12_vote_34 : decode cX12_vote 34 = .ok (.iload_n 1, 1) := by decide +kernel
theorem dX12_vote_35 : decode cX12_vote 35 = .ok (.ifCond .lt 15, 3) := by decide +kernel
theorem dX12_vote_38 : decode cX12_vote 38 = .ok (.iload_n 1, 1) := by decide +kernel
theorem dX12_vote_39 : decode cX12_vote 39 = .ok (.ldc2_w 221, 3) := by decide +kernel
theorem dX12_vote_42 : decode cX12_vote 42 = .ok (.iload_n 2, 1) := by decide +kernel
theorem dX12_vote_43 : decode cX12_vote 43 = .ok (.invokestatic 217, 3) := by decide +kernel
theorem dX12_vote_46 : decode cX12_vote 46 = .ok (.l2i, 1) := by decide +kernel
theorem dX12_vote_47 : decode cX12_vote 47 = .ok (.if_icmp .lt 6, 3) := by decide +kernel
theorem dX12_vote_50 : decode cX12_vote 50 = .ok (.bipush (-2), 2) := by decide +kernel
theorem dX12_vote_52 : decode cX12_vote 52 = .ok (.ireturn, 1) := by decide +kernel
theorem dX12_vote_53 : decode cX12_vote 53 = .ok (.iconst 0, 1) := by decide +kernel
theorem dX12_vote_54 : decode cX12_vote 54 = .ok (.istore_n 3, 1) := by decide +kernel
theorem dX12_vote_55 : decode cX12_vote 55 = .ok (.iload_n 1, 1) := by decide +kernel
theorem dX12_vote_56 : decode cX12_vote 56 = .ok (.istore 4, 2) := by decide +kernel
theorem dX12_vote_58 : decode cX12_vote 58 = .ok (.iconst 0, 1) := by decide +kernel
theorem dX12_vote_59 : decode cX12_vote 59 = .ok (.istore 5, 2) := by decide +kernel
theorem dX12_vote_61 : decode cX12_vote 61 = .ok (.iload 5, 2) := by decide +kernel
theorem dX12_vote_63 : decode cX12_vote 63 = .ok (.iload_n 2, 1) := by decide +kernel
theorem dX12_vote_64 : decode cX12_vote 64 = .ok (.if_icmp .ge 26, 3) := by decide +kernel
theorem dX12_vote_67 : decode cX12_vote 67 = .ok (.iload_n 3, 1) := by decide +kernel
theorem dX12_vote_68 : decode cX12_vote 68 = .ok (.iconst 1, 1) := by decide +kernel
theorem dX12_vote_69 : decode cX12_vote 69 = .ok (.iload 4, 2) := by decide +kernel
theorem dX12_vote_71 : decode cX12_vote 71 = .ok (.bipush 10, 2) := by decide +kernel
theorem dX12_vote_73 : decode cX12_vote 73 = .ok (.irem, 1) := by decide +kernel
theorem dX12_vote_74 : decode cX12_vote 74 = .ok (.ishl, 1) := by decide +kernel
theorem dX12_vote_75 : decode cX12_vote 75 = .ok (.ior, 1) := by decide +kernel
theorem dX12_vote_76 : decode cX12_vote 76 = .ok (.istore_n 3, 1) := by decide +kernel
theorem dX12_vote_77 : decode cX12_vote 77 = .ok (.iload 4, 2) := by decide +kernel
theorem dX12_vote_79 : decode cX12_vote 79 = .ok (.bipush 10, 2) := by decide +kernel
theorem dX12_vote_81 : decode cX12_vote 81 = .ok (.idiv, 1) := by decide +kernel
theorem dX12_vote_82 : decode cX12_vote 82 = .ok (.istore 4, 2) := by decide +kernel
theorem dX12_vote_84 : decode cX12_vote 84 = .ok (.iinc 5 1, 3) := by decide +kernel
theorem dX12_vote_87 : decode cX12_vote 87 = .ok (.goto (-26), 3) := by decide +kernel
theorem dX12_vote_90 : decode cX12_vote 90 = .ok (.iload_n 3, 1) := by decide +kernel
theorem dX12_vote_91 : decode cX12_vote 91 = .ok (.iconst 1, 1) := by decide +kernel
theorem dX12_vote_92 : decode cX12_vote 92 = .ok (.iload_n 2, 1) := by decide +kernel
theorem dX12_vote_93 : decode cX12_vote 93 = .ok (.ishl, 1) := by decide +kernel
theorem dX12_vote_94 : decode cX12_vote 94 = .ok (.iconst 1, 1) := by decide +kernel
theorem dX12_vote_95 : decode cX12_vote 95 = .ok (.isub, 1) := by decide +kernel
theorem dX12_vote_96 : decode cX12_vote 96 = .ok (.if_icmp .eq 6, 3) := by decide +kernel
theorem dX12_vote_99 : decode cX12_vote 99 = .ok (.bipush (-2), 2) := by decide +kernel
theorem dX12_vote_101 : decode cX12_vote 101 = .ok (.ireturn, 1) := by decide +kernel
theorem dX12_vote_102 : decode cX12_vote 102 = .ok (.aload_n 0, 1) := by decide +kernel
theorem dX12_vote_103 : decode cX12_vote 103 = .ok (.getfield 9, 3) := by decide +kernel
theorem dX12_vote_106 : decode cX12_vote 106 = .ok (.iconst 5, 1) := by decide +kernel
theorem dX12_vote_107 : decode cX12_vote 107 = .ok (.iaload, 1) := by decide +kernel
theorem dX12_vote_108 : decode cX12_vote 108 = .ok (.iconst 5, 1) := by decide +kernel
theorem dX12_vote_109 : decode cX12_vote 109 = .ok (.if_icmp .ne 6, 3) := by decide +kernel
theorem dX12_vote_112 : decode cX12_vote 112 = .ok (.bipush (-4), 2) := by decide +kernel
theorem dX12_vote_114 : decode cX12_vote 114 = .ok (.ireturn, 1) := by decide +kernel
theorem dX12_vote_115 : decode cX12_vote 115 = .ok (.iload_n 1, 1) := by decide +kernel
theorem dX12_vote_116 : decode cX12_vote 116 = .ok (.istore 4, 2) := by decide +kernel
theorem dX12_vote_118 : decode cX12_vote 118 = .ok (.iload_n 2, 1) := by decide +kernel
theorem dX12_vote_119 : decode cX12_vote 119 = .ok (.iconst 1, 1) := by decide +kernel
theorem dX12_vote_120 : decode cX12_vote 120 = .ok (.isub, 1) := by decide +kernel
theorem dX12_vote_121 : decode cX12_vote 121 = .ok (.istore 5, 2) := by decide +kernel
theorem dX12_vote_123 : decode cX12_vote 123 = .ok (.iload 5, 2) := by decide +kernel
theorem dX12_vote_125 : decode cX12_vote 125 = .ok (.ifCond .lt 42, 3) := by decide +kernel
theorem dX12_vote_128 : decode cX12_vote 128 = .ok (.aload_n 0, 1) := by decide +kernel
theorem dX12_vote_129 : decode cX12_vote 129 = .ok (.getfield 9, 3) := by decide +kernel
theorem dX12_vote_132 : decode cX12_vote 132 = .ok (.sipush 999, 3) := by decide +kernel
theorem dX12_vote_135 : decode cX12_vote 135 = .ok (.bipush 6, 2) := by decide +kernel
theorem dX12_vote_137 : decode cX12_vote 137 = .ok (.aload_n 0, 1) := by decide +kernel
theorem dX12_vote_138 : decode cX12_vote 138 = .ok (.getfield 9, 3) := by decide +kernel
theorem dX12_vote_141 : decode cX12_vote 141 = .ok (.iconst 5, 1) := by decide +kernel
theorem dX12_vote_142 : decode cX12_vote 142 = .ok (.iaload, 1) := by decide +kernel
theorem dX12_vote_143 : decode cX12_vote 143 = .ok (.imul, 1) := by decide +kernel
theorem dX12_vote_144 : decode cX12_vote 144 = .ok (.iadd, 1) := by decide +kernel
theorem dX12_vote_145 : decode cX12_vote 145 = .ok (.iload 4, 2) := by decide +kernel
theorem dX12_vote_147 : decode cX12_vote 147 = .ok (.bipush 10, 2) := by decide +kernel
theorem dX12_vote_149 : decode cX12_vote 149 = .ok (.irem, 1) := by decide +kernel
theorem dX12_vote_150 : decode cX12_vote 150 = .ok (.iadd, 1) := by decide +kernel
theorem dX12_vote_151 : decode cX12_vote 151 = .ok (.iload 5, 2) := by decide +kernel
theorem dX12_vote_153 : decode cX12_vote 153 = .ok (.iastore, 1) := by decide +kernel
theorem dX12_vote_154 : decode cX12_vote 154 = .ok (.iload 4, 2) := by decide +kernel
theorem dX12_vote_156 : decode cX12_vote 156 = .ok (.bipush 10, 2) := by decide +kernel
theorem dX12_vote_158 : decode cX12_vote 158 = .ok (.idiv, 1) := by decide +kernel
theorem dX12_vote_159 : decode cX12_vote 159 = .ok (.istore 4, 2) := by decide +kernel
theorem dX12_vote_161 : decode cX12_vote 161 = .ok (.iinc 5 (-1), 3) := by decide +kernel
theorem dX12_vote_164 : decode cX12_vote 164 = .ok (.goto (-41), 3) := by decide +kernel
theorem dX12_vote_167 : decode cX12_vote 167 = .ok (.aload_n 0, 1) := by decide +kernel
theorem dX12_vote_168 : decode cX12_vote 168 = .ok (.getfield 9, 3) := by decide +kernel
theorem dX12_vote_171 : decode cX12_vote 171 = .ok (.bipush 8, 2) := by decide +kernel
theorem dX12_vote_173 : decode cX12_vote 173 = .ok (.iload_n 2, 1) := by decide +kernel
theorem dX12_vote_174 : decode cX12_vote 174 = .ok (.iastore, 1) := by decide +kernel
theorem dX12_vote_175 : decode cX12_vote 175 = .ok (.aload_n 0, 1) := by decide +kernel
theorem dX12_vote_176 : decode cX12_vote 176 = .ok (.getfield 9, 3) := by decide +kernel
theorem dX12_vote_179 : decode cX12_vote 179 = .ok (.iconst 5, 1) := by decide +kernel
theorem dX12_vote_180 : decode cX12_vote 180 = .ok (.dup2, 1) := by decide +kernel
theorem dX12_vote_181 : decode cX12_vote 181 = .ok (.iaload, 1) := by decide +kernel
theorem dX12_vote_182 : decode cX12_vote 182 = .ok (.iconst 1, 1) := by decide +kernel
theorem dX12_vote_183 : decode cX12_vote 183 = .ok (.iadd, 1) := by decide +kernel
theorem dX12_vote_184 : decode cX12_vote 184 = .ok (.iastore, 1) := by decide +kernel
theorem dX12_vote_185 : decode cX12_vote 185 = .ok (.aload_n 0, 1) := by decide +kernel
theorem dX12_vote_186 : decode cX12_vote 186 = .ok (.getfield 9, 3) := by decide +kernel
theorem dX12_vote_189 : decode cX12_vote 189 = .ok (.iconst 5, 1) := by decide +kernel
theorem dX12_vote_190 : decode cX12_vote 190 = .ok (.iaload, 1) := by decide +kernel
theorem dX12_vote_191 : decode cX12_vote 191 = .ok (.ireturn, 1) := by decide +kernel
theorem dX12_clear_0 : decode cX12_clear 0 = .ok (.aload_n 0, 1) := by decide +kernel
theorem dX12_clear_1 : decode cX12_clear 1 = .ok (.getfield 9, 3) := by decide +kernel
theorem dX12_clear_4 : decode cX12_clear 4 = .ok (.iconst 5, 1) := by decide +kernel
theorem dX12_clear_5 : decode cX12_clear 5 = .ok (.iaload, 1) := by decide +kernel
theorem dX12_clear_6 : decode cX12_clear 6 = .ok (.istore_n 1, 1) := by decide +kernel
theorem dX12_clear_7 : decode cX12_clear 7 = .ok (.aload_n 0, 1) := by decide +kernel
theorem dX12_clear_8 : decode cX12_clear 8 = .ok (.getfield 9, 3) := by decide +kernel
theorem dX12_clear_11 : decode cX12_clear 11 = .ok (.iconst 5, 1) := by decide +kernel
theorem dX12_clear_12 : decode cX12_clear 12 = .ok (.iconst 0, 1) := by decide +kernel
theorem dX12_clear_13 : decode cX12_clear 13 = .ok (.iastore, 1) := by decide +kernel
theorem dX12_clear_14 : decode cX12_clear 14 = .ok (.iload_n 1, 1) := by decide +kernel
theorem dX12_clear_15 : decode cX12_clear 15 = .ok (.ireturn, 1) := by decide +kernel
theorem dX12_doesBeat_0 : decode cX12_doesBeat 0 = .ok (.iconst 0, 1) := by decide +kernel
theorem dX12_doesBeat_1 : decode cX12_doesBeat 1 = .ok (.istore_n 3, 1) := by decide +kernel
theorem dX12_doesBeat_2 : decode cX12_doesBeat 2 = .ok (.iconst 0, 1) := by decide +kernel
theorem dX12_doesBeat_3 : decode cX12_doesBeat 3 = .ok (.istore 4, 2) := by decide +kernel
theorem dX12_doesBeat_5 : decode cX12_doesBeat 5 = .ok (.iload 4, 2) := by decide +kernel
theorem dX12_doesBeat_7 : decode cX12_doesBeat 7 = .ok (.aload_n 0, 1) := by decide +kernel
theorem dX12_doesBeat_8 : decode cX12_doesBeat 8 = .ok (.getfield 9, 3) := by decide +kernel
theorem dX12_doesBeat_11 : decode cX12_doesBeat 11 = .ok (.iconst 5, 1) := by decide +kernel
theorem dX12_doesBeat_12 : decode cX12_doesBeat 12 = .ok (.iaload, 1) := by decide +kernel
theorem dX12_doesBeat_13 : decode cX12_doesBeat 13 = .ok (.if_icmp .ge 52, 3) := by decide +kernel
theorem dX12_doesBeat_16 : decode cX12_doesBeat 16 = .ok (.iload_n 3, 1) := by decide +kernel
theorem dX12_doesBeat_17 : decode cX12_doesBeat 17 = .ok (.aload_n 0, 1) := by decide +kernel
theorem dX12_doesBeat_18 : decode cX12_doesBeat 18 = .ok (.getfield 9, 3) := by decide +kernel
theorem dX12_doesBeat_21 : decode cX12_doesBeat 21 = .ok (.sipush 999, 3) := by decide +kernel
theorem dX12_doesBeat_24 : decode cX12_doesBeat 24 = .ok (.bipush 6, 2) := by decide +kernel
theorem dX12_doesBeat_26 : decode cX12_doesBeat 26 = .ok (.iload 4, 2) := by decide +kernel
theorem dX12_doesBeat_28 : decode cX12_doesBeat 28 = .ok (.imul, 1) := by decide +kernel
theorem dX12_doesBeat_29 : decode cX12_doesBeat 29 = .ok (.iadd, 1) := by decide +kernel
theorem dX12_doesBeat_30 : decode cX12_doesBeat 30 = .ok (.iload_n 1, 1) := by decide +kernel
theorem dX12_doesBeat_31 : decode cX12_doesBeat 31 = .ok (.iadd, 1) := by decide +kernel
theorem dX12_doesBeat_32 : decode cX12_doesBeat 32 = .ok (.iaload, 1) := by decide +kernel
theorem dX12_doesBeat_33 : decode cX12_doesBeat 33 = .ok (.aload_n 0, 1) := by decide +kernel
theorem dX12_doesBeat_34 : decode cX12_doesBeat 34 = .ok (.getfield 9, 3) := by decide +kernel
theorem dX12_doesBeat_37 : decode cX12_doesBeat 37 = .ok (.sipush 999, 3) := by decide +kernel
theorem dX12_doesBeat_40 : decode cX12_doesBeat 40 = .ok (.bipush 6, 2) := by decide +kernel
theorem dX12_doesBeat_42 : decode cX12_doesBeat 42 = .ok (.iload 4, 2) := by decide +kernel
theorem dX12_doesBeat_44 : decode cX12_doesBeat 44 = .ok (.imul, 1) := by decide +kernel
theorem dX12_doesBeat_45 : decode cX12_doesBeat 45 = .ok (.iadd, 1) := by decide +kernel
theorem dX12_doesBeat_46 : decode cX12_doesBeat 46 = .ok (.iload_n 2, 1) := by decide +kernel
theorem dX12_doesBeat_47 : decode cX12_doesBeat 47 = .ok (.iadd, 1) := by decide +kernel
theorem dX12_doesBeat_48 : decode cX12_doesBeat 48 = .ok (.iaload, 1) := by decide +kernel
theorem dX12_doesBeat_49 : decode cX12_doesBeat 49 = .ok (.if_icmp .ge 7, 3) := by decide +kernel
theorem dX12_doesBeat_52 : decode cX12_doesBeat 52 = .ok (.iconst 1, 1) := by decide +kernel
theorem dX12_doesBeat_53 : decode cX12_doesBeat 53 = .ok (.goto 4, 3) := by decide +kernel
theorem dX12_doesBeat_56 : decode cX12_doesBeat 56 = .ok (.iconst 0, 1) := by decide +kernel
theorem dX12_doesBeat_57 : decode cX12_doesBeat 57 = .ok (.iadd, 1) := by decide +kernel
theorem dX12_doesBeat_58 : decode cX12_doesBeat 58 = .ok (.istore_n 3, 1) := by decide +kernel
theorem dX12_doesBeat_59 : decode cX12_doesBeat 59 = .ok (.iinc 4 1, 3) := by decide +kernel
theorem dX12_doesBeat_62 : decode cX12_doesBeat 62 = .ok (.goto (-57), 3) := by decide +kernel
theorem dX12_doesBeat_65 : decode cX12_doesBeat 65 = .ok (.iload_n 1, 1) := by decide +kernel
theorem dX12_doesBeat_66 : decode cX12_doesBeat 66 = .ok (.iload_n 2, 1) := by decide +kernel
theorem dX12_doesBeat_67 : decode cX12_doesBeat 67 = .ok (.if_icmp .eq 19, 3) := by decide +kernel
theorem dX12_doesBeat_70 : decode cX12_doesBeat 70 = .ok (.iconst 2, 1) := by decide +kernel
theorem dX12_doesBeat_71 : decode cX12_doesBeat 71 = .ok (.iload_n 3, 1) := by decide +kernel
theorem dX12_doesBeat_72 : decode cX12_doesBeat 72 = .ok (.imul, 1) := by decide +kernel
theorem dX12_doesBeat_73 : decode cX12_doesBeat 73 = .ok (.aload_n 0, 1) := by decide +kernel
theorem dX12_doesBeat_74 : decode cX12_doesBeat 74 = .ok (.getfield 9, 3) := by decide +kernel
theorem dX12_doesBeat_77 : decode cX12_doesBeat 77 = .ok (.iconst 5, 1) := by decide +kernel
theorem dX12_doesBeat_78 : decode cX12_doesBeat 78 = .ok (.iaload, 1) := by decide +kernel
theorem dX12_doesBeat_79 : decode cX12_doesBeat 79 = .ok (.if_icmp .le 7, 3) := by decide +kernel
theorem dX12_doesBeat_82 : decode cX12_doesBeat 82 = .ok (.iconst 1, 1) := by decide +kernel
theorem dX12_doesBeat_83 : decode cX12_doesBeat 83 = .ok (.goto 4, 3) := by decide +kernel
theorem dX12_doesBeat_86 : decode cX12_doesBeat 86 = .ok (.iconst 0, 1) := by decide +kernel
theorem dX12_doesBeat_87 : decode cX12_doesBeat 87 = .ok (.ireturn, 1) := by decide +kernel
theorem dX12_beaten_0 : decode cX12_beaten 0 = .ok (.iconst 0, 1) := by decide +kernel
theorem dX12_beaten_1 : decode cX12_beaten 1 = .ok (.istore_n 2, 1) := by decide +kernel
theorem dX12_beaten_2 : decode cX12_beaten 2 = .ok (.iconst 0, 1) := by decide +kernel
theorem dX12_beaten_3 : decode cX12_beaten 3 = .ok (.istore_n 3, 1) := by decide +kernel
theorem dX12_beaten_4 : decode cX12_beaten 4 = .ok (.iload_n 3, 1) := by decide +kernel
theorem dX12_beaten_5 : decode cX12_beaten 5 = .ok (.aload_n 0, 1) := by decide +kernel
theorem dX12_beaten_6 : decode cX12_beaten 6 = .ok (.getfield 9, 3) := by decide +kernel
theorem dX12_beaten_9 : decode cX12_beaten 9 = .ok (.iconst 1, 1) := by decide +kernel
theorem dX12_beaten_10 : decode cX12_beaten 10 = .ok (.iaload, 1) := by decide +kernel
theorem dX12_beaten_11 : decode cX12_beaten 11 = .ok (.if_icmp .ge 26, 3) := by decide +kernel
theorem dX12_beaten_14 : decode cX12_beaten 14 = .ok (.iload_n 2, 1) := by decide +kernel
theorem dX12_beaten_15 : decode cX12_beaten 15 = .ok (.aload_n 0, 1) := by decide +kernel
theorem dX12_beaten_16 : decode cX12_beaten 16 = .ok (.iload_n 1, 1) := by decide +kernel
theorem dX12_beaten_17 : decode cX12_beaten 17 = .ok (.iload_n 3, 1) := by decide +kernel
theorem dX12_beaten_18 : decode cX12_beaten 18 = .ok (.invokevirtual 230, 3) := by decide +kernel
theorem dX12_beaten_21 : decode cX12_beaten 21 = .ok (.ifCond .eq 7, 3) := by decide +kernel
theorem dX12_beaten_24 : decode cX12_beaten 24 = .ok (.iconst 1, 1) := by decide +kernel
theorem dX12_beaten_25 : decode cX12_beaten 25 = .ok (.goto 4, 3) := by decide +kernel
theorem dX12_beaten_28 : decode cX12_beaten 28 = .ok (.iconst 0, 1) := by decide +kernel
theorem dX12_beaten_29 : decode cX12_beaten 29 = .ok (.iadd, 1) := by decide +kernel
theorem dX12_beaten_30 : decode cX12_beaten 30 = .ok (.istore_n 2, 1) := by decide +kernel
theorem dX12_beaten_31 : decode cX12_beaten 31 = .ok (.iinc 3 1, 3) := by decide +kernel
theorem dX12_beaten_34 : decode cX12_beaten 34 = .ok (.goto (-30), 3) := by decide +kernel
theorem dX12_beaten_37 : decode cX12_beaten 37 = .ok (.iload_n 2, 1) := by decide +kernel
theorem dX12_beaten_38 : decode cX12_beaten 38 = .ok (.ireturn, 1) := by decide +kernel
theorem dX12_ring_0 : decode cX12_ring 0 = .ok (.iconst 0, 1) := by decide +kernel
theorem dX12_ring_1 : decode cX12_ring 1 = .ok (.istore_n 1, 1) := by decide +kernel
theorem dX12_ring_2 : decode cX12_ring 2 = .ok (.iload_n 1, 1) := by decide +kernel
theorem dX12_ring_3 : decode cX12_ring 3 = .ok (.aload_n 0, 1) := by decide +kernel
theorem dX12_ring_4 : decode cX12_ring 4 = .ok (.getfield 9, 3) := by decide +kernel
theorem dX12_ring_7 : decode cX12_ring 7 = .ok (.iconst 1, 1) := by decide +kernel
theorem dX12_ring_8 : decode cX12_ring 8 = .ok (.iaload, 1) := by decide +kernel
theorem dX12_ring_9 : decode cX12_ring 9 = .ok (.if_icmp .ge 88, 3) := by decide +kernel
theorem dX12_ring_12 : decode cX12_ring 12 = .ok (.iload_n 1, 1) := by decide +kernel
theorem dX12_ring_13 : decode cX12_ring 13 = .ok (.iconst 1, 1) := by decide +kernel
theorem dX12_ring_14 : decode cX12_ring 14 = .ok (.iadd, 1) := by decide +kernel
theorem dX12_ring_15 : decode cX12_ring 15 = .ok (.istore_n 2, 1) := by decide +kernel
theorem dX12_ring_16 : decode cX12_ring 16 = .ok (.iload_n 2, 1) := by decide +kernel
theorem dX12_ring_17 : decode cX12_ring 17 = .ok (.aload_n 0, 1) := by decide +kernel
theorem dX12_ring_18 : decode cX12_ring 18 = .ok (.getfield 9, 3) := by decide +kernel
theorem dX12_ring_21 : decode cX12_ring 21 = .ok (.iconst 1, 1) := by decide +kernel
theorem dX12_ring_22 : decode cX12_ring 22 = .ok (.iaload, 1) := by decide +kernel
theorem dX12_ring_23 : decode cX12_ring 23 = .ok (.if_icmp .ge 68, 3) := by decide +kernel
theorem dX12_ring_26 : decode cX12_ring 26 = .ok (.iload_n 1, 1) := by decide +kernel
theorem dX12_ring_27 : decode cX12_ring 27 = .ok (.iconst 1, 1) := by decide +kernel
theorem dX12_ring_28 : decode cX12_ring 28 = .ok (.iadd, 1) := by decide +kernel
theorem dX12_ring_29 : decode cX12_ring 29 = .ok (.istore_n 3, 1) := by decide +kernel
theorem dX12_ring_30 : decode cX12_ring 30 = .ok (.iload_n 3, 1) := by decide +kernel
theorem dX12_ring_31 : decode cX12_ring 31 = .ok (.aload_n 0, 1) := by decide +kernel
theorem dX12_ring_32 : decode cX12_ring 32 = .ok (.getfield 9, 3) := by decide +kernel
theorem dX12_ring_35 : decode cX12_ring 35 = .ok (.iconst 1, 1) := by decide +kernel
theorem dX12_ring_36 : decode cX12_ring 36 = .ok (.iaload, 1) := by decide +kernel
theorem dX12_ring_37 : decode cX12_ring 37 = .ok (.if_icmp .ge 48, 3) := by decide +kernel
theorem dX12_ring_40 : decode cX12_ring 40 = .ok (.aload_n 0, 1) := by decide +kernel
theorem dX12_ring_41 : decode cX12_ring 41 = .ok (.iload_n 1, 1) := by decide +kernel
theorem dX12_ring_42 : decode cX12_ring 42 = .ok (.iload_n 2, 1) := by decide +kernel
theorem dX12_ring_43 : decode cX12_ring 43 = .ok (.invokevirtual 230, 3) := by decide +kernel
theorem dX12_ring_46 : decode cX12_ring 46 = .ok (.ifCond .eq 33, 3) := by decide +kernel
theorem dX12_ring_49 : decode cX12_ring 49 = .ok (.aload_n 0, 1) := by decide +kernel
theorem dX12_ring_50 : decode cX12_ring 50 = .ok (.iload_n 2, 1) := by decide +kernel
theorem dX12_ring_51 : decode cX12_ring 51 = .ok (.iload_n 3, 1) := by decide +kernel
theorem dX12_ring_52 : decode cX12_ring 52 = .ok (.invokevirtual 230, 3) := by decide +kernel
theorem dX12_ring_55 : decode cX12_ring 55 = .ok (.ifCond .eq 24, 3) := by decide +kernel
theorem dX12_ring_58 : decode cX12_ring 58 = .ok (.aload_n 0, 1) := by decide +kernel
theorem dX12_ring_59 : decode cX12_ring 59 = .ok (.iload_n 3, 1) := by decide +kernel
theorem dX12_ring_60 : decode cX12_ring 60 = .ok (.iload_n 1, 1) := by decide +kernel
theorem dX12_ring_61 : decode cX12_ring 61 = .ok (.invokevirtual 230, 3) := by decide +kernel
theorem dX12_ring_64 : decode cX12_ring 64 = .ok (.ifCond .eq 15, 3) := by decide +kernel
theorem dX12_ring_67 : decode cX12_ring 67 = .ok (.bipush 100, 2) := by decide +kernel
theorem dX12_ring_69 : decode cX12_ring 69 = .ok (.iload_n 1, 1) := by decide +kernel
theorem dX12_ring_70 : decode cX12_ring 70 = .ok (.imul, 1) := by decide +kernel
theorem dX12_ring_71 : decode cX12_ring 71 = .ok (.bipush 10, 2) := by decide +kernel
theorem dX12_ring_73 : decode cX12_ring 73 = .ok (.iload_n 2, 1) := by decide +kernel
theorem dX12_ring_74 : decode cX12_ring 74 = .ok (.imul, 1) := by decide +kernel
theorem dX12_ring_75 : decode cX12_ring 75 = .ok (.iadd, 1) := by decide +kernel
theorem dX12_ring_76 : decode cX12_ring 76 = .ok (.iload_n 3, 1) := by decide +kernel
theorem dX12_ring_77 : decode cX12_ring 77 = .ok (.iadd, 1) := by decide +kernel
theorem dX12_ring_78 : decode cX12_ring 78 = .ok (.ireturn, 1) := by decide +kernel
theorem dX12_ring_79 : decode cX12_ring 79 = .ok (.iinc 3 1, 3) := by decide +kernel
theorem dX12_ring_82 : decode cX12_ring 82 = .ok (.goto (-52), 3) := by decide +kernel
theorem dX12_ring_85 : decode cX12_ring 85 = .ok (.iinc 2 1, 3) := by decide +kernel
theorem dX12_ring_88 : decode cX12_ring 88 = .ok (.goto (-72), 3) := by decide +kernel
theorem dX12_ring_91 : decode cX12_ring 91 = .ok (.iinc 1 1, 3) := by decide +kernel
theorem dX12_ring_94 : decode cX12_ring 94 = .ok (.goto (-92), 3) := by decide +kernel
theorem dX12_ring_97 : decode cX12_ring 97 = .ok (.bipush (-5), 2) := by decide +kernel
theorem dX12_ring_99 : decode cX12_ring 99 = .ok (.ireturn, 1) := by decide +kernel
theorem dX12_placeOf_0 : decode cX12_placeOf 0 = .ok (.iconst 0, 1) := by decide +kernel
theorem dX12_placeOf_1 : decode cX12_placeOf 1 = .ok (.istore_n 2, 1) := by decide +kernel
theorem dX12_placeOf_2 : decode cX12_placeOf 2 = .ok (.iconst 0, 1) := by decide +kernel
theorem dX12_placeOf_3 : decode cX12_placeOf 3 = .ok (.istore_n 3, 1) := by decide +kernel
theorem dX12_placeOf_4 : decode cX12_placeOf 4 = .ok (.iload_n 3, 1) := by decide +kernel
theorem dX12_placeOf_5 : decode cX12_placeOf 5 = .ok (.aload_n 0, 1) := by decide +kernel
theorem dX12_placeOf_6 : decode cX12_placeOf 6 = .ok (.getfield 9, 3) := by decide +kernel
theorem dX12_placeOf_9 : decode cX12_placeOf 9 = .ok (.iconst 1, 1) := by decide +kernel
theorem dX12_placeOf_10 : decode cX12_placeOf 10 = .ok (.iaload, 1) := by decide +kernel
theorem dX12_placeOf_11 : decode cX12_placeOf 11 = .ok (.if_icmp .ge 48, 3) := by decide +kernel
theorem dX12_placeOf_14 : decode cX12_placeOf 14 = .ok (.iload_n 2, 1) := by decide +kernel
theorem dX12_placeOf_15 : decode cX12_placeOf 15 = .ok (.aload_n 0, 1) := by decide +kernel
theorem dX12_placeOf_16 : decode cX12_placeOf 16 = .ok (.iload_n 3, 1) := by decide +kernel
theorem dX12_placeOf_17 : decode cX12_placeOf 17 = .ok (.invokevirtual 233, 3) := by decide +kernel
theorem dX12_placeOf_20 : decode cX12_placeOf 20 = .ok (.aload_n 0, 1) := by decide +kernel
theorem dX12_placeOf_21 : decode cX12_placeOf 21 = .ok (.iload_n 1, 1) := by decide +kernel
theorem dX12_placeOf_22 : decode cX12_placeOf 22 = .ok (.invokevirtual 233, 3) := by decide +kernel
theorem dX12_placeOf_25 : decode cX12_placeOf 25 = .ok (.if_icmp .gt 21, 3) := by decide +kernel
theorem dX12_placeOf_28 : decode cX12_placeOf 28 = .ok (.aload_n 0, 1) := by decide +kernel
theorem dX12_placeOf_29 : decode cX12_placeOf 29 = .ok (.iload_n 3, 1) := by decide +kernel
theorem dX12_placeOf_30 : decode cX12_placeOf 30 = .ok (.invokevirtual 233, 3) := by decide +kernel
theorem dX12_placeOf_33 : decode cX12_placeOf 33 = .ok (.aload_n 0, 1) := by decide +kernel
theorem dX12_placeOf_34 : decode cX12_placeOf 34 = .ok (.iload_n 1, 1) := by decide +kernel
theorem dX12_placeOf_35 : decode cX12_placeOf 35 = .ok (.invokevirtual 233, 3) := by decide +kernel
theorem dX12_placeOf_38 : decode cX12_placeOf 38 = .ok (.if_icmp .ne 12, 3) := by decide +kernel
theorem dX12_placeOf_41 : decode cX12_placeOf 41 = .ok (.iload_n 3, 1) := by decide +kernel
theorem dX12_placeOf_42 : decode cX12_placeOf 42 = .ok (.iload_n 1, 1) := by decide +kernel
theorem dX12_placeOf_43 : decode cX12_placeOf 43 = .ok (.if_icmp .ge 7, 3) := by decide +kernel
theorem dX12_placeOf_46 : decode cX12_placeOf 46 = .ok (.iconst 1, 1) := by decide +kernel
theorem dX12_placeOf_47 : decode cX12_placeOf 47 = .ok (.goto 4, 3) := by decide +kernel
theorem dX12_placeOf_50 : decode cX12_placeOf 50 = .ok (.iconst 0, 1) := by decide +kernel
theorem dX12_placeOf_51 : decode cX12_placeOf 51 = .ok (.iadd, 1) := by decide +kernel
theorem dX12_placeOf_52 : decode cX12_placeOf 52 = .ok (.istore_n 2, 1) := by decide +kernel
theorem dX12_placeOf_53 : decode cX12_placeOf 53 = .ok (.iinc 3 1, 3) := by decide +kernel
theorem dX12_placeOf_56 : decode cX12_placeOf 56 = .ok (.goto (-52), 3) := by decide +kernel
theorem dX12_placeOf_59 : decode cX12_placeOf 59 = .ok (.iload_n 2, 1) := by decide +kernel
theorem dX12_placeOf_60 : decode cX12_placeOf 60 = .ok (.ireturn, 1) := by decide +kernel
theorem dX12_inOrder_0 : decode cX12_inOrder 0 = .ok (.iconst 0, 1) := by decide +kernel
theorem dX12_inOrder_1 : decode cX12_inOrder 1 = .ok (.istore_n 2, 1) := by decide +kernel
theorem dX12_inOrder_2 : decode cX12_inOrder 2 = .ok (.aload_n 0, 1) := by decide +kernel
theorem dX12_inOrder_3 : decode cX12_inOrder 3 = .ok (.iload_n 2, 1) := by decide +kernel
theorem dX12_inOrder_4 : decode cX12_inOrder 4 = .ok (.invokevirtual 236, 3) := by decide +kernel
theorem dX12_inOrder_7 : decode cX12_inOrder 7 = .ok (.iload_n 1, 1) := by decide +kernel
theorem dX12_inOrder_8 : decode cX12_inOrder 8 = .ok (.if_icmp .eq 9, 3) := by decide +kernel
theorem dX12_inOrder_11 : decode cX12_inOrder 11 = .ok (.iinc 2 1, 3) := by decide +kernel
theorem dX12_inOrder_14 : decode cX12_inOrder 14 = .ok (.goto (-12), 3) := by decide +kernel
theorem dX12_inOrder_17 : decode cX12_inOrder 17 = .ok (.iload_n 2, 1) := by decide +kernel
theorem dX12_inOrder_18 : decode cX12_inOrder 18 = .ok (.ireturn, 1) := by decide +kernel
theorem dX12_holds_0 : decode cX12_holds 0 = .ok (.aload_n 0, 1) := by decide +kernel
theorem dX12_holds_1 : decode cX12_holds 1 = .ok (.getfield 9, 3) := by decide +kernel
theorem dX12_holds_4 : decode cX12_holds 4 = .ok (.iconst 1, 1) := by decide +kernel
theorem dX12_holds_5 : decode cX12_holds 5 = .ok (.iaload, 1) := by decide +kernel
theorem dX12_holds_6 : decode cX12_holds 6 = .ok (.istore_n 2, 1) := by decide +kernel
theorem dX12_holds_7 : decode cX12_holds 7 = .ok (.iload_n 1, 1) := by decide +kernel
theorem dX12_holds_8 : decode cX12_holds 8 = .ok (.iconst 0, 1) := by decide +kernel
theorem dX12_holds_9 : decode cX12_holds 9 = .ok (.iconst 1, 1) := by decide +kernel
theorem dX12_holds_10 : decode cX12_holds 10 = .ok (.invokestatic 47, 3) := by decide +kernel
theorem dX12_holds_13 : decode cX12_holds 13 = .ok (.ifCond .ne 31, 3) := by decide +kernel
theorem dX12_holds_16 : decode cX12_holds 16 = .ok (.iload_n 1, 1) := by decide +kernel
theorem dX12_holds_17 : decode cX12_holds 17 = .ok (.bipush 10, 2) := by decide +kernel
theorem dX12_holds_19 : decode cX12_holds 19 = .ok (.bipush 9, 2) := by decide +kernel
theorem dX12_holds_21 : decode cX12_holds 21 = .ok (.iload_n 2, 1) := by decide +kernel
theorem dX12_holds_22 : decode cX12_holds 22 = .ok (.iadd, 1) := by decide +kernel
theorem dX12_holds_23 : decode cX12_holds 23 = .ok (.invokestatic 47, 3) := by decide +kernel
theorem dX12_holds_26 : decode cX12_holds 26 = .ok (.ifCond .ne 18, 3) := by decide +kernel
theorem dX12_holds_29 : decode cX12_holds 29 = .ok (.iload_n 1, 1) := by decide +kernel
theorem dX12_holds_30 : decode cX12_holds 30 = .ok (.bipush 20, 2) := by decide +kernel
theorem dX12_holds_32 : decode cX12_holds 32 = .ok (.bipush 19, 2) := by decide +kernel
theorem dX12_holds_34 : decode cX12_holds 34 = .ok (.iload_n 2, 1) := by decide +kernel
theorem dX12_holds_35 : decode cX12_holds 35 = .ok (.iadd, 1) := by decide +kernel
theorem dX12_holds_36 : decode cX12_holds 36 = .ok (.invokestatic 47, 3) := by decide +kernel
theorem dX12_holds_39 : decode cX12_holds 39 = .ok (.ifCond .ne 5, 3) := by decide +kernel
theorem dX12_holds_42 : decode cX12_holds 42 = .ok (.iconst (-1), 1) := by decide +kernel
theorem dX12_holds_43 : decode cX12_holds 43 = .ok (.ireturn, 1) := by decide +kernel
theorem dX12_holds_44 : decode cX12_holds 44 = .ok (.aload_n 0, 1) := by decide +kernel
theorem dX12_holds_45 : decode cX12_holds 45 = .ok (.getfield 9, 3) := by decide +kernel
theorem dX12_holds_48 : decode cX12_holds 48 = .ok (.iconst 5, 1) := by decide +kernel
theorem dX12_holds_49 : decode cX12_holds 49 = .ok (.iaload, 1) := by decide +kernel
theorem dX12_holds_50 : decode cX12_holds 50 = .ok (.ifCond .eq 14, 3) := by decide +kernel
theorem dX12_holds_53 : decode cX12_holds 53 = .ok (.aload_n 0, 1) := by decide +kernel
theorem dX12_holds_54 : decode cX12_holds 54 = .ok (.getfield 9, 3) := by decide +kernel
theorem dX12_holds_57 : decode cX12_holds 57 = .ok (.bipush 8, 2) := by decide +kernel
theorem dX12_holds_59 : decode cX12_holds 59 = .ok (.iaload, 1) := by decide +kernel
theorem dX12_holds_60 : decode cX12_holds 60 = .ok (.iload_n 2, 1) := by decide +kernel
theorem dX12_holds_61 : decode cX12_holds 61 = .ok (.if_icmp .eq 6, 3) := by decide +kernel
theorem dX12_holds_64 : decode cX12_holds 64 = .ok (.bipush (-3), 2) := by decide +kernel
theorem dX12_holds_66 : decode cX12_holds 66 = .ok (.ireturn, 1) := by decide +kernel
theorem dX12_holds_67 : decode cX12_holds 67 = .ok (.iload_n 1, 1) := by decide +kernel
theorem dX12_holds_68 : decode cX12_holds 68 = .ok (.ifCond .ne 27, 3) := by decide +kernel
theorem dX12_holds_71 : decode cX12_holds 71 = .ok (.aload_n 0, 1) := by decide +kernel
theorem dX12_holds_72 : decode cX12_holds 72 = .ok (.iconst 0, 1) := by decide +kernel
theorem dX12_holds_73 : decode cX12_holds 73 = .ok (.invokevirtual 239, 3) := by decide +kernel
theorem dX12_holds_76 : decode cX12_holds 76 = .ok (.istore_n 3, 1) := by decide +kernel
theorem dX12_holds_77 : decode cX12_holds 77 = .ok (.aload_n 0, 1) := by decide +kernel
theorem dX12_holds_78 : decode cX12_holds 78 = .ok (.iload_n 3, 1) := by decide +kernel
theorem dX12_holds_79 : decode cX12_holds 79 = .ok (.invokevirtual 233, 3) := by decide +kernel
theorem dX12_holds_82 : decode cX12_holds 82 = .ok (.iload_n 2, 1) := by decide +kernel
theorem dX12_holds_83 : decode cX12_holds 83 = .ok (.iconst 1, 1) := by decide +kernel
theorem dX12_holds_84 : decode cX12_holds 84 = .ok (.isub, 1) := by decide +kernel
theorem dX12_holds_85 : decode cX12_holds 85 = .ok (.if_icmp .ne 7, 3) := by decide +kernel
theorem dX12_holds_88 : decode cX12_holds 88 = .ok (.iload_n 3, 1) := by decide +kernel
theorem dX12_holds_89 : decode cX12_holds 89 = .ok (.goto 5, 3) := by decide +kernel
theorem dX12_holds_92 : decode cX12_holds 92 = .ok (.bipush (-5), 2) := by decide +kernel
theorem dX12_holds_94 : decode cX12_holds 94 = .ok (.ireturn, 1) := by decide +kernel
theorem dX12_holds_95 : decode cX12_holds 95 = .ok (.iload_n 1, 1) := by decide +kernel
theorem dX12_holds_96 : decode cX12_holds 96 = .ok (.iconst 1, 1) := by decide +kernel
theorem dX12_holds_97 : decode cX12_holds 97 = .ok (.if_icmp .ne 10, 3) := by decide +kernel
theorem dX12_holds_100 : decode cX12_holds 100 = .ok (.aload_n 0, 1) := by decide +kernel
theorem dX12_holds_101 : decode cX12_holds 101 = .ok (.invokevirtual 242, 3) := by decide +kernel
theorem dX12_holds_104 : decode cX12_holds 104 = .ok (.goto 28, 3) := by decide +kernel
theorem dX12_holds_107 : decode cX12_holds 107 = .ok (.iload_n 1, 1) := by decide +kernel
theorem dX12_holds_108 : decode cX12_holds 108 = .ok (.bipush 20, 2) := by decide +kernel
theorem dX12_holds_110 : decode cX12_holds 110 = .ok (.if_icmp .ge 14, 3) := by decide +kernel
theorem dX12_holds_113 : decode cX12_holds 113 = .ok (.aload_n 0, 1) := by decide +kernel
theorem dX12_holds_114 : decode cX12_holds 114 = .ok (.iload_n 1, 1) := by decide +kernel
theorem dX12_holds_115 : decode cX12_holds 115 = .ok (.bipush 10, 2) := by decide +kernel
theorem dX12_holds_117 : decode cX12_holds 117 = .ok (.isub, 1) := by decide +kernel
theorem dX12_holds_118 : decode cX12_holds 118 = .ok (.invokevirtual 239, 3) := by decide +kernel
theorem dX12_holds_121 : decode cX12_holds 121 = .ok (.goto 11, 3) := by decide +kernel
theorem dX12_holds_124 : decode cX12_holds 124 = .ok (.aload_n 0, 1) := by decide +kernel
theorem dX12_holds_125 : decode cX12_holds 125 = .ok (.iload_n 1, 1) := by decide +kernel
theorem dX12_holds_126 : decode cX12_holds 126 = .ok (.bipush 20, 2) := by decide +kernel
theorem dX12_holds_128 : decode cX12_holds 128 = .ok (.isub, 1) := by decide +kernel
theorem dX12_holds_129 : decode cX12_holds 129 = .ok (.invokevirtual 233, 3) := by decide +kernel
theorem dX12_holds_132 : decode cX12_holds 132 = .ok (.ireturn, 1) := by decide +kernel
theorem dX12_runs_0 : decode cX12_runs 0 = .ok (.aload_n 0, 1) := by decide +kernel
theorem dX12_runs_1 : decode cX12_runs 1 = .ok (.getfield 245, 3) := by decide +kernel
theorem dX12_runs_4 : decode cX12_runs 4 = .ok (.bipush 20, 2) := by decide +kernel
theorem dX12_runs_6 : decode cX12_runs 6 = .ok (.if_icmp .ge 13, 3) := by decide +kernel
theorem dX12_runs_9 : decode cX12_runs 9 = .ok (.aload_n 0, 1) := by decide +kernel
theorem dX12_runs_10 : decode cX12_runs 10 = .ok (.getfield 40, 3) := by decide +kernel
theorem dX12_runs_13 : decode cX12_runs 13 = .ok (.aload_n 0, 1) := by decide +kernel
theorem dX12_runs_14 : decode cX12_runs 14 = .ok (.getfield 245, 3) := by decide +kernel
theorem dX12_runs_17 : decode cX12_runs 17 = .ok (.iload_n 1, 1) := by decide +kernel
theorem dX12_runs_18 : decode cX12_runs 18 = .ok (.iastore, 1) := by decide +kernel
theorem dX12_runs_19 : decode cX12_runs 19 = .ok (.aload_n 0, 1) := by decide +kernel
theorem dX12_runs_20 : decode cX12_runs 20 = .ok (.dup, 1) := by decide +kernel
theorem dX12_runs_21 : decode cX12_runs 21 = .ok (.getfield 245, 3) := by decide +kernel
theorem dX12_runs_24 : decode cX12_runs 24 = .ok (.iconst 1, 1) := by decide +kernel
theorem dX12_runs_25 : decode cX12_runs 25 = .ok (.iadd, 1) := by decide +kernel
theorem dX12_runs_26 : decode cX12_runs 26 = .ok (.putfield 245, 3) := by decide +kernel
theorem dX12_runs_29 : decode cX12_runs 29 = .ok (.return_, 1) := by decide +kernel
theorem dX12_isUnder_0 : decode cX12_isUnder 0 = .ok (.iload_n 1, 1) := by decide +kernel
theorem dX12_isUnder_1 : decode cX12_isUnder 1 = .ok (.ifCond .eq 39, 3) := by decide +kernel
theorem dX12_isUnder_4 : decode cX12_isUnder 4 = .ok (.iload_n 1, 1) := by decide +kernel
theorem dX12_isUnder_5 : decode cX12_isUnder 5 = .ok (.iload_n 0, 1) := by decide +kernel
theorem dX12_isUnder_6 : decode cX12_isUnder 6 = .ok (.if_icmp .eq 34, 3) := by decide +kernel
theorem dX12_isUnder_9 : decode cX12_isUnder 9 = .ok (.iload_n 1, 1) := by decide +kernel
theorem dX12_isUnder_10 : decode cX12_isUnder 10 = .ok (.iconst 1, 1) := by decide +kernel
theorem dX12_isUnder_11 : decode cX12_isUnder 11 = .ok (.if_icmp .ne 13, 3) := by decide +kernel
theorem dX12_isUnder_14 : decode cX12_isUnder 14 = .ok (.iload_n 0, 1) := by decide +kernel
theorem dX12_isUnder_15 : decode cX12_isUnder 15 = .ok (.iconst 3, 1) := by decide +kernel
theorem dX12_isUnder_16 : decode cX12_isUnder 16 = .ok (.if_icmp .eq 24, 3) := by decide +kernel
theorem dX12_isUnder_19 : decode cX12_isUnder 19 = .ok (.iload_n 0, 1) := by decide +kernel
theorem dX12_isUnder_20 : decode cX12_isUnder 20 = .ok (.iconst 4, 1) := by decide +kernel
theorem dX12_isUnder_21 : decode cX12_isUnder 21 = .ok (.if_icmp .eq 19, 3) := by decide +kernel
theorem dX12_isUnder_24 : decode cX12_isUnder 24 = .ok (.iload_n 1, 1) := by decide +kernel
theorem dX12_isUnder_25 : decode cX12_isUnder 25 = .ok (.iconst 2, 1) := by decide +kernel
theorem dX12_isUnder_26 : decode cX12_isUnder 26 = .ok (.if_icmp .ne 18, 3) := by decide +kernel
theorem dX12_isUnder_29 : decode cX12_isUnder 29 = .ok (.iload_n 0, 1) := by decide +kernel
theorem dX12_isUnder_30 : decode cX12_isUnder 30 = .ok (.iconst 5, 1) := by decide +kernel
theorem dX12_isUnder_31 : decode cX12_isUnder 31 = .ok (.if_icmp .eq 9, 3) := by decide +kernel
theorem dX12_isUnder_34 : decode cX12_isUnder 34 = .ok (.iload_n 0, 1) := by decide +kernel
theorem dX12_isUnder_35 : decode cX12_isUnder 35 = .ok (.bipush 6, 2) := by decide +kernel
theorem dX12_isUnder_37 : decode cX12_isUnder 37 = .ok (.if_icmp .ne 7, 3) := by decide +kernel
theorem dX12_isUnder_40 : decode cX12_isUnder 40 = .ok (.iconst 1, 1) := by decide +kernel
theorem dX12_isUnder_41 : decode cX12_isUnder 41 = .ok (.goto 4, 3) := by decide +kernel
theorem dX12_isUnder_44 : decode cX12_isUnder 44 = .ok (.iconst 0, 1) := by decide +kernel
theorem dX12_isUnder_45 : decode cX12_isUnder 45 = .ok (.ireturn, 1) := by decide +kernel
theorem dX12_plainCasts_0 : decode cX12_plainCasts 0 = .ok (.aload_n 0, 1) := by decide +kernel
theorem dX12_plainCasts_1 : decode cX12_plainCasts 1 = .ok (.iconst 1, 1) := by decide +kernel
theorem dX12_plainCasts_2 : decode cX12_plainCasts 2 = .ok (.invokevirtual 248, 3) := by decide +kernel
theorem dX12_plainCasts_5 : decode cX12_plainCasts 5 = .ok (.iload_n 1, 1) := by decide +kernel
theorem dX12_plainCasts_6 : decode cX12_plainCasts 6 = .ok (.aload_n 0, 1) := by decide +kernel
theorem dX12_plainCasts_7 : decode cX12_plainCasts 7 = .ok (.getfield 251, 3) := by decide +kernel
theorem dX12_plainCasts_10 : decode cX12_plainCasts 10 = .ok (.iadd, 1) := by decide +kernel
theorem dX12_plainCasts_11 : decode cX12_plainCasts 11 = .ok (.ireturn, 1) := by decide +kernel
theorem dX12_castsActs_0 : decode cX12_castsActs 0 = .ok (.aload_n 0, 1) := by decide +kernel
theorem dX12_castsActs_1 : decode cX12_castsActs 1 = .ok (.getfield 254, 3) := by decide +kernel
theorem dX12_castsActs_4 : decode cX12_castsActs 4 = .ok (.iconst 1, 1) := by decide +kernel
theorem dX12_castsActs_5 : decode cX12_castsActs 5 = .ok (.invokestatic 257, 3) := by decide +kernel
theorem dX12_castsActs_8 : decode cX12_castsActs 8 = .ok (.ifCond .eq 17, 3) := by decide +kernel
theorem dX12_castsActs_11 : decode cX12_castsActs 11 = .ok (.aload_n 0, 1) := by decide +kernel
theorem dX12_castsActs_12 : decode cX12_castsActs 12 = .ok (.bipush 11, 2) := by decide +kernel
theorem dX12_castsActs_14 : decode cX12_castsActs 14 = .ok (.invokevirtual 248, 3) := by decide +kernel
theorem dX12_castsActs_17 : decode cX12_castsActs 17 = .ok (.aload_n 0, 1) := by decide +kernel
theorem dX12_castsActs_18 : decode cX12_castsActs 18 = .ok (.iload_n 1, 1) := by decide +kernel
theorem dX12_castsActs_19 : decode cX12_castsActs 19 = .ok (.iconst 3, 1) := by decide +kernel
theorem dX12_castsActs_20 : decode cX12_castsActs 20 = .ok (.imul, 1) := by decide +kernel
theorem dX12_castsActs_21 : decode cX12_castsActs 21 = .ok (.invokevirtual 260, 3) := by decide +kernel
theorem dX12_castsActs_24 : decode cX12_castsActs 24 = .ok (.ireturn, 1) := by decide +kernel
theorem dX12_castsActs_25 : decode cX12_castsActs 25 = .ok (.aload_n 0, 1) := by decide +kernel
theorem dX12_castsActs_26 : decode cX12_castsActs 26 = .ok (.getfield 254, 3) := by decide +kernel
theorem dX12_castsActs_29 : decode cX12_castsActs 29 = .ok (.iconst 5, 1) := by decide +kernel
theorem dX12_castsActs_30 : decode cX12_castsActs 30 = .ok (.if_icmp .ne 20, 3) := by decide +kernel
theorem dX12_castsActs_33 : decode cX12_castsActs 33 = .ok (.aload_n 0, 1) := by decide +kernel
theorem dX12_castsActs_34 : decode cX12_castsActs 34 = .ok (.bipush 51, 2) := by decide +kernel
theorem dX12_castsActs_36 : decode cX12_castsActs 36 = .ok (.invokevirtual 248, 3) := by decide +kernel
theorem dX12_castsActs_39 : decode cX12_castsActs 39 = .ok (.aload_n 0, 1) := by decide +kernel
theorem dX12_castsActs_40 : decode cX12_castsActs 40 = .ok (.iload_n 1, 1) := by decide +kernel
theorem dX12_castsActs_41 : decode cX12_castsActs 41 = .ok (.invokevirtual 260, 3) := by decide +kernel
theorem dX12_castsActs_44 : decode cX12_castsActs 44 = .ok (.aload_n 0, 1) := by decide +kernel
theorem dX12_castsActs_45 : decode cX12_castsActs 45 = .ok (.getfield 251, 3) := by decide +kernel
theorem dX12_castsActs_48 : decode cX12_castsActs 48 = .ok (.ixor, 1) := by decide +kernel
theorem dX12_castsActs_49 : decode cX12_castsActs 49 = .ok (.ireturn, 1) := by decide +kernel
theorem dX12_castsActs_50 : decode cX12_castsActs 50 = .ok (.aload_n 0, 1) := by decide +kernel
theorem dX12_castsActs_51 : decode cX12_castsActs 51 = .ok (.iload_n 1, 1) := by decide +kernel
theorem dX12_castsActs_52 : decode cX12_castsActs 52 = .ok (.invokevirtual 260, 3) := by decide +kernel
theorem dX12_castsActs_55 : decode cX12_castsActs 55 = .ok (.ireturn, 1) := by decide +kernel
theorem dX12_plainTurns_0 : decode cX12_plainTurns 0 = .ok (.aload_n 0, 1) := by decide +kernel
theorem dX12_plainTurns_1 : decode cX12_plainTurns 1 = .ok (.iconst 2, 1) := by decide +kernel
theorem dX12_plainTurns_2 : decode cX12_plainTurns 2 = .ok (.invokevirtual 248, 3) := by decide +kernel
theorem dX12_plainTurns_5 : decode cX12_plainTurns 5 = .ok (.aload_n 0, 1) := by decide +kernel
theorem dX12_plainTurns_6 : decode cX12_plainTurns 6 = .ok (.iload_n 1, 1) := by decide +kernel
theorem dX12_plainTurns_7 : decode cX12_plainTurns 7 = .ok (.invokevirtual 263, 3) := by decide +kernel
theorem dX12_plainTurns_10 : decode cX12_plainTurns 10 = .ok (.aload_n 0, 1) := by decide +kernel
theorem dX12_plainTurns_11 : decode cX12_plainTurns 11 = .ok (.getfield 266, 3) := by decide +kernel
theorem dX12_plainTurns_14 : decode cX12_plainTurns 14 = .ok (.isub, 1) := by decide +kernel
theorem dX12_plainTurns_15 : decode cX12_plainTurns 15 = .ok (.ireturn, 1) := by decide +kernel
theorem dX12_fixedTurns_0 : decode cX12_fixedTurns 0 = .ok (.aload_n 0, 1) := by decide +kernel
theorem dX12_fixedTurns_1 : decode cX12_fixedTurns 1 = .ok (.bipush 21, 2) := by decide +kernel
theorem dX12_fixedTurns_3 : decode cX12_fixedTurns 3 = .ok (.invokevirtual 248, 3) := by decide +kernel
theorem dX12_fixedTurns_6 : decode cX12_fixedTurns 6 = .ok (.aload_n 0, 1) := by decide +kernel
theorem dX12_fixedTurns_7 : decode cX12_fixedTurns 7 = .ok (.iload_n 1, 1) := by decide +kernel
theorem dX12_fixedTurns_8 : decode cX12_fixedTurns 8 = .ok (.invokevirtual 269, 3) := by decide +kernel
theorem dX12_fixedTurns_11 : decode cX12_fixedTurns 11 = .ok (.ineg, 1) := by decide +kernel
theorem dX12_fixedTurns_12 : decode cX12_fixedTurns 12 = .ok (.ireturn, 1) := by decide +kernel
theorem dX12_turnsActs_0 : decode cX12_turnsActs 0 = .ok (.aload_n 0, 1) := by decide +kernel
theorem dX12_turnsActs_1 : decode cX12_turnsActs 1 = .ok (.getfield 254, 3) := by decide +kernel
theorem dX12_turnsActs_4 : decode cX12_turnsActs 4 = .ok (.bipush 6, 2) := by decide +kernel
theorem dX12_turnsActs_6 : decode cX12_turnsActs 6 = .ok (.if_icmp .ne 20, 3) := by decide +kernel
theorem dX12_turnsActs_9 : decode cX12_turnsActs 9 = .ok (.aload_n 0, 1) := by decide +kernel
theorem dX12_turnsActs_10 : decode cX12_turnsActs 10 = .ok (.bipush 61, 2) := by decide +kernel
theorem dX12_turnsActs_12 : decode cX12_turnsActs 12 = .ok (.invokevirtual 248, 3) := by decide +kernel
theorem dX12_turnsActs_15 : decode cX12_turnsActs 15 = .ok (.aload_n 0, 1) := by decide +kernel
theorem dX12_turnsActs_16 : decode cX12_turnsActs 16 = .ok (.iload_n 1, 1) := by decide +kernel
theorem dX12_turnsActs_17 : decode cX12_turnsActs 17 = .ok (.invokevirtual 272, 3) := by decide +kernel
theorem dX12_turnsActs_20 : decode cX12_turnsActs 20 = .ok (.aload_n 0, 1) := by decide +kernel
theorem dX12_turnsActs_21 : decode cX12_turnsActs 21 = .ok (.getfield 266, 3) := by decide +kernel
theorem dX12_turnsActs_24 : decode cX12_turnsActs 24 = .ok (.iadd, 1) := by decide +kernel
theorem dX12_turnsActs_25 : decode cX12_turnsActs 25 = .ok (.ireturn, 1) := by decide +kernel
theorem dX12_turnsActs_26 : decode cX12_turnsActs 26 = .ok (.aload_n 0, 1) := by decide +kernel
theorem dX12_turnsActs_27 : decode cX12_turnsActs 27 = .ok (.getfield 254, 3) := by decide +kernel
theorem dX12_turnsActs_30 : decode cX12_turnsActs 30 = .ok (.iconst 2, 1) := by decide +kernel
theorem dX12_turnsActs_31 : decode cX12_turnsActs 31 = .ok (.invokestatic 257, 3) := by decide +kernel
theorem dX12_turnsActs_34 : decode cX12_turnsActs 34 = .ok (.ifCond .eq 11, 3) := by decide +kernel
theorem dX12_turnsActs_37 : decode cX12_turnsActs 37 = .ok (.aload_n 0, 1) := by decide +kernel
theorem dX12_turnsActs_38 : decode cX12_turnsActs 38 = .ok (.iload_n 1, 1) := by decide +kernel
theorem dX12_turnsActs_39 : decode cX12_turnsActs 39 = .ok (.invokevirtual 272, 3) := by decide +kernel
theorem dX12_turnsActs_42 : decode cX12_turnsActs 42 = .ok (.goto 8, 3) := by decide +kernel
theorem dX12_turnsActs_45 : decode cX12_turnsActs 45 = .ok (.aload_n 0, 1) := by decide +kernel
theorem dX12_turnsActs_46 : decode cX12_turnsActs 46 = .ok (.iload_n 1, 1) := by decide +kernel
theorem dX12_turnsActs_47 : decode cX12_turnsActs 47 = .ok (.invokevirtual 269, 3) := by decide +kernel
theorem dX12_turnsActs_50 : decode cX12_turnsActs 50 = .ok (.ireturn, 1) := by decide +kernel
theorem dX12_plainTells_0 : decode cX12_plainTells 0 = .ok (.aload_n 0, 1) := by decide +kernel
theorem dX12_plainTells_1 : decode cX12_plainTells 1 = .ok (.iconst 3, 1) := by decide +kernel
theorem dX12_plainTells_2 : decode cX12_plainTells 2 = .ok (.invokevirtual 248, 3) := by decide +kernel
theorem dX12_plainTells_5 : decode cX12_plainTells 5 = .ok (.aload_n 0, 1) := by decide +kernel
theorem dX12_plainTells_6 : decode cX12_plainTells 6 = .ok (.iload_n 1, 1) := by decide +kernel
theorem dX12_plainTells_7 : decode cX12_plainTells 7 = .ok (.invokevirtual 275, 3) := by decide +kernel
theorem dX12_plainTells_10 : decode cX12_plainTells 10 = .ok (.iconst 2, 1) := by decide +kernel
theorem dX12_plainTells_11 : decode cX12_plainTells 11 = .ok (.imul, 1) := by decide +kernel
theorem dX12_plainTells_12 : decode cX12_plainTells 12 = .ok (.ireturn, 1) := by decide +kernel
theorem dX12_tellsActs_0 : decode cX12_tellsActs 0 = .ok (.aload_n 0, 1) := by decide +kernel
theorem dX12_tellsActs_1 : decode cX12_tellsActs 1 = .ok (.getfield 254, 3) := by decide +kernel
theorem dX12_tellsActs_4 : decode cX12_tellsActs 4 = .ok (.iconst 3, 1) := by decide +kernel
theorem dX12_tellsActs_5 : decode cX12_tellsActs 5 = .ok (.if_icmp .ne 18, 3) := by decide +kernel
theorem dX12_tellsActs_8 : decode cX12_tellsActs 8 = .ok (.aload_n 0, 1) := by decide +kernel
theorem dX12_tellsActs_9 : decode cX12_tellsActs 9 = .ok (.bipush 31, 2) := by decide +kernel
theorem dX12_tellsActs_11 : decode cX12_tellsActs 11 = .ok (.invokevirtual 248, 3) := by decide +kernel
theorem dX12_tellsActs_14 : decode cX12_tellsActs 14 = .ok (.aload_n 0, 1) := by decide +kernel
theorem dX12_tellsActs_15 : decode cX12_tellsActs 15 = .ok (.iload_n 1, 1) := by decide +kernel
theorem dX12_tellsActs_16 : decode cX12_tellsActs 16 = .ok (.invokevirtual 278, 3) := by decide +kernel
theorem dX12_tellsActs_19 : decode cX12_tellsActs 19 = .ok (.bipush 7, 2) := by decide +kernel
theorem dX12_tellsActs_21 : decode cX12_tellsActs 21 = .ok (.ixor, 1) := by decide +kernel
theorem dX12_tellsActs_22 : decode cX12_tellsActs 22 = .ok (.ireturn, 1) := by decide +kernel
theorem dX12_tellsActs_23 : decode cX12_tellsActs 23 = .ok (.aload_n 0, 1) := by decide +kernel
theorem dX12_tellsActs_24 : decode cX12_tellsActs 24 = .ok (.getfield 254, 3) := by decide +kernel
theorem dX12_tellsActs_27 : decode cX12_tellsActs 27 = .ok (.iconst 4, 1) := by decide +kernel
theorem dX12_tellsActs_28 : decode cX12_tellsActs 28 = .ok (.if_icmp .ne 25, 3) := by decide +kernel
theorem dX12_tellsActs_31 : decode cX12_tellsActs 31 = .ok (.aload_n 0, 1) := by decide +kernel
theorem dX12_tellsActs_32 : decode cX12_tellsActs 32 = .ok (.bipush 41, 2) := by decide +kernel
theorem dX12_tellsActs_34 : decode cX12_tellsActs 34 = .ok (.invokevirtual 248, 3) := by decide +kernel
theorem dX12_tellsActs_37 : decode cX12_tellsActs 37 = .ok (.aload_n 0, 1) := by decide +kernel
theorem dX12_tellsActs_38 : decode cX12_tellsActs 38 = .ok (.iload_n 1, 1) := by decide +kernel
theorem dX12_tellsActs_39 : decode cX12_tellsActs 39 = .ok (.iconst 1, 1) := by decide +kernel
theorem dX12_tellsActs_40 : decode cX12_tellsActs 40 = .ok (.isub, 1) := by decide +kernel
theorem dX12_tellsActs_41 : decode cX12_tellsActs 41 = .ok (.invokevirtual 278, 3) := by decide +kernel
theorem dX12_tellsActs_44 : decode cX12_tellsActs 44 = .ok (.istore_n 2, 1) := by decide +kernel
theorem dX12_tellsActs_45 : decode cX12_tellsActs 45 = .ok (.iload_n 2, 1) := by decide +kernel
theorem dX12_tellsActs_46 : decode cX12_tellsActs 46 = .ok (.aload_n 0, 1) := by decide +kernel
theorem dX12_tellsActs_47 : decode cX12_tellsActs 47 = .ok (.iconst 2, 1) := by decide +kernel
theorem dX12_tellsActs_48 : decode cX12_tellsActs 48 = .ok (.invokevirtual 263, 3) := by decide +kernel
theorem dX12_tellsActs_51 : decode cX12_tellsActs 51 = .ok (.iadd, 1) := by decide +kernel
theorem dX12_tellsActs_52 : decode cX12_tellsActs 52 = .ok (.ireturn, 1) := by decide +kernel
theorem dX12_tellsActs_53 : decode cX12_tellsActs 53 = .ok (.aload_n 0, 1) := by decide +kernel
theorem dX12_tellsActs_54 : decode cX12_tellsActs 54 = .ok (.iload_n 1, 1) := by decide +kernel
theorem dX12_tellsActs_55 : decode cX12_tellsActs 55 = .ok (.invokevirtual 278, 3) := by decide +kernel
theorem dX12_tellsActs_58 : decode cX12_tellsActs 58 = .ok (.ireturn, 1) := by decide +kernel
theorem dX12_act_0 : decode cX12_act 0 = .ok (.aload_n 0, 1) := by decide +kernel
theorem dX12_act_1 : decode cX12_act 1 = .ok (.iconst 0, 1) := by decide +kernel
theorem dX12_act_2 : decode cX12_act 2 = .ok (.putfield 245, 3) := by decide +kernel
theorem dX12_act_5 : decode cX12_act 5 = .ok (.aload_n 0, 1) := by decide +kernel
theorem dX12_act_6 : decode cX12_act 6 = .ok (.iload_n 1, 1) := by decide +kernel
theorem dX12_act_7 : decode cX12_act 7 = .ok (.invokevirtual 56, 3) := by decide +kernel
theorem dX12_act_10 : decode cX12_act 10 = .ok (.ifCond .eq 12, 3) := by decide +kernel
theorem dX12_act_13 : decode cX12_act 13 = .ok (.iload_n 2, 1) := by decide +kernel
theorem dX12_act_14 : decode cX12_act 14 = .ok (.iconst 0, 1) := by decide +kernel
theorem dX12_act_15 : decode cX12_act 15 = .ok (.iconst 2, 1) := by decide +kernel
theorem dX12_act_16 : decode cX12_act 16 = .ok (.invokestatic 47, 3) := by decide +kernel
theorem dX12_act_19 : decode cX12_act 19 = .ok (.ifCond .ne 5, 3) := by decide +kernel
theorem dX12_act_22 : decode cX12_act 22 = .ok (.iconst 0, 1) := by decide +kernel
theorem dX12_act_23 : decode cX12_act 23 = .ok (.ireturn, 1) := by decide +kernel
theorem dX12_act_24 : decode cX12_act 24 = .ok (.aload_n 0, 1) := by decide +kernel
theorem dX12_act_25 : decode cX12_act 25 = .ok (.aload_n 0, 1) := by decide +kernel
theorem dX12_act_26 : decode cX12_act 26 = .ok (.getfield 9, 3) := by decide +kernel
theorem dX12_act_29 : decode cX12_act 29 = .ok (.sipush 130, 3) := by decide +kernel
theorem dX12_act_32 : decode cX12_act 32 = .ok (.iload_n 1, 1) := by decide +kernel
theorem dX12_act_33 : decode cX12_act 33 = .ok (.iadd, 1) := by decide +kernel
theorem dX12_act_34 : decode cX12_act 34 = .ok (.iaload, 1) := by decide +kernel
theorem dX12_act_35 : decode cX12_act 35 = .ok (.putfield 254, 3) := by decide +kernel
theorem dX12_act_38 : decode cX12_act 38 = .ok (.aload_n 0, 1) := by decide +kernel
theorem dX12_act_39 : decode cX12_act 39 = .ok (.iload_n 1, 1) := by decide +kernel
theorem dX12_act_40 : decode cX12_act 40 = .ok (.putfield 251, 3) := by decide +kernel
theorem dX12_act_43 : decode cX12_act 43 = .ok (.aload_n 0, 1) := by decide +kernel
theorem dX12_act_44 : decode cX12_act 44 = .ok (.aload_n 0, 1) := by decide +kernel
theorem dX12_act_45 : decode cX12_act 45 = .ok (.getfield 9, 3) := by decide +kernel
theorem dX12_act_48 : decode cX12_act 48 = .ok (.sipush 166, 3) := by decide +kernel
theorem dX12_act_51 : decode cX12_act 51 = .ok (.iload_n 1, 1) := by decide +kernel
theorem dX12_act_52 : decode cX12_act 52 = .ok (.iadd, 1) := by decide +kernel
theorem dX12_act_53 : decode cX12_act 53 = .ok (.iaload, 1) := by decide +kernel
theorem dX12_act_54 : decode cX12_act 54 = .ok (.putfield 266, 3) := by decide +kernel
theorem dX12_act_57 : decode cX12_act 57 = .ok (.iload_n 2, 1) := by decide +kernel
theorem dX12_act_58 : decode cX12_act 58 = .ok (.ifCond .ne 11, 3) := by decide +kernel
theorem dX12_act_61 : decode cX12_act 61 = .ok (.aload_n 0, 1) := by decide +kernel
theorem dX12_act_62 : decode cX12_act 62 = .ok (.iload_n 3, 1) := by decide +kernel
theorem dX12_act_63 : decode cX12_act 63 = .ok (.invokevirtual 263, 3) := by decide +kernel
theorem dX12_act_66 : decode cX12_act 66 = .ok (.goto 21, 3) := by decide +kernel
theorem dX12_act_69 : decode cX12_act 69 = .ok (.iload_n 2, 1) := by decide +kernel
theorem dX12_act_70 : decode cX12_act 70 = .ok (.iconst 1, 1) := by decide +kernel
theorem dX12_act_71 : decode cX12_act 71 = .ok (.if_icmp .ne 11, 3) := by decide +kernel
theorem dX12_act_74 : decode cX12_act 74 = .ok (.aload_n 0, 1) := by decide +kernel
theorem dX12_act_75 : decode cX12_act 75 = .ok (.iload_n 3, 1) := by decide +kernel
theorem dX12_act_76 : decode cX12_act 76 = .ok (.invokevirtual 275, 3) := by decide +kernel
theorem dX12_act_79 : decode cX12_act 79 = .ok (.goto 8, 3) := by decide +kernel
theorem dX12_act_82 : decode cX12_act 82 = .ok (.aload_n 0, 1) := by decide +kernel
theorem dX12_act_83 : decode cX12_act 83 = .ok (.iload_n 3, 1) := by decide +kernel
theorem dX12_act_84 : decode cX12_act 84 = .ok (.invokevirtual 281, 3) := by decide +kernel
theorem dX12_act_87 : decode cX12_act 87 = .ok (.ireturn, 1) := by decide +kernel
theorem dX12_trace_0 : decode cX12_trace 0 = .ok (.iload_n 1, 1) := by decide +kernel
theorem dX12_trace_1 : decode cX12_trace 1 = .ok (.iconst 0, 1) := by decide +kernel
theorem dX12_trace_2 : decode cX12_trace 2 = .ok (.aload_n 0, 1) := by decide +kernel
theorem dX12_trace_3 : decode cX12_trace 3 = .ok (.getfield 245, 3) := by decide +kernel
theorem dX12_trace_6 : decode cX12_trace 6 = .ok (.bipush 20, 2) := by decide +kernel
theorem dX12_trace_8 : decode cX12_trace 8 = .ok (.if_icmp .ge 10, 3) := by decide +kernel
theorem dX12_trace_11 : decode cX12_trace 11 = .ok (.aload_n 0, 1) := by decide +kernel
theorem dX12_trace_12 : decode cX12_trace 12 = .ok (.getfield 245, 3) := by decide +kernel
theorem dX12_trace_15 : decode cX12_trace 15 = .ok (.goto 5, 3) := by decide +kernel
theorem dX12_trace_18 : decode cX12_trace 18 = .ok (.bipush 20, 2) := by decide +kernel
theorem dX12_trace_20 : decode cX12_trace 20 = .ok (.iconst 1, 1) := by decide +kernel
theorem dX12_trace_21 : decode cX12_trace 21 = .ok (.isub, 1) := by decide +kernel
theorem dX12_trace_22 : decode cX12_trace 22 = .ok (.invokestatic 47, 3) := by decide +kernel
theorem dX12_trace_25 : decode cX12_trace 25 = .ok (.ifCond .eq 12, 3) := by decide +kernel
theorem dX12_trace_28 : decode cX12_trace 28 = .ok (.aload_n 0, 1) := by decide +kernel
theorem dX12_trace_29 : decode cX12_trace 29 = .ok (.getfield 40, 3) := by decide +kernel
theorem dX12_trace_32 : decode cX12_trace 32 = .ok (.iload_n 1, 1) := by decide +kernel
theorem dX12_trace_33 : decode cX12_trace 33 = .ok (.iaload, 1) := by decide +kernel
theorem dX12_trace_34 : decode cX12_trace 34 = .ok (.goto 4, 3) := by decide +kernel
theorem dX12_trace_37 : decode cX12_trace 37 = .ok (.iconst (-1), 1) := by decide +kernel
theorem dX12_trace_38 : decode cX12_trace 38 = .ok (.ireturn, 1) := by decide +kernel
theorem dX12_as_0 : decode cX12_as 0 = .ok (.aload_n 0, 1) := by decide +kernel
theorem dX12_as_1 : decode cX12_as 1 = .ok (.iload_n 1, 1) := by decide +kernel
theorem dX12_as_2 : decode cX12_as 2 = .ok (.invokevirtual 56, 3) := by decide +kernel
theorem dX12_as_5 : decode cX12_as 5 = .ok (.ifCond .eq 13, 3) := by decide +kernel
theorem dX12_as_8 : decode cX12_as 8 = .ok (.iload_n 2, 1) := by decide +kernel
theorem dX12_as_9 : decode cX12_as 9 = .ok (.iconst 0, 1) := by decide +kernel
theorem dX12_as_10 : decode cX12_as 10 = .ok (.bipush 6, 2) := by decide +kernel
theorem dX12_as_12 : decode cX12_as 12 = .ok (.invokestatic 47, 3) := by decide +kernel
theorem dX12_as_15 : decode cX12_as 15 = .ok (.ifCond .ne 5, 3) := by decide +kernel
theorem dX12_as_18 : decode cX12_as 18 = .ok (.iconst (-1), 1) := by decide +kernel
theorem dX12_as_19 : decode cX12_as 19 = .ok (.ireturn, 1) := by decide +kernel
theorem dX12_as_20 : decode cX12_as 20 = .ok (.aload_n 0, 1) := by decide +kernel
theorem dX12_as_21 : decode cX12_as 21 = .ok (.getfield 9, 3) := by decide +kernel
theorem dX12_as_24 : decode cX12_as 24 = .ok (.sipush 130, 3) := by decide +kernel
theorem dX12_as_27 : decode cX12_as 27 = .ok (.iload_n 1, 1) := by decide +kernel
theorem dX12_as_28 : decode cX12_as 28 = .ok (.iadd, 1) := by decide +kernel
theorem dX12_as_29 : decode cX12_as 29 = .ok (.iaload, 1) := by decide +kernel
theorem dX12_as_30 : decode cX12_as 30 = .ok (.iload_n 2, 1) := by decide +kernel
theorem dX12_as_31 : decode cX12_as 31 = .ok (.invokestatic 257, 3) := by decide +kernel
theorem dX12_as_34 : decode cX12_as 34 = .ok (.ifCond .eq 16, 3) := by decide +kernel
theorem dX12_as_37 : decode cX12_as 37 = .ok (.aload_n 0, 1) := by decide +kernel
theorem dX12_as_38 : decode cX12_as 38 = .ok (.getfield 9, 3) := by decide +kernel
theorem dX12_as_41 : decode cX12_as 41 = .ok (.sipush 166, 3) := by decide +kernel
theorem dX12_as_44 : decode cX12_as 44 = .ok (.iload_n 1, 1) := by decide +kernel
theorem dX12_as_45 : decode cX12_as 45 = .ok (.iadd, 1) := by decide +kernel
theorem dX12_as_46 : decode cX12_as 46 = .ok (.iaload, 1) := by decide +kernel
theorem dX12_as_47 : decode cX12_as 47 = .ok (.goto 5, 3) := by decide +kernel
theorem dX12_as_50 : decode cX12_as 50 = .ok (.bipush (-6), 2) := by decide +kernel
theorem dX12_as_52 : decode cX12_as 52 = .ok (.ireturn, 1) := by decide +kernel
theorem dX12_image_0 : decode cX12_image 0 = .ok (.iconst 0, 1) := by decide +kernel
theorem dX12_image_1 : decode cX12_image 1 = .ok (.istore_n 1, 1) := by decide +kernel
theorem dX12_image_2 : decode cX12_image 2 = .ok (.iload_n 1, 1) := by decide +kernel
theorem dX12_image_3 : decode cX12_image 3 = .ok (.sipush 1029, 3) := by decide +kernel
theorem dX12_image_6 : decode cX12_image 6 = .ok (.if_icmp .ge 21, 3) := by decide +kernel
theorem dX12_image_9 : decode cX12_image 9 = .ok (.aload_n 0, 1) := by decide +kernel
theorem dX12_image_10 : decode cX12_image 10 = .ok (.getfield 15, 3) := by decide +kernel
theorem dX12_image_13 : decode cX12_image 13 = .ok (.iload_n 1, 1) := by decide +kernel
theorem dX12_image_14 : decode cX12_image 14 = .ok (.aload_n 0, 1) := by decide +kernel
theorem dX12_image_15 : decode cX12_image 15 = .ok (.getfield 9, 3) := by decide +kernel
theorem dX12_image_18 : decode cX12_image 18 = .ok (.iload_n 1, 1) := by decide +kernel
theorem dX12_image_19 : decode cX12_image 19 = .ok (.iaload, 1) := by decide +kernel
theorem dX12_image_20 : decode cX12_image 20 = .ok (.iastore, 1) := by decide +kernel
theorem dX12_image_21 : decode cX12_image 21 = .ok (.iinc 1 1, 3) := by decide +kernel
theorem dX12_image_24 : decode cX12_image 24 = .ok (.goto (-22), 3) := by decide +kernel
theorem dX12_image_27 : decode cX12_image 27 = .ok (.aload_n 0, 1) := by decide +kernel
theorem dX12_image_28 : decode cX12_image 28 = .ok (.iconst 1, 1) := by decide +kernel
theorem dX12_image_29 : decode cX12_image 29 = .ok (.putfield 284, 3) := by decide +kernel
theorem dX12_image_32 : decode cX12_image 32 = .ok (.aload_n 0, 1) := by decide +kernel
theorem dX12_image_33 : decode cX12_image 33 = .ok (.getfield 9, 3) := by decide +kernel
theorem dX12_image_36 : decode cX12_image 36 = .ok (.iconst 0, 1) := by decide +kernel
theorem dX12_image_37 : decode cX12_image 37 = .ok (.iaload, 1) := by decide +kernel
theorem dX12_image_38 : decode cX12_image 38 = .ok (.ireturn, 1) := by decide +kernel
theorem dX12_undo_0 : decode cX12_undo 0 = .ok (.aload_n 0, 1) := by decide +kernel
theorem dX12_undo_1 : decode cX12_undo 1 = .ok (.getfield 284, 3) := by decide +kernel
theorem dX12_undo_4 : decode cX12_undo 4 = .ok (.ifCond .ne 6, 3) := by decide +kernel
theorem dX12_undo_7 : decode cX12_undo 7 = .ok (.bipush (-3), 2) := by decide +kernel
theorem dX12_undo_9 : decode cX12_undo 9 = .ok (.ireturn, 1) := by decide +kernel
theorem dX12_undo_10 : decode cX12_undo 10 = .ok (.iconst 0, 1) := by decide +kernel
theorem dX12_undo_11 : decode cX12_undo 11 = .ok (.istore_n 1, 1) := by decide +kernel
theorem dX12_undo_12 : decode cX12_undo 12 = .ok (.iload_n 1, 1) := by decide +kernel
theorem dX12_undo_13 : decode cX12_undo 13 = .ok (.sipush 1029, 3) := by decide +kernel
theorem dX12_undo_16 : decode cX12_undo 16 = .ok (.if_icmp .ge 21, 3) := by decide +kernel
theorem dX12_undo_19 : decode cX12_undo 19 = .ok (.aload_n 0, 1) := by decide +kernel
theorem dX12_undo_20 : decode cX12_undo 20 = .ok (.getfield 9, 3) := by decide +kernel
theorem dX12_undo_23 : decode cX12_undo 23 = .ok (.iload_n 1, 1) := by decide +kernel
theorem dX12_undo_24 : decode cX12_undo 24 = .ok (.aload_n 0, 1) := by decide +kernel
theorem dX12_undo_25 : decode cX12_undo 25 = .ok (.getfield 15, 3) := by decide +kernel
theorem dX12_undo_28 : decode cX12_undo 28 = .ok (.iload_n 1, 1) := by decide +kernel
theorem dX12_undo_29 : decode cX12_undo 29 = .ok (.iaload, 1) := by decide +kernel
theorem dX12_undo_30 : decode cX12_undo 30 = .ok (.iastore, 1) := by decide +kernel
theorem dX12_undo_31 : decode cX12_undo 31 = .ok (.iinc 1 1, 3) := by decide +kernel
theorem dX12_undo_34 : decode cX12_undo 34 = .ok (.goto (-22), 3) := by decide +kernel
theorem dX12_undo_37 : decode cX12_undo 37 = .ok (.aload_n 0, 1) := by decide +kernel
theorem dX12_undo_38 : decode cX12_undo 38 = .ok (.getfield 9, 3) := by decide +kernel
theorem dX12_undo_41 : decode cX12_undo 41 = .ok (.iconst 0, 1) := by decide +kernel
theorem dX12_undo_42 : decode cX12_undo 42 = .ok (.iaload, 1) := by decide +kernel
theorem dX12_undo_43 : decode cX12_undo 43 = .ok (.ireturn, 1) := by decide +kernel
theorem dX12_count_0 : decode cX12_count 0 = .ok (.iload_n 1, 1) := by decide +kernel
theorem dX12_count_1 : decode cX12_count 1 = .ok (.tableswitch 102 0 7 #[47, 54, 61, 68, 75, 82, 89, 97], 47) := by decide +kernel
theorem dX12_count_48 : decode cX12_count 48 = .ok (.aload_n 0, 1) := by decide +kernel
theorem dX12_count_49 : decode cX12_count 49 = .ok (.getfield 9, 3) := by decide +kernel
theorem dX12_count_52 : decode cX12_count 52 = .ok (.iconst 0, 1) := by decide +kernel
theorem dX12_count_53 : decode cX12_count 53 = .ok (.iaload, 1) := by decide +kernel
theorem dX12_count_54 : decode cX12_count 54 = .ok (.ireturn, 1) := by decide +kernel
theorem dX12_count_55 : decode cX12_count 55 = .ok (.aload_n 0, 1) := by decide +kernel
theorem dX12_count_56 : decode cX12_count 56 = .ok (.getfield 9, 3) := by decide +kernel
theorem dX12_count_59 : decode cX12_count 59 = .ok (.iconst 1, 1) := by decide +kernel
theorem dX12_count_60 : decode cX12_count 60 = .ok (.iaload, 1) := by decide +kernel
theorem dX12_count_61 : decode cX12_count 61 = .ok (.ireturn, 1) := by decide +kernel
theorem dX12_count_62 : decode cX12_count 62 = .ok (.aload_n 0, 1) := by decide +kernel
theorem dX12_count_63 : decode cX12_count 63 = .ok (.getfield 9, 3) := by decide +kernel
theorem dX12_count_66 : decode cX12_count 66 = .ok (.iconst 2, 1) := by decide +kernel
theorem dX12_count_67 : decode cX12_count 67 = .ok (.iaload, 1) := by decide +kernel
theorem dX12_count_68 : decode cX12_count 68 = .ok (.ireturn, 1) := by decide +kernel
theorem dX12_count_69 : decode cX12_count 69 = .ok (.aload_n 0, 1) := by decide +kernel
theorem dX12_count_70 : decode cX12_count 70 = .ok (.getfield 9, 3) := by decide +kernel
theorem dX12_count_73 : decode cX12_count 73 = .ok (.iconst 3, 1) := by decide +kernel
theorem dX12_count_74 : decode cX12_count 74 = .ok (.iaload, 1) := by decide +kernel
theorem dX12_count_75 : decode cX12_count 75 = .ok (.ireturn, 1) := by decide +kernel
theorem dX12_count_76 : decode cX12_count 76 = .ok (.aload_n 0, 1) := by decide +kernel
theorem dX12_count_77 : decode cX12_count 77 = .ok (.getfield 9, 3) := by decide +kernel
theorem dX12_count_80 : decode cX12_count 80 = .ok (.iconst 4, 1) := by decide +kernel
theorem dX12_count_81 : decode cX12_count 81 = .ok (.iaload, 1) := by decide +kernel
theorem dX12_count_82 : decode cX12_count 82 = .ok (.ireturn, 1) := by decide +kernel
theorem dX12_count_83 : decode cX12_count 83 = .ok (.aload_n 0, 1) := by decide +kernel
theorem dX12_count_84 : decode cX12_count 84 = .ok (.getfield 9, 3) := by decide +kernel
theorem dX12_count_87 : decode cX12_count 87 = .ok (.iconst 5, 1) := by decide +kernel
theorem dX12_count_88 : decode cX12_count 88 = .ok (.iaload, 1) := by decide +kernel
theorem dX12_count_89 : decode cX12_count 89 = .ok (.ireturn, 1) := by decide +kernel
theorem dX12_count_90 : decode cX12_count 90 = .ok (.aload_n 0, 1) := by decide +kernel
theorem dX12_count_91 : decode cX12_count 91 = .ok (.getfield 9, 3) := by decide +kernel
theorem dX12_count_94 : decode cX12_count 94 = .ok (.bipush 6, 2) := by decide +kernel
theorem dX12_count_96 : decode cX12_count 96 = .ok (.iaload, 1) := by decide +kernel
theorem dX12_count_97 : decode cX12_count 97 = .ok (.ireturn, 1) := by decide +kernel
theorem dX12_count_98 : decode cX12_count 98 = .ok (.aload_n 0, 1) := by decide +kernel
theorem dX12_count_99 : decode cX12_count 99 = .ok (.getfield 245, 3) := by decide +kernel
theorem dX12_count_102 : decode cX12_count 102 = .ok (.ireturn, 1) := by decide +kernel
theorem dX12_count_103 : decode cX12_count 103 = .ok (.iconst (-1), 1) := by decide +kernel
theorem dX12_count_104 : decode cX12_count 104 = .ok (.ireturn, 1) := by decide +kernel
theorem dJ11_isValidCodePoint_9a6ad_0 : decode cJ11_isValidCodePoint_9a6ad 0 = .ok (.iload_n 0, 1) := by decide +kernel
theorem dJ11_isValidCodePoint_9a6ad_1 : decode cJ11_isValidCodePoint_9a6ad 1 = .ok (.bipush 16, 2) := by decide +kernel
theorem dJ11_isValidCodePoint_9a6ad_3 : decode cJ11_isValidCodePoint_9a6ad 3 = .ok (.iushr, 1) := by decide +kernel
theorem dJ11_isValidCodePoint_9a6ad_4 : decode cJ11_isValidCodePoint_9a6ad 4 = .ok (.istore_n 1, 1) := by decide +kernel
theorem dJ11_isValidCodePoint_9a6ad_5 : decode cJ11_isValidCodePoint_9a6ad 5 = .ok (.iload_n 1, 1) := by decide +kernel
theorem dJ11_isValidCodePoint_9a6ad_6 : decode cJ11_isValidCodePoint_9a6ad 6 = .ok (.bipush 17, 2) := by decide +kernel
theorem dJ11_isValidCodePoint_9a6ad_8 : decode cJ11_isValidCodePoint_9a6ad 8 = .ok (.if_icmp .ge 7, 3) := by decide +kernel
theorem dJ11_isValidCodePoint_9a6ad_11 : decode cJ11_isValidCodePoint_9a6ad 11 = .ok (.iconst 1, 1) := by decide +kernel
theorem dJ11_isValidCodePoint_9a6ad_12 : decode cJ11_isValidCodePoint_9a6ad 12 = .ok (.goto 4, 3) := by decide +kernel
theorem dJ11_isValidCodePoint_9a6ad_15 : decode cJ11_isValidCodePoint_9a6ad 15 = .ok (.iconst 0, 1) := by decide +kernel
theorem dJ11_isValidCodePoint_9a6ad_16 : decode cJ11_isValidCodePoint_9a6ad 16 = .ok (.ireturn, 1) := by decide +kernel
theorem dJ11_highSurrogate_5068e_0 : decode cJ11_highSurrogate_5068e 0 = .ok (.iload_n 0, 1) := by decide +kernel
theorem dJ11_highSurrogate_5068e_1 : decode cJ11_highSurrogate_5068e 1 = .ok (.bipush 10, 2) := by decide +kernel
theorem dJ11_highSurrogate_5068e_3 : decode cJ11_highSurrogate_5068e 3 = .ok (.iushr, 1) := by decide +kernel
theorem dJ11_highSurrogate_5068e_4 : decode cJ11_highSurrogate_5068e 4 = .ok (.ldc 110, 2) := by decide +kernel
theorem dJ11_highSurrogate_5068e_6 : decode cJ11_highSurrogate_5068e 6 = .ok (.iadd, 1) := by decide +kernel
theorem dJ11_highSurrogate_5068e_7 : decode cJ11_highSurrogate_5068e 7 = .ok (.i2c, 1) := by decide +kernel
theorem dJ11_highSurrogate_5068e_8 : decode cJ11_highSurrogate_5068e 8 = .ok (.ireturn, 1) := by decide +kernel
theorem dJ11_lowSurrogate_5068e_0 : decode cJ11_lowSurrogate_5068e 0 = .ok (.iload_n 0, 1) := by decide +kernel
theorem dJ11_lowSurrogate_5068e_1 : decode cJ11_lowSurrogate_5068e 1 = .ok (.sipush 1023, 3) := by decide +kernel
theorem dJ11_lowSurrogate_5068e_4 : decode cJ11_lowSurrogate_5068e 4 = .ok (.iand, 1) := by decide +kernel
theorem dJ11_lowSurrogate_5068e_5 : decode cJ11_lowSurrogate_5068e 5 = .ok (.ldc 76, 2) := by decide +kernel
theorem dJ11_lowSurrogate_5068e_7 : decode cJ11_lowSurrogate_5068e 7 = .ok (.iadd, 1) := by decide +kernel
theorem dJ11_lowSurrogate_5068e_8 : decode cJ11_lowSurrogate_5068e 8 = .ok (.i2c, 1) := by decide +kernel
theorem dJ11_lowSurrogate_5068e_9 : decode cJ11_lowSurrogate_5068e 9 = .ok (.ireturn, 1) := by decide +kernel
theorem dJ6_bitCount_0f7a4_0 : decode cJ6_bitCount_0f7a4 0 = .ok (.iload_n 0, 1) := by decide +kernel
theorem dJ6_bitCount_0f7a4_1 : decode cJ6_bitCount_0f7a4 1 = .ok (.iload_n 0, 1) := by decide +kernel
theorem dJ6_bitCount_0f7a4_2 : decode cJ6_bitCount_0f7a4 2 = .ok (.iconst 1, 1) := by decide +kernel
theorem dJ6_bitCount_0f7a4_3 : decode cJ6_bitCount_0f7a4 3 = .ok (.iushr, 1) := by decide +kernel
theorem dJ6_bitCount_0f7a4_4 : decode cJ6_bitCount_0f7a4 4 = .ok (.ldc_w 265, 3) := by decide +kernel
theorem dJ6_bitCount_0f7a4_7 : decode cJ6_bitCount_0f7a4 7 = .ok (.iand, 1) := by decide +kernel
theorem dJ6_bitCount_0f7a4_8 : decode cJ6_bitCount_0f7a4 8 = .ok (.isub, 1) := by decide +kernel
theorem dJ6_bitCount_0f7a4_9 : decode cJ6_bitCount_0f7a4 9 = .ok (.istore_n 0, 1) := by decide +kernel
theorem dJ6_bitCount_0f7a4_10 : decode cJ6_bitCount_0f7a4 10 = .ok (.iload_n 0, 1) := by decide +kernel
theorem dJ6_bitCount_0f7a4_11 : decode cJ6_bitCount_0f7a4 11 = .ok (.ldc_w 266, 3) := by decide +kernel
theorem dJ6_bitCount_0f7a4_14 : decode cJ6_bitCount_0f7a4 14 = .ok (.iand, 1) := by decide +kernel
theorem dJ6_bitCount_0f7a4_15 : decode cJ6_bitCount_0f7a4 15 = .ok (.iload_n 0, 1) := by decide +kernel
theorem dJ6_bitCount_0f7a4_16 : decode cJ6_bitCount_0f7a4 16 = .ok (.iconst 2, 1) := by decide +kernel
theorem dJ6_bitCount_0f7a4_17 : decode cJ6_bitCount_0f7a4 17 = .ok (.iushr, 1) := by decide +kernel
theorem dJ6_bitCount_0f7a4_18 : decode cJ6_bitCount_0f7a4 18 = .ok (.ldc_w 266, 3) := by decide +kernel
theorem dJ6_bitCount_0f7a4_21 : decode cJ6_bitCount_0f7a4 21 = .ok (.iand, 1) := by decide +kernel
theorem dJ6_bitCount_0f7a4_22 : decode cJ6_bitCount_0f7a4 22 = .ok (.iadd, 1) := by decide +kernel
theorem dJ6_bitCount_0f7a4_23 : decode cJ6_bitCount_0f7a4 23 = .ok (.istore_n 0, 1) := by decide +kernel
theorem dJ6_bitCount_0f7a4_24 : decode cJ6_bitCount_0f7a4 24 = .ok (.iload_n 0, 1) := by decide +kernel
theorem dJ6_bitCount_0f7a4_25 : decode cJ6_bitCount_0f7a4 25 = .ok (.iload_n 0, 1) := by decide +kernel
theorem dJ6_bitCount_0f7a4_26 : decode cJ6_bitCount_0f7a4 26 = .ok (.iconst 4, 1) := by decide +kernel
theorem dJ6_bitCount_0f7a4_27 : decode cJ6_bitCount_0f7a4 27 = .ok (.iushr, 1) := by decide +kernel
theorem dJ6_bitCount_0f7a4_28 : decode cJ6_bitCount_0f7a4 28 = .ok (.iadd, 1) := by decide +kernel
theorem dJ6_bitCount_0f7a4_29 : decode cJ6_bitCount_0f7a4 29 = .ok (.ldc_w 267, 3) := by decide +kernel
theorem dJ6_bitCount_0f7a4_32 : decode cJ6_bitCount_0f7a4 32 = .ok (.iand, 1) := by decide +kernel
theorem dJ6_bitCount_0f7a4_33 : decode cJ6_bitCount_0f7a4 33 = .ok (.istore_n 0, 1) := by decide +kernel
theorem dJ6_bitCount_0f7a4_34 : decode cJ6_bitCount_0f7a4 34 = .ok (.iload_n 0, 1) := by decide +kernel
theorem dJ6_bitCount_0f7a4_35 : decode cJ6_bitCount_0f7a4 35 = .ok (.iload_n 0, 1) := by decide +kernel
theorem dJ6_bitCount_0f7a4_36 : decode cJ6_bitCount_0f7a4 36 = .ok (.bipush 8, 2) := by decide +kernel
theorem dJ6_bitCount_0f7a4_38 : decode cJ6_bitCount_0f7a4 38 = .ok (.iushr, 1) := by decide +kernel
theorem dJ6_bitCount_0f7a4_39 : decode cJ6_bitCount_0f7a4 39 = .ok (.iadd, 1) := by decide +kernel
theorem dJ6_bitCount_0f7a4_40 : decode cJ6_bitCount_0f7a4 40 = .ok (.istore_n 0, 1) := by decide +kernel
theorem dJ6_bitCount_0f7a4_41 : decode cJ6_bitCount_0f7a4 41 = .ok (.iload_n 0, 1) := by decide +kernel
theorem dJ6_bitCount_0f7a4_42 : decode cJ6_bitCount_0f7a4 42 = .ok (.iload_n 0, 1) := by decide +kernel
theorem dJ6_bitCount_0f7a4_43 : decode cJ6_bitCount_0f7a4 43 = .ok (.bipush 16, 2) := by decide +kernel
theorem dJ6_bitCount_0f7a4_45 : decode cJ6_bitCount_0f7a4 45 = .ok (.iushr, 1) := by decide +kernel
theorem dJ6_bitCount_0f7a4_46 : decode cJ6_bitCount_0f7a4 46 = .ok (.iadd, 1) := by decide +kernel
theorem dJ6_bitCount_0f7a4_47 : decode cJ6_bitCount_0f7a4 47 = .ok (.istore_n 0, 1) := by decide +kernel
theorem dJ6_bitCount_0f7a4_48 : decode cJ6_bitCount_0f7a4 48 = .ok (.iload_n 0, 1) := by decide +kernel
theorem dJ6_bitCount_0f7a4_49 : decode cJ6_bitCount_0f7a4 49 = .ok (.bipush 63, 2) := by decide +kernel
theorem dJ6_bitCount_0f7a4_51 : decode cJ6_bitCount_0f7a4 51 = .ok (.iand, 1) := by decide +kernel
theorem dJ6_bitCount_0f7a4_52 : decode cJ6_bitCount_0f7a4 52 = .ok (.ireturn, 1) := by decide +kernel
theorem dJ9_abs_0f7a4_0 : decode cJ9_abs_0f7a4 0 = .ok (.iload_n 0, 1) := by decide +kernel
theorem dJ9_abs_0f7a4_1 : decode cJ9_abs_0f7a4 1 = .ok (.ifCond .ge 8, 3) := by decide +kernel
theorem dJ9_abs_0f7a4_4 : decode cJ9_abs_0f7a4 4 = .ok (.iload_n 0, 1) := by decide +kernel
theorem dJ9_abs_0f7a4_5 : decode cJ9_abs_0f7a4 5 = .ok (.ineg, 1) := by decide +kernel
theorem dJ9_abs_0f7a4_6 : decode cJ9_abs_0f7a4 6 = .ok (.goto 4, 3) := by decide +kernel
theorem dJ9_abs_0f7a4_9 : decode cJ9_abs_0f7a4 9 = .ok (.iload_n 0, 1) := by decide +kernel
theorem dJ9_abs_0f7a4_10 : decode cJ9_abs_0f7a4 10 = .ok (.ireturn, 1) := by decide +kernel
theorem dJ9_max_7cf53_0 : decode cJ9_max_7cf53 0 = .ok (.iload_n 0, 1) := by decide +kernel
theorem dJ9_max_7cf53_1 : decode cJ9_max_7cf53 1 = .ok (.iload_n 1, 1) := by decide +kernel
theorem dJ9_max_7cf53_2 : decode cJ9_max_7cf53 2 = .ok (.if_icmp .lt 7, 3) := by decide +kernel
theorem dJ9_max_7cf53_5 : decode cJ9_max_7cf53 5 = .ok (.iload_n 0, 1) := by decide +kernel
theorem dJ9_max_7cf53_6 : decode cJ9_max_7cf53 6 = .ok (.goto 4, 3) := by decide +kernel
theorem dJ9_max_7cf53_9 : decode cJ9_max_7cf53 9 = .ok (.iload_n 1, 1) := by decide +kernel
theorem dJ9_max_7cf53_10 : decode cJ9_max_7cf53 10 = .ok (.ireturn, 1) := by decide +kernel
theorem dJ9_max_f86c9_0 : decode cJ9_max_f86c9 0 = .ok (.lload_n 0, 1) := by decide +kernel
theorem dJ9_max_f86c9_1 : decode cJ9_max_f86c9 1 = .ok (.lload_n 2, 1) := by decide +kernel
theorem dJ9_max_f86c9_2 : decode cJ9_max_f86c9 2 = .ok (.lcmp, 1) := by decide +kernel
theorem dJ9_max_f86c9_3 : decode cJ9_max_f86c9 3 = .ok (.ifCond .lt 7, 3) := by decide +kernel
theorem dJ9_max_f86c9_6 : decode cJ9_max_f86c9 6 = .ok (.lload_n 0, 1) := by decide +kernel
theorem dJ9_max_f86c9_7 : decode cJ9_max_f86c9 7 = .ok (.goto 4, 3) := by decide +kernel
theorem dJ9_max_f86c9_10 : decode cJ9_max_f86c9 10 = .ok (.lload_n 2, 1) := by decide +kernel
theorem dJ9_max_f86c9_11 : decode cJ9_max_f86c9 11 = .ok (.lreturn, 1) := by decide +kernel
theorem dJ9_min_7cf53_0 : decode cJ9_min_7cf53 0 = .ok (.iload_n 0, 1) := by decide +kernel
theorem dJ9_min_7cf53_1 : decode cJ9_min_7cf53 1 = .ok (.iload_n 1, 1) := by decide +kernel
theorem dJ9_min_7cf53_2 : decode cJ9_min_7cf53 2 = .ok (.if_icmp .gt 7, 3) := by decide +kernel
theorem dJ9_min_7cf53_5 : decode cJ9_min_7cf53 5 = .ok (.iload_n 0, 1) := by decide +kernel
theorem dJ9_min_7cf53_6 : decode cJ9_min_7cf53 6 = .ok (.goto 4, 3) := by decide +kernel
theorem dJ9_min_7cf53_9 : decode cJ9_min_7cf53 9 = .ok (.iload_n 1, 1) := by decide +kernel
theorem dJ9_min_7cf53_10 : decode cJ9_min_7cf53 10 = .ok (.ireturn, 1) := by decide +kernel
theorem dJ0_length_8abf5_0 : decode cJ0_length_8abf5 0 = .ok (.aload_n 0, 1) := by decide +kernel
theorem dJ0_length_8abf5_1 : decode cJ0_length_8abf5 1 = .ok (.getfield 9, 3) := by decide +kernel
theorem dJ0_length_8abf5_4 : decode cJ0_length_8abf5 4 = .ok (.arraylength, 1) := by decide +kernel
theorem dJ0_length_8abf5_5 : decode cJ0_length_8abf5 5 = .ok (.aload_n 0, 1) := by decide +kernel
theorem dJ0_length_8abf5_6 : decode cJ0_length_8abf5 6 = .ok (.invokevirtual 335, 3) := by decide +kernel
theorem dJ0_length_8abf5_9 : decode cJ0_length_8abf5 9 = .ok (.ishr, 1) := by decide +kernel
theorem dJ0_length_8abf5_10 : decode cJ0_length_8abf5 10 = .ok (.ireturn, 1) := by decide +kernel
theorem dJ0_charAt_5068e_0 : decode cJ0_charAt_5068e 0 = .ok (.aload_n 0, 1) := by decide +kernel
theorem dJ0_charAt_5068e_1 : decode cJ0_charAt_5068e 1 = .ok (.invokevirtual 492, 3) := by decide +kernel
theorem dJ0_charAt_5068e_4 : decode cJ0_charAt_5068e 4 = .ok (.ifCond .eq 12, 3) := by decide +kernel
theorem dJ0_charAt_5068e_7 : decode cJ0_charAt_5068e 7 = .ok (.aload_n 0, 1) := by decide +kernel
theorem dJ0_charAt_5068e_8 : decode cJ0_charAt_5068e 8 = .ok (.getfield 9, 3) := by decide +kernel
theorem dJ0_charAt_5068e_11 : decode cJ0_charAt_5068e 11 = .ok (.iload_n 1, 1) := by decide +kernel
theorem dJ0_charAt_5068e_12 : decode cJ0_charAt_5068e 12 = .ok (.invokestatic 495, 3) := by decide +kernel
theorem dJ0_charAt_5068e_15 : decode cJ0_charAt_5068e 15 = .ok (.ireturn, 1) := by decide +kernel
theorem dJ0_charAt_5068e_16 : decode cJ0_charAt_5068e 16 = .ok (.aload_n 0, 1) := by decide +kernel
theorem dJ0_charAt_5068e_17 : decode cJ0_charAt_5068e 17 = .ok (.getfield 9, 3) := by decide +kernel
theorem dJ0_charAt_5068e_20 : decode cJ0_charAt_5068e 20 = .ok (.iload_n 1, 1) := by decide +kernel
theorem dJ0_charAt_5068e_21 : decode cJ0_charAt_5068e 21 = .ok (.invokestatic 498, 3) := by decide +kernel
theorem dJ0_charAt_5068e_24 : decode cJ0_charAt_5068e 24 = .ok (.ireturn, 1) := by decide +kernel
theorem dJ0_indexOf_0f7a4_0 : decode cJ0_indexOf_0f7a4 0 = .ok (.aload_n 0, 1) := by decide +kernel
theorem dJ0_indexOf_0f7a4_1 : decode cJ0_indexOf_0f7a4 1 = .ok (.iload_n 1, 1) := by decide +kernel
theorem dJ0_indexOf_0f7a4_2 : decode cJ0_indexOf_0f7a4 2 = .ok (.iconst 0, 1) := by decide +kernel
theorem dJ0_indexOf_0f7a4_3 : decode cJ0_indexOf_0f7a4 3 = .ok (.invokevirtual 633, 3) := by decide +kernel
theorem dJ0_indexOf_0f7a4_6 : decode cJ0_indexOf_0f7a4 6 = .ok (.ireturn, 1) := by decide +kernel
theorem dJ0_indexOf_7cf53_0 : decode cJ0_indexOf_7cf53 0 = .ok (.aload_n 0, 1) := by decide +kernel
theorem dJ0_indexOf_7cf53_1 : decode cJ0_indexOf_7cf53 1 = .ok (.invokevirtual 492, 3) := by decide +kernel
theorem dJ0_indexOf_7cf53_4 : decode cJ0_indexOf_7cf53 4 = .ok (.ifCond .eq 19, 3) := by decide +kernel
theorem dJ0_indexOf_7cf53_7 : decode cJ0_indexOf_7cf53 7 = .ok (.aload_n 0, 1) := by decide +kernel
theorem dJ0_indexOf_7cf53_8 : decode cJ0_indexOf_7cf53 8 = .ok (.getfield 9, 3) := by decide +kernel
theorem dJ0_indexOf_7cf53_11 : decode cJ0_indexOf_7cf53 11 = .ok (.iload_n 1, 1) := by decide +kernel
theorem dJ0_indexOf_7cf53_12 : decode cJ0_indexOf_7cf53 12 = .ok (.iload_n 2, 1) := by decide +kernel
theorem dJ0_indexOf_7cf53_13 : decode cJ0_indexOf_7cf53 13 = .ok (.aload_n 0, 1) := by decide +kernel
theorem dJ0_indexOf_7cf53_14 : decode cJ0_indexOf_7cf53 14 = .ok (.invokevirtual 505, 3) := by decide +kernel
theorem dJ0_indexOf_7cf53_17 : decode cJ0_indexOf_7cf53 17 = .ok (.invokestatic 637, 3) := by decide +kernel
theorem dJ0_indexOf_7cf53_20 : decode cJ0_indexOf_7cf53 20 = .ok (.goto 16, 3) := by decide +kernel
theorem dJ0_indexOf_7cf53_23 : decode cJ0_indexOf_7cf53 23 = .ok (.aload_n 0, 1) := by decide +kernel
theorem dJ0_indexOf_7cf53_24 : decode cJ0_indexOf_7cf53 24 = .ok (.getfield 9, 3) := by decide +kernel
theorem dJ0_indexOf_7cf53_27 : decode cJ0_indexOf_7cf53 27 = .ok (.iload_n 1, 1) := by decide +kernel
theorem dJ0_indexOf_7cf53_28 : decode cJ0_indexOf_7cf53 28 = .ok (.iload_n 2, 1) := by decide +kernel
theorem dJ0_indexOf_7cf53_29 : decode cJ0_indexOf_7cf53 29 = .ok (.aload_n 0, 1) := by decide +kernel
theorem dJ0_indexOf_7cf53_30 : decode cJ0_indexOf_7cf53 30 = .ok (.invokevirtual 505, 3) := by decide +kernel
theorem dJ0_indexOf_7cf53_33 : decode cJ0_indexOf_7cf53 33 = .ok (.invokestatic 640, 3) := by decide +kernel
theorem dJ0_indexOf_7cf53_36 : decode cJ0_indexOf_7cf53 36 = .ok (.ireturn, 1) := by decide +kernel
theorem dJ0_coder_7d493_0 : decode cJ0_coder_7d493 0 = .ok (.getstatic 38, 3) := by decide +kernel
theorem dJ0_coder_7d493_3 : decode cJ0_coder_7d493 3 = .ok (.ifCond .eq 10, 3) := by decide +kernel
theorem dJ0_coder_7d493_6 : decode cJ0_coder_7d493 6 = .ok (.aload_n 0, 1) := by decide +kernel
theorem dJ0_coder_7d493_7 : decode cJ0_coder_7d493 7 = .ok (.getfield 15, 3) := by decide +kernel
theorem dJ0_coder_7d493_10 : decode cJ0_coder_7d493 10 = .ok (.goto 4, 3) := by decide +kernel
theorem dJ0_coder_7d493_13 : decode cJ0_coder_7d493 13 = .ok (.iconst 1, 1) := by decide +kernel
theorem dJ0_coder_7d493_14 : decode cJ0_coder_7d493 14 = .ok (.ireturn, 1) := by decide +kernel
theorem dJ0_isLatin1_aae02_0 : decode cJ0_isLatin1_aae02 0 = .ok (.getstatic 38, 3) := by decide +kernel
theorem dJ0_isLatin1_aae02_3 : decode cJ0_isLatin1_aae02 3 = .ok (.ifCond .eq 14, 3) := by decide +kernel
theorem dJ0_isLatin1_aae02_6 : decode cJ0_isLatin1_aae02 6 = .ok (.aload_n 0, 1) := by decide +kernel
theorem dJ0_isLatin1_aae02_7 : decode cJ0_isLatin1_aae02 7 = .ok (.getfield 15, 3) := by decide +kernel
theorem dJ0_isLatin1_aae02_10 : decode cJ0_isLatin1_aae02 10 = .ok (.ifCond .ne 7, 3) := by decide +kernel
theorem dJ0_isLatin1_aae02_13 : decode cJ0_isLatin1_aae02 13 = .ok (.iconst 1, 1) := by decide +kernel
theorem dJ0_isLatin1_aae02_14 : decode cJ0_isLatin1_aae02 14 = .ok (.goto 4, 3) := by decide +kernel
theorem dJ0_isLatin1_aae02_17 : decode cJ0_isLatin1_aae02 17 = .ok (.iconst 0, 1) := by decide +kernel
theorem dJ0_isLatin1_aae02_18 : decode cJ0_isLatin1_aae02 18 = .ok (.ireturn, 1) := by decide +kernel
theorem dJ0_checkIndex_df160_0 : decode cJ0_checkIndex_df160 0 = .ok (.iload_n 0, 1) := by decide +kernel
theorem dJ0_checkIndex_df160_1 : decode cJ0_checkIndex_df160 1 = .ok (.iload_n 1, 1) := by decide +kernel
theorem dJ0_checkIndex_df160_2 : decode cJ0_checkIndex_df160 2 = .ok (.getstatic 1053, 3) := by decide +kernel
theorem dJ0_checkIndex_df160_5 : decode cJ0_checkIndex_df160 5 = .ok (.invokestatic 1059, 3) := by decide +kernel
theorem dJ0_checkIndex_df160_8 : decode cJ0_checkIndex_df160 8 = .ok (.pop, 1) := by decide +kernel
theorem dJ0_checkIndex_df160_9 : decode cJ0_checkIndex_df160 9 = .ok (.return_, 1) := by decide +kernel
theorem dJ0_checkBoundsBeginEnd_23922_0 : decode cJ0_checkBoundsBeginEnd_23922 0 = .ok (.iload_n 0, 1) := by decide +kernel
theorem dJ0_checkBoundsBeginEnd_23922_1 : decode cJ0_checkBoundsBeginEnd_23922 1 = .ok (.iload_n 1, 1) := by decide +kernel
theorem dJ0_checkBoundsBeginEnd_23922_2 : decode cJ0_checkBoundsBeginEnd_23922 2 = .ok (.iload_n 2, 1) := by decide +kernel
theorem dJ0_checkBoundsBeginEnd_23922_3 : decode cJ0_checkBoundsBeginEnd_23922 3 = .ok (.getstatic 1053, 3) := by decide +kernel
theorem dJ0_checkBoundsBeginEnd_23922_6 : decode cJ0_checkBoundsBeginEnd_23922 6 = .ok (.invokestatic 1062, 3) := by decide +kernel
theorem dJ0_checkBoundsBeginEnd_23922_9 : decode cJ0_checkBoundsBeginEnd_23922 9 = .ok (.pop, 1) := by decide +kernel
theorem dJ0_checkBoundsBeginEnd_23922_10 : decode cJ0_checkBoundsBeginEnd_23922 10 = .ok (.return_, 1) := by decide +kernel
theorem dJ1_charAt_3b067_0 : decode cJ1_charAt_3b067 0 = .ok (.iload_n 1, 1) := by decide +kernel
theorem dJ1_charAt_3b067_1 : decode cJ1_charAt_3b067 1 = .ok (.aload_n 0, 1) := by decide +kernel
theorem dJ1_charAt_3b067_2 : decode cJ1_charAt_3b067 2 = .ok (.arraylength, 1) := by decide +kernel
theorem dJ1_charAt_3b067_3 : decode cJ1_charAt_3b067 3 = .ok (.invokestatic 9, 3) := by decide +kernel
theorem dJ1_charAt_3b067_6 : decode cJ1_charAt_3b067 6 = .ok (.aload_n 0, 1) := by decide +kernel
theorem dJ1_charAt_3b067_7 : decode cJ1_charAt_3b067 7 = .ok (.iload_n 1, 1) := by decide +kernel
theorem dJ1_charAt_3b067_8 : decode cJ1_charAt_3b067 8 = .ok (.baload, 1) := by decide +kernel
theorem dJ1_charAt_3b067_9 : decode cJ1_charAt_3b067 9 = .ok (.sipush 255, 3) := by decide +kernel
theorem dJ1_charAt_3b067_12 : decode cJ1_charAt_3b067 12 = .ok (.iand, 1) := by decide +kernel
theorem dJ1_charAt_3b067_13 : decode cJ1_charAt_3b067 13 = .ok (.i2c, 1) := by decide +kernel
theorem dJ1_charAt_3b067_14 : decode cJ1_charAt_3b067 14 = .ok (.ireturn, 1) := by decide +kernel
theorem dJ1_canEncode_9a6ad_0 : decode cJ1_canEncode_9a6ad 0 = .ok (.iload_n 0, 1) := by decide +kernel
theorem dJ1_canEncode_9a6ad_1 : decode cJ1_canEncode_9a6ad 1 = .ok (.ifCond .lt 14, 3) := by decide +kernel
theorem dJ1_canEncode_9a6ad_4 : decode cJ1_canEncode_9a6ad 4 = .ok (.iload_n 0, 1) := by decide +kernel
theorem dJ1_canEncode_9a6ad_5 : decode cJ1_canEncode_9a6ad 5 = .ok (.sipush 255, 3) := by decide +kernel
theorem dJ1_canEncode_9a6ad_8 : decode cJ1_canEncode_9a6ad 8 = .ok (.if_icmp .gt 7, 3) := by decide +kernel
theorem dJ1_canEncode_9a6ad_11 : decode cJ1_canEncode_9a6ad 11 = .ok (.iconst 1, 1) := by decide +kernel
theorem dJ1_canEncode_9a6ad_12 : decode cJ1_canEncode_9a6ad 12 = .ok (.goto 4, 3) := by decide +kernel
theorem dJ1_canEncode_9a6ad_15 : decode cJ1_canEncode_9a6ad 15 = .ok (.iconst 0, 1) := by decide +kernel
theorem dJ1_canEncode_9a6ad_16 : decode cJ1_canEncode_9a6ad 16 = .ok (.ireturn, 1) := by decide +kernel
theorem dJ1_indexOf_4cfef_0 : decode cJ1_indexOf_4cfef 0 = .ok (.iload_n 1, 1) := by decide +kernel
theorem dJ1_indexOf_4cfef_1 : decode cJ1_indexOf_4cfef 1 = .ok (.invokestatic 88, 3) := by decide +kernel
theorem dJ1_indexOf_4cfef_4 : decode cJ1_indexOf_4cfef 4 = .ok (.ifCond .ne 5, 3) := by decide +kernel
theorem dJ1_indexOf_4cfef_7 : decode cJ1_indexOf_4cfef 7 = .ok (.iconst (-1), 1) := by decide +kernel
theorem dJ1_indexOf_4cfef_8 : decode cJ1_indexOf_4cfef 8 = .ok (.ireturn, 1) := by decide +kernel
theorem dJ1_indexOf_4cfef_9 : decode cJ1_indexOf_4cfef 9 = .ok (.iload_n 2, 1) := by decide +kernel
theorem dJ1_indexOf_4cfef_10 : decode cJ1_indexOf_4cfef 10 = .ok (.iconst 0, 1) := by decide +kernel
theorem dJ1_indexOf_4cfef_11 : decode cJ1_indexOf_4cfef 11 = .ok (.invokestatic 92, 3) := by decide +kernel
theorem dJ1_indexOf_4cfef_14 : decode cJ1_indexOf_4cfef 14 = .ok (.istore_n 2, 1) := by decide +kernel
theorem dJ1_indexOf_4cfef_15 : decode cJ1_indexOf_4cfef 15 = .ok (.iload_n 3, 1) := by decide +kernel
theorem dJ1_indexOf_4cfef_16 : decode cJ1_indexOf_4cfef 16 = .ok (.aload_n 0, 1) := by decide +kernel
theorem dJ1_indexOf_4cfef_17 : decode cJ1_indexOf_4cfef 17 = .ok (.arraylength, 1) := by decide +kernel
theorem dJ1_indexOf_4cfef_18 : decode cJ1_indexOf_4cfef 18 = .ok (.invokestatic 38, 3) := by decide +kernel
theorem dJ1_indexOf_4cfef_21 : decode cJ1_indexOf_4cfef 21 = .ok (.istore_n 3, 1) := by decide +kernel
theorem dJ1_indexOf_4cfef_22 : decode cJ1_indexOf_4cfef 22 = .ok (.iload_n 2, 1) := by decide +kernel
theorem dJ1_indexOf_4cfef_23 : decode cJ1_indexOf_4cfef 23 = .ok (.iload_n 3, 1) := by decide +kernel
theorem dJ1_indexOf_4cfef_24 : decode cJ1_indexOf_4cfef 24 = .ok (.if_icmp .lt 5, 3) := by decide +kernel
theorem dJ1_indexOf_4cfef_27 : decode cJ1_indexOf_4cfef 27 = .ok (.iconst (-1), 1) := by decide +kernel
theorem dJ1_indexOf_4cfef_28 : decode cJ1_indexOf_4cfef 28 = .ok (.ireturn, 1) := by decide +kernel
theorem dJ1_indexOf_4cfef_29 : decode cJ1_indexOf_4cfef 29 = .ok (.aload_n 0, 1) := by decide +kernel
theorem dJ1_indexOf_4cfef_30 : decode cJ1_indexOf_4cfef 30 = .ok (.iload_n 1, 1) := by decide +kernel
theorem dJ1_indexOf_4cfef_31 : decode cJ1_indexOf_4cfef 31 = .ok (.iload_n 2, 1) := by decide +kernel
theorem dJ1_indexOf_4cfef_32 : decode cJ1_indexOf_4cfef 32 = .ok (.iload_n 3, 1) := by decide +kernel
theorem dJ1_indexOf_4cfef_33 : decode cJ1_indexOf_4cfef 33 = .ok (.invokestatic 95, 3) := by decide +kernel
theorem dJ1_indexOf_4cfef_36 : decode cJ1_indexOf_4cfef 36 = .ok (.ireturn, 1) := by decide +kernel
theorem dJ1_indexOfChar_4cfef_0 : decode cJ1_indexOfChar_4cfef 0 = .ok (.iload_n 1, 1) := by decide +kernel
theorem dJ1_indexOfChar_4cfef_1 : decode cJ1_indexOfChar_4cfef 1 = .ok (.i2b, 1) := by decide +kernel
theorem dJ1_indexOfChar_4cfef_2 : decode cJ1_indexOfChar_4cfef 2 = .ok (.istore 4, 2) := by decide +kernel
theorem dJ1_indexOfChar_4cfef_4 : decode cJ1_indexOfChar_4cfef 4 = .ok (.iload_n 2, 1) := by decide +kernel
theorem dJ1_indexOfChar_4cfef_5 : decode cJ1_indexOfChar_4cfef 5 = .ok (.istore 5, 2) := by decide +kernel
theorem dJ1_indexOfChar_4cfef_7 : decode cJ1_indexOfChar_4cfef 7 = .ok (.iload 5, 2) := by decide +kernel
theorem dJ1_indexOfChar_4cfef_9 : decode cJ1_indexOfChar_4cfef 9 = .ok (.iload_n 3, 1) := by decide +kernel
theorem dJ1_indexOfChar_4cfef_10 : decode cJ1_indexOfChar_4cfef 10 = .ok (.if_icmp .ge 21, 3) := by decide +kernel
theorem dJ1_indexOfChar_4cfef_13 : decode cJ1_indexOfChar_4cfef 13 = .ok (.aload_n 0, 1) := by decide +kernel
theorem dJ1_indexOfChar_4cfef_14 : decode cJ1_indexOfChar_4cfef 14 = .ok (.iload 5, 2) := by decide +kernel
theorem dJ1_indexOfChar_4cfef_16 : decode cJ1_indexOfChar_4cfef 16 = .ok (.baload, 1) := by decide +kernel
theorem dJ1_indexOfChar_4cfef_17 : decode cJ1_indexOfChar_4cfef 17 = .ok (.iload 4, 2) := by decide +kernel
theorem dJ1_indexOfChar_4cfef_19 : decode cJ1_indexOfChar_4cfef 19 = .ok (.if_icmp .ne 6, 3) := by decide +kernel
theorem dJ1_indexOfChar_4cfef_22 : decode cJ1_indexOfChar_4cfef 22 = .ok (.iload 5, 2) := by decide +kernel
theorem dJ1_indexOfChar_4cfef_24 : decode cJ1_indexOfChar_4cfef 24 = .ok (.ireturn, 1) := by decide +kernel
theorem dJ1_indexOfChar_4cfef_25 : decode cJ1_indexOfChar_4cfef 25 = .ok (.iinc 5 1, 3) := by decide +kernel
theorem dJ1_indexOfChar_4cfef_28 : decode cJ1_indexOfChar_4cfef 28 = .ok (.goto (-21), 3) := by decide +kernel
theorem dJ1_indexOfChar_4cfef_31 : decode cJ1_indexOfChar_4cfef 31 = .ok (.iconst (-1), 1) := by decide +kernel
theorem dJ1_indexOfChar_4cfef_32 : decode cJ1_indexOfChar_4cfef 32 = .ok (.ireturn, 1) := by decide +kernel
theorem dJ2_getChar_3b067_0 : decode cJ2_getChar_3b067 0 = .ok (.getstatic 44, 3) := by decide +kernel
theorem dJ2_getChar_3b067_3 : decode cJ2_getChar_3b067 3 = .ok (.ifCond .ne 25, 3) := by decide +kernel
theorem dJ2_getChar_3b067_6 : decode cJ2_getChar_3b067 6 = .ok (.iload_n 1, 1) := by decide +kernel
theorem dJ2_getChar_3b067_7 : decode cJ2_getChar_3b067 7 = .ok (.ifCond .lt 11, 3) := by decide +kernel
theorem dJ2_getChar_3b067_10 : decode cJ2_getChar_3b067 10 = .ok (.iload_n 1, 1) := by decide +kernel
theorem dJ2_getChar_3b067_11 : decode cJ2_getChar_3b067 11 = .ok (.aload_n 0, 1) := by decide +kernel
theorem dJ2_getChar_3b067_12 : decode cJ2_getChar_3b067 12 = .ok (.invokestatic 48, 3) := by decide +kernel
theorem dJ2_getChar_3b067_15 : decode cJ2_getChar_3b067 15 = .ok (.if_icmp .lt 13, 3) := by decide +kernel
theorem dJ2_getChar_3b067_18 : decode cJ2_getChar_3b067 18 = .ok (.new 52, 3) := by decide +kernel
theorem dJ2_getChar_3b067_21 : decode cJ2_getChar_3b067 21 = .ok (.dup, 1) := by decide +kernel
theorem dJ2_getChar_3b067_22 : decode cJ2_getChar_3b067 22 = .ok (.ldc 54, 2) := by decide +kernel
theorem dJ2_getChar_3b067_24 : decode cJ2_getChar_3b067 24 = .ok (.invokespecial 56, 3) := by decide +kernel
theorem dJ2_getChar_3b067_27 : decode cJ2_getChar_3b067 27 = .ok (.athrow, 1) := by decide +kernel
theorem dJ2_getChar_3b067_28 : decode cJ2_getChar_3b067 28 = .ok (.iload_n 1, 1) := by decide +kernel
theorem dJ2_getChar_3b067_29 : decode cJ2_getChar_3b067 29 = .ok (.iconst 1, 1) := by decide +kernel
theorem dJ2_getChar_3b067_30 : decode cJ2_getChar_3b067 30 = .ok (.ishl, 1) := by decide +kernel
theorem dJ2_getChar_3b067_31 : decode cJ2_getChar_3b067 31 = .ok (.istore_n 1, 1) := by decide +kernel
theorem dJ2_getChar_3b067_32 : decode cJ2_getChar_3b067 32 = .ok (.aload_n 0, 1) := by decide +kernel
theorem dJ2_getChar_3b067_33 : decode cJ2_getChar_3b067 33 = .ok (.iload_n 1, 1) := by decide +kernel
theorem dJ2_getChar_3b067_34 : decode cJ2_getChar_3b067 34 = .ok (.iinc 1 1, 3) := by decide +kernel
theorem dJ2_getChar_3b067_37 : decode cJ2_getChar_3b067 37 = .ok (.baload, 1) := by decide +kernel
theorem dJ2_getChar_3b067_38 : decode cJ2_getChar_3b067 38 = .ok (.sipush 255, 3) := by decide +kernel
theorem dJ2_getChar_3b067_41 : decode cJ2_getChar_3b067 41 = .ok (.iand, 1) := by decide +kernel
theorem dJ2_getChar_3b067_42 : decode cJ2_getChar_3b067 42 = .ok (.getstatic 59, 3) := by decide +kernel
theorem dJ2_getChar_3b067_45 : decode cJ2_getChar_3b067 45 = .ok (.ishl, 1) := by decide +kernel
theorem dJ2_getChar_3b067_46 : decode cJ2_getChar_3b067 46 = .ok (.aload_n 0, 1) := by decide +kernel
theorem dJ2_getChar_3b067_47 : decode cJ2_getChar_3b067 47 = .ok (.iload_n 1, 1) := by decide +kernel
theorem dJ2_getChar_3b067_48 : decode cJ2_getChar_3b067 48 = .ok (.baload, 1) := by decide +kernel
theorem dJ2_getChar_3b067_49 : decode cJ2_getChar_3b067 49 = .ok (.sipush 255, 3) := by decide +kernel
theorem dJ2_getChar_3b067_52 : decode cJ2_getChar_3b067 52 = .ok (.iand, 1) := by decide +kernel
theorem dJ2_getChar_3b067_53 : decode cJ2_getChar_3b067 53 = .ok (.getstatic 63, 3) := by decide +kernel
theorem dJ2_getChar_3b067_56 : decode cJ2_getChar_3b067 56 = .ok (.ishl, 1) := by decide +kernel
theorem dJ2_getChar_3b067_57 : decode cJ2_getChar_3b067 57 = .ok (.ior, 1) := by decide +kernel
theorem dJ2_getChar_3b067_58 : decode cJ2_getChar_3b067 58 = .ok (.i2c, 1) := by decide +kernel
theorem dJ2_getChar_3b067_59 : decode cJ2_getChar_3b067 59 = .ok (.ireturn, 1) := by decide +kernel
theorem dJ2_length_9d52b_0 : decode cJ2_length_9d52b 0 = .ok (.aload_n 0, 1) := by decide +kernel
theorem dJ2_length_9d52b_1 : decode cJ2_length_9d52b 1 = .ok (.arraylength, 1) := by decide +kernel
theorem dJ2_length_9d52b_2 : decode cJ2_length_9d52b 2 = .ok (.iconst 1, 1) := by decide +kernel
theorem dJ2_length_9d52b_3 : decode cJ2_length_9d52b 3 = .ok (.ishr, 1) := by decide +kernel
theorem dJ2_length_9d52b_4 : decode cJ2_length_9d52b 4 = .ok (.ireturn, 1) := by decide +kernel
theorem dJ2_indexOf_4cfef_0 : decode cJ2_indexOf_4cfef 0 = .ok (.iload_n 2, 1) := by decide +kernel
theorem dJ2_indexOf_4cfef_1 : decode cJ2_indexOf_4cfef 1 = .ok (.iconst 0, 1) := by decide +kernel
theorem dJ2_indexOf_4cfef_2 : decode cJ2_indexOf_4cfef 2 = .ok (.invokestatic 224, 3) := by decide +kernel
theorem dJ2_indexOf_4cfef_5 : decode cJ2_indexOf_4cfef 5 = .ok (.istore_n 2, 1) := by decide +kernel
theorem dJ2_indexOf_4cfef_6 : decode cJ2_indexOf_4cfef 6 = .ok (.iload_n 3, 1) := by decide +kernel
theorem dJ2_indexOf_4cfef_7 : decode cJ2_indexOf_4cfef 7 = .ok (.aload_n 0, 1) := by decide +kernel
theorem dJ2_indexOf_4cfef_8 : decode cJ2_indexOf_4cfef 8 = .ok (.arraylength, 1) := by decide +kernel
theorem dJ2_indexOf_4cfef_9 : decode cJ2_indexOf_4cfef 9 = .ok (.iconst 1, 1) := by decide +kernel
theorem dJ2_indexOf_4cfef_10 : decode cJ2_indexOf_4cfef 10 = .ok (.ishr, 1) := by decide +kernel
theorem dJ2_indexOf_4cfef_11 : decode cJ2_indexOf_4cfef 11 = .ok (.invokestatic 183, 3) := by decide +kernel
theorem dJ2_indexOf_4cfef_14 : decode cJ2_indexOf_4cfef 14 = .ok (.istore_n 3, 1) := by decide +kernel
theorem dJ2_indexOf_4cfef_15 : decode cJ2_indexOf_4cfef 15 = .ok (.iload_n 2, 1) := by decide +kernel
theorem dJ2_indexOf_4cfef_16 : decode cJ2_indexOf_4cfef 16 = .ok (.iload_n 3, 1) := by decide +kernel
theorem dJ2_indexOf_4cfef_17 : decode cJ2_indexOf_4cfef 17 = .ok (.if_icmp .lt 5, 3) := by decide +kernel
theorem dJ2_indexOf_4cfef_20 : decode cJ2_indexOf_4cfef 20 = .ok (.iconst (-1), 1) := by decide +kernel
theorem dJ2_indexOf_4cfef_21 : decode cJ2_indexOf_4cfef 21 = .ok (.ireturn, 1) := by decide +kernel
theorem dJ2_indexOf_4cfef_22 : decode cJ2_indexOf_4cfef 22 = .ok (.iload_n 1, 1) := by decide +kernel
theorem dJ2_indexOf_4cfef_23 : decode cJ2_indexOf_4cfef 23 = .ok (.ldc 227, 2) := by decide +kernel
theorem dJ2_indexOf_4cfef_25 : decode cJ2_indexOf_4cfef 25 = .ok (.if_icmp .ge 11, 3) := by decide +kernel
theorem dJ2_indexOf_4cfef_28 : decode cJ2_indexOf_4cfef 28 = .ok (.aload_n 0, 1) := by decide +kernel
theorem dJ2_indexOf_4cfef_29 : decode cJ2_indexOf_4cfef 29 = .ok (.iload_n 1, 1) := by decide +kernel
theorem dJ2_indexOf_4cfef_30 : decode cJ2_indexOf_4cfef 30 = .ok (.iload_n 2, 1) := by decide +kernel
theorem dJ2_indexOf_4cfef_31 : decode cJ2_indexOf_4cfef 31 = .ok (.iload_n 3, 1) := by decide +kernel
theorem dJ2_indexOf_4cfef_32 : decode cJ2_indexOf_4cfef 32 = .ok (.invokestatic 228, 3) := by decide +kernel
theorem dJ2_indexOf_4cfef_35 : decode cJ2_indexOf_4cfef 35 = .ok (.ireturn, 1) := by decide +kernel
theorem dJ2_indexOf_4cfef_36 : decode cJ2_indexOf_4cfef 36 = .ok (.aload_n 0, 1) := by decide +kernel
theorem dJ2_indexOf_4cfef_37 : decode cJ2_indexOf_4cfef 37 = .ok (.iload_n 1, 1) := by decide +kernel
theorem dJ2_indexOf_4cfef_38 : decode cJ2_indexOf_4cfef 38 = .ok (.iload_n 2, 1) := by decide +kernel
theorem dJ2_indexOf_4cfef_39 : decode cJ2_indexOf_4cfef 39 = .ok (.iload_n 3, 1) := by decide +kernel
theorem dJ2_indexOf_4cfef_40 : decode cJ2_indexOf_4cfef 40 = .ok (.invokestatic 232, 3) := by decide +kernel
theorem dJ2_indexOf_4cfef_43 : decode cJ2_indexOf_4cfef 43 = .ok (.ireturn, 1) := by decide +kernel
theorem dJ2_indexOfChar_4cfef_0 : decode cJ2_indexOfChar_4cfef 0 = .ok (.iload_n 2, 1) := by decide +kernel
theorem dJ2_indexOfChar_4cfef_1 : decode cJ2_indexOfChar_4cfef 1 = .ok (.iload_n 3, 1) := by decide +kernel
theorem dJ2_indexOfChar_4cfef_2 : decode cJ2_indexOfChar_4cfef 2 = .ok (.aload_n 0, 1) := by decide +kernel
theorem dJ2_indexOfChar_4cfef_3 : decode cJ2_indexOfChar_4cfef 3 = .ok (.invokestatic 96, 3) := by decide +kernel
theorem dJ2_indexOfChar_4cfef_6 : decode cJ2_indexOfChar_4cfef 6 = .ok (.aload_n 0, 1) := by decide +kernel
theorem dJ2_indexOfChar_4cfef_7 : decode cJ2_indexOfChar_4cfef 7 = .ok (.iload_n 1, 1) := by decide +kernel
theorem dJ2_indexOfChar_4cfef_8 : decode cJ2_indexOfChar_4cfef 8 = .ok (.iload_n 2, 1) := by decide +kernel
theorem dJ2_indexOfChar_4cfef_9 : decode cJ2_indexOfChar_4cfef 9 = .ok (.iload_n 3, 1) := by decide +kernel
theorem dJ2_indexOfChar_4cfef_10 : decode cJ2_indexOfChar_4cfef 10 = .ok (.invokestatic 244, 3) := by decide +kernel
theorem dJ2_indexOfChar_4cfef_13 : decode cJ2_indexOfChar_4cfef 13 = .ok (.ireturn, 1) := by decide +kernel
theorem dJ2_indexOfCharUnsafe_4cfef_0 : decode cJ2_indexOfCharUnsafe_4cfef 0 = .ok (.iload_n 2, 1) := by decide +kernel
theorem dJ2_indexOfCharUnsafe_4cfef_1 : decode cJ2_indexOfCharUnsafe_4cfef 1 = .ok (.istore 4, 2) := by decide +kernel
theorem dJ2_indexOfCharUnsafe_4cfef_3 : decode cJ2_indexOfCharUnsafe_4cfef 3 = .ok (.iload 4, 2) := by decide +kernel
theorem dJ2_indexOfCharUnsafe_4cfef_5 : decode cJ2_indexOfCharUnsafe_4cfef 5 = .ok (.iload_n 3, 1) := by decide +kernel
theorem dJ2_indexOfCharUnsafe_4cfef_6 : decode cJ2_indexOfCharUnsafe_4cfef 6 = .ok (.if_icmp .ge 22, 3) := by decide +kernel
theorem dJ2_indexOfCharUnsafe_4cfef_9 : decode cJ2_indexOfCharUnsafe_4cfef 9 = .ok (.aload_n 0, 1) := by decide +kernel
theorem dJ2_indexOfCharUnsafe_4cfef_10 : decode cJ2_indexOfCharUnsafe_4cfef 10 = .ok (.iload 4, 2) := by decide +kernel
theorem dJ2_indexOfCharUnsafe_4cfef_12 : decode cJ2_indexOfCharUnsafe_4cfef 12 = .ok (.invokestatic 71, 3) := by decide +kernel
theorem dJ2_indexOfCharUnsafe_4cfef_15 : decode cJ2_indexOfCharUnsafe_4cfef 15 = .ok (.iload_n 1, 1) := by decide +kernel
theorem dJ2_indexOfCharUnsafe_4cfef_16 : decode cJ2_indexOfCharUnsafe_4cfef 16 = .ok (.if_icmp .ne 6, 3) := by decide +kernel
theorem dJ2_indexOfCharUnsafe_4cfef_19 : decode cJ2_indexOfCharUnsafe_4cfef 19 = .ok (.iload 4, 2) := by decide +kernel
theorem dJ2_indexOfCharUnsafe_4cfef_21 : decode cJ2_indexOfCharUnsafe_4cfef 21 = .ok (.ireturn, 1) := by decide +kernel
theorem dJ2_indexOfCharUnsafe_4cfef_22 : decode cJ2_indexOfCharUnsafe_4cfef 22 = .ok (.iinc 4 1, 3) := by decide +kernel
theorem dJ2_indexOfCharUnsafe_4cfef_25 : decode cJ2_indexOfCharUnsafe_4cfef 25 = .ok (.goto (-22), 3) := by decide +kernel
theorem dJ2_indexOfCharUnsafe_4cfef_28 : decode cJ2_indexOfCharUnsafe_4cfef 28 = .ok (.iconst (-1), 1) := by decide +kernel
theorem dJ2_indexOfCharUnsafe_4cfef_29 : decode cJ2_indexOfCharUnsafe_4cfef 29 = .ok (.ireturn, 1) := by decide +kernel
theorem dJ2_indexOfSupplementary_4cfef_0 : decode cJ2_indexOfSupplementary_4cfef 0 = .ok (.iload_n 1, 1) := by decide +kernel
theorem dJ2_indexOfSupplementary_4cfef_1 : decode cJ2_indexOfSupplementary_4cfef 1 = .ok (.invokestatic 164, 3) := by decide +kernel
theorem dJ2_indexOfSupplementary_4cfef_4 : decode cJ2_indexOfSupplementary_4cfef 4 = .ok (.ifCond .eq 65, 3) := by decide +kernel
theorem dJ2_indexOfSupplementary_4cfef_7 : decode cJ2_indexOfSupplementary_4cfef 7 = .ok (.iload_n 1, 1) := by decide +kernel
theorem dJ2_indexOfSupplementary_4cfef_8 : decode cJ2_indexOfSupplementary_4cfef 8 = .ok (.invokestatic 157, 3) := by decide +kernel
theorem dJ2_indexOfSupplementary_4cfef_11 : decode cJ2_indexOfSupplementary_4cfef 11 = .ok (.istore 4, 2) := by decide +kernel
theorem dJ2_indexOfSupplementary_4cfef_13 : decode cJ2_indexOfSupplementary_4cfef 13 = .ok (.iload_n 1, 1) := by decide +kernel
theorem dJ2_indexOfSupplementary_4cfef_14 : decode cJ2_indexOfSupplementary_4cfef 14 = .ok (.invokestatic 161, 3) := by decide +kernel
theorem dJ2_indexOfSupplementary_4cfef_17 : decode cJ2_indexOfSupplementary_4cfef 17 = .ok (.istore 5, 2) := by decide +kernel
theorem dJ2_indexOfSupplementary_4cfef_19 : decode cJ2_indexOfSupplementary_4cfef 19 = .ok (.iload_n 2, 1) := by decide +kernel
theorem dJ2_indexOfSupplementary_4cfef_20 : decode cJ2_indexOfSupplementary_4cfef 20 = .ok (.iload_n 3, 1) := by decide +kernel
theorem dJ2_indexOfSupplementary_4cfef_21 : decode cJ2_indexOfSupplementary_4cfef 21 = .ok (.aload_n 0, 1) := by decide +kernel
theorem dJ2_indexOfSupplementary_4cfef_22 : decode cJ2_indexOfSupplementary_4cfef 22 = .ok (.invokestatic 96, 3) := by decide +kernel
theorem dJ2_indexOfSupplementary_4cfef_25 : decode cJ2_indexOfSupplementary_4cfef 25 = .ok (.iload_n 2, 1) := by decide +kernel
theorem dJ2_indexOfSupplementary_4cfef_26 : decode cJ2_indexOfSupplementary_4cfef 26 = .ok (.istore 6, 2) := by decide +kernel
theorem dJ2_indexOfSupplementary_4cfef_28 : decode cJ2_indexOfSupplementary_4cfef 28 = .ok (.iload 6, 2) := by decide +kernel
theorem dJ2_indexOfSupplementary_4cfef_30 : decode cJ2_indexOfSupplementary_4cfef 30 = .ok (.iload_n 3, 1) := by decide +kernel
theorem dJ2_indexOfSupplementary_4cfef_31 : decode cJ2_indexOfSupplementary_4cfef 31 = .ok (.iconst 1, 1) := by decide +kernel
theorem dJ2_indexOfSupplementary_4cfef_32 : decode cJ2_indexOfSupplementary_4cfef 32 = .ok (.isub, 1) := by decide +kernel
theorem dJ2_indexOfSupplementary_4cfef_33 : decode cJ2_indexOfSupplementary_4cfef 33 = .ok (.if_icmp .ge 36, 3) := by decide +kernel
theorem dJ2_indexOfSupplementary_4cfef_36 : decode cJ2_indexOfSupplementary_4cfef 36 = .ok (.aload_n 0, 1) := by decide +kernel
theorem dJ2_indexOfSupplementary_4cfef_37 : decode cJ2_indexOfSupplementary_4cfef 37 = .ok (.iload 6, 2) := by decide +kernel
theorem dJ2_indexOfSupplementary_4cfef_39 : decode cJ2_indexOfSupplementary_4cfef 39 = .ok (.invokestatic 71, 3) := by decide +kernel
theorem dJ2_indexOfSupplementary_4cfef_42 : decode cJ2_indexOfSupplementary_4cfef 42 = .ok (.iload 4, 2) := by decide +kernel
theorem dJ2_indexOfSupplementary_4cfef_44 : decode cJ2_indexOfSupplementary_4cfef 44 = .ok (.if_icmp .ne 19, 3) := by decide +kernel
theorem dJ2_indexOfSupplementary_4cfef_47 : decode cJ2_indexOfSupplementary_4cfef 47 = .ok (.aload_n 0, 1) := by decide +kernel
theorem dJ2_indexOfSupplementary_4cfef_48 : decode cJ2_indexOfSupplementary_4cfef 48 = .ok (.iload 6, 2) := by decide +kernel
theorem dJ2_indexOfSupplementary_4cfef_50 : decode cJ2_indexOfSupplementary_4cfef 50 = .ok (.iconst 1, 1) := by decide +kernel
theorem dJ2_indexOfSupplementary_4cfef_51 : decode cJ2_indexOfSupplementary_4cfef 51 = .ok (.iadd, 1) := by decide +kernel
theorem dJ2_indexOfSupplementary_4cfef_52 : decode cJ2_indexOfSupplementary_4cfef 52 = .ok (.invokestatic 71, 3) := by decide +kernel
theorem dJ2_indexOfSupplementary_4cfef_55 : decode cJ2_indexOfSupplementary_4cfef 55 = .ok (.iload 5, 2) := by decide +kernel
theorem dJ2_indexOfSupplementary_4cfef_57 : decode cJ2_indexOfSupplementary_4cfef 57 = .ok (.if_icmp .ne 6, 3) := by decide +kernel
theorem dJ2_indexOfSupplementary_4cfef_60 : decode cJ2_indexOfSupplementary_4cfef 60 = .ok (.iload 6, 2) := by decide +kernel
theorem dJ2_indexOfSupplementary_4cfef_62 : decode cJ2_indexOfSupplementary_4cfef 62 = .ok (.ireturn, 1) := by decide +kernel
theorem dJ2_indexOfSupplementary_4cfef_63 : decode cJ2_indexOfSupplementary_4cfef 63 = .ok (.iinc 6 1, 3) := by decide +kernel
theorem dJ2_indexOfSupplementary_4cfef_66 : decode cJ2_indexOfSupplementary_4cfef 66 = .ok (.goto (-38), 3) := by decide +kernel
theorem dJ2_indexOfSupplementary_4cfef_69 : decode cJ2_indexOfSupplementary_4cfef 69 = .ok (.iconst (-1), 1) := by decide +kernel
theorem dJ2_indexOfSupplementary_4cfef_70 : decode cJ2_indexOfSupplementary_4cfef 70 = .ok (.ireturn, 1) := by decide +kernel
theorem dJ2_charAt_3b067_0 : decode cJ2_charAt_3b067 0 = .ok (.iload_n 1, 1) := by decide +kernel
theorem dJ2_charAt_3b067_1 : decode cJ2_charAt_3b067 1 = .ok (.aload_n 0, 1) := by decide +kernel
theorem dJ2_charAt_3b067_2 : decode cJ2_charAt_3b067 2 = .ok (.invokestatic 67, 3) := by decide +kernel
theorem dJ2_charAt_3b067_5 : decode cJ2_charAt_3b067 5 = .ok (.aload_n 0, 1) := by decide +kernel
theorem dJ2_charAt_3b067_6 : decode cJ2_charAt_3b067 6 = .ok (.iload_n 1, 1) := by decide +kernel
theorem dJ2_charAt_3b067_7 : decode cJ2_charAt_3b067 7 = .ok (.invokestatic 71, 3) := by decide +kernel
theorem dJ2_charAt_3b067_10 : decode cJ2_charAt_3b067 10 = .ok (.ireturn, 1) := by decide +kernel
theorem dJ2_checkIndex_2214a_0 : decode cJ2_checkIndex_2214a 0 = .ok (.iload_n 0, 1) := by decide +kernel
theorem dJ2_checkIndex_2214a_1 : decode cJ2_checkIndex_2214a 1 = .ok (.aload_n 1, 1) := by decide +kernel
theorem dJ2_checkIndex_2214a_2 : decode cJ2_checkIndex_2214a 2 = .ok (.invokestatic 48, 3) := by decide +kernel
theorem dJ2_checkIndex_2214a_5 : decode cJ2_checkIndex_2214a 5 = .ok (.invokestatic 414, 3) := by decide +kernel
theorem dJ2_checkIndex_2214a_8 : decode cJ2_checkIndex_2214a 8 = .ok (.return_, 1) := by decide +kernel
theorem dJ2_checkBoundsBeginEnd_d044e_0 : decode cJ2_checkBoundsBeginEnd_d044e 0 = .ok (.iload_n 0, 1) := by decide +kernel
theorem dJ2_checkBoundsBeginEnd_d044e_1 : decode cJ2_checkBoundsBeginEnd_d044e 1 = .ok (.iload_n 1, 1) := by decide +kernel
theorem dJ2_checkBoundsBeginEnd_d044e_2 : decode cJ2_checkBoundsBeginEnd_d044e 2 = .ok (.aload_n 2, 1) := by decide +kernel
theorem dJ2_checkBoundsBeginEnd_d044e_3 : decode cJ2_checkBoundsBeginEnd_d044e 3 = .ok (.invokestatic 48, 3) := by decide +kernel
theorem dJ2_checkBoundsBeginEnd_d044e_6 : decode cJ2_checkBoundsBeginEnd_d044e 6 = .ok (.invokestatic 241, 3) := by decide +kernel
theorem dJ2_checkBoundsBeginEnd_d044e_9 : decode cJ2_checkBoundsBeginEnd_d044e 9 = .ok (.return_, 1) := by decide +kernel
theorem dJ7_fill_53178_0 : decode cJ7_fill_53178 0 = .ok (.iconst 0, 1) := by decide +kernel
theorem dJ7_fill_53178_1 : decode cJ7_fill_53178 1 = .ok (.istore_n 2, 1) := by decide +kernel
theorem dJ7_fill_53178_2 : decode cJ7_fill_53178 2 = .ok (.aload_n 0, 1) := by decide +kernel
theorem dJ7_fill_53178_3 : decode cJ7_fill_53178 3 = .ok (.arraylength, 1) := by decide +kernel
theorem dJ7_fill_53178_4 : decode cJ7_fill_53178 4 = .ok (.istore_n 3, 1) := by decide +kernel
theorem dJ7_fill_53178_5 : decode cJ7_fill_53178 5 = .ok (.iload_n 2, 1) := by decide +kernel
theorem dJ7_fill_53178_6 : decode cJ7_fill_53178 6 = .ok (.iload_n 3, 1) := by decide +kernel
theorem dJ7_fill_53178_7 : decode cJ7_fill_53178 7 = .ok (.if_icmp .ge 13, 3) := by decide +kernel
theorem dJ7_fill_53178_10 : decode cJ7_fill_53178 10 = .ok (.aload_n 0, 1) := by decide +kernel
theorem dJ7_fill_53178_11 : decode cJ7_fill_53178 11 = .ok (.iload_n 2, 1) := by decide +kernel
theorem dJ7_fill_53178_12 : decode cJ7_fill_53178 12 = .ok (.iload_n 1, 1) := by decide +kernel
theorem dJ7_fill_53178_13 : decode cJ7_fill_53178 13 = .ok (.iastore, 1) := by decide +kernel
theorem dJ7_fill_53178_14 : decode cJ7_fill_53178 14 = .ok (.iinc 2 1, 3) := by decide +kernel
theorem dJ7_fill_53178_17 : decode cJ7_fill_53178 17 = .ok (.goto (-12), 3) := by decide +kernel
theorem dJ7_fill_53178_20 : decode cJ7_fill_53178 20 = .ok (.return_, 1) := by decide +kernel
theorem dJ3_checkIndex_8e157_0 : decode cJ3_checkIndex_8e157 0 = .ok (.iload_n 0, 1) := by decide +kernel
theorem dJ3_checkIndex_8e157_1 : decode cJ3_checkIndex_8e157 1 = .ok (.ifCond .lt 8, 3) := by decide +kernel
theorem dJ3_checkIndex_8e157_4 : decode cJ3_checkIndex_8e157 4 = .ok (.iload_n 0, 1) := by decide +kernel
theorem dJ3_checkIndex_8e157_5 : decode cJ3_checkIndex_8e157 5 = .ok (.iload_n 1, 1) := by decide +kernel
theorem dJ3_checkIndex_8e157_6 : decode cJ3_checkIndex_8e157 6 = .ok (.if_icmp .lt 10, 3) := by decide +kernel
theorem dJ3_checkIndex_8e157_9 : decode cJ3_checkIndex_8e157 9 = .ok (.aload_n 2, 1) := by decide +kernel
theorem dJ3_checkIndex_8e157_10 : decode cJ3_checkIndex_8e157 10 = .ok (.iload_n 0, 1) := by decide +kernel
theorem dJ3_checkIndex_8e157_11 : decode cJ3_checkIndex_8e157 11 = .ok (.iload_n 1, 1) := by decide +kernel
theorem dJ3_checkIndex_8e157_12 : decode cJ3_checkIndex_8e157 12 = .ok (.invokestatic 95, 3) := by decide +kernel
theorem dJ3_checkIndex_8e157_15 : decode cJ3_checkIndex_8e157 15 = .ok (.athrow, 1) := by decide +kernel
theorem dJ3_checkIndex_8e157_16 : decode cJ3_checkIndex_8e157 16 = .ok (.iload_n 0, 1) := by decide +kernel
theorem dJ3_checkIndex_8e157_17 : decode cJ3_checkIndex_8e157 17 = .ok (.ireturn, 1) := by decide +kernel
theorem dJ3_checkFromToIndex_8c36e_0 : decode cJ3_checkFromToIndex_8c36e 0 = .ok (.iload_n 0, 1) := by decide +kernel
theorem dJ3_checkFromToIndex_8c36e_1 : decode cJ3_checkFromToIndex_8c36e 1 = .ok (.ifCond .lt 13, 3) := by decide +kernel
theorem dJ3_checkFromToIndex_8c36e_4 : decode cJ3_checkFromToIndex_8c36e 4 = .ok (.iload_n 0, 1) := by decide +kernel
theorem dJ3_checkFromToIndex_8c36e_5 : decode cJ3_checkFromToIndex_8c36e 5 = .ok (.iload_n 1, 1) := by decide +kernel
theorem dJ3_checkFromToIndex_8c36e_6 : decode cJ3_checkFromToIndex_8c36e 6 = .ok (.if_icmp .gt 8, 3) := by decide +kernel
theorem dJ3_checkFromToIndex_8c36e_9 : decode cJ3_checkFromToIndex_8c36e 9 = .ok (.iload_n 1, 1) := by decide +kernel
theorem dJ3_checkFromToIndex_8c36e_10 : decode cJ3_checkFromToIndex_8c36e 10 = .ok (.iload_n 2, 1) := by decide +kernel
theorem dJ3_checkFromToIndex_8c36e_11 : decode cJ3_checkFromToIndex_8c36e 11 = .ok (.if_icmp .le 11, 3) := by decide +kernel
theorem dJ3_checkFromToIndex_8c36e_14 : decode cJ3_checkFromToIndex_8c36e 14 = .ok (.aload_n 3, 1) := by decide +kernel
theorem dJ3_checkFromToIndex_8c36e_15 : decode cJ3_checkFromToIndex_8c36e 15 = .ok (.iload_n 0, 1) := by decide +kernel
theorem dJ3_checkFromToIndex_8c36e_16 : decode cJ3_checkFromToIndex_8c36e 16 = .ok (.iload_n 1, 1) := by decide +kernel
theorem dJ3_checkFromToIndex_8c36e_17 : decode cJ3_checkFromToIndex_8c36e 17 = .ok (.iload_n 2, 1) := by decide +kernel
theorem dJ3_checkFromToIndex_8c36e_18 : decode cJ3_checkFromToIndex_8c36e 18 = .ok (.invokestatic 99, 3) := by decide +kernel
theorem dJ3_checkFromToIndex_8c36e_21 : decode cJ3_checkFromToIndex_8c36e 21 = .ok (.athrow, 1) := by decide +kernel
theorem dJ3_checkFromToIndex_8c36e_22 : decode cJ3_checkFromToIndex_8c36e 22 = .ok (.iload_n 0, 1) := by decide +kernel
theorem dJ3_checkFromToIndex_8c36e_23 : decode cJ3_checkFromToIndex_8c36e 23 = .ok (.ireturn, 1) := by decide +kernel
theorem dL_law_0 : decode cL_law 0 = .ok (.new 7, 3) := by decide +kernel
theorem dL_law_3 : decode cL_law 3 = .ok (.dup, 1) := by decide +kernel
theorem dL_law_4 : decode cL_law 4 = .ok (.invokespecial 9, 3) := by decide +kernel
theorem dL_law_7 : decode cL_law 7 = .ok (.astore_n 1, 1) := by decide +kernel
theorem dL_law_8 : decode cL_law 8 = .ok (.new 10, 3) := by decide +kernel
theorem dL_law_11 : decode cL_law 11 = .ok (.dup, 1) := by decide +kernel
theorem dL_law_12 : decode cL_law 12 = .ok (.invokespecial 12, 3) := by decide +kernel
theorem dL_law_15 : decode cL_law 15 = .ok (.astore_n 2, 1) := by decide +kernel
theorem dL_law_16 : decode cL_law 16 = .ok (.iconst 0, 1) := by decide +kernel
theorem dL_law_17 : decode cL_law 17 = .ok (.istore_n 3, 1) := by decide +kernel
theorem dL_law_18 : decode cL_law 18 = .ok (.iload_n 3, 1) := by decide +kernel
theorem dL_law_19 : decode cL_law 19 = .ok (.aload_n 0, 1) := by decide +kernel
theorem dL_law_20 : decode cL_law 20 = .ok (.arraylength, 1) := by decide +kernel
theorem dL_law_21 : decode cL_law 21 = .ok (.iconst 4, 1) := by decide +kernel
theorem dL_law_22 : decode cL_law 22 = .ok (.isub, 1) := by decide +kernel
theorem dL_law_23 : decode cL_law 23 = .ok (.if_icmp .gt 1052, 3) := by decide +kernel
theorem dL_law_26 : decode cL_law 26 = .ok (.aload_n 0, 1) := by decide +kernel
theorem dL_law_27 : decode cL_law 27 = .ok (.iload_n 3, 1) := by decide +kernel
theorem dL_law_28 : decode cL_law 28 = .ok (.iaload, 1) := by decide +kernel
theorem dL_law_29 : decode cL_law 29 = .ok (.bipush 31, 2) := by decide +kernel
theorem dL_law_31 : decode cL_law 31 = .ok (.iand, 1) := by decide +kernel
theorem dL_law_32 : decode cL_law 32 = .ok (.tableswitch 1037 0 29 #[136, 179, 222, 265, 298, 331, 394, 407, 440, 483, 526, 539, 572, 595, 628, 651, 684, 707, 751, 774, 787, 830, 853, 866, 889, 932, 955, 988, 1001, 1014], 136) := by decide +kernel
theorem dL_law_168 : decode cL_law 168 = .ok (.aload_n 1, 1) := by decide +kernel
theorem dL_law_169 : decode cL_law 169 = .ok (.aload_n 0, 1) := by decide +kernel
theorem dL_law_170 : decode cL_law 170 = .ok (.iload_n 3, 1) := by decide +kernel
theorem dL_law_171 : decode cL_law 171 = .ok (.iconst 1, 1) := by decide +kernel
theorem dL_law_172 : decode cL_law 172 = .ok (.iadd, 1) := by decide +kernel
theorem dL_law_173 : decode cL_law 173 = .ok (.iaload, 1) := by decide +kernel
theorem dL_law_174 : decode cL_law 174 = .ok (.aload_n 0, 1) := by decide +kernel
theorem dL_law_175 : decode cL_law 175 = .ok (.iload_n 3, 1) := by decide +kernel
theorem dL_law_176 : decode cL_law 176 = .ok (.iconst 2, 1) := by decide +kernel
theorem dL_law_177 : decode cL_law 177 = .ok (.iadd, 1) := by decide +kernel
theorem dL_law_178 : decode cL_law 178 = .ok (.iaload, 1) := by decide +kernel
theorem dL_law_179 : decode cL_law 179 = .ok (.aload_n 0, 1) := by decide +kernel
theorem dL_law_180 : decode cL_law 180 = .ok (.iload_n 3, 1) := by decide +kernel
theorem dL_law_181 : decode cL_law 181 = .ok (.iconst 3, 1) := by decide +kernel
theorem dL_law_182 : decode cL_law 182 = .ok (.iadd, 1) := by decide +kernel
theorem dL_law_183 : decode cL_law 183 = .ok (.iaload, 1) := by decide +kernel
theorem dL_law_184 : decode cL_law 184 = .ok (.invokevirtual 13, 3) := by decide +kernel
theorem dL_law_187 : decode cL_law 187 = .ok (.aload_n 2, 1) := by decide +kernel
theorem dL_law_188 : decode cL_law 188 = .ok (.aload_n 0, 1) := by decide +kernel
theorem dL_law_189 : decode cL_law 189 = .ok (.iload_n 3, 1) := by decide +kernel
theorem dL_law_190 : decode cL_law 190 = .ok (.iconst 1, 1) := by decide +kernel
theorem dL_law_191 : decode cL_law 191 = .ok (.iadd, 1) := by decide +kernel
theorem dL_law_192 : decode cL_law 192 = .ok (.iaload, 1) := by decide +kernel
theorem dL_law_193 : decode cL_law 193 = .ok (.aload_n 0, 1) := by decide +kernel
theorem dL_law_194 : decode cL_law 194 = .ok (.iload_n 3, 1) := by decide +kernel
theorem dL_law_195 : decode cL_law 195 = .ok (.iconst 2, 1) := by decide +kernel
theorem dL_law_196 : decode cL_law 196 = .ok (.iadd, 1) := by decide +kernel
theorem dL_law_197 : decode cL_law 197 = .ok (.iaload, 1) := by decide +kernel
theorem dL_law_198 : decode cL_law 198 = .ok (.aload_n 0, 1) := by decide +kernel
theorem dL_law_199 : decode cL_law 199 = .ok (.iload_n 3, 1) := by decide +kernel
theorem dL_law_200 : decode cL_law 200 = .ok (.iconst 3, 1) := by decide +kernel
theorem dL_law_201 : decode cL_law 201 = .ok (.iadd, 1) := by decide +kernel
theorem dL_law_202 : decode cL_law 202 = .ok (.iaload, 1) := by decide +kernel
theorem dL_law_203 : decode cL_law 203 = .ok (.invokevirtual 17, 3) := by decide +kernel
theorem dL_law_206 : decode cL_law 206 = .ok (.if_icmp .eq 863, 3) := by decide +kernel
theorem dL_law_209 : decode cL_law 209 = .ok (.iconst 0, 1) := by decide +kernel
theorem dL_law_210 : decode cL_law 210 = .ok (.ireturn, 1) := by decide +kernel
theorem dL_law_211 : decode cL_law 211 = .ok (.aload_n 1, 1) := by decide +kernel
theorem dL_law_212 : decode cL_law 212 = .ok (.aload_n 0, 1) := by decide +kernel
theorem dL_law_213 : decode cL_law 213 = .ok (.iload_n 3, 1) := by decide +kernel
theorem dL_law_214 : decode cL_law 214 = .ok (.iconst 1, 1) := by decide +kernel
theorem dL_law_215 : decode cL_law 215 = .ok (.iadd, 1) := by decide +kernel
theorem dL_law_216 : decode cL_law 216 = .ok (.iaload, 1) := by decide +kernel
theorem dL_law_217 : decode cL_law 217 = .ok (.aload_n 0, 1) := by decide +kernel
theorem dL_law_218 : decode cL_law 218 = .ok (.iload_n 3, 1) := by decide +kernel
theorem dL_law_219 : decode cL_law 219 = .ok (.iconst 2, 1) := by decide +kernel
theorem dL_law_220 : decode cL_law 220 = .ok (.iadd, 1) := by decide +kernel
theorem dL_law_221 : decode cL_law 221 = .ok (.iaload, 1) := by decide +kernel
theorem dL_law_222 : decode cL_law 222 = .ok (.aload_n 0, 1) := by decide +kernel
theorem dL_law_223 : decode cL_law 223 = .ok (.iload_n 3, 1) := by decide +kernel
theorem dL_law_224 : decode cL_law 224 = .ok (.iconst 3, 1) := by decide +kernel
theorem dL_law_225 : decode cL_law 225 = .ok (.iadd, 1) := by decide +kernel
theorem dL_law_226 : decode cL_law 226 = .ok (.iaload, 1) := by decide +kernel
theorem dL_law_227 : decode cL_law 227 = .ok (.invokevirtual 18, 3) := by decide +kernel
theorem dL_law_230 : decode cL_law 230 = .ok (.aload_n 2, 1) := by decide +kernel
theorem dL_law_231 : decode cL_law 231 = .ok (.aload_n 0, 1) := by decide +kernel
theorem dL_law_232 : decode cL_law 232 = .ok (.iload_n 3, 1) := by decide +kernel
theorem dL_law_233 : decode cL_law 233 = .ok (.iconst 1, 1) := by decide +kernel
theorem dL_law_234 : decode cL_law 234 = .ok (.iadd, 1) := by decide +kernel
theorem dL_law_235 : decode cL_law 235 = .ok (.iaload, 1) := by decide +kernel
theorem dL_law_236 : decode cL_law 236 = .ok (.aload_n 0, 1) := by decide +kernel
theorem dL_law_237 : decode cL_law 237 = .ok (.iload_n 3, 1) := by decide +kernel
theorem dL_law_238 : decode cL_law 238 = .ok (.iconst 2, 1) := by decide +kernel
theorem dL_law_239 : decode cL_law 239 = .ok (.iadd, 1) := by decide +kernel
theorem dL_law_240 : decode cL_law 240 = .ok (.iaload, 1) := by decide +kernel
theorem dL_law_241 : decode cL_law 241 = .ok (.aload_n 0, 1) := by decide +kernel
theorem dL_law_242 : decode cL_law 242 = .ok (.iload_n 3, 1) := by decide +kernel
theorem dL_law_243 : decode cL_law 243 = .ok (.iconst 3, 1) := by decide +kernel
theorem dL_law_244 : decode cL_law 244 = .ok (.iadd, 1) := by decide +kernel
theorem dL_law_245 : decode cL_law 245 = .ok (.iaload, 1) := by decide +kernel
theorem dL_law_246 : decode cL_law 246 = .ok (.invokevirtual 21, 3) := by decide +kernel
theorem dL_law_249 : decode cL_law 249 = .ok (.if_icmp .eq 820, 3) := by decide +kernel
theorem dL_law_252 : decode cL_law 252 = .ok (.iconst 0, 1) := by decide +kernel
theorem dL_law_253 : decode cL_law 253 = .ok (.ireturn, 1) := by decide +kernel
theorem dL_law_254 : decode cL_law 254 = .ok (.aload_n 1, 1) := by decide +kernel
theorem dL_law_255 : decode cL_law 255 = .ok (.aload_n 0, 1) := by decide +kernel
theorem dL_law_256 : decode cL_law 256 = .ok (.iload_n 3, 1) := by decide +kernel
theorem dL_law_257 : decode cL_law 257 = .ok (.iconst 1, 1) := by decide +kernel
theorem dL_law_258 : decode cL_law 258 = .ok (.iadd, 1) := by decide +kernel
theorem dL_law_259 : decode cL_law 259 = .ok (.iaload, 1) := by decide +kernel
theorem dL_law_260 : decode cL_law 260 = .ok (.aload_n 0, 1) := by decide +kernel
theorem dL_law_261 : decode cL_law 261 = .ok (.iload_n 3, 1) := by decide +kernel
theorem dL_law_262 : decode cL_law 262 = .ok (.iconst 2, 1) := by decide +kernel
theorem dL_law_263 : decode cL_law 263 = .ok (.iadd, 1) := by decide +kernel
theorem dL_law_264 : decode cL_law 264 = .ok (.iaload, 1) := by decide +kernel
theorem dL_law_265 : decode cL_law 265 = .ok (.aload_n 0, 1) := by decide +kernel
theorem dL_law_266 : decode cL_law 266 = .ok (.iload_n 3, 1) := by decide +kernel
theorem dL_law_267 : decode cL_law 267 = .ok (.iconst 3, 1) := by decide +kernel
theorem dL_law_268 : decode cL_law 268 = .ok (.iadd, 1) := by decide +kernel
theorem dL_law_269 : decode cL_law 269 = .ok (.iaload, 1) := by decide +kernel
theorem dL_law_270 : decode cL_law 270 = .ok (.invokevirtual 22, 3) := by decide +kernel
theorem dL_law_273 : decode cL_law 273 = .ok (.aload_n 2, 1) := by decide +kernel
theorem dL_law_274 : decode cL_law 274 = .ok (.aload_n 0, 1) := by decide +kernel
theorem dL_law_275 : decode cL_law 275 = .ok (.iload_n 3, 1) := by decide +kernel
theorem dL_law_276 : decode cL_law 276 = .ok (.iconst 1, 1) := by decide +kernel
theorem dL_law_277 : decode cL_law 277 = .ok (.iadd, 1) := by decide +kernel
theorem dL_law_278 : decode cL_law 278 = .ok (.iaload, 1) := by decide +kernel
theorem dL_law_279 : decode cL_law 279 = .ok (.aload_n 0, 1) := by decide +kernel
theorem dL_law_280 : decode cL_law 280 = .ok (.iload_n 3, 1) := by decide +kernel
theorem dL_law_281 : decode cL_law 281 = .ok (.iconst 2, 1) := by decide +kernel
theorem dL_law_282 : decode cL_law 282 = .ok (.iadd, 1) := by decide +kernel
theorem dL_law_283 : decode cL_law 283 = .ok (.iaload, 1) := by decide +kernel
theorem dL_law_284 : decode cL_law 284 = .ok (.aload_n 0, 1) := by decide +kernel
theorem dL_law_285 : decode cL_law 285 = .ok (.iload_n 3, 1) := by decide +kernel
theorem dL_law_286 : decode cL_law 286 = .ok (.iconst 3, 1) := by decide +kernel
theorem dL_law_287 : decode cL_law 287 = .ok (.iadd, 1) := by decide +kernel
theorem dL_law_288 : decode cL_law 288 = .ok (.iaload, 1) := by decide +kernel
theorem dL_law_289 : decode cL_law 289 = .ok (.invokevirtual 25, 3) := by decide +kernel
theorem dL_law_292 : decode cL_law 292 = .ok (.if_icmp .eq 777, 3) := by decide +kernel
theorem dL_law_295 : decode cL_law 295 = .ok (.iconst 0, 1) := by decide +kernel
theorem dL_law_296 : decode cL_law 296 = .ok (.ireturn, 1) := by decide +kernel
theorem dL_law_297 : decode cL_law 297 = .ok (.aload_n 1, 1) := by decide +kernel
theorem dL_law_298 : decode cL_law 298 = .ok (.aload_n 0, 1) := by decide +kernel
theorem dL_law_299 : decode cL_law 299 = .ok (.iload_n 3, 1) := by decide +kernel
theorem dL_law_300 : decode cL_law 300 = .ok (.iconst 1, 1) := by decide +kernel
theorem dL_law_301 : decode cL_law 301 = .ok (.iadd, 1) := by decide +kernel
theorem dL_law_302 : decode cL_law 302 = .ok (.iaload, 1) := by decide +kernel
theorem dL_law_303 : decode cL_law 303 = .ok (.aload_n 0, 1) := by decide +kernel
theorem dL_law_304 : decode cL_law 304 = .ok (.iload_n 3, 1) := by decide +kernel
theorem dL_law_305 : decode cL_law 305 = .ok (.iconst 2, 1) := by decide +kernel
theorem dL_law_306 : decode cL_law 306 = .ok (.iadd, 1) := by decide +kernel
theorem dL_law_307 : decode cL_law 307 = .ok (.iaload, 1) := by decide +kernel
theorem dL_law_308 : decode cL_law 308 = .ok (.invokevirtual 26, 3) := by decide +kernel
theorem dL_law_311 : decode cL_law 311 = .ok (.aload_n 2, 1) := by decide +kernel
theorem dL_law_312 : decode cL_law 312 = .ok (.aload_n 0, 1) := by decide +kernel
theorem dL_law_313 : decode cL_law 313 = .ok (.iload_n 3, 1) := by decide +kernel
theorem dL_law_314 : decode cL_law 314 = .ok (.iconst 1, 1) := by decide +kernel
theorem dL_law_315 : decode cL_law 315 = .ok (.iadd, 1) := by decide +kernel
theorem dL_law_316 : decode cL_law 316 = .ok (.iaload, 1) := by decide +kernel
theorem dL_law_317 : decode cL_law 317 = .ok (.aload_n 0, 1) := by decide +kernel
theorem dL_law_318 : decode cL_law 318 = .ok (.iload_n 3, 1) := by decide +kernel
theorem dL_law_319 : decode cL_law 319 = .ok (.iconst 2, 1) := by decide +kernel
theorem dL_law_320 : decode cL_law 320 = .ok (.iadd, 1) := by decide +kernel
theorem dL_law_321 : decode cL_law 321 = .ok (.iaload, 1) := by decide +kernel
theorem dL_law_322 : decode cL_law 322 = .ok (.invokevirtual 30, 3) := by decide +kernel
theorem dL_law_325 : decode cL_law 325 = .ok (.if_icmp .eq 744, 3) := by decide +kernel
theorem dL_law_328 : decode cL_law 328 = .ok (.iconst 0, 1) := by decide +kernel
theorem dL_law_329 : decode cL_law 329 = .ok (.ireturn, 1) := by decide +kernel
theorem dL_law_330 : decode cL_law 330 = .ok (.aload_n 1, 1) := by decide +kernel
theorem dL_law_331 : decode cL_law 331 = .ok (.aload_n 0, 1) := by decide +kernel
theorem dL_law_332 : decode cL_law 332 = .ok (.iload_n 3, 1) := by decide +kernel
theorem dL_law_333 : decode cL_law 333 = .ok (.iconst 1, 1) := by decide +kernel
theorem dL_law_334 : decode cL_law 334 = .ok (.iadd, 1) := by decide +kernel
theorem dL_law_335 : decode cL_law 335 = .ok (.iaload, 1) := by decide +kernel
theorem dL_law_336 : decode cL_law 336 = .ok (.aload_n 0, 1) := by decide +kernel
theorem dL_law_337 : decode cL_law 337 = .ok (.iload_n 3, 1) := by decide +kernel
theorem dL_law_338 : decode cL_law 338 = .ok (.iconst 2, 1) := by decide +kernel
theorem dL_law_339 : decode cL_law 339 = .ok (.iadd, 1) := by decide +kernel
theorem dL_law_340 : decode cL_law 340 = .ok (.iaload, 1) := by decide +kernel
theorem dL_law_341 : decode cL_law 341 = .ok (.invokevirtual 31, 3) := by decide +kernel
theorem dL_law_344 : decode cL_law 344 = .ok (.aload_n 2, 1) := by decide +kernel
theorem dL_law_345 : decode cL_law 345 = .ok (.aload_n 0, 1) := by decide +kernel
theorem dL_law_346 : decode cL_law 346 = .ok (.iload_n 3, 1) := by decide +kernel
theorem dL_law_347 : decode cL_law 347 = .ok (.iconst 1, 1) := by decide +kernel
theorem dL_law_348 : decode cL_law 348 = .ok (.iadd, 1) := by decide +kernel
theorem dL_law_349 : decode cL_law 349 = .ok (.iaload, 1) := by decide +kernel
theorem dL_law_350 : decode cL_law 350 = .ok (.aload_n 0, 1) := by decide +kernel
theorem dL_law_351 : decode cL_law 351 = .ok (.iload_n 3, 1) := by decide +kernel
theorem dL_law_352 : decode cL_law 352 = .ok (.iconst 2, 1) := by decide +kernel
theorem dL_law_353 : decode cL_law 353 = .ok (.iadd, 1) := by decide +kernel
theorem dL_law_354 : decode cL_law 354 = .ok (.iaload, 1) := by decide +kernel
theorem dL_law_355 : decode cL_law 355 = .ok (.invokevirtual 34, 3) := by decide +kernel
theorem dL_law_358 : decode cL_law 358 = .ok (.if_icmp .eq 711, 3) := by decide +kernel
theorem dL_law_361 : decode cL_law 361 = .ok (.iconst 0, 1) := by decide +kernel
theorem dL_law_362 : decode cL_law 362 = .ok (.ireturn, 1) := by decide +kernel
theorem dL_law_363 : decode cL_law 363 = .ok (.aload_n 1, 1) := by decide +kernel
theorem dL_law_364 : decode cL_law 364 = .ok (.aload_n 0, 1) := by decide +kernel
theorem dL_law_365 : decode cL_law 365 = .ok (.iload_n 3, 1) := by decide +kernel
theorem dL_law_366 : decode cL_law 366 = .ok (.iconst 1, 1) := by decide +kernel
theorem dL_law_367 : decode cL_law 367 = .ok (.iadd, 1) := by decide +kernel
theorem dL_law_368 : decode cL_law 368 = .ok (.iaload, 1) := by decide +kernel
theorem dL_law_369 : decode cL_law 369 = .ok (.i2l, 1) := by decide +kernel
theorem dL_law_370 : decode cL_law 370 = .ok (.bipush 32, 2) := by decide +kernel
theorem dL_law_372 : decode cL_law 372 = .ok (.lshl, 1) := by decide +kernel
theorem dL_law_373 : decode cL_law 373 = .ok (.aload_n 0, 1) := by decide +kernel
theorem dL_law_374 : decode cL_law 374 = .ok (.iload_n 3, 1) := by decide +kernel
theorem dL_law_375 : decode cL_law 375 = .ok (.iconst 2, 1) := by decide +kernel
theorem dL_law_376 : decode cL_law 376 = .ok (.iadd, 1) := by decide +kernel
theorem dL_law_377 : decode cL_law 377 = .ok (.iaload, 1) := by decide +kernel
theorem dL_law_378 : decode cL_law 378 = .ok (.i2l, 1) := by decide +kernel
theorem dL_law_379 : decode cL_law 379 = .ok (.ldc2_w 35, 3) := by decide +kernel
theorem dL_law_382 : decode cL_law 382 = .ok (.land, 1) := by decide +kernel
theorem dL_law_383 : decode cL_law 383 = .ok (.lor, 1) := by decide +kernel
theorem dL_law_384 : decode cL_law 384 = .ok (.aload_n 0, 1) := by decide +kernel
theorem dL_law_385 : decode cL_law 385 = .ok (.iload_n 3, 1) := by decide +kernel
theorem dL_law_386 : decode cL_law 386 = .ok (.iconst 3, 1) := by decide +kernel
theorem dL_law_387 : decode cL_law 387 = .ok (.iadd, 1) := by decide +kernel
theorem dL_law_388 : decode cL_law 388 = .ok (.iaload, 1) := by decide +kernel
theorem dL_law_389 : decode cL_law 389 = .ok (.invokevirtual 37, 3) := by decide +kernel
theorem dL_law_392 : decode cL_law 392 = .ok (.aload_n 2, 1) := by decide +kernel
theorem dL_law_393 : decode cL_law 393 = .ok (.aload_n 0, 1) := by decide +kernel
theorem dL_law_394 : decode cL_law 394 = .ok (.iload_n 3, 1) := by decide +kernel
theorem dL_law_395 : decode cL_law 395 = .ok (.iconst 1, 1) := by decide +kernel
theorem dL_law_396 : decode cL_law 396 = .ok (.iadd, 1) := by decide +kernel
theorem dL_law_397 : decode cL_law 397 = .ok (.iaload, 1) := by decide +kernel
theorem dL_law_398 : decode cL_law 398 = .ok (.i2l, 1) := by decide +kernel
theorem dL_law_399 : decode cL_law 399 = .ok (.bipush 32, 2) := by decide +kernel
theorem dL_law_401 : decode cL_law 401 = .ok (.lshl, 1) := by decide +kernel
theorem dL_law_402 : decode cL_law 402 = .ok (.aload_n 0, 1) := by decide +kernel
theorem dL_law_403 : decode cL_law 403 = .ok (.iload_n 3, 1) := by decide +kernel
theorem dL_law_404 : decode cL_law 404 = .ok (.iconst 2, 1) := by decide +kernel
theorem dL_law_405 : decode cL_law 405 = .ok (.iadd, 1) := by decide +kernel
theorem dL_law_406 : decode cL_law 406 = .ok (.iaload, 1) := by decide +kernel
theorem dL_law_407 : decode cL_law 407 = .ok (.i2l, 1) := by decide +kernel
theorem dL_law_408 : decode cL_law 408 = .ok (.ldc2_w 35, 3) := by decide +kernel
theorem dL_law_411 : decode cL_law 411 = .ok (.land, 1) := by decide +kernel
theorem dL_law_412 : decode cL_law 412 = .ok (.lor, 1) := by decide +kernel
theorem dL_law_413 : decode cL_law 413 = .ok (.aload_n 0, 1) := by decide +kernel
theorem dL_law_414 : decode cL_law 414 = .ok (.iload_n 3, 1) := by decide +kernel
theorem dL_law_415 : decode cL_law 415 = .ok (.iconst 3, 1) := by decide +kernel
theorem dL_law_416 : decode cL_law 416 = .ok (.iadd, 1) := by decide +kernel
theorem dL_law_417 : decode cL_law 417 = .ok (.iaload, 1) := by decide +kernel
theorem dL_law_418 : decode cL_law 418 = .ok (.invokevirtual 41, 3) := by decide +kernel
theorem dL_law_421 : decode cL_law 421 = .ok (.if_icmp .eq 648, 3) := by decide +kernel
theorem dL_law_424 : decode cL_law 424 = .ok (.iconst 0, 1) := by decide +kernel
theorem dL_law_425 : decode cL_law 425 = .ok (.ireturn, 1) := by decide +kernel
theorem dL_law_426 : decode cL_law 426 = .ok (.aload_n 1, 1) := by decide +kernel
theorem dL_law_427 : decode cL_law 427 = .ok (.invokevirtual 42, 3) := by decide +kernel
theorem dL_law_430 : decode cL_law 430 = .ok (.aload_n 2, 1) := by decide +kernel
theorem dL_law_431 : decode cL_law 431 = .ok (.invokevirtual 46, 3) := by decide +kernel
theorem dL_law_434 : decode cL_law 434 = .ok (.if_icmp .eq 635, 3) := by decide +kernel
theorem dL_law_437 : decode cL_law 437 = .ok (.iconst 0, 1) := by decide +kernel
theorem dL_law_438 : decode cL_law 438 = .ok (.ireturn, 1) := by decide +kernel
theorem dL_law_439 : decode cL_law 439 = .ok (.aload_n 1, 1) := by decide +kernel
theorem dL_law_440 : decode cL_law 440 = .ok (.aload_n 0, 1) := by decide +kernel
theorem dL_law_441 : decode cL_law 441 = .ok (.iload_n 3, 1) := by decide +kernel
theorem dL_law_442 : decode cL_law 442 = .ok (.iconst 1, 1) := by decide +kernel
theorem dL_law_443 : decode cL_law 443 = .ok (.iadd, 1) := by decide +kernel
theorem dL_law_444 : decode cL_law 444 = .ok (.iaload, 1) := by decide +kernel
theorem dL_law_445 : decode cL_law 445 = .ok (.aload_n 0, 1) := by decide +kernel
theorem dL_law_446 : decode cL_law 446 = .ok (.iload_n 3, 1) := by decide +kernel
theorem dL_law_447 : decode cL_law 447 = .ok (.iconst 2, 1) := by decide +kernel
theorem dL_law_448 : decode cL_law 448 = .ok (.iadd, 1) := by decide +kernel
theorem dL_law_449 : decode cL_law 449 = .ok (.iaload, 1) := by decide +kernel
theorem dL_law_450 : decode cL_law 450 = .ok (.invokevirtual 47, 3) := by decide +kernel
theorem dL_law_453 : decode cL_law 453 = .ok (.aload_n 2, 1) := by decide +kernel
theorem dL_law_454 : decode cL_law 454 = .ok (.aload_n 0, 1) := by decide +kernel
theorem dL_law_455 : decode cL_law 455 = .ok (.iload_n 3, 1) := by decide +kernel
theorem dL_law_456 : decode cL_law 456 = .ok (.iconst 1, 1) := by decide +kernel
theorem dL_law_457 : decode cL_law 457 = .ok (.iadd, 1) := by decide +kernel
theorem dL_law_458 : decode cL_law 458 = .ok (.iaload, 1) := by decide +kernel
theorem dL_law_459 : decode cL_law 459 = .ok (.aload_n 0, 1) := by decide +kernel
theorem dL_law_460 : decode cL_law 460 = .ok (.iload_n 3, 1) := by decide +kernel
theorem dL_law_461 : decode cL_law 461 = .ok (.iconst 2, 1) := by decide +kernel
theorem dL_law_462 : decode cL_law 462 = .ok (.iadd, 1) := by decide +kernel
theorem dL_law_463 : decode cL_law 463 = .ok (.iaload, 1) := by decide +kernel
theorem dL_law_464 : decode cL_law 464 = .ok (.invokevirtual 50, 3) := by decide +kernel
theorem dL_law_467 : decode cL_law 467 = .ok (.if_icmp .eq 602, 3) := by decide +kernel
theorem dL_law_470 : decode cL_law 470 = .ok (.iconst 0, 1) := by decide +kernel
theorem dL_law_471 : decode cL_law 471 = .ok (.ireturn, 1) := by decide +kernel
theorem dL_law_472 : decode cL_law 472 = .ok (.aload_n 1, 1) := by decide +kernel
theorem dL_law_473 : decode cL_law 473 = .ok (.aload_n 0, 1) := by decide +kernel
theorem dL_law_474 : decode cL_law 474 = .ok (.iload_n 3, 1) := by decide +kernel
theorem dL_law_475 : decode cL_law 475 = .ok (.iconst 1, 1) := by decide +kernel
theorem dL_law_476 : decode cL_law 476 = .ok (.iadd, 1) := by decide +kernel
theorem dL_law_477 : decode cL_law 477 = .ok (.iaload, 1) := by decide +kernel
theorem dL_law_478 : decode cL_law 478 = .ok (.aload_n 0, 1) := by decide +kernel
theorem dL_law_479 : decode cL_law 479 = .ok (.iload_n 3, 1) := by decide +kernel
theorem dL_law_480 : decode cL_law 480 = .ok (.iconst 2, 1) := by decide +kernel
theorem dL_law_481 : decode cL_law 481 = .ok (.iadd, 1) := by decide +kernel
theorem dL_law_482 : decode cL_law 482 = .ok (.iaload, 1) := by decide +kernel
theorem dL_law_483 : decode cL_law 483 = .ok (.aload_n 0, 1) := by decide +kernel
theorem dL_law_484 : decode cL_law 484 = .ok (.iload_n 3, 1) := by decide +kernel
theorem dL_law_485 : decode cL_law 485 = .ok (.iconst 3, 1) := by decide +kernel
theorem dL_law_486 : decode cL_law 486 = .ok (.iadd, 1) := by decide +kernel
theorem dL_law_487 : decode cL_law 487 = .ok (.iaload, 1) := by decide +kernel
theorem dL_law_488 : decode cL_law 488 = .ok (.invokevirtual 51, 3) := by decide +kernel
theorem dL_law_491 : decode cL_law 491 = .ok (.aload_n 2, 1) := by decide +kernel
theorem dL_law_492 : decode cL_law 492 = .ok (.aload_n 0, 1) := by decide +kernel
theorem dL_law_493 : decode cL_law 493 = .ok (.iload_n 3, 1) := by decide +kernel
theorem dL_law_494 : decode cL_law 494 = .ok (.iconst 1, 1) := by decide +kernel
theorem dL_law_495 : decode cL_law 495 = .ok (.iadd, 1) := by decide +kernel
theorem dL_law_496 : decode cL_law 496 = .ok (.iaload, 1) := by decide +kernel
theorem dL_law_497 : decode cL_law 497 = .ok (.aload_n 0, 1) := by decide +kernel
theorem dL_law_498 : decode cL_law 498 = .ok (.iload_n 3, 1) := by decide +kernel
theorem dL_law_499 : decode cL_law 499 = .ok (.iconst 2, 1) := by decide +kernel
theorem dL_law_500 : decode cL_law 500 = .ok (.iadd, 1) := by decide +kernel
theorem dL_law_501 : decode cL_law 501 = .ok (.iaload, 1) := by decide +kernel
theorem dL_law_502 : decode cL_law 502 = .ok (.aload_n 0, 1) := by decide +kernel
theorem dL_law_503 : decode cL_law 503 = .ok (.iload_n 3, 1) := by decide +kernel
theorem dL_law_504 : decode cL_law 504 = .ok (.iconst 3, 1) := by decide +kernel
theorem dL_law_505 : decode cL_law 505 = .ok (.iadd, 1) := by decide +kernel
theorem dL_law_506 : decode cL_law 506 = .ok (.iaload, 1) := by decide +kernel
theorem dL_law_507 : decode cL_law 507 = .ok (.invokevirtual 54, 3) := by decide +kernel
theorem dL_law_510 : decode cL_law 510 = .ok (.if_icmp .eq 559, 3) := by decide +kernel
theorem dL_law_513 : decode cL_law 513 = .ok (.iconst 0, 1) := by decide +kernel
theorem dL_law_514 : decode cL_law 514 = .ok (.ireturn, 1) := by decide +kernel
theorem dL_law_515 : decode cL_law 515 = .ok (.aload_n 1, 1) := by decide +kernel
theorem dL_law_516 : decode cL_law 516 = .ok (.aload_n 0, 1) := by decide +kernel
theorem dL_law_517 : decode cL_law 517 = .ok (.iload_n 3, 1) := by decide +kernel
theorem dL_law_518 : decode cL_law 518 = .ok (.iconst 1, 1) := by decide +kernel
theorem dL_law_519 : decode cL_law 519 = .ok (.iadd, 1) := by decide +kernel
theorem dL_law_520 : decode cL_law 520 = .ok (.iaload, 1) := by decide +kernel
theorem dL_law_521 : decode cL_law 521 = .ok (.aload_n 0, 1) := by decide +kernel
theorem dL_law_522 : decode cL_law 522 = .ok (.iload_n 3, 1) := by decide +kernel
theorem dL_law_523 : decode cL_law 523 = .ok (.iconst 2, 1) := by decide +kernel
theorem dL_law_524 : decode cL_law 524 = .ok (.iadd, 1) := by decide +kernel
theorem dL_law_525 : decode cL_law 525 = .ok (.iaload, 1) := by decide +kernel
theorem dL_law_526 : decode cL_law 526 = .ok (.aload_n 0, 1) := by decide +kernel
theorem dL_law_527 : decode cL_law 527 = .ok (.iload_n 3, 1) := by decide +kernel
theorem dL_law_528 : decode cL_law 528 = .ok (.iconst 3, 1) := by decide +kernel
theorem dL_law_529 : decode cL_law 529 = .ok (.iadd, 1) := by decide +kernel
theorem dL_law_530 : decode cL_law 530 = .ok (.iaload, 1) := by decide +kernel
theorem dL_law_531 : decode cL_law 531 = .ok (.invokevirtual 55, 3) := by decide +kernel
theorem dL_law_534 : decode cL_law 534 = .ok (.aload_n 2, 1) := by decide +kernel
theorem dL_law_535 : decode cL_law 535 = .ok (.aload_n 0, 1) := by decide +kernel
theorem dL_law_536 : decode cL_law 536 = .ok (.iload_n 3, 1) := by decide +kernel
theorem dL_law_537 : decode cL_law 537 = .ok (.iconst 1, 1) := by decide +kernel
theorem dL_law_538 : decode cL_law 538 = .ok (.iadd, 1) := by decide +kernel
theorem dL_law_539 : decode cL_law 539 = .ok (.iaload, 1) := by decide +kernel
theorem dL_law_540 : decode cL_law 540 = .ok (.aload_n 0, 1) := by decide +kernel
theorem dL_law_541 : decode cL_law 541 = .ok (.iload_n 3, 1) := by decide +kernel
theorem dL_law_542 : decode cL_law 542 = .ok (.iconst 2, 1) := by decide +kernel
theorem dL_law_543 : decode cL_law 543 = .ok (.iadd, 1) := by decide +kernel
theorem dL_law_544 : decode cL_law 544 = .ok (.iaload, 1) := by decide +kernel
theorem dL_law_545 : decode cL_law 545 = .ok (.aload_n 0, 1) := by decide +kernel
theorem dL_law_546 : decode cL_law 546 = .ok (.iload_n 3, 1) := by decide +kernel
theorem dL_law_547 : decode cL_law 547 = .ok (.iconst 3, 1) := by decide +kernel
theorem dL_law_548 : decode cL_law 548 = .ok (.iadd, 1) := by decide +kernel
theorem dL_law_549 : decode cL_law 549 = .ok (.iaload, 1) := by decide +kernel
theorem dL_law_550 : decode cL_law 550 = .ok (.invokevirtual 58, 3) := by decide +kernel
theorem dL_law_553 : decode cL_law 553 = .ok (.if_icmp .eq 516, 3) := by decide +kernel
theorem dL_law_556 : decode cL_law 556 = .ok (.iconst 0, 1) := by decide +kernel
theorem dL_law_557 : decode cL_law 557 = .ok (.ireturn, 1) := by decide +kernel
theorem dL_law_558 : decode cL_law 558 = .ok (.aload_n 1, 1) := by decide +kernel
theorem dL_law_559 : decode cL_law 559 = .ok (.invokevirtual 59, 3) := by decide +kernel
theorem dL_law_562 : decode cL_law 562 = .ok (.aload_n 2, 1) := by decide +kernel
theorem dL_law_563 : decode cL_law 563 = .ok (.invokevirtual 62, 3) := by decide +kernel
theorem dL_law_566 : decode cL_law 566 = .ok (.if_icmp .eq 503, 3) := by decide +kernel
theorem dL_law_569 : decode cL_law 569 = .ok (.iconst 0, 1) := by decide +kernel
theorem dL_law_570 : decode cL_law 570 = .ok (.ireturn, 1) := by decide +kernel
theorem dL_law_571 : decode cL_law 571 = .ok (.aload_n 1, 1) := by decide +kernel
theorem dL_law_572 : decode cL_law 572 = .ok (.aload_n 0, 1) := by decide +kernel
theorem dL_law_573 : decode cL_law 573 = .ok (.iload_n 3, 1) := by decide +kernel
theorem dL_law_574 : decode cL_law 574 = .ok (.iconst 1, 1) := by decide +kernel
theorem dL_law_575 : decode cL_law 575 = .ok (.iadd, 1) := by decide +kernel
theorem dL_law_576 : decode cL_law 576 = .ok (.iaload, 1) := by decide +kernel
theorem dL_law_577 : decode cL_law 577 = .ok (.aload_n 0, 1) := by decide +kernel
theorem dL_law_578 : decode cL_law 578 = .ok (.iload_n 3, 1) := by decide +kernel
theorem dL_law_579 : decode cL_law 579 = .ok (.iconst 2, 1) := by decide +kernel
theorem dL_law_580 : decode cL_law 580 = .ok (.iadd, 1) := by decide +kernel
theorem dL_law_581 : decode cL_law 581 = .ok (.iaload, 1) := by decide +kernel
theorem dL_law_582 : decode cL_law 582 = .ok (.invokevirtual 63, 3) := by decide +kernel
theorem dL_law_585 : decode cL_law 585 = .ok (.aload_n 2, 1) := by decide +kernel
theorem dL_law_586 : decode cL_law 586 = .ok (.aload_n 0, 1) := by decide +kernel
theorem dL_law_587 : decode cL_law 587 = .ok (.iload_n 3, 1) := by decide +kernel
theorem dL_law_588 : decode cL_law 588 = .ok (.iconst 1, 1) := by decide +kernel
theorem dL_law_589 : decode cL_law 589 = .ok (.iadd, 1) := by decide +kernel
theorem dL_law_590 : decode cL_law 590 = .ok (.iaload, 1) := by decide +kernel
theorem dL_law_591 : decode cL_law 591 = .ok (.aload_n 0, 1) := by decide +kernel
theorem dL_law_592 : decode cL_law 592 = .ok (.iload_n 3, 1) := by decide +kernel
theorem dL_law_593 : decode cL_law 593 = .ok (.iconst 2, 1) := by decide +kernel
theorem dL_law_594 : decode cL_law 594 = .ok (.iadd, 1) := by decide +kernel
theorem dL_law_595 : decode cL_law 595 = .ok (.iaload, 1) := by decide +kernel
theorem dL_law_596 : decode cL_law 596 = .ok (.invokevirtual 66, 3) := by decide +kernel
theorem dL_law_599 : decode cL_law 599 = .ok (.if_icmp .eq 470, 3) := by decide +kernel
theorem dL_law_602 : decode cL_law 602 = .ok (.iconst 0, 1) := by decide +kernel
theorem dL_law_603 : decode cL_law 603 = .ok (.ireturn, 1) := by decide +kernel
theorem dL_law_604 : decode cL_law 604 = .ok (.aload_n 1, 1) := by decide +kernel
theorem dL_law_605 : decode cL_law 605 = .ok (.aload_n 0, 1) := by decide +kernel
theorem dL_law_606 : decode cL_law 606 = .ok (.iload_n 3, 1) := by decide +kernel
theorem dL_law_607 : decode cL_law 607 = .ok (.iconst 1, 1) := by decide +kernel
theorem dL_law_608 : decode cL_law 608 = .ok (.iadd, 1) := by decide +kernel
theorem dL_law_609 : decode cL_law 609 = .ok (.iaload, 1) := by decide +kernel
theorem dL_law_610 : decode cL_law 610 = .ok (.invokevirtual 67, 3) := by decide +kernel
theorem dL_law_613 : decode cL_law 613 = .ok (.aload_n 2, 1) := by decide +kernel
theorem dL_law_614 : decode cL_law 614 = .ok (.aload_n 0, 1) := by decide +kernel
theorem dL_law_615 : decode cL_law 615 = .ok (.iload_n 3, 1) := by decide +kernel
theorem dL_law_616 : decode cL_law 616 = .ok (.iconst 1, 1) := by decide +kernel
theorem dL_law_617 : decode cL_law 617 = .ok (.iadd, 1) := by decide +kernel
theorem dL_law_618 : decode cL_law 618 = .ok (.iaload, 1) := by decide +kernel
theorem dL_law_619 : decode cL_law 619 = .ok (.invokevirtual 71, 3) := by decide +kernel
theorem dL_law_622 : decode cL_law 622 = .ok (.if_icmp .eq 447, 3) := by decide +kernel
theorem dL_law_625 : decode cL_law 625 = .ok (.iconst 0, 1) := by decide +kernel
theorem dL_law_626 : decode cL_law 626 = .ok (.ireturn, 1) := by decide +kernel
theorem dL_law_627 : decode cL_law 627 = .ok (.aload_n 1, 1) := by decide +kernel
theorem dL_law_628 : decode cL_law 628 = .ok (.aload_n 0, 1) := by decide +kernel
theorem dL_law_629 : decode cL_law 629 = .ok (.iload_n 3, 1) := by decide +kernel
theorem dL_law_630 : decode cL_law 630 = .ok (.iconst 1, 1) := by decide +kernel
theorem dL_law_631 : decode cL_law 631 = .ok (.iadd, 1) := by decide +kernel
theorem dL_law_632 : decode cL_law 632 = .ok (.iaload, 1) := by decide +kernel
theorem dL_law_633 : decode cL_law 633 = .ok (.aload_n 0, 1) := by decide +kernel
theorem dL_law_634 : decode cL_law 634 = .ok (.iload_n 3, 1) := by decide +kernel
theorem dL_law_635 : decode cL_law 635 = .ok (.iconst 2, 1) := by decide +kernel
theorem dL_law_636 : decode cL_law 636 = .ok (.iadd, 1) := by decide +kernel
theorem dL_law_637 : decode cL_law 637 = .ok (.iaload, 1) := by decide +kernel
theorem dL_law_638 : decode cL_law 638 = .ok (.invokevirtual 72, 3) := by decide +kernel
theorem dL_law_641 : decode cL_law 641 = .ok (.aload_n 2, 1) := by decide +kernel
theorem dL_law_642 : decode cL_law 642 = .ok (.aload_n 0, 1) := by decide +kernel
theorem dL_law_643 : decode cL_law 643 = .ok (.iload_n 3, 1) := by decide +kernel
theorem dL_law_644 : decode cL_law 644 = .ok (.iconst 1, 1) := by decide +kernel
theorem dL_law_645 : decode cL_law 645 = .ok (.iadd, 1) := by decide +kernel
theorem dL_law_646 : decode cL_law 646 = .ok (.iaload, 1) := by decide +kernel
theorem dL_law_647 : decode cL_law 647 = .ok (.aload_n 0, 1) := by decide +kernel
theorem dL_law_648 : decode cL_law 648 = .ok (.iload_n 3, 1) := by decide +kernel
theorem dL_law_649 : decode cL_law 649 = .ok (.iconst 2, 1) := by decide +kernel
theorem dL_law_650 : decode cL_law 650 = .ok (.iadd, 1) := by decide +kernel
theorem dL_law_651 : decode cL_law 651 = .ok (.iaload, 1) := by decide +kernel
theorem dL_law_652 : decode cL_law 652 = .ok (.invokevirtual 75, 3) := by decide +kernel
theorem dL_law_655 : decode cL_law 655 = .ok (.if_icmp .eq 414, 3) := by decide +kernel
theorem dL_law_658 : decode cL_law 658 = .ok (.iconst 0, 1) := by decide +kernel
theorem dL_law_659 : decode cL_law 659 = .ok (.ireturn, 1) := by decide +kernel
theorem dL_law_660 : decode cL_law 660 = .ok (.aload_n 1, 1) := by decide +kernel
theorem dL_law_661 : decode cL_law 661 = .ok (.aload_n 0, 1) := by decide +kernel
theorem dL_law_662 : decode cL_law 662 = .ok (.iload_n 3, 1) := by decide +kernel
theorem dL_law_663 : decode cL_law 663 = .ok (.iconst 1, 1) := by decide +kernel
theorem dL_law_664 : decode cL_law 664 = .ok (.iadd, 1) := by decide +kernel
theorem dL_law_665 : decode cL_law 665 = .ok (.iaload, 1) := by decide +kernel
theorem dL_law_666 : decode cL_law 666 = .ok (.invokevirtual 76, 3) := by decide +kernel
theorem dL_law_669 : decode cL_law 669 = .ok (.aload_n 2, 1) := by decide +kernel
theorem dL_law_670 : decode cL_law 670 = .ok (.aload_n 0, 1) := by decide +kernel
theorem dL_law_671 : decode cL_law 671 = .ok (.iload_n 3, 1) := by decide +kernel
theorem dL_law_672 : decode cL_law 672 = .ok (.iconst 1, 1) := by decide +kernel
theorem dL_law_673 : decode cL_law 673 = .ok (.iadd, 1) := by decide +kernel
theorem dL_law_674 : decode cL_law 674 = .ok (.iaload, 1) := by decide +kernel
theorem dL_law_675 : decode cL_law 675 = .ok (.invokevirtual 79, 3) := by decide +kernel
theorem dL_law_678 : decode cL_law 678 = .ok (.if_icmp .eq 391, 3) := by decide +kernel
theorem dL_law_681 : decode cL_law 681 = .ok (.iconst 0, 1) := by decide +kernel
theorem dL_law_682 : decode cL_law 682 = .ok (.ireturn, 1) := by decide +kernel
theorem dL_law_683 : decode cL_law 683 = .ok (.aload_n 1, 1) := by decide +kernel
theorem dL_law_684 : decode cL_law 684 = .ok (.aload_n 0, 1) := by decide +kernel
theorem dL_law_685 : decode cL_law 685 = .ok (.iload_n 3, 1) := by decide +kernel
theorem dL_law_686 : decode cL_law 686 = .ok (.iconst 1, 1) := by decide +kernel
theorem dL_law_687 : decode cL_law 687 = .ok (.iadd, 1) := by decide +kernel
theorem dL_law_688 : decode cL_law 688 = .ok (.iaload, 1) := by decide +kernel
theorem dL_law_689 : decode cL_law 689 = .ok (.aload_n 0, 1) := by decide +kernel
theorem dL_law_690 : decode cL_law 690 = .ok (.iload_n 3, 1) := by decide +kernel
theorem dL_law_691 : decode cL_law 691 = .ok (.iconst 2, 1) := by decide +kernel
theorem dL_law_692 : decode cL_law 692 = .ok (.iadd, 1) := by decide +kernel
theorem dL_law_693 : decode cL_law 693 = .ok (.iaload, 1) := by decide +kernel
theorem dL_law_694 : decode cL_law 694 = .ok (.invokevirtual 80, 3) := by decide +kernel
theorem dL_law_697 : decode cL_law 697 = .ok (.aload_n 2, 1) := by decide +kernel
theorem dL_law_698 : decode cL_law 698 = .ok (.aload_n 0, 1) := by decide +kernel
theorem dL_law_699 : decode cL_law 699 = .ok (.iload_n 3, 1) := by decide +kernel
theorem dL_law_700 : decode cL_law 700 = .ok (.iconst 1, 1) := by decide +kernel
theorem dL_law_701 : decode cL_law 701 = .ok (.iadd, 1) := by decide +kernel
theorem dL_law_702 : decode cL_law 702 = .ok (.iaload, 1) := by decide +kernel
theorem dL_law_703 : decode cL_law 703 = .ok (.aload_n 0, 1) := by decide +kernel
theorem dL_law_704 : decode cL_law 704 = .ok (.iload_n 3, 1) := by decide +kernel
theorem dL_law_705 : decode cL_law 705 = .ok (.iconst 2, 1) := by decide +kernel
theorem dL_law_706 : decode cL_law 706 = .ok (.iadd, 1) := by decide +kernel
theorem dL_law_707 : decode cL_law 707 = .ok (.iaload, 1) := by decide +kernel
theorem dL_law_708 : decode cL_law 708 = .ok (.invokevirtual 83, 3) := by decide +kernel
theorem dL_law_711 : decode cL_law 711 = .ok (.if_icmp .eq 358, 3) := by decide +kernel
theorem dL_law_714 : decode cL_law 714 = .ok (.iconst 0, 1) := by decide +kernel
theorem dL_law_715 : decode cL_law 715 = .ok (.ireturn, 1) := by decide +kernel
theorem dL_law_716 : decode cL_law 716 = .ok (.aload_n 1, 1) := by decide +kernel
theorem dL_law_717 : decode cL_law 717 = .ok (.aload_n 0, 1) := by decide +kernel
theorem dL_law_718 : decode cL_law 718 = .ok (.iload_n 3, 1) := by decide +kernel
theorem dL_law_719 : decode cL_law 719 = .ok (.iconst 1, 1) := by decide +kernel
theorem dL_law_720 : decode cL_law 720 = .ok (.iadd, 1) := by decide +kernel
theorem dL_law_721 : decode cL_law 721 = .ok (.iaload, 1) := by decide +kernel
theorem dL_law_722 : decode cL_law 722 = .ok (.invokevirtual 84, 3) := by decide +kernel
theorem dL_law_725 : decode cL_law 725 = .ok (.aload_n 2, 1) := by decide +kernel
theorem dL_law_726 : decode cL_law 726 = .ok (.aload_n 0, 1) := by decide +kernel
theorem dL_law_727 : decode cL_law 727 = .ok (.iload_n 3, 1) := by decide +kernel
theorem dL_law_728 : decode cL_law 728 = .ok (.iconst 1, 1) := by decide +kernel
theorem dL_law_729 : decode cL_law 729 = .ok (.iadd, 1) := by decide +kernel
theorem dL_law_730 : decode cL_law 730 = .ok (.iaload, 1) := by decide +kernel
theorem dL_law_731 : decode cL_law 731 = .ok (.invokevirtual 87, 3) := by decide +kernel
theorem dL_law_734 : decode cL_law 734 = .ok (.if_icmp .eq 335, 3) := by decide +kernel
theorem dL_law_737 : decode cL_law 737 = .ok (.iconst 0, 1) := by decide +kernel
theorem dL_law_738 : decode cL_law 738 = .ok (.ireturn, 1) := by decide +kernel
theorem dL_law_739 : decode cL_law 739 = .ok (.aload_n 1, 1) := by decide +kernel
theorem dL_law_740 : decode cL_law 740 = .ok (.aload_n 0, 1) := by decide +kernel
theorem dL_law_741 : decode cL_law 741 = .ok (.iload_n 3, 1) := by decide +kernel
theorem dL_law_742 : decode cL_law 742 = .ok (.iconst 1, 1) := by decide +kernel
theorem dL_law_743 : decode cL_law 743 = .ok (.iadd, 1) := by decide +kernel
theorem dL_law_744 : decode cL_law 744 = .ok (.iaload, 1) := by decide +kernel
theorem dL_law_745 : decode cL_law 745 = .ok (.aload_n 0, 1) := by decide +kernel
theorem dL_law_746 : decode cL_law 746 = .ok (.iload_n 3, 1) := by decide +kernel
theorem dL_law_747 : decode cL_law 747 = .ok (.iconst 2, 1) := by decide +kernel
theorem dL_law_748 : decode cL_law 748 = .ok (.iadd, 1) := by decide +kernel
theorem dL_law_749 : decode cL_law 749 = .ok (.iaload, 1) := by decide +kernel
theorem dL_law_750 : decode cL_law 750 = .ok (.aload_n 0, 1) := by decide +kernel
theorem dL_law_751 : decode cL_law 751 = .ok (.iload_n 3, 1) := by decide +kernel
theorem dL_law_752 : decode cL_law 752 = .ok (.iconst 3, 1) := by decide +kernel
theorem dL_law_753 : decode cL_law 753 = .ok (.iadd, 1) := by decide +kernel
theorem dL_law_754 : decode cL_law 754 = .ok (.iaload, 1) := by decide +kernel
theorem dL_law_755 : decode cL_law 755 = .ok (.invokevirtual 88, 3) := by decide +kernel
theorem dL_law_758 : decode cL_law 758 = .ok (.aload_n 2, 1) := by decide +kernel
theorem dL_law_759 : decode cL_law 759 = .ok (.aload_n 0, 1) := by decide +kernel
theorem dL_law_760 : decode cL_law 760 = .ok (.iload_n 3, 1) := by decide +kernel
theorem dL_law_761 : decode cL_law 761 = .ok (.iconst 1, 1) := by decide +kernel
theorem dL_law_762 : decode cL_law 762 = .ok (.iadd, 1) := by decide +kernel
theorem dL_law_763 : decode cL_law 763 = .ok (.iaload, 1) := by decide +kernel
theorem dL_law_764 : decode cL_law 764 = .ok (.aload_n 0, 1) := by decide +kernel
theorem dL_law_765 : decode cL_law 765 = .ok (.iload_n 3, 1) := by decide +kernel
theorem dL_law_766 : decode cL_law 766 = .ok (.iconst 2, 1) := by decide +kernel
theorem dL_law_767 : decode cL_law 767 = .ok (.iadd, 1) := by decide +kernel
theorem dL_law_768 : decode cL_law 768 = .ok (.iaload, 1) := by decide +kernel
theorem dL_law_769 : decode cL_law 769 = .ok (.aload_n 0, 1) := by decide +kernel
theorem dL_law_770 : decode cL_law 770 = .ok (.iload_n 3, 1) := by decide +kernel
theorem dL_law_771 : decode cL_law 771 = .ok (.iconst 3, 1) := by decide +kernel
theorem dL_law_772 : decode cL_law 772 = .ok (.iadd, 1) := by decide +kernel
theorem dL_law_773 : decode cL_law 773 = .ok (.iaload, 1) := by decide +kernel
theorem dL_law_774 : decode cL_law 774 = .ok (.invokevirtual 92, 3) := by decide +kernel
theorem dL_law_777 : decode cL_law 777 = .ok (.lcmp, 1) := by decide +kernel
theorem dL_law_778 : decode cL_law 778 = .ok (.ifCond .eq 291, 3) := by decide +kernel
theorem dL_law_781 : decode cL_law 781 = .ok (.iconst 0, 1) := by decide +kernel
theorem dL_law_782 : decode cL_law 782 = .ok (.ireturn, 1) := by decide +kernel
theorem dL_law_783 : decode cL_law 783 = .ok (.aload_n 1, 1) := by decide +kernel
theorem dL_law_784 : decode cL_law 784 = .ok (.aload_n 0, 1) := by decide +kernel
theorem dL_law_785 : decode cL_law 785 = .ok (.iload_n 3, 1) := by decide +kernel
theorem dL_law_786 : decode cL_law 786 = .ok (.iconst 1, 1) := by decide +kernel
theorem dL_law_787 : decode cL_law 787 = .ok (.iadd, 1) := by decide +kernel
theorem dL_law_788 : decode cL_law 788 = .ok (.iaload, 1) := by decide +kernel
theorem dL_law_789 : decode cL_law 789 = .ok (.invokevirtual 93, 3) := by decide +kernel
theorem dL_law_792 : decode cL_law 792 = .ok (.aload_n 2, 1) := by decide +kernel
theorem dL_law_793 : decode cL_law 793 = .ok (.aload_n 0, 1) := by decide +kernel
theorem dL_law_794 : decode cL_law 794 = .ok (.iload_n 3, 1) := by decide +kernel
theorem dL_law_795 : decode cL_law 795 = .ok (.iconst 1, 1) := by decide +kernel
theorem dL_law_796 : decode cL_law 796 = .ok (.iadd, 1) := by decide +kernel
theorem dL_law_797 : decode cL_law 797 = .ok (.iaload, 1) := by decide +kernel
theorem dL_law_798 : decode cL_law 798 = .ok (.invokevirtual 96, 3) := by decide +kernel
theorem dL_law_801 : decode cL_law 801 = .ok (.if_icmp .eq 268, 3) := by decide +kernel
theorem dL_law_804 : decode cL_law 804 = .ok (.iconst 0, 1) := by decide +kernel
theorem dL_law_805 : decode cL_law 805 = .ok (.ireturn, 1) := by decide +kernel
theorem dL_law_806 : decode cL_law 806 = .ok (.aload_n 1, 1) := by decide +kernel
theorem dL_law_807 : decode cL_law 807 = .ok (.invokevirtual 97, 3) := by decide +kernel
theorem dL_law_810 : decode cL_law 810 = .ok (.aload_n 2, 1) := by decide +kernel
theorem dL_law_811 : decode cL_law 811 = .ok (.invokevirtual 100, 3) := by decide +kernel
theorem dL_law_814 : decode cL_law 814 = .ok (.if_icmp .eq 255, 3) := by decide +kernel
theorem dL_law_817 : decode cL_law 817 = .ok (.iconst 0, 1) := by decide +kernel
theorem dL_law_818 : decode cL_law 818 = .ok (.ireturn, 1) := by decide +kernel
theorem dL_law_819 : decode cL_law 819 = .ok (.aload_n 1, 1) := by decide +kernel
theorem dL_law_820 : decode cL_law 820 = .ok (.aload_n 0, 1) := by decide +kernel
theorem dL_law_821 : decode cL_law 821 = .ok (.iload_n 3, 1) := by decide +kernel
theorem dL_law_822 : decode cL_law 822 = .ok (.iconst 1, 1) := by decide +kernel
theorem dL_law_823 : decode cL_law 823 = .ok (.iadd, 1) := by decide +kernel
theorem dL_law_824 : decode cL_law 824 = .ok (.iaload, 1) := by decide +kernel
theorem dL_law_825 : decode cL_law 825 = .ok (.aload_n 0, 1) := by decide +kernel
theorem dL_law_826 : decode cL_law 826 = .ok (.iload_n 3, 1) := by decide +kernel
theorem dL_law_827 : decode cL_law 827 = .ok (.iconst 2, 1) := by decide +kernel
theorem dL_law_828 : decode cL_law 828 = .ok (.iadd, 1) := by decide +kernel
theorem dL_law_829 : decode cL_law 829 = .ok (.iaload, 1) := by decide +kernel
theorem dL_law_830 : decode cL_law 830 = .ok (.aload_n 0, 1) := by decide +kernel
theorem dL_law_831 : decode cL_law 831 = .ok (.iload_n 3, 1) := by decide +kernel
theorem dL_law_832 : decode cL_law 832 = .ok (.iconst 3, 1) := by decide +kernel
theorem dL_law_833 : decode cL_law 833 = .ok (.iadd, 1) := by decide +kernel
theorem dL_law_834 : decode cL_law 834 = .ok (.iaload, 1) := by decide +kernel
theorem dL_law_835 : decode cL_law 835 = .ok (.invokevirtual 101, 3) := by decide +kernel
theorem dL_law_838 : decode cL_law 838 = .ok (.aload_n 2, 1) := by decide +kernel
theorem dL_law_839 : decode cL_law 839 = .ok (.aload_n 0, 1) := by decide +kernel
theorem dL_law_840 : decode cL_law 840 = .ok (.iload_n 3, 1) := by decide +kernel
theorem dL_law_841 : decode cL_law 841 = .ok (.iconst 1, 1) := by decide +kernel
theorem dL_law_842 : decode cL_law 842 = .ok (.iadd, 1) := by decide +kernel
theorem dL_law_843 : decode cL_law 843 = .ok (.iaload, 1) := by decide +kernel
theorem dL_law_844 : decode cL_law 844 = .ok (.aload_n 0, 1) := by decide +kernel
theorem dL_law_845 : decode cL_law 845 = .ok (.iload_n 3, 1) := by decide +kernel
theorem dL_law_846 : decode cL_law 846 = .ok (.iconst 2, 1) := by decide +kernel
theorem dL_law_847 : decode cL_law 847 = .ok (.iadd, 1) := by decide +kernel
theorem dL_law_848 : decode cL_law 848 = .ok (.iaload, 1) := by decide +kernel
theorem dL_law_849 : decode cL_law 849 = .ok (.aload_n 0, 1) := by decide +kernel
theorem dL_law_850 : decode cL_law 850 = .ok (.iload_n 3, 1) := by decide +kernel
theorem dL_law_851 : decode cL_law 851 = .ok (.iconst 3, 1) := by decide +kernel
theorem dL_law_852 : decode cL_law 852 = .ok (.iadd, 1) := by decide +kernel
theorem dL_law_853 : decode cL_law 853 = .ok (.iaload, 1) := by decide +kernel
theorem dL_law_854 : decode cL_law 854 = .ok (.invokevirtual 104, 3) := by decide +kernel
theorem dL_law_857 : decode cL_law 857 = .ok (.if_icmp .eq 212, 3) := by decide +kernel
theorem dL_law_860 : decode cL_law 860 = .ok (.iconst 0, 1) := by decide +kernel
theorem dL_law_861 : decode cL_law 861 = .ok (.ireturn, 1) := by decide +kernel
theorem dL_law_862 : decode cL_law 862 = .ok (.aload_n 1, 1) := by decide +kernel
theorem dL_law_863 : decode cL_law 863 = .ok (.aload_n 0, 1) := by decide +kernel
theorem dL_law_864 : decode cL_law 864 = .ok (.iload_n 3, 1) := by decide +kernel
theorem dL_law_865 : decode cL_law 865 = .ok (.iconst 1, 1) := by decide +kernel
theorem dL_law_866 : decode cL_law 866 = .ok (.iadd, 1) := by decide +kernel
theorem dL_law_867 : decode cL_law 867 = .ok (.iaload, 1) := by decide +kernel
theorem dL_law_868 : decode cL_law 868 = .ok (.invokevirtual 105, 3) := by decide +kernel
theorem dL_law_871 : decode cL_law 871 = .ok (.aload_n 2, 1) := by decide +kernel
theorem dL_law_872 : decode cL_law 872 = .ok (.aload_n 0, 1) := by decide +kernel
theorem dL_law_873 : decode cL_law 873 = .ok (.iload_n 3, 1) := by decide +kernel
theorem dL_law_874 : decode cL_law 874 = .ok (.iconst 1, 1) := by decide +kernel
theorem dL_law_875 : decode cL_law 875 = .ok (.iadd, 1) := by decide +kernel
theorem dL_law_876 : decode cL_law 876 = .ok (.iaload, 1) := by decide +kernel
theorem dL_law_877 : decode cL_law 877 = .ok (.invokevirtual 108, 3) := by decide +kernel
theorem dL_law_880 : decode cL_law 880 = .ok (.if_icmp .eq 189, 3) := by decide +kernel
theorem dL_law_883 : decode cL_law 883 = .ok (.iconst 0, 1) := by decide +kernel
theorem dL_law_884 : decode cL_law 884 = .ok (.ireturn, 1) := by decide +kernel
theorem dL_law_885 : decode cL_law 885 = .ok (.aload_n 1, 1) := by decide +kernel
theorem dL_law_886 : decode cL_law 886 = .ok (.invokevirtual 109, 3) := by decide +kernel
theorem dL_law_889 : decode cL_law 889 = .ok (.aload_n 2, 1) := by decide +kernel
theorem dL_law_890 : decode cL_law 890 = .ok (.invokevirtual 112, 3) := by decide +kernel
theorem dL_law_893 : decode cL_law 893 = .ok (.if_icmp .eq 176, 3) := by decide +kernel
theorem dL_law_896 : decode cL_law 896 = .ok (.iconst 0, 1) := by decide +kernel
theorem dL_law_897 : decode cL_law 897 = .ok (.ireturn, 1) := by decide +kernel
theorem dL_law_898 : decode cL_law 898 = .ok (.aload_n 1, 1) := by decide +kernel
theorem dL_law_899 : decode cL_law 899 = .ok (.aload_n 0, 1) := by decide +kernel
theorem dL_law_900 : decode cL_law 900 = .ok (.iload_n 3, 1) := by decide +kernel
theorem dL_law_901 : decode cL_law 901 = .ok (.iconst 1, 1) := by decide +kernel
theorem dL_law_902 : decode cL_law 902 = .ok (.iadd, 1) := by decide +kernel
theorem dL_law_903 : decode cL_law 903 = .ok (.iaload, 1) := by decide +kernel
theorem dL_law_904 : decode cL_law 904 = .ok (.invokevirtual 113, 3) := by decide +kernel
theorem dL_law_907 : decode cL_law 907 = .ok (.aload_n 2, 1) := by decide +kernel
theorem dL_law_908 : decode cL_law 908 = .ok (.aload_n 0, 1) := by decide +kernel
theorem dL_law_909 : decode cL_law 909 = .ok (.iload_n 3, 1) := by decide +kernel
theorem dL_law_910 : decode cL_law 910 = .ok (.iconst 1, 1) := by decide +kernel
theorem dL_law_911 : decode cL_law 911 = .ok (.iadd, 1) := by decide +kernel
theorem dL_law_912 : decode cL_law 912 = .ok (.iaload, 1) := by decide +kernel
theorem dL_law_913 : decode cL_law 913 = .ok (.invokevirtual 116, 3) := by decide +kernel
theorem dL_law_916 : decode cL_law 916 = .ok (.if_icmp .eq 153, 3) := by decide +kernel
theorem dL_law_919 : decode cL_law 919 = .ok (.iconst 0, 1) := by decide +kernel
theorem dL_law_920 : decode cL_law 920 = .ok (.ireturn, 1) := by decide +kernel
theorem dL_law_921 : decode cL_law 921 = .ok (.aload_n 1, 1) := by decide +kernel
theorem dL_law_922 : decode cL_law 922 = .ok (.aload_n 0, 1) := by decide +kernel
theorem dL_law_923 : decode cL_law 923 = .ok (.iload_n 3, 1) := by decide +kernel
theorem dL_law_924 : decode cL_law 924 = .ok (.iconst 1, 1) := by decide +kernel
theorem dL_law_925 : decode cL_law 925 = .ok (.iadd, 1) := by decide +kernel
theorem dL_law_926 : decode cL_law 926 = .ok (.iaload, 1) := by decide +kernel
theorem dL_law_927 : decode cL_law 927 = .ok (.aload_n 0, 1) := by decide +kernel
theorem dL_law_928 : decode cL_law 928 = .ok (.iload_n 3, 1) := by decide +kernel
theorem dL_law_929 : decode cL_law 929 = .ok (.iconst 2, 1) := by decide +kernel
theorem dL_law_930 : decode cL_law 930 = .ok (.iadd, 1) := by decide +kernel
theorem dL_law_931 : decode cL_law 931 = .ok (.iaload, 1) := by decide +kernel
theorem dL_law_932 : decode cL_law 932 = .ok (.aload_n 0, 1) := by decide +kernel
theorem dL_law_933 : decode cL_law 933 = .ok (.iload_n 3, 1) := by decide +kernel
theorem dL_law_934 : decode cL_law 934 = .ok (.iconst 3, 1) := by decide +kernel
theorem dL_law_935 : decode cL_law 935 = .ok (.iadd, 1) := by decide +kernel
theorem dL_law_936 : decode cL_law 936 = .ok (.iaload, 1) := by decide +kernel
theorem dL_law_937 : decode cL_law 937 = .ok (.invokevirtual 117, 3) := by decide +kernel
theorem dL_law_940 : decode cL_law 940 = .ok (.aload_n 2, 1) := by decide +kernel
theorem dL_law_941 : decode cL_law 941 = .ok (.aload_n 0, 1) := by decide +kernel
theorem dL_law_942 : decode cL_law 942 = .ok (.iload_n 3, 1) := by decide +kernel
theorem dL_law_943 : decode cL_law 943 = .ok (.iconst 1, 1) := by decide +kernel
theorem dL_law_944 : decode cL_law 944 = .ok (.iadd, 1) := by decide +kernel
theorem dL_law_945 : decode cL_law 945 = .ok (.iaload, 1) := by decide +kernel
theorem dL_law_946 : decode cL_law 946 = .ok (.aload_n 0, 1) := by decide +kernel
theorem dL_law_947 : decode cL_law 947 = .ok (.iload_n 3, 1) := by decide +kernel
theorem dL_law_948 : decode cL_law 948 = .ok (.iconst 2, 1) := by decide +kernel
theorem dL_law_949 : decode cL_law 949 = .ok (.iadd, 1) := by decide +kernel
theorem dL_law_950 : decode cL_law 950 = .ok (.iaload, 1) := by decide +kernel
theorem dL_law_951 : decode cL_law 951 = .ok (.aload_n 0, 1) := by decide +kernel
theorem dL_law_952 : decode cL_law 952 = .ok (.iload_n 3, 1) := by decide +kernel
theorem dL_law_953 : decode cL_law 953 = .ok (.iconst 3, 1) := by decide +kernel
theorem dL_law_954 : decode cL_law 954 = .ok (.iadd, 1) := by decide +kernel
theorem dL_law_955 : decode cL_law 955 = .ok (.iaload, 1) := by decide +kernel
theorem dL_law_956 : decode cL_law 956 = .ok (.invokevirtual 120, 3) := by decide +kernel
theorem dL_law_959 : decode cL_law 959 = .ok (.if_icmp .eq 110, 3) := by decide +kernel
theorem dL_law_962 : decode cL_law 962 = .ok (.iconst 0, 1) := by decide +kernel
theorem dL_law_963 : decode cL_law 963 = .ok (.ireturn, 1) := by decide +kernel
theorem dL_law_964 : decode cL_law 964 = .ok (.aload_n 1, 1) := by decide +kernel
theorem dL_law_965 : decode cL_law 965 = .ok (.aload_n 0, 1) := by decide +kernel
theorem dL_law_966 : decode cL_law 966 = .ok (.iload_n 3, 1) := by decide +kernel
theorem dL_law_967 : decode cL_law 967 = .ok (.iconst 1, 1) := by decide +kernel
theorem dL_law_968 : decode cL_law 968 = .ok (.iadd, 1) := by decide +kernel
theorem dL_law_969 : decode cL_law 969 = .ok (.iaload, 1) := by decide +kernel
theorem dL_law_970 : decode cL_law 970 = .ok (.invokevirtual 121, 3) := by decide +kernel
theorem dL_law_973 : decode cL_law 973 = .ok (.aload_n 2, 1) := by decide +kernel
theorem dL_law_974 : decode cL_law 974 = .ok (.aload_n 0, 1) := by decide +kernel
theorem dL_law_975 : decode cL_law 975 = .ok (.iload_n 3, 1) := by decide +kernel
theorem dL_law_976 : decode cL_law 976 = .ok (.iconst 1, 1) := by decide +kernel
theorem dL_law_977 : decode cL_law 977 = .ok (.iadd, 1) := by decide +kernel
theorem dL_law_978 : decode cL_law 978 = .ok (.iaload, 1) := by decide +kernel
theorem dL_law_979 : decode cL_law 979 = .ok (.invokevirtual 124, 3) := by decide +kernel
theorem dL_law_982 : decode cL_law 982 = .ok (.if_icmp .eq 87, 3) := by decide +kernel
theorem dL_law_985 : decode cL_law 985 = .ok (.iconst 0, 1) := by decide +kernel
theorem dL_law_986 : decode cL_law 986 = .ok (.ireturn, 1) := by decide +kernel
theorem dL_law_987 : decode cL_law 987 = .ok (.aload_n 1, 1) := by decide +kernel
theorem dL_law_988 : decode cL_law 988 = .ok (.aload_n 0, 1) := by decide +kernel
theorem dL_law_989 : decode cL_law 989 = .ok (.iload_n 3, 1) := by decide +kernel
theorem dL_law_990 : decode cL_law 990 = .ok (.iconst 1, 1) := by decide +kernel
theorem dL_law_991 : decode cL_law 991 = .ok (.iadd, 1) := by decide +kernel
theorem dL_law_992 : decode cL_law 992 = .ok (.iaload, 1) := by decide +kernel
theorem dL_law_993 : decode cL_law 993 = .ok (.aload_n 0, 1) := by decide +kernel
theorem dL_law_994 : decode cL_law 994 = .ok (.iload_n 3, 1) := by decide +kernel
theorem dL_law_995 : decode cL_law 995 = .ok (.iconst 2, 1) := by decide +kernel
theorem dL_law_996 : decode cL_law 996 = .ok (.iadd, 1) := by decide +kernel
theorem dL_law_997 : decode cL_law 997 = .ok (.iaload, 1) := by decide +kernel
theorem dL_law_998 : decode cL_law 998 = .ok (.invokevirtual 125, 3) := by decide +kernel
theorem dL_law_1001 : decode cL_law 1001 = .ok (.aload_n 2, 1) := by decide +kernel
theorem dL_law_1002 : decode cL_law 1002 = .ok (.aload_n 0, 1) := by decide +kernel
theorem dL_law_1003 : decode cL_law 1003 = .ok (.iload_n 3, 1) := by decide +kernel
theorem dL_law_1004 : decode cL_law 1004 = .ok (.iconst 1, 1) := by decide +kernel
theorem dL_law_1005 : decode cL_law 1005 = .ok (.iadd, 1) := by decide +kernel
theorem dL_law_1006 : decode cL_law 1006 = .ok (.iaload, 1) := by decide +kernel
theorem dL_law_1007 : decode cL_law 1007 = .ok (.aload_n 0, 1) := by decide +kernel
theorem dL_law_1008 : decode cL_law 1008 = .ok (.iload_n 3, 1) := by decide +kernel
theorem dL_law_1009 : decode cL_law 1009 = .ok (.iconst 2, 1) := by decide +kernel
theorem dL_law_1010 : decode cL_law 1010 = .ok (.iadd, 1) := by decide +kernel
theorem dL_law_1011 : decode cL_law 1011 = .ok (.iaload, 1) := by decide +kernel
theorem dL_law_1012 : decode cL_law 1012 = .ok (.invokevirtual 128, 3) := by decide +kernel
theorem dL_law_1015 : decode cL_law 1015 = .ok (.if_icmp .eq 54, 3) := by decide +kernel
theorem dL_law_1018 : decode cL_law 1018 = .ok (.iconst 0, 1) := by decide +kernel
theorem dL_law_1019 : decode cL_law 1019 = .ok (.ireturn, 1) := by decide +kernel
theorem dL_law_1020 : decode cL_law 1020 = .ok (.aload_n 1, 1) := by decide +kernel
theorem dL_law_1021 : decode cL_law 1021 = .ok (.invokevirtual 129, 3) := by decide +kernel
theorem dL_law_1024 : decode cL_law 1024 = .ok (.aload_n 2, 1) := by decide +kernel
theorem dL_law_1025 : decode cL_law 1025 = .ok (.invokevirtual 132, 3) := by decide +kernel
theorem dL_law_1028 : decode cL_law 1028 = .ok (.if_icmp .eq 41, 3) := by decide +kernel
theorem dL_law_1031 : decode cL_law 1031 = .ok (.iconst 0, 1) := by decide +kernel
theorem dL_law_1032 : decode cL_law 1032 = .ok (.ireturn, 1) := by decide +kernel
theorem dL_law_1033 : decode cL_law 1033 = .ok (.aload_n 1, 1) := by decide +kernel
theorem dL_law_1034 : decode cL_law 1034 = .ok (.invokevirtual 133, 3) := by decide +kernel
theorem dL_law_1037 : decode cL_law 1037 = .ok (.aload_n 2, 1) := by decide +kernel
theorem dL_law_1038 : decode cL_law 1038 = .ok (.invokevirtual 136, 3) := by decide +kernel
theorem dL_law_1041 : decode cL_law 1041 = .ok (.if_icmp .eq 28, 3) := by decide +kernel
theorem dL_law_1044 : decode cL_law 1044 = .ok (.iconst 0, 1) := by decide +kernel
theorem dL_law_1045 : decode cL_law 1045 = .ok (.ireturn, 1) := by decide +kernel
theorem dL_law_1046 : decode cL_law 1046 = .ok (.aload_n 1, 1) := by decide +kernel
theorem dL_law_1047 : decode cL_law 1047 = .ok (.aload_n 0, 1) := by decide +kernel
theorem dL_law_1048 : decode cL_law 1048 = .ok (.iload_n 3, 1) := by decide +kernel
theorem dL_law_1049 : decode cL_law 1049 = .ok (.iconst 1, 1) := by decide +kernel
theorem dL_law_1050 : decode cL_law 1050 = .ok (.iadd, 1) := by decide +kernel
theorem dL_law_1051 : decode cL_law 1051 = .ok (.iaload, 1) := by decide +kernel
theorem dL_law_1052 : decode cL_law 1052 = .ok (.invokevirtual 137, 3) := by decide +kernel
theorem dL_law_1055 : decode cL_law 1055 = .ok (.aload_n 2, 1) := by decide +kernel
theorem dL_law_1056 : decode cL_law 1056 = .ok (.aload_n 0, 1) := by decide +kernel
theorem dL_law_1057 : decode cL_law 1057 = .ok (.iload_n 3, 1) := by decide +kernel
theorem dL_law_1058 : decode cL_law 1058 = .ok (.iconst 1, 1) := by decide +kernel
theorem dL_law_1059 : decode cL_law 1059 = .ok (.iadd, 1) := by decide +kernel
theorem dL_law_1060 : decode cL_law 1060 = .ok (.iaload, 1) := by decide +kernel
theorem dL_law_1061 : decode cL_law 1061 = .ok (.invokevirtual 140, 3) := by decide +kernel
theorem dL_law_1064 : decode cL_law 1064 = .ok (.if_icmp .eq 5, 3) := by decide +kernel
theorem dL_law_1067 : decode cL_law 1067 = .ok (.iconst 0, 1) := by decide +kernel
theorem dL_law_1068 : decode cL_law 1068 = .ok (.ireturn, 1) := by decide +kernel
theorem dL_law_1069 : decode cL_law 1069 = .ok (.iinc 3 4, 3) := by decide +kernel
theorem dL_law_1072 : decode cL_law 1072 = .ok (.goto (-1054), 3) := by decide +kernel
theorem dL_law_1075 : decode cL_law 1075 = .ok (.iconst 1, 1) := by decide +kernel
theorem dL_law_1076 : decode cL_law 1076 = .ok (.ireturn, 1) := by decide +kernel
