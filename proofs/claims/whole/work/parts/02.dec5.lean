theorem dX0_init_0 : decode cX0_init 0 = .ok (.aload_n 0, 1) := by decide +kernel
theorem dX0_init_1 : decode cX0_init 1 = .ok (.invokespecial 3, 3) := by decide +kernel
theorem dX0_init_4 : decode cX0_init 4 = .ok (.aload_n 0, 1) := by decide +kernel
theorem dX0_init_5 : decode cX0_init 5 = .ok (.bipush 25, 2) := by decide +kernel
theorem dX0_init_7 : decode cX0_init 7 = .ok (.newarray .int, 2) := by decide +kernel
theorem dX0_init_9 : decode cX0_init 9 = .ok (.putfield 9, 3) := by decide +kernel
theorem dX0_init_12 : decode cX0_init 12 = .ok (.return_, 1) := by decide +kernel
theorem dX0_begin_0 : decode cX0_begin 0 = .ok (.aload_n 0, 1) := by decide +kernel
theorem dX0_begin_1 : decode cX0_begin 1 = .ok (.iload_n 1, 1) := by decide +kernel
theorem dX0_begin_2 : decode cX0_begin 2 = .ok (.putfield 15, 3) := by decide +kernel
theorem dX0_begin_5 : decode cX0_begin 5 = .ok (.aload_n 0, 1) := by decide +kernel
theorem dX0_begin_6 : decode cX0_begin 6 = .ok (.iload_n 2, 1) := by decide +kernel
theorem dX0_begin_7 : decode cX0_begin 7 = .ok (.putfield 19, 3) := by decide +kernel
theorem dX0_begin_10 : decode cX0_begin 10 = .ok (.aload_n 0, 1) := by decide +kernel
theorem dX0_begin_11 : decode cX0_begin 11 = .ok (.iload_n 3, 1) := by decide +kernel
theorem dX0_begin_12 : decode cX0_begin 12 = .ok (.putfield 22, 3) := by decide +kernel
theorem dX0_begin_15 : decode cX0_begin 15 = .ok (.aload_n 0, 1) := by decide +kernel
theorem dX0_begin_16 : decode cX0_begin 16 = .ok (.iconst (-1), 1) := by decide +kernel
theorem dX0_begin_17 : decode cX0_begin 17 = .ok (.putfield 25, 3) := by decide +kernel
theorem dX0_begin_20 : decode cX0_begin 20 = .ok (.aload_n 0, 1) := by decide +kernel
theorem dX0_begin_21 : decode cX0_begin 21 = .ok (.iconst 1, 1) := by decide +kernel
theorem dX0_begin_22 : decode cX0_begin 22 = .ok (.putfield 28, 3) := by decide +kernel
theorem dX0_begin_25 : decode cX0_begin 25 = .ok (.aload_n 0, 1) := by decide +kernel
theorem dX0_begin_26 : decode cX0_begin 26 = .ok (.getfield 9, 3) := by decide +kernel
theorem dX0_begin_29 : decode cX0_begin 29 = .ok (.iconst 0, 1) := by decide +kernel
theorem dX0_begin_30 : decode cX0_begin 30 = .ok (.invokestatic 32, 3) := by decide +kernel
theorem dX0_begin_33 : decode cX0_begin 33 = .ok (.return_, 1) := by decide +kernel
theorem dX0_reaches_0 : decode cX0_reaches 0 = .ok (.iload_n 1, 1) := by decide +kernel
theorem dX0_reaches_1 : decode cX0_reaches 1 = .ok (.ifCond .lt 27, 3) := by decide +kernel
theorem dX0_reaches_4 : decode cX0_reaches 4 = .ok (.iload_n 1, 1) := by decide +kernel
theorem dX0_reaches_5 : decode cX0_reaches 5 = .ok (.aload_n 0, 1) := by decide +kernel
theorem dX0_reaches_6 : decode cX0_reaches 6 = .ok (.getfield 15, 3) := by decide +kernel
theorem dX0_reaches_9 : decode cX0_reaches 9 = .ok (.if_icmp .ge 19, 3) := by decide +kernel
theorem dX0_reaches_12 : decode cX0_reaches 12 = .ok (.iload_n 2, 1) := by decide +kernel
theorem dX0_reaches_13 : decode cX0_reaches 13 = .ok (.ifCond .lt 15, 3) := by decide +kernel
theorem dX0_reaches_16 : decode cX0_reaches 16 = .ok (.iload_n 2, 1) := by decide +kernel
theorem dX0_reaches_17 : decode cX0_reaches 17 = .ok (.aload_n 0, 1) := by decide +kernel
theorem dX0_reaches_18 : decode cX0_reaches 18 = .ok (.getfield 19, 3) := by decide +kernel
theorem dX0_reaches_21 : decode cX0_reaches 21 = .ok (.if_icmp .ge 7, 3) := by decide +kernel
theorem dX0_reaches_24 : decode cX0_reaches 24 = .ok (.iconst 1, 1) := by decide +kernel
theorem dX0_reaches_25 : decode cX0_reaches 25 = .ok (.goto 4, 3) := by decide +kernel
theorem dX0_reaches_28 : decode cX0_reaches 28 = .ok (.iconst 0, 1) := by decide +kernel
theorem dX0_reaches_29 : decode cX0_reaches 29 = .ok (.ireturn, 1) := by decide +kernel
theorem dX0_number_0 : decode cX0_number 0 = .ok (.aload_n 0, 1) := by decide +kernel
theorem dX0_number_1 : decode cX0_number 1 = .ok (.iload_n 1, 1) := by decide +kernel
theorem dX0_number_2 : decode cX0_number 2 = .ok (.iload_n 2, 1) := by decide +kernel
theorem dX0_number_3 : decode cX0_number 3 = .ok (.invokevirtual 38, 3) := by decide +kernel
theorem dX0_number_6 : decode cX0_number 6 = .ok (.ifCond .eq 16, 3) := by decide +kernel
theorem dX0_number_9 : decode cX0_number 9 = .ok (.aload_n 0, 1) := by decide +kernel
theorem dX0_number_10 : decode cX0_number 10 = .ok (.getfield 9, 3) := by decide +kernel
theorem dX0_number_13 : decode cX0_number 13 = .ok (.iconst 5, 1) := by decide +kernel
theorem dX0_number_14 : decode cX0_number 14 = .ok (.iload_n 1, 1) := by decide +kernel
theorem dX0_number_15 : decode cX0_number 15 = .ok (.imul, 1) := by decide +kernel
theorem dX0_number_16 : decode cX0_number 16 = .ok (.iload_n 2, 1) := by decide +kernel
theorem dX0_number_17 : decode cX0_number 17 = .ok (.iadd, 1) := by decide +kernel
theorem dX0_number_18 : decode cX0_number 18 = .ok (.iaload, 1) := by decide +kernel
theorem dX0_number_19 : decode cX0_number 19 = .ok (.goto 4, 3) := by decide +kernel
theorem dX0_number_22 : decode cX0_number 22 = .ok (.iconst 0, 1) := by decide +kernel
theorem dX0_number_23 : decode cX0_number 23 = .ok (.ireturn, 1) := by decide +kernel
theorem dX0_put_0 : decode cX0_put 0 = .ok (.lload_n 3, 1) := by decide +kernel
theorem dX0_put_1 : decode cX0_put 1 = .ok (.invokestatic 42, 3) := by decide +kernel
theorem dX0_put_4 : decode cX0_put 4 = .ok (.ifCond .ne 11, 3) := by decide +kernel
theorem dX0_put_7 : decode cX0_put 7 = .ok (.aload_n 0, 1) := by decide +kernel
theorem dX0_put_8 : decode cX0_put 8 = .ok (.iconst 0, 1) := by decide +kernel
theorem dX0_put_9 : decode cX0_put 9 = .ok (.putfield 28, 3) := by decide +kernel
theorem dX0_put_12 : decode cX0_put 12 = .ok (.goto 24, 3) := by decide +kernel
theorem dX0_put_15 : decode cX0_put 15 = .ok (.aload_n 0, 1) := by decide +kernel
theorem dX0_put_16 : decode cX0_put 16 = .ok (.iload_n 1, 1) := by decide +kernel
theorem dX0_put_17 : decode cX0_put 17 = .ok (.iload_n 2, 1) := by decide +kernel
theorem dX0_put_18 : decode cX0_put 18 = .ok (.invokevirtual 38, 3) := by decide +kernel
theorem dX0_put_21 : decode cX0_put 21 = .ok (.ifCond .eq 15, 3) := by decide +kernel
theorem dX0_put_24 : decode cX0_put 24 = .ok (.aload_n 0, 1) := by decide +kernel
theorem dX0_put_25 : decode cX0_put 25 = .ok (.getfield 9, 3) := by decide +kernel
theorem dX0_put_28 : decode cX0_put 28 = .ok (.iconst 5, 1) := by decide +kernel
theorem dX0_put_29 : decode cX0_put 29 = .ok (.iload_n 1, 1) := by decide +kernel
theorem dX0_put_30 : decode cX0_put 30 = .ok (.imul, 1) := by decide +kernel
theorem dX0_put_31 : decode cX0_put 31 = .ok (.iload_n 2, 1) := by decide +kernel
theorem dX0_put_32 : decode cX0_put 32 = .ok (.iadd, 1) := by decide +kernel
theorem dX0_put_33 : decode cX0_put 33 = .ok (.lload_n 3, 1) := by decide +kernel
theorem dX0_put_34 : decode cX0_put 34 = .ok (.l2i, 1) := by decide +kernel
theorem dX0_put_35 : decode cX0_put 35 = .ok (.iastore, 1) := by decide +kernel
theorem dX0_put_36 : decode cX0_put 36 = .ok (.return_, 1) := by decide +kernel
theorem dX1_init_0 : decode cX1_init 0 = .ok (.aload_n 0, 1) := by decide +kernel
theorem dX1_init_1 : decode cX1_init 1 = .ok (.invokespecial 3, 3) := by decide +kernel
theorem dX1_init_4 : decode cX1_init 4 = .ok (.aload_n 0, 1) := by decide +kernel
theorem dX1_init_5 : decode cX1_init 5 = .ok (.bipush 9, 2) := by decide +kernel
theorem dX1_init_7 : decode cX1_init 7 = .ok (.newarray .int, 2) := by decide +kernel
theorem dX1_init_9 : decode cX1_init 9 = .ok (.putfield 9, 3) := by decide +kernel
theorem dX1_init_12 : decode cX1_init 12 = .ok (.aload_n 0, 1) := by decide +kernel
theorem dX1_init_13 : decode cX1_init 13 = .ok (.bipush 9, 2) := by decide +kernel
theorem dX1_init_15 : decode cX1_init 15 = .ok (.newarray .int, 2) := by decide +kernel
theorem dX1_init_17 : decode cX1_init 17 = .ok (.putfield 15, 3) := by decide +kernel
theorem dX1_init_20 : decode cX1_init 20 = .ok (.aload_n 0, 1) := by decide +kernel
theorem dX1_init_21 : decode cX1_init 21 = .ok (.bipush 9, 2) := by decide +kernel
theorem dX1_init_23 : decode cX1_init 23 = .ok (.newarray .long, 2) := by decide +kernel
theorem dX1_init_25 : decode cX1_init 25 = .ok (.putfield 18, 3) := by decide +kernel
theorem dX1_init_28 : decode cX1_init 28 = .ok (.aload_n 0, 1) := by decide +kernel
theorem dX1_init_29 : decode cX1_init 29 = .ok (.bipush 9, 2) := by decide +kernel
theorem dX1_init_31 : decode cX1_init 31 = .ok (.newarray .long, 2) := by decide +kernel
theorem dX1_init_33 : decode cX1_init 33 = .ok (.putfield 22, 3) := by decide +kernel
theorem dX1_init_36 : decode cX1_init 36 = .ok (.aload_n 0, 1) := by decide +kernel
theorem dX1_init_37 : decode cX1_init 37 = .ok (.bipush 9, 2) := by decide +kernel
theorem dX1_init_39 : decode cX1_init 39 = .ok (.newarray .long, 2) := by decide +kernel
theorem dX1_init_41 : decode cX1_init 41 = .ok (.putfield 25, 3) := by decide +kernel
theorem dX1_init_44 : decode cX1_init 44 = .ok (.aload_n 0, 1) := by decide +kernel
theorem dX1_init_45 : decode cX1_init 45 = .ok (.bipush 9, 2) := by decide +kernel
theorem dX1_init_47 : decode cX1_init 47 = .ok (.newarray .long, 2) := by decide +kernel
theorem dX1_init_49 : decode cX1_init 49 = .ok (.putfield 28, 3) := by decide +kernel
theorem dX1_init_52 : decode cX1_init 52 = .ok (.return_, 1) := by decide +kernel
theorem dX1_takeApart_0 : decode cX1_takeApart 0 = .ok (.aload_n 0, 1) := by decide +kernel
theorem dX1_takeApart_1 : decode cX1_takeApart 1 = .ok (.aload_n 1, 1) := by decide +kernel
theorem dX1_takeApart_2 : decode cX1_takeApart 2 = .ok (.invokevirtual 31, 3) := by decide +kernel
theorem dX1_takeApart_5 : decode cX1_takeApart 5 = .ok (.aload_n 0, 1) := by decide +kernel
theorem dX1_takeApart_6 : decode cX1_takeApart 6 = .ok (.iconst 1, 1) := by decide +kernel
theorem dX1_takeApart_7 : decode cX1_takeApart 7 = .ok (.invokevirtual 35, 3) := by decide +kernel
theorem dX1_takeApart_10 : decode cX1_takeApart 10 = .ok (.ifCond .eq 22, 3) := by decide +kernel
theorem dX1_takeApart_13 : decode cX1_takeApart 13 = .ok (.aload_n 0, 1) := by decide +kernel
theorem dX1_takeApart_14 : decode cX1_takeApart 14 = .ok (.iconst 0, 1) := by decide +kernel
theorem dX1_takeApart_15 : decode cX1_takeApart 15 = .ok (.invokevirtual 35, 3) := by decide +kernel
theorem dX1_takeApart_18 : decode cX1_takeApart 18 = .ok (.ifCond .eq 14, 3) := by decide +kernel
theorem dX1_takeApart_21 : decode cX1_takeApart 21 = .ok (.aload_n 0, 1) := by decide +kernel
theorem dX1_takeApart_22 : decode cX1_takeApart 22 = .ok (.invokevirtual 39, 3) := by decide +kernel
theorem dX1_takeApart_25 : decode cX1_takeApart 25 = .ok (.ifCond .eq 7, 3) := by decide +kernel
theorem dX1_takeApart_28 : decode cX1_takeApart 28 = .ok (.iconst 1, 1) := by decide +kernel
theorem dX1_takeApart_29 : decode cX1_takeApart 29 = .ok (.goto 4, 3) := by decide +kernel
theorem dX1_takeApart_32 : decode cX1_takeApart 32 = .ok (.iconst 0, 1) := by decide +kernel
theorem dX1_takeApart_33 : decode cX1_takeApart 33 = .ok (.istore_n 2, 1) := by decide +kernel
theorem dX1_takeApart_34 : decode cX1_takeApart 34 = .ok (.iload_n 2, 1) := by decide +kernel
theorem dX1_takeApart_35 : decode cX1_takeApart 35 = .ok (.ifCond .ne 8, 3) := by decide +kernel
theorem dX1_takeApart_38 : decode cX1_takeApart 38 = .ok (.aload_n 0, 1) := by decide +kernel
theorem dX1_takeApart_39 : decode cX1_takeApart 39 = .ok (.iconst 0, 1) := by decide +kernel
theorem dX1_takeApart_40 : decode cX1_takeApart 40 = .ok (.putfield 43, 3) := by decide +kernel
theorem dX1_takeApart_43 : decode cX1_takeApart 43 = .ok (.aload_n 0, 1) := by decide +kernel
theorem dX1_takeApart_44 : decode cX1_takeApart 44 = .ok (.getfield 43, 3) := by decide +kernel
theorem dX1_takeApart_47 : decode cX1_takeApart 47 = .ok (.ireturn, 1) := by decide +kernel
theorem dX1_begin_0 : decode cX1_begin 0 = .ok (.aload_n 0, 1) := by decide +kernel
theorem dX1_begin_1 : decode cX1_begin 1 = .ok (.aload_n 1, 1) := by decide +kernel
theorem dX1_begin_2 : decode cX1_begin 2 = .ok (.getfield 47, 3) := by decide +kernel
theorem dX1_begin_5 : decode cX1_begin 5 = .ok (.iconst 3, 1) := by decide +kernel
theorem dX1_begin_6 : decode cX1_begin 6 = .ok (.invokestatic 52, 3) := by decide +kernel
theorem dX1_begin_9 : decode cX1_begin 9 = .ok (.putfield 58, 3) := by decide +kernel
theorem dX1_begin_12 : decode cX1_begin 12 = .ok (.aload_n 0, 1) := by decide +kernel
theorem dX1_begin_13 : decode cX1_begin 13 = .ok (.iconst 0, 1) := by decide +kernel
theorem dX1_begin_14 : decode cX1_begin 14 = .ok (.putfield 43, 3) := by decide +kernel
theorem dX1_begin_17 : decode cX1_begin 17 = .ok (.iconst 0, 1) := by decide +kernel
theorem dX1_begin_18 : decode cX1_begin 18 = .ok (.istore_n 2, 1) := by decide +kernel
theorem dX1_begin_19 : decode cX1_begin 19 = .ok (.iload_n 2, 1) := by decide +kernel
theorem dX1_begin_20 : decode cX1_begin 20 = .ok (.aload_n 0, 1) := by decide +kernel
theorem dX1_begin_21 : decode cX1_begin 21 = .ok (.getfield 58, 3) := by decide +kernel
theorem dX1_begin_24 : decode cX1_begin 24 = .ok (.if_icmp .ge 55, 3) := by decide +kernel
theorem dX1_begin_27 : decode cX1_begin 27 = .ok (.iconst 0, 1) := by decide +kernel
theorem dX1_begin_28 : decode cX1_begin 28 = .ok (.istore_n 3, 1) := by decide +kernel
theorem dX1_begin_29 : decode cX1_begin 29 = .ok (.iload_n 3, 1) := by decide +kernel
theorem dX1_begin_30 : decode cX1_begin 30 = .ok (.aload_n 0, 1) := by decide +kernel
theorem dX1_begin_31 : decode cX1_begin 31 = .ok (.getfield 58, 3) := by decide +kernel
theorem dX1_begin_34 : decode cX1_begin 34 = .ok (.if_icmp .ge 39, 3) := by decide +kernel
theorem dX1_begin_37 : decode cX1_begin 37 = .ok (.aload_n 0, 1) := by decide +kernel
theorem dX1_begin_38 : decode cX1_begin 38 = .ok (.getfield 25, 3) := by decide +kernel
theorem dX1_begin_41 : decode cX1_begin 41 = .ok (.iconst 1, 1) := by decide +kernel
theorem dX1_begin_42 : decode cX1_begin 42 = .ok (.iload_n 2, 1) := by decide +kernel
theorem dX1_begin_43 : decode cX1_begin 43 = .ok (.iload_n 3, 1) := by decide +kernel
theorem dX1_begin_44 : decode cX1_begin 44 = .ok (.invokestatic 61, 3) := by decide +kernel
theorem dX1_begin_47 : decode cX1_begin 47 = .ok (.aload_n 1, 1) := by decide +kernel
theorem dX1_begin_48 : decode cX1_begin 48 = .ok (.iload_n 2, 1) := by decide +kernel
theorem dX1_begin_49 : decode cX1_begin 49 = .ok (.iload_n 3, 1) := by decide +kernel
theorem dX1_begin_50 : decode cX1_begin 50 = .ok (.invokevirtual 65, 3) := by decide +kernel
theorem dX1_begin_53 : decode cX1_begin 53 = .ok (.i2l, 1) := by decide +kernel
theorem dX1_begin_54 : decode cX1_begin 54 = .ok (.lastore, 1) := by decide +kernel
theorem dX1_begin_55 : decode cX1_begin 55 = .ok (.aload_n 0, 1) := by decide +kernel
theorem dX1_begin_56 : decode cX1_begin 56 = .ok (.getfield 28, 3) := by decide +kernel
theorem dX1_begin_59 : decode cX1_begin 59 = .ok (.iconst 1, 1) := by decide +kernel
theorem dX1_begin_60 : decode cX1_begin 60 = .ok (.iload_n 2, 1) := by decide +kernel
theorem dX1_begin_61 : decode cX1_begin 61 = .ok (.iload_n 3, 1) := by decide +kernel
theorem dX1_begin_62 : decode cX1_begin 62 = .ok (.invokestatic 61, 3) := by decide +kernel
theorem dX1_begin_65 : decode cX1_begin 65 = .ok (.lconst 1, 1) := by decide +kernel
theorem dX1_begin_66 : decode cX1_begin 66 = .ok (.lastore, 1) := by decide +kernel
theorem dX1_begin_67 : decode cX1_begin 67 = .ok (.iinc 3 1, 3) := by decide +kernel
theorem dX1_begin_70 : decode cX1_begin 70 = .ok (.goto (-41), 3) := by decide +kernel
theorem dX1_begin_73 : decode cX1_begin 73 = .ok (.iinc 2 1, 3) := by decide +kernel
theorem dX1_begin_76 : decode cX1_begin 76 = .ok (.goto (-57), 3) := by decide +kernel
theorem dX1_begin_79 : decode cX1_begin 79 = .ok (.return_, 1) := by decide +kernel
theorem dX1_placeOf_0 : decode cX1_placeOf 0 = .ok (.iload_n 0, 1) := by decide +kernel
theorem dX1_placeOf_1 : decode cX1_placeOf 1 = .ok (.ifCond .ne 11, 3) := by decide +kernel
theorem dX1_placeOf_4 : decode cX1_placeOf 4 = .ok (.iconst 3, 1) := by decide +kernel
theorem dX1_placeOf_5 : decode cX1_placeOf 5 = .ok (.iload_n 2, 1) := by decide +kernel
theorem dX1_placeOf_6 : decode cX1_placeOf 6 = .ok (.imul, 1) := by decide +kernel
theorem dX1_placeOf_7 : decode cX1_placeOf 7 = .ok (.iload_n 1, 1) := by decide +kernel
theorem dX1_placeOf_8 : decode cX1_placeOf 8 = .ok (.iadd, 1) := by decide +kernel
theorem dX1_placeOf_9 : decode cX1_placeOf 9 = .ok (.goto 8, 3) := by decide +kernel
theorem dX1_placeOf_12 : decode cX1_placeOf 12 = .ok (.iconst 3, 1) := by decide +kernel
theorem dX1_placeOf_13 : decode cX1_placeOf 13 = .ok (.iload_n 1, 1) := by decide +kernel
theorem dX1_placeOf_14 : decode cX1_placeOf 14 = .ok (.imul, 1) := by decide +kernel
theorem dX1_placeOf_15 : decode cX1_placeOf 15 = .ok (.iload_n 2, 1) := by decide +kernel
theorem dX1_placeOf_16 : decode cX1_placeOf 16 = .ok (.iadd, 1) := by decide +kernel
theorem dX1_placeOf_17 : decode cX1_placeOf 17 = .ok (.ireturn, 1) := by decide +kernel
theorem dX1_clear_0 : decode cX1_clear 0 = .ok (.iconst 0, 1) := by decide +kernel
theorem dX1_clear_1 : decode cX1_clear 1 = .ok (.istore_n 2, 1) := by decide +kernel
theorem dX1_clear_2 : decode cX1_clear 2 = .ok (.iload_n 2, 1) := by decide +kernel
theorem dX1_clear_3 : decode cX1_clear 3 = .ok (.aload_n 0, 1) := by decide +kernel
theorem dX1_clear_4 : decode cX1_clear 4 = .ok (.getfield 58, 3) := by decide +kernel
theorem dX1_clear_7 : decode cX1_clear 7 = .ok (.if_icmp .ge 92, 3) := by decide +kernel
theorem dX1_clear_10 : decode cX1_clear 10 = .ok (.aload_n 0, 1) := by decide +kernel
theorem dX1_clear_11 : decode cX1_clear 11 = .ok (.getfield 58, 3) := by decide +kernel
theorem dX1_clear_14 : decode cX1_clear 14 = .ok (.iconst 1, 1) := by decide +kernel
theorem dX1_clear_15 : decode cX1_clear 15 = .ok (.isub, 1) := by decide +kernel
theorem dX1_clear_16 : decode cX1_clear 16 = .ok (.istore_n 3, 1) := by decide +kernel
theorem dX1_clear_17 : decode cX1_clear 17 = .ok (.iload_n 3, 1) := by decide +kernel
theorem dX1_clear_18 : decode cX1_clear 18 = .ok (.iload_n 2, 1) := by decide +kernel
theorem dX1_clear_19 : decode cX1_clear 19 = .ok (.if_icmp .le 74, 3) := by decide +kernel
theorem dX1_clear_22 : decode cX1_clear 22 = .ok (.iload_n 1, 1) := by decide +kernel
theorem dX1_clear_23 : decode cX1_clear 23 = .ok (.iload_n 3, 1) := by decide +kernel
theorem dX1_clear_24 : decode cX1_clear 24 = .ok (.iload_n 2, 1) := by decide +kernel
theorem dX1_clear_25 : decode cX1_clear 25 = .ok (.invokestatic 61, 3) := by decide +kernel
theorem dX1_clear_28 : decode cX1_clear 28 = .ok (.istore 4, 2) := by decide +kernel
theorem dX1_clear_30 : decode cX1_clear 30 = .ok (.aload_n 0, 1) := by decide +kernel
theorem dX1_clear_31 : decode cX1_clear 31 = .ok (.getfield 25, 3) := by decide +kernel
theorem dX1_clear_34 : decode cX1_clear 34 = .ok (.iload 4, 2) := by decide +kernel
theorem dX1_clear_36 : decode cX1_clear 36 = .ok (.laload, 1) := by decide +kernel
theorem dX1_clear_37 : decode cX1_clear 37 = .ok (.lconst 0, 1) := by decide +kernel
theorem dX1_clear_38 : decode cX1_clear 38 = .ok (.lcmp, 1) := by decide +kernel
theorem dX1_clear_39 : decode cX1_clear 39 = .ok (.ifCond .ne 6, 3) := by decide +kernel
theorem dX1_clear_42 : decode cX1_clear 42 = .ok (.goto 45, 3) := by decide +kernel
theorem dX1_clear_45 : decode cX1_clear 45 = .ok (.aload_n 0, 1) := by decide +kernel
theorem dX1_clear_46 : decode cX1_clear 46 = .ok (.iload 4, 2) := by decide +kernel
theorem dX1_clear_48 : decode cX1_clear 48 = .ok (.iload_n 1, 1) := by decide +kernel
theorem dX1_clear_49 : decode cX1_clear 49 = .ok (.iload_n 3, 1) := by decide +kernel
theorem dX1_clear_50 : decode cX1_clear 50 = .ok (.iconst 1, 1) := by decide +kernel
theorem dX1_clear_51 : decode cX1_clear 51 = .ok (.isub, 1) := by decide +kernel
theorem dX1_clear_52 : decode cX1_clear 52 = .ok (.iload_n 2, 1) := by decide +kernel
theorem dX1_clear_53 : decode cX1_clear 53 = .ok (.invokestatic 61, 3) := by decide +kernel
theorem dX1_clear_56 : decode cX1_clear 56 = .ok (.invokevirtual 68, 3) := by decide +kernel
theorem dX1_clear_59 : decode cX1_clear 59 = .ok (.ifCond .ne 5, 3) := by decide +kernel
theorem dX1_clear_62 : decode cX1_clear 62 = .ok (.iconst 0, 1) := by decide +kernel
theorem dX1_clear_63 : decode cX1_clear 63 = .ok (.ireturn, 1) := by decide +kernel
theorem dX1_clear_64 : decode cX1_clear 64 = .ok (.aload_n 0, 1) := by decide +kernel
theorem dX1_clear_65 : decode cX1_clear 65 = .ok (.iload_n 1, 1) := by decide +kernel
theorem dX1_clear_66 : decode cX1_clear 66 = .ok (.iload_n 3, 1) := by decide +kernel
theorem dX1_clear_67 : decode cX1_clear 67 = .ok (.iconst 1, 1) := by decide +kernel
theorem dX1_clear_68 : decode cX1_clear 68 = .ok (.isub, 1) := by decide +kernel
theorem dX1_clear_69 : decode cX1_clear 69 = .ok (.aload_n 0, 1) := by decide +kernel
theorem dX1_clear_70 : decode cX1_clear 70 = .ok (.getfield 72, 3) := by decide +kernel
theorem dX1_clear_73 : decode cX1_clear 73 = .ok (.aload_n 0, 1) := by decide +kernel
theorem dX1_clear_74 : decode cX1_clear 74 = .ok (.getfield 76, 3) := by decide +kernel
theorem dX1_clear_77 : decode cX1_clear 77 = .ok (.invokevirtual 79, 3) := by decide +kernel
theorem dX1_clear_80 : decode cX1_clear 80 = .ok (.aload_n 0, 1) := by decide +kernel
theorem dX1_clear_81 : decode cX1_clear 81 = .ok (.iload_n 1, 1) := by decide +kernel
theorem dX1_clear_82 : decode cX1_clear 82 = .ok (.iload_n 3, 1) := by decide +kernel
theorem dX1_clear_83 : decode cX1_clear 83 = .ok (.iload_n 2, 1) := by decide +kernel
theorem dX1_clear_84 : decode cX1_clear 84 = .ok (.invokevirtual 83, 3) := by decide +kernel
theorem dX1_clear_87 : decode cX1_clear 87 = .ok (.iinc 3 (-1), 3) := by decide +kernel
theorem dX1_clear_90 : decode cX1_clear 90 = .ok (.goto (-73), 3) := by decide +kernel
theorem dX1_clear_93 : decode cX1_clear 93 = .ok (.iinc 2 1, 3) := by decide +kernel
theorem dX1_clear_96 : decode cX1_clear 96 = .ok (.goto (-94), 3) := by decide +kernel
theorem dX1_clear_99 : decode cX1_clear 99 = .ok (.iconst 1, 1) := by decide +kernel
theorem dX1_clear_100 : decode cX1_clear 100 = .ok (.ireturn, 1) := by decide +kernel
theorem dX1_findShare_0 : decode cX1_findShare 0 = .ok (.aload_n 0, 1) := by decide +kernel
theorem dX1_findShare_1 : decode cX1_findShare 1 = .ok (.getfield 25, 3) := by decide +kernel
theorem dX1_findShare_4 : decode cX1_findShare 4 = .ok (.iload_n 1, 1) := by decide +kernel
theorem dX1_findShare_5 : decode cX1_findShare 5 = .ok (.laload, 1) := by decide +kernel
theorem dX1_findShare_6 : decode cX1_findShare 6 = .ok (.invokestatic 87, 3) := by decide +kernel
theorem dX1_findShare_9 : decode cX1_findShare 9 = .ok (.aload_n 0, 1) := by decide +kernel
theorem dX1_findShare_10 : decode cX1_findShare 10 = .ok (.getfield 25, 3) := by decide +kernel
theorem dX1_findShare_13 : decode cX1_findShare 13 = .ok (.iload_n 2, 1) := by decide +kernel
theorem dX1_findShare_14 : decode cX1_findShare 14 = .ok (.laload, 1) := by decide +kernel
theorem dX1_findShare_15 : decode cX1_findShare 15 = .ok (.invokestatic 87, 3) := by decide +kernel
theorem dX1_findShare_18 : decode cX1_findShare 18 = .ok (.imul, 1) := by decide +kernel
theorem dX1_findShare_19 : decode cX1_findShare 19 = .ok (.ifCond .gt 5, 3) := by decide +kernel
theorem dX1_findShare_22 : decode cX1_findShare 22 = .ok (.iconst 0, 1) := by decide +kernel
theorem dX1_findShare_23 : decode cX1_findShare 23 = .ok (.ireturn, 1) := by decide +kernel
theorem dX1_findShare_24 : decode cX1_findShare 24 = .ok (.aload_n 0, 1) := by decide +kernel
theorem dX1_findShare_25 : decode cX1_findShare 25 = .ok (.getfield 25, 3) := by decide +kernel
theorem dX1_findShare_28 : decode cX1_findShare 28 = .ok (.iload_n 1, 1) := by decide +kernel
theorem dX1_findShare_29 : decode cX1_findShare 29 = .ok (.laload, 1) := by decide +kernel
theorem dX1_findShare_30 : decode cX1_findShare 30 = .ok (.invokestatic 91, 3) := by decide +kernel
theorem dX1_findShare_33 : decode cX1_findShare 33 = .ok (.lstore_n 3, 1) := by decide +kernel
theorem dX1_findShare_34 : decode cX1_findShare 34 = .ok (.aload_n 0, 1) := by decide +kernel
theorem dX1_findShare_35 : decode cX1_findShare 35 = .ok (.getfield 25, 3) := by decide +kernel
theorem dX1_findShare_38 : decode cX1_findShare 38 = .ok (.iload_n 2, 1) := by decide +kernel
theorem dX1_findShare_39 : decode cX1_findShare 39 = .ok (.laload, 1) := by decide +kernel
theorem dX1_findShare_40 : decode cX1_findShare 40 = .ok (.invokestatic 91, 3) := by decide +kernel
theorem dX1_findShare_43 : decode cX1_findShare 43 = .ok (.lstore 5, 2) := by decide +kernel
theorem dX1_findShare_45 : decode cX1_findShare 45 = .ok (.lload_n 3, 1) := by decide +kernel
theorem dX1_findShare_46 : decode cX1_findShare 46 = .ok (.lload 5, 2) := by decide +kernel
theorem dX1_findShare_48 : decode cX1_findShare 48 = .ok (.invokestatic 95, 3) := by decide +kernel
theorem dX1_findShare_51 : decode cX1_findShare 51 = .ok (.lstore 7, 2) := by decide +kernel
theorem dX1_findShare_53 : decode cX1_findShare 53 = .ok (.aload_n 0, 1) := by decide +kernel
theorem dX1_findShare_54 : decode cX1_findShare 54 = .ok (.getfield 28, 3) := by decide +kernel
theorem dX1_findShare_57 : decode cX1_findShare 57 = .ok (.iload_n 1, 1) := by decide +kernel
theorem dX1_findShare_58 : decode cX1_findShare 58 = .ok (.laload, 1) := by decide +kernel
theorem dX1_findShare_59 : decode cX1_findShare 59 = .ok (.aload_n 0, 1) := by decide +kernel
theorem dX1_findShare_60 : decode cX1_findShare 60 = .ok (.getfield 28, 3) := by decide +kernel
theorem dX1_findShare_63 : decode cX1_findShare 63 = .ok (.iload_n 2, 1) := by decide +kernel
theorem dX1_findShare_64 : decode cX1_findShare 64 = .ok (.laload, 1) := by decide +kernel
theorem dX1_findShare_65 : decode cX1_findShare 65 = .ok (.invokestatic 95, 3) := by decide +kernel
theorem dX1_findShare_68 : decode cX1_findShare 68 = .ok (.lstore 9, 2) := by decide +kernel
theorem dX1_findShare_70 : decode cX1_findShare 70 = .ok (.aload_n 0, 1) := by decide +kernel
theorem dX1_findShare_71 : decode cX1_findShare 71 = .ok (.lload_n 3, 1) := by decide +kernel
theorem dX1_findShare_72 : decode cX1_findShare 72 = .ok (.lload 7, 2) := by decide +kernel
theorem dX1_findShare_74 : decode cX1_findShare 74 = .ok (.invokestatic 99, 3) := by decide +kernel
theorem dX1_findShare_77 : decode cX1_findShare 77 = .ok (.aload_n 0, 1) := by decide +kernel
theorem dX1_findShare_78 : decode cX1_findShare 78 = .ok (.getfield 28, 3) := by decide +kernel
theorem dX1_findShare_81 : decode cX1_findShare 81 = .ok (.iload_n 2, 1) := by decide +kernel
theorem dX1_findShare_82 : decode cX1_findShare 82 = .ok (.laload, 1) := by decide +kernel
theorem dX1_findShare_83 : decode cX1_findShare 83 = .ok (.lload 9, 2) := by decide +kernel
theorem dX1_findShare_85 : decode cX1_findShare 85 = .ok (.invokestatic 99, 3) := by decide +kernel
theorem dX1_findShare_88 : decode cX1_findShare 88 = .ok (.lmul, 1) := by decide +kernel
theorem dX1_findShare_89 : decode cX1_findShare 89 = .ok (.putfield 72, 3) := by decide +kernel
theorem dX1_findShare_92 : decode cX1_findShare 92 = .ok (.aload_n 0, 1) := by decide +kernel
theorem dX1_findShare_93 : decode cX1_findShare 93 = .ok (.lload 5, 2) := by decide +kernel
theorem dX1_findShare_95 : decode cX1_findShare 95 = .ok (.lload 7, 2) := by decide +kernel
theorem dX1_findShare_97 : decode cX1_findShare 97 = .ok (.invokestatic 99, 3) := by decide +kernel
theorem dX1_findShare_100 : decode cX1_findShare 100 = .ok (.aload_n 0, 1) := by decide +kernel
theorem dX1_findShare_101 : decode cX1_findShare 101 = .ok (.getfield 28, 3) := by decide +kernel
theorem dX1_findShare_104 : decode cX1_findShare 104 = .ok (.iload_n 1, 1) := by decide +kernel
theorem dX1_findShare_105 : decode cX1_findShare 105 = .ok (.laload, 1) := by decide +kernel
theorem dX1_findShare_106 : decode cX1_findShare 106 = .ok (.lload 9, 2) := by decide +kernel
theorem dX1_findShare_108 : decode cX1_findShare 108 = .ok (.invokestatic 99, 3) := by decide +kernel
theorem dX1_findShare_111 : decode cX1_findShare 111 = .ok (.lmul, 1) := by decide +kernel
theorem dX1_findShare_112 : decode cX1_findShare 112 = .ok (.putfield 76, 3) := by decide +kernel
theorem dX1_findShare_115 : decode cX1_findShare 115 = .ok (.iconst 1, 1) := by decide +kernel
theorem dX1_findShare_116 : decode cX1_findShare 116 = .ok (.ireturn, 1) := by decide +kernel
theorem dX1_takeRowAbove_0 : decode cX1_takeRowAbove 0 = .ok (.aload_n 0, 1) := by decide +kernel
theorem dX1_takeRowAbove_1 : decode cX1_takeRowAbove 1 = .ok (.getfield 25, 3) := by decide +kernel
theorem dX1_takeRowAbove_4 : decode cX1_takeRowAbove 4 = .ok (.iload_n 1, 1) := by decide +kernel
theorem dX1_takeRowAbove_5 : decode cX1_takeRowAbove 5 = .ok (.iload_n 2, 1) := by decide +kernel
theorem dX1_takeRowAbove_6 : decode cX1_takeRowAbove 6 = .ok (.iload_n 3, 1) := by decide +kernel
theorem dX1_takeRowAbove_7 : decode cX1_takeRowAbove 7 = .ok (.invokestatic 61, 3) := by decide +kernel
theorem dX1_takeRowAbove_10 : decode cX1_takeRowAbove 10 = .ok (.lconst 0, 1) := by decide +kernel
theorem dX1_takeRowAbove_11 : decode cX1_takeRowAbove 11 = .ok (.lastore, 1) := by decide +kernel
theorem dX1_takeRowAbove_12 : decode cX1_takeRowAbove 12 = .ok (.aload_n 0, 1) := by decide +kernel
theorem dX1_takeRowAbove_13 : decode cX1_takeRowAbove 13 = .ok (.getfield 28, 3) := by decide +kernel
theorem dX1_takeRowAbove_16 : decode cX1_takeRowAbove 16 = .ok (.iload_n 1, 1) := by decide +kernel
theorem dX1_takeRowAbove_17 : decode cX1_takeRowAbove 17 = .ok (.iload_n 2, 1) := by decide +kernel
theorem dX1_takeRowAbove_18 : decode cX1_takeRowAbove 18 = .ok (.iload_n 3, 1) := by decide +kernel
theorem dX1_takeRowAbove_19 : decode cX1_takeRowAbove 19 = .ok (.invokestatic 61, 3) := by decide +kernel
theorem dX1_takeRowAbove_22 : decode cX1_takeRowAbove 22 = .ok (.lconst 1, 1) := by decide +kernel
theorem dX1_takeRowAbove_23 : decode cX1_takeRowAbove 23 = .ok (.lastore, 1) := by decide +kernel
theorem dX1_takeRowAbove_24 : decode cX1_takeRowAbove 24 = .ok (.iload_n 3, 1) := by decide +kernel
theorem dX1_takeRowAbove_25 : decode cX1_takeRowAbove 25 = .ok (.iconst 1, 1) := by decide +kernel
theorem dX1_takeRowAbove_26 : decode cX1_takeRowAbove 26 = .ok (.iadd, 1) := by decide +kernel
theorem dX1_takeRowAbove_27 : decode cX1_takeRowAbove 27 = .ok (.istore 4, 2) := by decide +kernel
theorem dX1_takeRowAbove_29 : decode cX1_takeRowAbove 29 = .ok (.iload 4, 2) := by decide +kernel
theorem dX1_takeRowAbove_31 : decode cX1_takeRowAbove 31 = .ok (.aload_n 0, 1) := by decide +kernel
theorem dX1_takeRowAbove_32 : decode cX1_takeRowAbove 32 = .ok (.getfield 58, 3) := by decide +kernel
theorem dX1_takeRowAbove_35 : decode cX1_takeRowAbove 35 = .ok (.if_icmp .ge 29, 3) := by decide +kernel
theorem dX1_takeRowAbove_38 : decode cX1_takeRowAbove 38 = .ok (.aload_n 0, 1) := by decide +kernel
theorem dX1_takeRowAbove_39 : decode cX1_takeRowAbove 39 = .ok (.iload_n 1, 1) := by decide +kernel
theorem dX1_takeRowAbove_40 : decode cX1_takeRowAbove 40 = .ok (.iload_n 2, 1) := by decide +kernel
theorem dX1_takeRowAbove_41 : decode cX1_takeRowAbove 41 = .ok (.iload 4, 2) := by decide +kernel
theorem dX1_takeRowAbove_43 : decode cX1_takeRowAbove 43 = .ok (.invokestatic 61, 3) := by decide +kernel
theorem dX1_takeRowAbove_46 : decode cX1_takeRowAbove 46 = .ok (.iload_n 1, 1) := by decide +kernel
theorem dX1_takeRowAbove_47 : decode cX1_takeRowAbove 47 = .ok (.iload_n 2, 1) := by decide +kernel
theorem dX1_takeRowAbove_48 : decode cX1_takeRowAbove 48 = .ok (.iconst 1, 1) := by decide +kernel
theorem dX1_takeRowAbove_49 : decode cX1_takeRowAbove 49 = .ok (.isub, 1) := by decide +kernel
theorem dX1_takeRowAbove_50 : decode cX1_takeRowAbove 50 = .ok (.iload 4, 2) := by decide +kernel
theorem dX1_takeRowAbove_52 : decode cX1_takeRowAbove 52 = .ok (.invokestatic 61, 3) := by decide +kernel
theorem dX1_takeRowAbove_55 : decode cX1_takeRowAbove 55 = .ok (.invokevirtual 102, 3) := by decide +kernel
theorem dX1_takeRowAbove_58 : decode cX1_takeRowAbove 58 = .ok (.iinc 4 1, 3) := by decide +kernel
theorem dX1_takeRowAbove_61 : decode cX1_takeRowAbove 61 = .ok (.goto (-32), 3) := by decide +kernel
theorem dX1_takeRowAbove_64 : decode cX1_takeRowAbove 64 = .ok (.return_, 1) := by decide +kernel
theorem dX1_takeShare_0 : decode cX1_takeShare 0 = .ok (.aload_n 0, 1) := by decide +kernel
theorem dX1_takeShare_1 : decode cX1_takeShare 1 = .ok (.getfield 25, 3) := by decide +kernel
theorem dX1_takeShare_4 : decode cX1_takeShare 4 = .ok (.iload_n 2, 1) := by decide +kernel
theorem dX1_takeShare_5 : decode cX1_takeShare 5 = .ok (.laload, 1) := by decide +kernel
theorem dX1_takeShare_6 : decode cX1_takeShare 6 = .ok (.lconst 0, 1) := by decide +kernel
theorem dX1_takeShare_7 : decode cX1_takeShare 7 = .ok (.lcmp, 1) := by decide +kernel
theorem dX1_takeShare_8 : decode cX1_takeShare 8 = .ok (.ifCond .ne 4, 3) := by decide +kernel
theorem dX1_takeShare_11 : decode cX1_takeShare 11 = .ok (.return_, 1) := by decide +kernel
theorem dX1_takeShare_12 : decode cX1_takeShare 12 = .ok (.aload_n 0, 1) := by decide +kernel
theorem dX1_takeShare_13 : decode cX1_takeShare 13 = .ok (.getfield 72, 3) := by decide +kernel
theorem dX1_takeShare_16 : decode cX1_takeShare 16 = .ok (.aload_n 0, 1) := by decide +kernel
theorem dX1_takeShare_17 : decode cX1_takeShare 17 = .ok (.getfield 28, 3) := by decide +kernel
theorem dX1_takeShare_20 : decode cX1_takeShare 20 = .ok (.iload_n 2, 1) := by decide +kernel
theorem dX1_takeShare_21 : decode cX1_takeShare 21 = .ok (.laload, 1) := by decide +kernel
theorem dX1_takeShare_22 : decode cX1_takeShare 22 = .ok (.invokestatic 95, 3) := by decide +kernel
theorem dX1_takeShare_25 : decode cX1_takeShare 25 = .ok (.lstore_n 3, 1) := by decide +kernel
theorem dX1_takeShare_26 : decode cX1_takeShare 26 = .ok (.aload_n 0, 1) := by decide +kernel
theorem dX1_takeShare_27 : decode cX1_takeShare 27 = .ok (.getfield 25, 3) := by decide +kernel
theorem dX1_takeShare_30 : decode cX1_takeShare 30 = .ok (.iload_n 2, 1) := by decide +kernel
theorem dX1_takeShare_31 : decode cX1_takeShare 31 = .ok (.laload, 1) := by decide +kernel
theorem dX1_takeShare_32 : decode cX1_takeShare 32 = .ok (.aload_n 0, 1) := by decide +kernel
theorem dX1_takeShare_33 : decode cX1_takeShare 33 = .ok (.getfield 76, 3) := by decide +kernel
theorem dX1_takeShare_36 : decode cX1_takeShare 36 = .ok (.invokestatic 95, 3) := by decide +kernel
theorem dX1_takeShare_39 : decode cX1_takeShare 39 = .ok (.lstore 5, 2) := by decide +kernel
theorem dX1_takeShare_41 : decode cX1_takeShare 41 = .ok (.aload_n 0, 1) := by decide +kernel
theorem dX1_takeShare_42 : decode cX1_takeShare 42 = .ok (.getfield 72, 3) := by decide +kernel
theorem dX1_takeShare_45 : decode cX1_takeShare 45 = .ok (.lload_n 3, 1) := by decide +kernel
theorem dX1_takeShare_46 : decode cX1_takeShare 46 = .ok (.invokestatic 99, 3) := by decide +kernel
theorem dX1_takeShare_49 : decode cX1_takeShare 49 = .ok (.aload_n 0, 1) := by decide +kernel
theorem dX1_takeShare_50 : decode cX1_takeShare 50 = .ok (.getfield 25, 3) := by decide +kernel
theorem dX1_takeShare_53 : decode cX1_takeShare 53 = .ok (.iload_n 2, 1) := by decide +kernel
theorem dX1_takeShare_54 : decode cX1_takeShare 54 = .ok (.laload, 1) := by decide +kernel
theorem dX1_takeShare_55 : decode cX1_takeShare 55 = .ok (.lload 5, 2) := by decide +kernel
theorem dX1_takeShare_57 : decode cX1_takeShare 57 = .ok (.invokestatic 99, 3) := by decide +kernel
theorem dX1_takeShare_60 : decode cX1_takeShare 60 = .ok (.lmul, 1) := by decide +kernel
theorem dX1_takeShare_61 : decode cX1_takeShare 61 = .ok (.lstore 7, 2) := by decide +kernel
theorem dX1_takeShare_63 : decode cX1_takeShare 63 = .ok (.aload_n 0, 1) := by decide +kernel
theorem dX1_takeShare_64 : decode cX1_takeShare 64 = .ok (.getfield 76, 3) := by decide +kernel
theorem dX1_takeShare_67 : decode cX1_takeShare 67 = .ok (.lload 5, 2) := by decide +kernel
theorem dX1_takeShare_69 : decode cX1_takeShare 69 = .ok (.invokestatic 99, 3) := by decide +kernel
theorem dX1_takeShare_72 : decode cX1_takeShare 72 = .ok (.aload_n 0, 1) := by decide +kernel
theorem dX1_takeShare_73 : decode cX1_takeShare 73 = .ok (.getfield 28, 3) := by decide +kernel
theorem dX1_takeShare_76 : decode cX1_takeShare 76 = .ok (.iload_n 2, 1) := by decide +kernel
theorem dX1_takeShare_77 : decode cX1_takeShare 77 = .ok (.laload, 1) := by decide +kernel
theorem dX1_takeShare_78 : decode cX1_takeShare 78 = .ok (.lload_n 3, 1) := by decide +kernel
theorem dX1_takeShare_79 : decode cX1_takeShare 79 = .ok (.invokestatic 99, 3) := by decide +kernel
theorem dX1_takeShare_82 : decode cX1_takeShare 82 = .ok (.lmul, 1) := by decide +kernel
theorem dX1_takeShare_83 : decode cX1_takeShare 83 = .ok (.lstore 9, 2) := by decide +kernel
theorem dX1_takeShare_85 : decode cX1_takeShare 85 = .ok (.aload_n 0, 1) := by decide +kernel
theorem dX1_takeShare_86 : decode cX1_takeShare 86 = .ok (.getfield 25, 3) := by decide +kernel
theorem dX1_takeShare_89 : decode cX1_takeShare 89 = .ok (.iload_n 1, 1) := by decide +kernel
theorem dX1_takeShare_90 : decode cX1_takeShare 90 = .ok (.laload, 1) := by decide +kernel
theorem dX1_takeShare_91 : decode cX1_takeShare 91 = .ok (.lload 9, 2) := by decide +kernel
theorem dX1_takeShare_93 : decode cX1_takeShare 93 = .ok (.lmul, 1) := by decide +kernel
theorem dX1_takeShare_94 : decode cX1_takeShare 94 = .ok (.lload 7, 2) := by decide +kernel
theorem dX1_takeShare_96 : decode cX1_takeShare 96 = .ok (.aload_n 0, 1) := by decide +kernel
theorem dX1_takeShare_97 : decode cX1_takeShare 97 = .ok (.getfield 28, 3) := by decide +kernel
theorem dX1_takeShare_100 : decode cX1_takeShare 100 = .ok (.iload_n 1, 1) := by decide +kernel
theorem dX1_takeShare_101 : decode cX1_takeShare 101 = .ok (.laload, 1) := by decide +kernel
theorem dX1_takeShare_102 : decode cX1_takeShare 102 = .ok (.lmul, 1) := by decide +kernel
theorem dX1_takeShare_103 : decode cX1_takeShare 103 = .ok (.lsub, 1) := by decide +kernel
theorem dX1_takeShare_104 : decode cX1_takeShare 104 = .ok (.lstore 11, 2) := by decide +kernel
theorem dX1_takeShare_106 : decode cX1_takeShare 106 = .ok (.aload_n 0, 1) := by decide +kernel
theorem dX1_takeShare_107 : decode cX1_takeShare 107 = .ok (.getfield 28, 3) := by decide +kernel
theorem dX1_takeShare_110 : decode cX1_takeShare 110 = .ok (.iload_n 1, 1) := by decide +kernel
theorem dX1_takeShare_111 : decode cX1_takeShare 111 = .ok (.laload, 1) := by decide +kernel
theorem dX1_takeShare_112 : decode cX1_takeShare 112 = .ok (.lload 9, 2) := by decide +kernel
theorem dX1_takeShare_114 : decode cX1_takeShare 114 = .ok (.lmul, 1) := by decide +kernel
theorem dX1_takeShare_115 : decode cX1_takeShare 115 = .ok (.lstore 13, 2) := by decide +kernel
theorem dX1_takeShare_117 : decode cX1_takeShare 117 = .ok (.lload 11, 2) := by decide +kernel
theorem dX1_takeShare_119 : decode cX1_takeShare 119 = .ok (.lload 13, 2) := by decide +kernel
theorem dX1_takeShare_121 : decode cX1_takeShare 121 = .ok (.invokestatic 95, 3) := by decide +kernel
theorem dX1_takeShare_124 : decode cX1_takeShare 124 = .ok (.lstore 15, 2) := by decide +kernel
theorem dX1_takeShare_126 : decode cX1_takeShare 126 = .ok (.aload_n 0, 1) := by decide +kernel
theorem dX1_takeShare_127 : decode cX1_takeShare 127 = .ok (.getfield 25, 3) := by decide +kernel
theorem dX1_takeShare_130 : decode cX1_takeShare 130 = .ok (.iload_n 1, 1) := by decide +kernel
theorem dX1_takeShare_131 : decode cX1_takeShare 131 = .ok (.lload 11, 2) := by decide +kernel
theorem dX1_takeShare_133 : decode cX1_takeShare 133 = .ok (.lload 15, 2) := by decide +kernel
theorem dX1_takeShare_135 : decode cX1_takeShare 135 = .ok (.invokestatic 99, 3) := by decide +kernel
theorem dX1_takeShare_138 : decode cX1_takeShare 138 = .ok (.lastore, 1) := by decide +kernel
theorem dX1_takeShare_139 : decode cX1_takeShare 139 = .ok (.aload_n 0, 1) := by decide +kernel
theorem dX1_takeShare_140 : decode cX1_takeShare 140 = .ok (.getfield 28, 3) := by decide +kernel
theorem dX1_takeShare_143 : decode cX1_takeShare 143 = .ok (.iload_n 1, 1) := by decide +kernel
theorem dX1_takeShare_144 : decode cX1_takeShare 144 = .ok (.lload 13, 2) := by decide +kernel
theorem dX1_takeShare_146 : decode cX1_takeShare 146 = .ok (.lload 15, 2) := by decide +kernel
theorem dX1_takeShare_148 : decode cX1_takeShare 148 = .ok (.invokestatic 99, 3) := by decide +kernel
theorem dX1_takeShare_151 : decode cX1_takeShare 151 = .ok (.lastore, 1) := by decide +kernel
theorem dX1_takeShare_152 : decode cX1_takeShare 152 = .ok (.return_, 1) := by decide +kernel
theorem dX1_standOnLine_0 : decode cX1_standOnLine 0 = .ok (.iconst 0, 1) := by decide +kernel
theorem dX1_standOnLine_1 : decode cX1_standOnLine 1 = .ok (.istore_n 1, 1) := by decide +kernel
theorem dX1_standOnLine_2 : decode cX1_standOnLine 2 = .ok (.iload_n 1, 1) := by decide +kernel
theorem dX1_standOnLine_3 : decode cX1_standOnLine 3 = .ok (.aload_n 0, 1) := by decide +kernel
theorem dX1_standOnLine_4 : decode cX1_standOnLine 4 = .ok (.getfield 58, 3) := by decide +kernel
theorem dX1_standOnLine_7 : decode cX1_standOnLine 7 = .ok (.if_icmp .ge 47, 3) := by decide +kernel
theorem dX1_standOnLine_10 : decode cX1_standOnLine 10 = .ok (.iconst 2, 1) := by decide +kernel
theorem dX1_standOnLine_11 : decode cX1_standOnLine 11 = .ok (.iload_n 1, 1) := by decide +kernel
theorem dX1_standOnLine_12 : decode cX1_standOnLine 12 = .ok (.iload_n 1, 1) := by decide +kernel
theorem dX1_standOnLine_13 : decode cX1_standOnLine 13 = .ok (.invokestatic 61, 3) := by decide +kernel
theorem dX1_standOnLine_16 : decode cX1_standOnLine 16 = .ok (.istore_n 2, 1) := by decide +kernel
theorem dX1_standOnLine_17 : decode cX1_standOnLine 17 = .ok (.aload_n 0, 1) := by decide +kernel
theorem dX1_standOnLine_18 : decode cX1_standOnLine 18 = .ok (.getfield 25, 3) := by decide +kernel
theorem dX1_standOnLine_21 : decode cX1_standOnLine 21 = .ok (.iload_n 2, 1) := by decide +kernel
theorem dX1_standOnLine_22 : decode cX1_standOnLine 22 = .ok (.laload, 1) := by decide +kernel
theorem dX1_standOnLine_23 : decode cX1_standOnLine 23 = .ok (.lconst 0, 1) := by decide +kernel
theorem dX1_standOnLine_24 : decode cX1_standOnLine 24 = .ok (.lcmp, 1) := by decide +kernel
theorem dX1_standOnLine_25 : decode cX1_standOnLine 25 = .ok (.ifCond .gt 5, 3) := by decide +kernel
theorem dX1_standOnLine_28 : decode cX1_standOnLine 28 = .ok (.iconst 0, 1) := by decide +kernel
theorem dX1_standOnLine_29 : decode cX1_standOnLine 29 = .ok (.ireturn, 1) := by decide +kernel
theorem dX1_standOnLine_30 : decode cX1_standOnLine 30 = .ok (.aload_n 0, 1) := by decide +kernel
theorem dX1_standOnLine_31 : decode cX1_standOnLine 31 = .ok (.iconst 2, 1) := by decide +kernel
theorem dX1_standOnLine_32 : decode cX1_standOnLine 32 = .ok (.iload_n 1, 1) := by decide +kernel
theorem dX1_standOnLine_33 : decode cX1_standOnLine 33 = .ok (.aload_n 0, 1) := by decide +kernel
theorem dX1_standOnLine_34 : decode cX1_standOnLine 34 = .ok (.getfield 25, 3) := by decide +kernel
theorem dX1_standOnLine_37 : decode cX1_standOnLine 37 = .ok (.iload_n 2, 1) := by decide +kernel
theorem dX1_standOnLine_38 : decode cX1_standOnLine 38 = .ok (.laload, 1) := by decide +kernel
theorem dX1_standOnLine_39 : decode cX1_standOnLine 39 = .ok (.aload_n 0, 1) := by decide +kernel
theorem dX1_standOnLine_40 : decode cX1_standOnLine 40 = .ok (.getfield 28, 3) := by decide +kernel
theorem dX1_standOnLine_43 : decode cX1_standOnLine 43 = .ok (.iload_n 2, 1) := by decide +kernel
theorem dX1_standOnLine_44 : decode cX1_standOnLine 44 = .ok (.laload, 1) := by decide +kernel
theorem dX1_standOnLine_45 : decode cX1_standOnLine 45 = .ok (.invokevirtual 79, 3) := by decide +kernel
theorem dX1_standOnLine_48 : decode cX1_standOnLine 48 = .ok (.iinc 1 1, 3) := by decide +kernel
theorem dX1_standOnLine_51 : decode cX1_standOnLine 51 = .ok (.goto (-49), 3) := by decide +kernel
theorem dX1_standOnLine_54 : decode cX1_standOnLine 54 = .ok (.iconst 1, 1) := by decide +kernel
theorem dX1_standOnLine_55 : decode cX1_standOnLine 55 = .ok (.ireturn, 1) := by decide +kernel
theorem dX1_note_0 : decode cX1_note 0 = .ok (.aload_n 0, 1) := by decide +kernel
theorem dX1_note_1 : decode cX1_note 1 = .ok (.getfield 43, 3) := by decide +kernel
theorem dX1_note_4 : decode cX1_note 4 = .ok (.bipush 9, 2) := by decide +kernel
theorem dX1_note_6 : decode cX1_note 6 = .ok (.if_icmp .ge 54, 3) := by decide +kernel
theorem dX1_note_9 : decode cX1_note 9 = .ok (.aload_n 0, 1) := by decide +kernel
theorem dX1_note_10 : decode cX1_note 10 = .ok (.getfield 9, 3) := by decide +kernel
theorem dX1_note_13 : decode cX1_note 13 = .ok (.aload_n 0, 1) := by decide +kernel
theorem dX1_note_14 : decode cX1_note 14 = .ok (.getfield 43, 3) := by decide +kernel
theorem dX1_note_17 : decode cX1_note 17 = .ok (.iload_n 1, 1) := by decide +kernel
theorem dX1_note_18 : decode cX1_note 18 = .ok (.iastore, 1) := by decide +kernel
theorem dX1_note_19 : decode cX1_note 19 = .ok (.aload_n 0, 1) := by decide +kernel
theorem dX1_note_20 : decode cX1_note 20 = .ok (.getfield 15, 3) := by decide +kernel
theorem dX1_note_23 : decode cX1_note 23 = .ok (.aload_n 0, 1) := by decide +kernel
theorem dX1_note_24 : decode cX1_note 24 = .ok (.getfield 43, 3) := by decide +kernel
theorem dX1_note_27 : decode cX1_note 27 = .ok (.iload_n 2, 1) := by decide +kernel
theorem dX1_note_28 : decode cX1_note 28 = .ok (.iastore, 1) := by decide +kernel
theorem dX1_note_29 : decode cX1_note 29 = .ok (.aload_n 0, 1) := by decide +kernel
theorem dX1_note_30 : decode cX1_note 30 = .ok (.getfield 18, 3) := by decide +kernel
theorem dX1_note_33 : decode cX1_note 33 = .ok (.aload_n 0, 1) := by decide +kernel
theorem dX1_note_34 : decode cX1_note 34 = .ok (.getfield 43, 3) := by decide +kernel
theorem dX1_note_37 : decode cX1_note 37 = .ok (.lload_n 3, 1) := by decide +kernel
theorem dX1_note_38 : decode cX1_note 38 = .ok (.lastore, 1) := by decide +kernel
theorem dX1_note_39 : decode cX1_note 39 = .ok (.aload_n 0, 1) := by decide +kernel
theorem dX1_note_40 : decode cX1_note 40 = .ok (.getfield 22, 3) := by decide +kernel
theorem dX1_note_43 : decode cX1_note 43 = .ok (.aload_n 0, 1) := by decide +kernel
theorem dX1_note_44 : decode cX1_note 44 = .ok (.getfield 43, 3) := by decide +kernel
theorem dX1_note_47 : decode cX1_note 47 = .ok (.lload 5, 2) := by decide +kernel
theorem dX1_note_49 : decode cX1_note 49 = .ok (.lastore, 1) := by decide +kernel
theorem dX1_note_50 : decode cX1_note 50 = .ok (.aload_n 0, 1) := by decide +kernel
theorem dX1_note_51 : decode cX1_note 51 = .ok (.dup, 1) := by decide +kernel
theorem dX1_note_52 : decode cX1_note 52 = .ok (.getfield 43, 3) := by decide +kernel
theorem dX1_note_55 : decode cX1_note 55 = .ok (.iconst 1, 1) := by decide +kernel
theorem dX1_note_56 : decode cX1_note 56 = .ok (.iadd, 1) := by decide +kernel
theorem dX1_note_57 : decode cX1_note 57 = .ok (.putfield 43, 3) := by decide +kernel
theorem dX1_note_60 : decode cX1_note 60 = .ok (.return_, 1) := by decide +kernel
theorem dX1_commonOf_0 : decode cX1_commonOf 0 = .ok (.lload_n 0, 1) := by decide +kernel
theorem dX1_commonOf_1 : decode cX1_commonOf 1 = .ok (.invokestatic 91, 3) := by decide +kernel
theorem dX1_commonOf_4 : decode cX1_commonOf 4 = .ok (.lstore 4, 2) := by decide +kernel
theorem dX1_commonOf_6 : decode cX1_commonOf 6 = .ok (.lload_n 2, 1) := by decide +kernel
theorem dX1_commonOf_7 : decode cX1_commonOf 7 = .ok (.invokestatic 91, 3) := by decide +kernel
theorem dX1_commonOf_10 : decode cX1_commonOf 10 = .ok (.lstore 6, 2) := by decide +kernel
theorem dX1_commonOf_12 : decode cX1_commonOf 12 = .ok (.iconst 0, 1) := by decide +kernel
theorem dX1_commonOf_13 : decode cX1_commonOf 13 = .ok (.istore 8, 2) := by decide +kernel
theorem dX1_commonOf_15 : decode cX1_commonOf 15 = .ok (.iload 8, 2) := by decide +kernel
theorem dX1_commonOf_17 : decode cX1_commonOf 17 = .ok (.bipush 100, 2) := by decide +kernel
theorem dX1_commonOf_19 : decode cX1_commonOf 19 = .ok (.if_icmp .ge 31, 3) := by decide +kernel
theorem dX1_commonOf_22 : decode cX1_commonOf 22 = .ok (.lload 6, 2) := by decide +kernel
theorem dX1_commonOf_24 : decode cX1_commonOf 24 = .ok (.lconst 0, 1) := by decide +kernel
theorem dX1_commonOf_25 : decode cX1_commonOf 25 = .ok (.lcmp, 1) := by decide +kernel
theorem dX1_commonOf_26 : decode cX1_commonOf 26 = .ok (.ifCond .eq 24, 3) := by decide +kernel
theorem dX1_commonOf_29 : decode cX1_commonOf 29 = .ok (.lload 4, 2) := by decide +kernel
theorem dX1_commonOf_31 : decode cX1_commonOf 31 = .ok (.lload 6, 2) := by decide +kernel
theorem dX1_commonOf_33 : decode cX1_commonOf 33 = .ok (.lrem, 1) := by decide +kernel
theorem dX1_commonOf_34 : decode cX1_commonOf 34 = .ok (.lstore 9, 2) := by decide +kernel
theorem dX1_commonOf_36 : decode cX1_commonOf 36 = .ok (.lload 6, 2) := by decide +kernel
theorem dX1_commonOf_38 : decode cX1_commonOf 38 = .ok (.lstore 4, 2) := by decide +kernel
theorem dX1_commonOf_40 : decode cX1_commonOf 40 = .ok (.lload 9, 2) := by decide +kernel
theorem dX1_commonOf_42 : decode cX1_commonOf 42 = .ok (.lstore 6, 2) := by decide +kernel
theorem dX1_commonOf_44 : decode cX1_commonOf 44 = .ok (.iinc 8 1, 3) := by decide +kernel
theorem dX1_commonOf_47 : decode cX1_commonOf 47 = .ok (.goto (-32), 3) := by decide +kernel
theorem dX1_commonOf_50 : decode cX1_commonOf 50 = .ok (.lload 4, 2) := by decide +kernel
theorem dX1_commonOf_52 : decode cX1_commonOf 52 = .ok (.lreturn, 1) := by decide +kernel
theorem dX1_without_0 : decode cX1_without 0 = .ok (.lload_n 2, 1) := by decide +kernel
theorem dX1_without_1 : decode cX1_without 1 = .ok (.lconst 1, 1) := by decide +kernel
theorem dX1_without_2 : decode cX1_without 2 = .ok (.lcmp, 1) := by decide +kernel
theorem dX1_without_3 : decode cX1_without 3 = .ok (.ifCond .le 9, 3) := by decide +kernel
theorem dX1_without_6 : decode cX1_without 6 = .ok (.lload_n 0, 1) := by decide +kernel
theorem dX1_without_7 : decode cX1_without 7 = .ok (.lload_n 2, 1) := by decide +kernel
theorem dX1_without_8 : decode cX1_without 8 = .ok (.ldiv, 1) := by decide +kernel
theorem dX1_without_9 : decode cX1_without 9 = .ok (.goto 4, 3) := by decide +kernel
theorem dX1_without_12 : decode cX1_without 12 = .ok (.lload_n 0, 1) := by decide +kernel
theorem dX1_without_13 : decode cX1_without 13 = .ok (.lreturn, 1) := by decide +kernel
theorem dX2_init_0 : decode cX2_init 0 = .ok (.aload_n 0, 1) := by decide +kernel
theorem dX2_init_1 : decode cX2_init 1 = .ok (.invokespecial 3, 3) := by decide +kernel
theorem dX2_init_4 : decode cX2_init 4 = .ok (.aload_n 0, 1) := by decide +kernel
theorem dX2_init_5 : decode cX2_init 5 = .ok (.sipush 544, 3) := by decide +kernel
theorem dX2_init_8 : decode cX2_init 8 = .ok (.newarray .long, 2) := by decide +kernel
theorem dX2_init_10 : decode cX2_init 10 = .ok (.putfield 9, 3) := by decide +kernel
theorem dX2_init_13 : decode cX2_init 13 = .ok (.return_, 1) := by decide +kernel
theorem dX2_lead_0 : decode cX2_lead 0 = .ok (.iconst 0, 1) := by decide +kernel
theorem dX2_lead_1 : decode cX2_lead 1 = .ok (.istore 5, 2) := by decide +kernel
theorem dX2_lead_3 : decode cX2_lead 3 = .ok (.iload 5, 2) := by decide +kernel
theorem dX2_lead_5 : decode cX2_lead 5 = .ok (.bipush 32, 2) := by decide +kernel
theorem dX2_lead_7 : decode cX2_lead 7 = .ok (.if_icmp .ge 35, 3) := by decide +kernel
theorem dX2_lead_10 : decode cX2_lead 10 = .ok (.aload_n 0, 1) := by decide +kernel
theorem dX2_lead_11 : decode cX2_lead 11 = .ok (.getfield 9, 3) := by decide +kernel
theorem dX2_lead_14 : decode cX2_lead 14 = .ok (.aload_n 1, 1) := by decide +kernel
theorem dX2_lead_15 : decode cX2_lead 15 = .ok (.getfield 15, 3) := by decide +kernel
theorem dX2_lead_18 : decode cX2_lead 18 = .ok (.bipush 32, 2) := by decide +kernel
theorem dX2_lead_20 : decode cX2_lead 20 = .ok (.imul, 1) := by decide +kernel
theorem dX2_lead_21 : decode cX2_lead 21 = .ok (.iload 5, 2) := by decide +kernel
theorem dX2_lead_23 : decode cX2_lead 23 = .ok (.iadd, 1) := by decide +kernel
theorem dX2_lead_24 : decode cX2_lead 24 = .ok (.iload 5, 2) := by decide +kernel
theorem dX2_lead_26 : decode cX2_lead 26 = .ok (.iload_n 3, 1) := by decide +kernel
theorem dX2_lead_27 : decode cX2_lead 27 = .ok (.if_icmp .ne 7, 3) := by decide +kernel
theorem dX2_lead_30 : decode cX2_lead 30 = .ok (.lconst 1, 1) := by decide +kernel
theorem dX2_lead_31 : decode cX2_lead 31 = .ok (.goto 4, 3) := by decide +kernel
theorem dX2_lead_34 : decode cX2_lead 34 = .ok (.lconst 0, 1) := by decide +kernel
theorem dX2_lead_35 : decode cX2_lead 35 = .ok (.lastore, 1) := by decide +kernel
theorem dX2_lead_36 : decode cX2_lead 36 = .ok (.iinc 5 1, 3) := by decide +kernel
theorem dX2_lead_39 : decode cX2_lead 39 = .ok (.goto (-36), 3) := by decide +kernel
theorem dX2_lead_42 : decode cX2_lead 42 = .ok (.aload_n 1, 1) := by decide +kernel
theorem dX2_lead_43 : decode cX2_lead 43 = .ok (.getfield 15, 3) := by decide +kernel
theorem dX2_lead_46 : decode cX2_lead 46 = .ok (.iconst 1, 1) := by decide +kernel
theorem dX2_lead_47 : decode cX2_lead 47 = .ok (.isub, 1) := by decide +kernel
theorem dX2_lead_48 : decode cX2_lead 48 = .ok (.istore 5, 2) := by decide +kernel
theorem dX2_lead_50 : decode cX2_lead 50 = .ok (.iload 5, 2) := by decide +kernel
theorem dX2_lead_52 : decode cX2_lead 52 = .ok (.ifCond .lt 49, 3) := by decide +kernel
theorem dX2_lead_55 : decode cX2_lead 55 = .ok (.iconst 0, 1) := by decide +kernel
theorem dX2_lead_56 : decode cX2_lead 56 = .ok (.istore 6, 2) := by decide +kernel
theorem dX2_lead_58 : decode cX2_lead 58 = .ok (.iload 6, 2) := by decide +kernel
theorem dX2_lead_60 : decode cX2_lead 60 = .ok (.bipush 32, 2) := by decide +kernel
theorem dX2_lead_62 : decode cX2_lead 62 = .ok (.if_icmp .ge 33, 3) := by decide +kernel
theorem dX2_lead_65 : decode cX2_lead 65 = .ok (.aload_n 0, 1) := by decide +kernel
theorem dX2_lead_66 : decode cX2_lead 66 = .ok (.getfield 9, 3) := by decide +kernel
theorem dX2_lead_69 : decode cX2_lead 69 = .ok (.iload 5, 2) := by decide +kernel
theorem dX2_lead_71 : decode cX2_lead 71 = .ok (.bipush 32, 2) := by decide +kernel
theorem dX2_lead_73 : decode cX2_lead 73 = .ok (.imul, 1) := by decide +kernel
theorem dX2_lead_74 : decode cX2_lead 74 = .ok (.iload 6, 2) := by decide +kernel
theorem dX2_lead_76 : decode cX2_lead 76 = .ok (.iadd, 1) := by decide +kernel
theorem dX2_lead_77 : decode cX2_lead 77 = .ok (.aload_n 0, 1) := by decide +kernel
theorem dX2_lead_78 : decode cX2_lead 78 = .ok (.aload_n 1, 1) := by decide +kernel
theorem dX2_lead_79 : decode cX2_lead 79 = .ok (.iload 5, 2) := by decide +kernel
theorem dX2_lead_81 : decode cX2_lead 81 = .ok (.iload 6, 2) := by decide +kernel
theorem dX2_lead_83 : decode cX2_lead 83 = .ok (.iload 4, 2) := by decide +kernel
theorem dX2_lead_85 : decode cX2_lead 85 = .ok (.invokevirtual 21, 3) := by decide +kernel
theorem dX2_lead_88 : decode cX2_lead 88 = .ok (.lastore, 1) := by decide +kernel
theorem dX2_lead_89 : decode cX2_lead 89 = .ok (.iinc 6 1, 3) := by decide +kernel
theorem dX2_lead_92 : decode cX2_lead 92 = .ok (.goto (-34), 3) := by decide +kernel
theorem dX2_lead_95 : decode cX2_lead 95 = .ok (.iinc 5 (-1), 3) := by decide +kernel
theorem dX2_lead_98 : decode cX2_lead 98 = .ok (.goto (-48), 3) := by decide +kernel
theorem dX2_lead_101 : decode cX2_lead 101 = .ok (.iload_n 2, 1) := by decide +kernel
theorem dX2_lead_102 : decode cX2_lead 102 = .ok (.ifCond .lt 18, 3) := by decide +kernel
theorem dX2_lead_105 : decode cX2_lead 105 = .ok (.iload_n 2, 1) := by decide +kernel
theorem dX2_lead_106 : decode cX2_lead 106 = .ok (.bipush 32, 2) := by decide +kernel
theorem dX2_lead_108 : decode cX2_lead 108 = .ok (.if_icmp .ge 12, 3) := by decide +kernel
theorem dX2_lead_111 : decode cX2_lead 111 = .ok (.aload_n 0, 1) := by decide +kernel
theorem dX2_lead_112 : decode cX2_lead 112 = .ok (.getfield 9, 3) := by decide +kernel
theorem dX2_lead_115 : decode cX2_lead 115 = .ok (.iload_n 2, 1) := by decide +kernel
theorem dX2_lead_116 : decode cX2_lead 116 = .ok (.laload, 1) := by decide +kernel
theorem dX2_lead_117 : decode cX2_lead 117 = .ok (.goto 4, 3) := by decide +kernel
theorem dX2_lead_120 : decode cX2_lead 120 = .ok (.lconst 0, 1) := by decide +kernel
theorem dX2_lead_121 : decode cX2_lead 121 = .ok (.lreturn, 1) := by decide +kernel
theorem dX2_fromStep_0 : decode cX2_fromStep 0 = .ok (.iload 4, 2) := by decide +kernel
theorem dX2_fromStep_2 : decode cX2_fromStep 2 = .ok (.ifCond .eq 13, 3) := by decide +kernel
theorem dX2_fromStep_5 : decode cX2_fromStep 5 = .ok (.aload_n 1, 1) := by decide +kernel
theorem dX2_fromStep_6 : decode cX2_fromStep 6 = .ok (.getfield 25, 3) := by decide +kernel
theorem dX2_fromStep_9 : decode cX2_fromStep 9 = .ok (.iload_n 2, 1) := by decide +kernel
theorem dX2_fromStep_10 : decode cX2_fromStep 10 = .ok (.iaload, 1) := by decide +kernel
theorem dX2_fromStep_11 : decode cX2_fromStep 11 = .ok (.i2l, 1) := by decide +kernel
theorem dX2_fromStep_12 : decode cX2_fromStep 12 = .ok (.goto 4, 3) := by decide +kernel
theorem dX2_fromStep_15 : decode cX2_fromStep 15 = .ok (.lconst 1, 1) := by decide +kernel
theorem dX2_fromStep_16 : decode cX2_fromStep 16 = .ok (.lstore 5, 2) := by decide +kernel
theorem dX2_fromStep_18 : decode cX2_fromStep 18 = .ok (.aload_n 0, 1) := by decide +kernel
theorem dX2_fromStep_19 : decode cX2_fromStep 19 = .ok (.getfield 9, 3) := by decide +kernel
theorem dX2_fromStep_22 : decode cX2_fromStep 22 = .ok (.iload_n 2, 1) := by decide +kernel
theorem dX2_fromStep_23 : decode cX2_fromStep 23 = .ok (.iconst 1, 1) := by decide +kernel
theorem dX2_fromStep_24 : decode cX2_fromStep 24 = .ok (.iadd, 1) := by decide +kernel
theorem dX2_fromStep_25 : decode cX2_fromStep 25 = .ok (.bipush 32, 2) := by decide +kernel
theorem dX2_fromStep_27 : decode cX2_fromStep 27 = .ok (.imul, 1) := by decide +kernel
theorem dX2_fromStep_28 : decode cX2_fromStep 28 = .ok (.iload_n 3, 1) := by decide +kernel
theorem dX2_fromStep_29 : decode cX2_fromStep 29 = .ok (.iadd, 1) := by decide +kernel
theorem dX2_fromStep_30 : decode cX2_fromStep 30 = .ok (.laload, 1) := by decide +kernel
theorem dX2_fromStep_31 : decode cX2_fromStep 31 = .ok (.lstore 7, 2) := by decide +kernel
theorem dX2_fromStep_33 : decode cX2_fromStep 33 = .ok (.aload_n 1, 1) := by decide +kernel
theorem dX2_fromStep_34 : decode cX2_fromStep 34 = .ok (.iload_n 2, 1) := by decide +kernel
theorem dX2_fromStep_35 : decode cX2_fromStep 35 = .ok (.iload_n 3, 1) := by decide +kernel
theorem dX2_fromStep_36 : decode cX2_fromStep 36 = .ok (.invokevirtual 29, 3) := by decide +kernel
theorem dX2_fromStep_39 : decode cX2_fromStep 39 = .ok (.ifCond .eq 9, 3) := by decide +kernel
theorem dX2_fromStep_42 : decode cX2_fromStep 42 = .ok (.lload 5, 2) := by decide +kernel
theorem dX2_fromStep_44 : decode cX2_fromStep 44 = .ok (.lload 7, 2) := by decide +kernel
theorem dX2_fromStep_46 : decode cX2_fromStep 46 = .ok (.lmul, 1) := by decide +kernel
theorem dX2_fromStep_47 : decode cX2_fromStep 47 = .ok (.lreturn, 1) := by decide +kernel
theorem dX2_fromStep_48 : decode cX2_fromStep 48 = .ok (.aload_n 1, 1) := by decide +kernel
theorem dX2_fromStep_49 : decode cX2_fromStep 49 = .ok (.iload_n 2, 1) := by decide +kernel
theorem dX2_fromStep_50 : decode cX2_fromStep 50 = .ok (.iload_n 3, 1) := by decide +kernel
theorem dX2_fromStep_51 : decode cX2_fromStep 51 = .ok (.invokevirtual 33, 3) := by decide +kernel
theorem dX2_fromStep_54 : decode cX2_fromStep 54 = .ok (.istore 9, 2) := by decide +kernel
theorem dX2_fromStep_56 : decode cX2_fromStep 56 = .ok (.iload 9, 2) := by decide +kernel
theorem dX2_fromStep_58 : decode cX2_fromStep 58 = .ok (.iload_n 3, 1) := by decide +kernel
theorem dX2_fromStep_59 : decode cX2_fromStep 59 = .ok (.if_icmp .ne 8, 3) := by decide +kernel
theorem dX2_fromStep_62 : decode cX2_fromStep 62 = .ok (.lload 7, 2) := by decide +kernel
theorem dX2_fromStep_64 : decode cX2_fromStep 64 = .ok (.goto 23, 3) := by decide +kernel
theorem dX2_fromStep_67 : decode cX2_fromStep 67 = .ok (.lload 7, 2) := by decide +kernel
theorem dX2_fromStep_69 : decode cX2_fromStep 69 = .ok (.lload 5, 2) := by decide +kernel
theorem dX2_fromStep_71 : decode cX2_fromStep 71 = .ok (.aload_n 0, 1) := by decide +kernel
theorem dX2_fromStep_72 : decode cX2_fromStep 72 = .ok (.getfield 9, 3) := by decide +kernel
theorem dX2_fromStep_75 : decode cX2_fromStep 75 = .ok (.iload_n 2, 1) := by decide +kernel
theorem dX2_fromStep_76 : decode cX2_fromStep 76 = .ok (.iconst 1, 1) := by decide +kernel
theorem dX2_fromStep_77 : decode cX2_fromStep 77 = .ok (.iadd, 1) := by decide +kernel
theorem dX2_fromStep_78 : decode cX2_fromStep 78 = .ok (.bipush 32, 2) := by decide +kernel
theorem dX2_fromStep_80 : decode cX2_fromStep 80 = .ok (.imul, 1) := by decide +kernel
theorem dX2_fromStep_81 : decode cX2_fromStep 81 = .ok (.iload 9, 2) := by decide +kernel
theorem dX2_fromStep_83 : decode cX2_fromStep 83 = .ok (.iadd, 1) := by decide +kernel
theorem dX2_fromStep_84 : decode cX2_fromStep 84 = .ok (.laload, 1) := by decide +kernel
theorem dX2_fromStep_85 : decode cX2_fromStep 85 = .ok (.lmul, 1) := by decide +kernel
theorem dX2_fromStep_86 : decode cX2_fromStep 86 = .ok (.ladd, 1) := by decide +kernel
theorem dX2_fromStep_87 : decode cX2_fromStep 87 = .ok (.lreturn, 1) := by decide +kernel
theorem dX2_linesAhead_0 : decode cX2_linesAhead 0 = .ok (.iload_n 2, 1) := by decide +kernel
theorem dX2_linesAhead_1 : decode cX2_linesAhead 1 = .ok (.istore 5, 2) := by decide +kernel
theorem dX2_linesAhead_3 : decode cX2_linesAhead 3 = .ok (.iload 4, 2) := by decide +kernel
theorem dX2_linesAhead_5 : decode cX2_linesAhead 5 = .ok (.i2l, 1) := by decide +kernel
theorem dX2_linesAhead_6 : decode cX2_linesAhead 6 = .ok (.lstore 6, 2) := by decide +kernel
theorem dX2_linesAhead_8 : decode cX2_linesAhead 8 = .ok (.iconst 0, 1) := by decide +kernel
theorem dX2_linesAhead_9 : decode cX2_linesAhead 9 = .ok (.istore 8, 2) := by decide +kernel
theorem dX2_linesAhead_11 : decode cX2_linesAhead 11 = .ok (.iload 8, 2) := by decide +kernel
theorem dX2_linesAhead_13 : decode cX2_linesAhead 13 = .ok (.iload_n 3, 1) := by decide +kernel
theorem dX2_linesAhead_14 : decode cX2_linesAhead 14 = .ok (.if_icmp .ge 71, 3) := by decide +kernel
theorem dX2_linesAhead_17 : decode cX2_linesAhead 17 = .ok (.iload 8, 2) := by decide +kernel
theorem dX2_linesAhead_19 : decode cX2_linesAhead 19 = .ok (.aload_n 1, 1) := by decide +kernel
theorem dX2_linesAhead_20 : decode cX2_linesAhead 20 = .ok (.getfield 15, 3) := by decide +kernel
theorem dX2_linesAhead_23 : decode cX2_linesAhead 23 = .ok (.if_icmp .ge 62, 3) := by decide +kernel
theorem dX2_linesAhead_26 : decode cX2_linesAhead 26 = .ok (.aload_n 1, 1) := by decide +kernel
theorem dX2_linesAhead_27 : decode cX2_linesAhead 27 = .ok (.iload 8, 2) := by decide +kernel
theorem dX2_linesAhead_29 : decode cX2_linesAhead 29 = .ok (.iload 5, 2) := by decide +kernel
theorem dX2_linesAhead_31 : decode cX2_linesAhead 31 = .ok (.invokevirtual 33, 3) := by decide +kernel
theorem dX2_linesAhead_34 : decode cX2_linesAhead 34 = .ok (.istore 9, 2) := by decide +kernel
theorem dX2_linesAhead_36 : decode cX2_linesAhead 36 = .ok (.aload_n 0, 1) := by decide +kernel
theorem dX2_linesAhead_37 : decode cX2_linesAhead 37 = .ok (.getfield 9, 3) := by decide +kernel
theorem dX2_linesAhead_40 : decode cX2_linesAhead 40 = .ok (.iload 8, 2) := by decide +kernel
theorem dX2_linesAhead_42 : decode cX2_linesAhead 42 = .ok (.iconst 1, 1) := by decide +kernel
theorem dX2_linesAhead_43 : decode cX2_linesAhead 43 = .ok (.iadd, 1) := by decide +kernel
theorem dX2_linesAhead_44 : decode cX2_linesAhead 44 = .ok (.bipush 32, 2) := by decide +kernel
theorem dX2_linesAhead_46 : decode cX2_linesAhead 46 = .ok (.imul, 1) := by decide +kernel
theorem dX2_linesAhead_47 : decode cX2_linesAhead 47 = .ok (.iload 5, 2) := by decide +kernel
theorem dX2_linesAhead_49 : decode cX2_linesAhead 49 = .ok (.iadd, 1) := by decide +kernel
theorem dX2_linesAhead_50 : decode cX2_linesAhead 50 = .ok (.laload, 1) := by decide +kernel
theorem dX2_linesAhead_51 : decode cX2_linesAhead 51 = .ok (.lstore 10, 2) := by decide +kernel
theorem dX2_linesAhead_53 : decode cX2_linesAhead 53 = .ok (.iload 9, 2) := by decide +kernel
theorem dX2_linesAhead_55 : decode cX2_linesAhead 55 = .ok (.iload 5, 2) := by decide +kernel
theorem dX2_linesAhead_57 : decode cX2_linesAhead 57 = .ok (.if_icmp .eq 22, 3) := by decide +kernel
theorem dX2_linesAhead_60 : decode cX2_linesAhead 60 = .ok (.lload 6, 2) := by decide +kernel
theorem dX2_linesAhead_62 : decode cX2_linesAhead 62 = .ok (.lload 10, 2) := by decide +kernel
theorem dX2_linesAhead_64 : decode cX2_linesAhead 64 = .ok (.lcmp, 1) := by decide +kernel
theorem dX2_linesAhead_65 : decode cX2_linesAhead 65 = .ok (.ifCond .lt 14, 3) := by decide +kernel
theorem dX2_linesAhead_68 : decode cX2_linesAhead 68 = .ok (.lload 6, 2) := by decide +kernel
theorem dX2_linesAhead_70 : decode cX2_linesAhead 70 = .ok (.lload 10, 2) := by decide +kernel
theorem dX2_linesAhead_72 : decode cX2_linesAhead 72 = .ok (.lsub, 1) := by decide +kernel
theorem dX2_linesAhead_73 : decode cX2_linesAhead 73 = .ok (.lstore 6, 2) := by decide +kernel
theorem dX2_linesAhead_75 : decode cX2_linesAhead 75 = .ok (.iload 9, 2) := by decide +kernel
theorem dX2_linesAhead_77 : decode cX2_linesAhead 77 = .ok (.istore 5, 2) := by decide +kernel
theorem dX2_linesAhead_79 : decode cX2_linesAhead 79 = .ok (.iinc 8 1, 3) := by decide +kernel
theorem dX2_linesAhead_82 : decode cX2_linesAhead 82 = .ok (.goto (-71), 3) := by decide +kernel
theorem dX2_linesAhead_85 : decode cX2_linesAhead 85 = .ok (.iload 5, 2) := by decide +kernel
theorem dX2_linesAhead_87 : decode cX2_linesAhead 87 = .ok (.ireturn, 1) := by decide +kernel
theorem dX3_init_0 : decode cX3_init 0 = .ok (.aload_n 0, 1) := by decide +kernel
theorem dX3_init_1 : decode cX3_init 1 = .ok (.invokespecial 3, 3) := by decide +kernel
theorem dX3_init_4 : decode cX3_init 4 = .ok (.aload_n 0, 1) := by decide +kernel
theorem dX3_init_5 : decode cX3_init 5 = .ok (.bipush 16, 2) := by decide +kernel
theorem dX3_init_7 : decode cX3_init 7 = .ok (.newarray .int, 2) := by decide +kernel
theorem dX3_init_9 : decode cX3_init 9 = .ok (.putfield 9, 3) := by decide +kernel
theorem dX3_init_12 : decode cX3_init 12 = .ok (.aload_n 0, 1) := by decide +kernel
theorem dX3_init_13 : decode cX3_init 13 = .ok (.bipush 16, 2) := by decide +kernel
theorem dX3_init_15 : decode cX3_init 15 = .ok (.newarray .int, 2) := by decide +kernel
theorem dX3_init_17 : decode cX3_init 17 = .ok (.putfield 15, 3) := by decide +kernel
theorem dX3_init_20 : decode cX3_init 20 = .ok (.aload_n 0, 1) := by decide +kernel
theorem dX3_init_21 : decode cX3_init 21 = .ok (.bipush 16, 2) := by decide +kernel
theorem dX3_init_23 : decode cX3_init 23 = .ok (.newarray .int, 2) := by decide +kernel
theorem dX3_init_25 : decode cX3_init 25 = .ok (.putfield 18, 3) := by decide +kernel
theorem dX3_init_28 : decode cX3_init 28 = .ok (.return_, 1) := by decide +kernel
theorem dX3_begin_0 : decode cX3_begin 0 = .ok (.aload_n 0, 1) := by decide +kernel
theorem dX3_begin_1 : decode cX3_begin 1 = .ok (.iload_n 1, 1) := by decide +kernel
theorem dX3_begin_2 : decode cX3_begin 2 = .ok (.putfield 21, 3) := by decide +kernel
theorem dX3_begin_5 : decode cX3_begin 5 = .ok (.aload_n 0, 1) := by decide +kernel
theorem dX3_begin_6 : decode cX3_begin 6 = .ok (.iconst 0, 1) := by decide +kernel
theorem dX3_begin_7 : decode cX3_begin 7 = .ok (.putfield 25, 3) := by decide +kernel
theorem dX3_begin_10 : decode cX3_begin 10 = .ok (.return_, 1) := by decide +kernel
theorem dX3_takes_0 : decode cX3_takes 0 = .ok (.iload_n 1, 1) := by decide +kernel
theorem dX3_takes_1 : decode cX3_takes 1 = .ok (.ifCond .eq 8, 3) := by decide +kernel
theorem dX3_takes_4 : decode cX3_takes 4 = .ok (.iload_n 1, 1) := by decide +kernel
theorem dX3_takes_5 : decode cX3_takes 5 = .ok (.iconst 1, 1) := by decide +kernel
theorem dX3_takes_6 : decode cX3_takes 6 = .ok (.if_icmp .ne 23, 3) := by decide +kernel
theorem dX3_takes_9 : decode cX3_takes 9 = .ok (.iload_n 2, 1) := by decide +kernel
theorem dX3_takes_10 : decode cX3_takes 10 = .ok (.ifCond .lt 17, 3) := by decide +kernel
theorem dX3_takes_13 : decode cX3_takes 13 = .ok (.iload_n 2, 1) := by decide +kernel
theorem dX3_takes_14 : decode cX3_takes 14 = .ok (.aload_n 0, 1) := by decide +kernel
theorem dX3_takes_15 : decode cX3_takes 15 = .ok (.getfield 21, 3) := by decide +kernel
theorem dX3_takes_18 : decode cX3_takes 18 = .ok (.iconst 1, 1) := by decide +kernel
theorem dX3_takes_19 : decode cX3_takes 19 = .ok (.isub, 1) := by decide +kernel
theorem dX3_takes_20 : decode cX3_takes 20 = .ok (.if_icmp .ge 7, 3) := by decide +kernel
theorem dX3_takes_23 : decode cX3_takes 23 = .ok (.iconst 1, 1) := by decide +kernel
theorem dX3_takes_24 : decode cX3_takes 24 = .ok (.goto 4, 3) := by decide +kernel
theorem dX3_takes_27 : decode cX3_takes 27 = .ok (.iconst 0, 1) := by decide +kernel
theorem dX3_takes_28 : decode cX3_takes 28 = .ok (.ireturn, 1) := by decide +kernel
theorem dX3_takes_29 : decode cX3_takes 29 = .ok (.iload_n 1, 1) := by decide +kernel
theorem dX3_takes_30 : decode cX3_takes 30 = .ok (.iconst 2, 1) := by decide +kernel
theorem dX3_takes_31 : decode cX3_takes 31 = .ok (.if_icmp .ne 19, 3) := by decide +kernel
theorem dX3_takes_34 : decode cX3_takes 34 = .ok (.iload_n 2, 1) := by decide +kernel
theorem dX3_takes_35 : decode cX3_takes 35 = .ok (.ifCond .lt 15, 3) := by decide +kernel
theorem dX3_takes_38 : decode cX3_takes 38 = .ok (.iload_n 2, 1) := by decide +kernel
theorem dX3_takes_39 : decode cX3_takes 39 = .ok (.aload_n 0, 1) := by decide +kernel
theorem dX3_takes_40 : decode cX3_takes 40 = .ok (.getfield 21, 3) := by decide +kernel
theorem dX3_takes_43 : decode cX3_takes 43 = .ok (.if_icmp .ge 7, 3) := by decide +kernel
theorem dX3_takes_46 : decode cX3_takes 46 = .ok (.iconst 1, 1) := by decide +kernel
theorem dX3_takes_47 : decode cX3_takes 47 = .ok (.goto 4, 3) := by decide +kernel
theorem dX3_takes_50 : decode cX3_takes 50 = .ok (.iconst 0, 1) := by decide +kernel
theorem dX3_takes_51 : decode cX3_takes 51 = .ok (.ireturn, 1) := by decide +kernel
theorem dX3_add_0 : decode cX3_add 0 = .ok (.aload_n 0, 1) := by decide +kernel
theorem dX3_add_1 : decode cX3_add 1 = .ok (.getfield 25, 3) := by decide +kernel
theorem dX3_add_4 : decode cX3_add 4 = .ok (.bipush 16, 2) := by decide +kernel
theorem dX3_add_6 : decode cX3_add 6 = .ok (.if_icmp .ge 43, 3) := by decide +kernel
theorem dX3_add_9 : decode cX3_add 9 = .ok (.aload_n 0, 1) := by decide +kernel
theorem dX3_add_10 : decode cX3_add 10 = .ok (.getfield 9, 3) := by decide +kernel
theorem dX3_add_13 : decode cX3_add 13 = .ok (.aload_n 0, 1) := by decide +kernel
theorem dX3_add_14 : decode cX3_add 14 = .ok (.getfield 25, 3) := by decide +kernel
theorem dX3_add_17 : decode cX3_add 17 = .ok (.iload_n 1, 1) := by decide +kernel
theorem dX3_add_18 : decode cX3_add 18 = .ok (.iastore, 1) := by decide +kernel
theorem dX3_add_19 : decode cX3_add 19 = .ok (.aload_n 0, 1) := by decide +kernel
theorem dX3_add_20 : decode cX3_add 20 = .ok (.getfield 15, 3) := by decide +kernel
theorem dX3_add_23 : decode cX3_add 23 = .ok (.aload_n 0, 1) := by decide +kernel
theorem dX3_add_24 : decode cX3_add 24 = .ok (.getfield 25, 3) := by decide +kernel
theorem dX3_add_27 : decode cX3_add 27 = .ok (.iload_n 2, 1) := by decide +kernel
theorem dX3_add_28 : decode cX3_add 28 = .ok (.iastore, 1) := by decide +kernel
theorem dX3_add_29 : decode cX3_add 29 = .ok (.aload_n 0, 1) := by decide +kernel
theorem dX3_add_30 : decode cX3_add 30 = .ok (.getfield 18, 3) := by decide +kernel
theorem dX3_add_33 : decode cX3_add 33 = .ok (.aload_n 0, 1) := by decide +kernel
theorem dX3_add_34 : decode cX3_add 34 = .ok (.getfield 25, 3) := by decide +kernel
theorem dX3_add_37 : decode cX3_add 37 = .ok (.iload_n 3, 1) := by decide +kernel
theorem dX3_add_38 : decode cX3_add 38 = .ok (.iastore, 1) := by decide +kernel
theorem dX3_add_39 : decode cX3_add 39 = .ok (.aload_n 0, 1) := by decide +kernel
theorem dX3_add_40 : decode cX3_add 40 = .ok (.dup, 1) := by decide +kernel
theorem dX3_add_41 : decode cX3_add 41 = .ok (.getfield 25, 3) := by decide +kernel
theorem dX3_add_44 : decode cX3_add 44 = .ok (.iconst 1, 1) := by decide +kernel
theorem dX3_add_45 : decode cX3_add 45 = .ok (.iadd, 1) := by decide +kernel
theorem dX3_add_46 : decode cX3_add 46 = .ok (.putfield 25, 3) := by decide +kernel
theorem dX3_add_49 : decode cX3_add 49 = .ok (.return_, 1) := by decide +kernel
theorem dX3_isWeighedOn_0 : decode cX3_isWeighedOn 0 = .ok (.aload_n 0, 1) := by decide +kernel
theorem dX3_isWeighedOn_1 : decode cX3_isWeighedOn 1 = .ok (.getfield 9, 3) := by decide +kernel
theorem dX3_isWeighedOn_4 : decode cX3_isWeighedOn 4 = .ok (.iload_n 1, 1) := by decide +kernel
theorem dX3_isWeighedOn_5 : decode cX3_isWeighedOn 5 = .ok (.iaload, 1) := by decide +kernel
theorem dX3_isWeighedOn_6 : decode cX3_isWeighedOn 6 = .ok (.iconst 2, 1) := by decide +kernel
theorem dX3_isWeighedOn_7 : decode cX3_isWeighedOn 7 = .ok (.if_icmp .ne 20, 3) := by decide +kernel
theorem dX3_isWeighedOn_10 : decode cX3_isWeighedOn 10 = .ok (.iload_n 2, 1) := by decide +kernel
theorem dX3_isWeighedOn_11 : decode cX3_isWeighedOn 11 = .ok (.aload_n 0, 1) := by decide +kernel
theorem dX3_isWeighedOn_12 : decode cX3_isWeighedOn 12 = .ok (.getfield 15, 3) := by decide +kernel
theorem dX3_isWeighedOn_15 : decode cX3_isWeighedOn 15 = .ok (.iload_n 1, 1) := by decide +kernel
theorem dX3_isWeighedOn_16 : decode cX3_isWeighedOn 16 = .ok (.iaload, 1) := by decide +kernel
theorem dX3_isWeighedOn_17 : decode cX3_isWeighedOn 17 = .ok (.invokestatic 28, 3) := by decide +kernel
theorem dX3_isWeighedOn_20 : decode cX3_isWeighedOn 20 = .ok (.ifCond .eq 7, 3) := by decide +kernel
theorem dX3_isWeighedOn_23 : decode cX3_isWeighedOn 23 = .ok (.iconst 1, 1) := by decide +kernel
theorem dX3_isWeighedOn_24 : decode cX3_isWeighedOn 24 = .ok (.goto 4, 3) := by decide +kernel
theorem dX3_isWeighedOn_27 : decode cX3_isWeighedOn 27 = .ok (.iconst 0, 1) := by decide +kernel
theorem dX3_isWeighedOn_28 : decode cX3_isWeighedOn 28 = .ok (.ireturn, 1) := by decide +kernel
theorem dX3_afterGoing_0 : decode cX3_afterGoing 0 = .ok (.aload_n 0, 1) := by decide +kernel
theorem dX3_afterGoing_1 : decode cX3_afterGoing 1 = .ok (.getfield 9, 3) := by decide +kernel
theorem dX3_afterGoing_4 : decode cX3_afterGoing 4 = .ok (.iload_n 1, 1) := by decide +kernel
theorem dX3_afterGoing_5 : decode cX3_afterGoing 5 = .ok (.iaload, 1) := by decide +kernel
theorem dX3_afterGoing_6 : decode cX3_afterGoing 6 = .ok (.iconst 2, 1) := by decide +kernel
theorem dX3_afterGoing_7 : decode cX3_afterGoing 7 = .ok (.if_icmp .ne 5, 3) := by decide +kernel
theorem dX3_afterGoing_10 : decode cX3_afterGoing 10 = .ok (.iload_n 2, 1) := by decide +kernel
theorem dX3_afterGoing_11 : decode cX3_afterGoing 11 = .ok (.ireturn, 1) := by decide +kernel
theorem dX3_afterGoing_12 : decode cX3_afterGoing 12 = .ok (.aload_n 0, 1) := by decide +kernel
theorem dX3_afterGoing_13 : decode cX3_afterGoing 13 = .ok (.getfield 15, 3) := by decide +kernel
theorem dX3_afterGoing_16 : decode cX3_afterGoing 16 = .ok (.iload_n 1, 1) := by decide +kernel
theorem dX3_afterGoing_17 : decode cX3_afterGoing 17 = .ok (.iaload, 1) := by decide +kernel
theorem dX3_afterGoing_18 : decode cX3_afterGoing 18 = .ok (.istore_n 3, 1) := by decide +kernel
theorem dX3_afterGoing_19 : decode cX3_afterGoing 19 = .ok (.aload_n 0, 1) := by decide +kernel
theorem dX3_afterGoing_20 : decode cX3_afterGoing 20 = .ok (.getfield 9, 3) := by decide +kernel
theorem dX3_afterGoing_23 : decode cX3_afterGoing 23 = .ok (.iload_n 1, 1) := by decide +kernel
theorem dX3_afterGoing_24 : decode cX3_afterGoing 24 = .ok (.iaload, 1) := by decide +kernel
theorem dX3_afterGoing_25 : decode cX3_afterGoing 25 = .ok (.ifCond .ne 7, 3) := by decide +kernel
theorem dX3_afterGoing_28 : decode cX3_afterGoing 28 = .ok (.iload_n 3, 1) := by decide +kernel
theorem dX3_afterGoing_29 : decode cX3_afterGoing 29 = .ok (.goto 6, 3) := by decide +kernel
theorem dX3_afterGoing_32 : decode cX3_afterGoing 32 = .ok (.iload_n 3, 1) := by decide +kernel
theorem dX3_afterGoing_33 : decode cX3_afterGoing 33 = .ok (.iconst 1, 1) := by decide +kernel
theorem dX3_afterGoing_34 : decode cX3_afterGoing 34 = .ok (.iadd, 1) := by decide +kernel
theorem dX3_afterGoing_35 : decode cX3_afterGoing 35 = .ok (.istore 4, 2) := by decide +kernel
theorem dX3_afterGoing_37 : decode cX3_afterGoing 37 = .ok (.aload_n 0, 1) := by decide +kernel
theorem dX3_afterGoing_38 : decode cX3_afterGoing 38 = .ok (.getfield 9, 3) := by decide +kernel
theorem dX3_afterGoing_41 : decode cX3_afterGoing 41 = .ok (.iload_n 1, 1) := by decide +kernel
theorem dX3_afterGoing_42 : decode cX3_afterGoing 42 = .ok (.iaload, 1) := by decide +kernel
theorem dX3_afterGoing_43 : decode cX3_afterGoing 43 = .ok (.ifCond .ne 9, 3) := by decide +kernel
theorem dX3_afterGoing_46 : decode cX3_afterGoing 46 = .ok (.iload_n 3, 1) := by decide +kernel
theorem dX3_afterGoing_47 : decode cX3_afterGoing 47 = .ok (.iconst 1, 1) := by decide +kernel
theorem dX3_afterGoing_48 : decode cX3_afterGoing 48 = .ok (.iadd, 1) := by decide +kernel
theorem dX3_afterGoing_49 : decode cX3_afterGoing 49 = .ok (.goto 4, 3) := by decide +kernel
theorem dX3_afterGoing_52 : decode cX3_afterGoing 52 = .ok (.iload_n 3, 1) := by decide +kernel
theorem dX3_afterGoing_53 : decode cX3_afterGoing 53 = .ok (.istore 5, 2) := by decide +kernel
theorem dX3_afterGoing_55 : decode cX3_afterGoing 55 = .ok (.iload_n 2, 1) := by decide +kernel
theorem dX3_afterGoing_56 : decode cX3_afterGoing 56 = .ok (.iload 4, 2) := by decide +kernel
theorem dX3_afterGoing_58 : decode cX3_afterGoing 58 = .ok (.invokestatic 28, 3) := by decide +kernel
theorem dX3_afterGoing_61 : decode cX3_afterGoing 61 = .ok (.ifCond .eq 16, 3) := by decide +kernel
theorem dX3_afterGoing_64 : decode cX3_afterGoing 64 = .ok (.iload_n 2, 1) := by decide +kernel
theorem dX3_afterGoing_65 : decode cX3_afterGoing 65 = .ok (.iload 5, 2) := by decide +kernel
theorem dX3_afterGoing_67 : decode cX3_afterGoing 67 = .ok (.invokestatic 28, 3) := by decide +kernel
theorem dX3_afterGoing_70 : decode cX3_afterGoing 70 = .ok (.ifCond .ne 7, 3) := by decide +kernel
theorem dX3_afterGoing_73 : decode cX3_afterGoing 73 = .ok (.iconst 1, 1) := by decide +kernel
theorem dX3_afterGoing_74 : decode cX3_afterGoing 74 = .ok (.goto 4, 3) := by decide +kernel
theorem dX3_afterGoing_77 : decode cX3_afterGoing 77 = .ok (.iconst 0, 1) := by decide +kernel
theorem dX3_afterGoing_78 : decode cX3_afterGoing 78 = .ok (.istore 6, 2) := by decide +kernel
theorem dX3_afterGoing_80 : decode cX3_afterGoing 80 = .ok (.iload 6, 2) := by decide +kernel
theorem dX3_afterGoing_82 : decode cX3_afterGoing 82 = .ok (.ifCond .eq 17, 3) := by decide +kernel
theorem dX3_afterGoing_85 : decode cX3_afterGoing 85 = .ok (.iload_n 2, 1) := by decide +kernel
theorem dX3_afterGoing_86 : decode cX3_afterGoing 86 = .ok (.iconst 1, 1) := by decide +kernel
theorem dX3_afterGoing_87 : decode cX3_afterGoing 87 = .ok (.iload 4, 2) := by decide +kernel
theorem dX3_afterGoing_89 : decode cX3_afterGoing 89 = .ok (.ishl, 1) := by decide +kernel
theorem dX3_afterGoing_90 : decode cX3_afterGoing 90 = .ok (.iconst 1, 1) := by decide +kernel
theorem dX3_afterGoing_91 : decode cX3_afterGoing 91 = .ok (.iload 5, 2) := by decide +kernel
theorem dX3_afterGoing_93 : decode cX3_afterGoing 93 = .ok (.ishl, 1) := by decide +kernel
theorem dX3_afterGoing_94 : decode cX3_afterGoing 94 = .ok (.ior, 1) := by decide +kernel
theorem dX3_afterGoing_95 : decode cX3_afterGoing 95 = .ok (.ixor, 1) := by decide +kernel
theorem dX3_afterGoing_96 : decode cX3_afterGoing 96 = .ok (.goto 4, 3) := by decide +kernel
theorem dX3_afterGoing_99 : decode cX3_afterGoing 99 = .ok (.iload_n 2, 1) := by decide +kernel
theorem dX3_afterGoing_100 : decode cX3_afterGoing 100 = .ok (.ireturn, 1) := by decide +kernel
theorem dX4_init_0 : decode cX4_init 0 = .ok (.aload_n 0, 1) := by decide +kernel
theorem dX4_init_1 : decode cX4_init 1 = .ok (.invokespecial 3, 3) := by decide +kernel
theorem dX4_init_4 : decode cX4_init 4 = .ok (.aload_n 0, 1) := by decide +kernel
theorem dX4_init_5 : decode cX4_init 5 = .ok (.bipush 32, 2) := by decide +kernel
theorem dX4_init_7 : decode cX4_init 7 = .ok (.newarray .long, 2) := by decide +kernel
theorem dX4_init_9 : decode cX4_init 9 = .ok (.putfield 9, 3) := by decide +kernel
theorem dX4_init_12 : decode cX4_init 12 = .ok (.aload_n 0, 1) := by decide +kernel
theorem dX4_init_13 : decode cX4_init 13 = .ok (.iconst 5, 1) := by decide +kernel
theorem dX4_init_14 : decode cX4_init 14 = .ok (.newarray .int, 2) := by decide +kernel
theorem dX4_init_16 : decode cX4_init 16 = .ok (.putfield 15, 3) := by decide +kernel
theorem dX4_init_19 : decode cX4_init 19 = .ok (.return_, 1) := by decide +kernel
theorem dX4_ofPart_0 : decode cX4_ofPart 0 = .ok (.aload_n 0, 1) := by decide +kernel
theorem dX4_ofPart_1 : decode cX4_ofPart 1 = .ok (.aload_n 1, 1) := by decide +kernel
theorem dX4_ofPart_2 : decode cX4_ofPart 2 = .ok (.iload_n 2, 1) := by decide +kernel
theorem dX4_ofPart_3 : decode cX4_ofPart 3 = .ok (.invokevirtual 19, 3) := by decide +kernel
theorem dX4_ofPart_6 : decode cX4_ofPart 6 = .ok (.iload_n 3, 1) := by decide +kernel
theorem dX4_ofPart_7 : decode cX4_ofPart 7 = .ok (.ifCond .lt 18, 3) := by decide +kernel
theorem dX4_ofPart_10 : decode cX4_ofPart 10 = .ok (.iload_n 3, 1) := by decide +kernel
theorem dX4_ofPart_11 : decode cX4_ofPart 11 = .ok (.bipush 32, 2) := by decide +kernel
theorem dX4_ofPart_13 : decode cX4_ofPart 13 = .ok (.if_icmp .ge 12, 3) := by decide +kernel
theorem dX4_ofPart_16 : decode cX4_ofPart 16 = .ok (.aload_n 0, 1) := by decide +kernel
theorem dX4_ofPart_17 : decode cX4_ofPart 17 = .ok (.getfield 9, 3) := by decide +kernel
theorem dX4_ofPart_20 : decode cX4_ofPart 20 = .ok (.iload_n 3, 1) := by decide +kernel
theorem dX4_ofPart_21 : decode cX4_ofPart 21 = .ok (.laload, 1) := by decide +kernel
theorem dX4_ofPart_22 : decode cX4_ofPart 22 = .ok (.goto 4, 3) := by decide +kernel
theorem dX4_ofPart_25 : decode cX4_ofPart 25 = .ok (.lconst 0, 1) := by decide +kernel
theorem dX4_ofPart_26 : decode cX4_ofPart 26 = .ok (.lreturn, 1) := by decide +kernel
theorem dX4_firstLow_0 : decode cX4_firstLow 0 = .ok (.iconst 1, 1) := by decide +kernel
theorem dX4_firstLow_1 : decode cX4_firstLow 1 = .ok (.istore_n 3, 1) := by decide +kernel
theorem dX4_firstLow_2 : decode cX4_firstLow 2 = .ok (.iload_n 3, 1) := by decide +kernel
theorem dX4_firstLow_3 : decode cX4_firstLow 3 = .ok (.aload_n 1, 1) := by decide +kernel
theorem dX4_firstLow_4 : decode cX4_firstLow 4 = .ok (.getfield 23, 3) := by decide +kernel
theorem dX4_firstLow_7 : decode cX4_firstLow 7 = .ok (.aload_n 1, 1) := by decide +kernel
theorem dX4_firstLow_8 : decode cX4_firstLow 8 = .ok (.getfield 29, 3) := by decide +kernel
theorem dX4_firstLow_11 : decode cX4_firstLow 11 = .ok (.invokestatic 32, 3) := by decide +kernel
theorem dX4_firstLow_14 : decode cX4_firstLow 14 = .ok (.if_icmp .gt 63, 3) := by decide +kernel
theorem dX4_firstLow_17 : decode cX4_firstLow 17 = .ok (.iconst 1, 1) := by decide +kernel
theorem dX4_firstLow_18 : decode cX4_firstLow 18 = .ok (.istore 4, 2) := by decide +kernel
theorem dX4_firstLow_20 : decode cX4_firstLow 20 = .ok (.iload 4, 2) := by decide +kernel
theorem dX4_firstLow_22 : decode cX4_firstLow 22 = .ok (.iconst 1, 1) := by decide +kernel
theorem dX4_firstLow_23 : decode cX4_firstLow 23 = .ok (.aload_n 1, 1) := by decide +kernel
theorem dX4_firstLow_24 : decode cX4_firstLow 24 = .ok (.getfield 23, 3) := by decide +kernel
theorem dX4_firstLow_27 : decode cX4_firstLow 27 = .ok (.ishl, 1) := by decide +kernel
theorem dX4_firstLow_28 : decode cX4_firstLow 28 = .ok (.if_icmp .ge 43, 3) := by decide +kernel
theorem dX4_firstLow_31 : decode cX4_firstLow 31 = .ok (.iload 4, 2) := by decide +kernel
theorem dX4_firstLow_33 : decode cX4_firstLow 33 = .ok (.invokestatic 38, 3) := by decide +kernel
theorem dX4_firstLow_36 : decode cX4_firstLow 36 = .ok (.iload_n 3, 1) := by decide +kernel
theorem dX4_firstLow_37 : decode cX4_firstLow 37 = .ok (.if_icmp .ne 28, 3) := by decide +kernel
theorem dX4_firstLow_40 : decode cX4_firstLow 40 = .ok (.aload_n 0, 1) := by decide +kernel
theorem dX4_firstLow_41 : decode cX4_firstLow 41 = .ok (.aload_n 1, 1) := by decide +kernel
theorem dX4_firstLow_42 : decode cX4_firstLow 42 = .ok (.iload 4, 2) := by decide +kernel
theorem dX4_firstLow_44 : decode cX4_firstLow 44 = .ok (.iload_n 2, 1) := by decide +kernel
theorem dX4_firstLow_45 : decode cX4_firstLow 45 = .ok (.invokevirtual 44, 3) := by decide +kernel
theorem dX4_firstLow_48 : decode cX4_firstLow 48 = .ok (.istore 5, 2) := by decide +kernel
theorem dX4_firstLow_50 : decode cX4_firstLow 50 = .ok (.iload 5, 2) := by decide +kernel
theorem dX4_firstLow_52 : decode cX4_firstLow 52 = .ok (.iconst (-1), 1) := by decide +kernel
theorem dX4_firstLow_53 : decode cX4_firstLow 53 = .ok (.if_icmp .eq 12, 3) := by decide +kernel
theorem dX4_firstLow_56 : decode cX4_firstLow 56 = .ok (.bipush 32, 2) := by decide +kernel
theorem dX4_firstLow_58 : decode cX4_firstLow 58 = .ok (.iload 4, 2) := by decide +kernel
theorem dX4_firstLow_60 : decode cX4_firstLow 60 = .ok (.imul, 1) := by decide +kernel
theorem dX4_firstLow_61 : decode cX4_firstLow 61 = .ok (.iload 5, 2) := by decide +kernel
theorem dX4_firstLow_63 : decode cX4_firstLow 63 = .ok (.iadd, 1) := by decide +kernel
theorem dX4_firstLow_64 : decode cX4_firstLow 64 = .ok (.ireturn, 1) := by decide +kernel
theorem dX4_firstLow_65 : decode cX4_firstLow 65 = .ok (.iinc 4 1, 3) := by decide +kernel
theorem dX4_firstLow_68 : decode cX4_firstLow 68 = .ok (.goto (-48), 3) := by decide +kernel
theorem dX4_firstLow_71 : decode cX4_firstLow 71 = .ok (.iinc 3 1, 3) := by decide +kernel
theorem dX4_firstLow_74 : decode cX4_firstLow 74 = .ok (.goto (-72), 3) := by decide +kernel
theorem dX4_firstLow_77 : decode cX4_firstLow 77 = .ok (.iconst (-1), 1) := by decide +kernel
theorem dX4_firstLow_78 : decode cX4_firstLow 78 = .ok (.ireturn, 1) := by decide +kernel
theorem dX4_firstLowColumns_0 : decode cX4_firstLowColumns 0 = .ok (.aload_n 0, 1) := by decide +kernel
theorem dX4_firstLowColumns_1 : decode cX4_firstLowColumns 1 = .ok (.aload_n 1, 1) := by decide +kernel
theorem dX4_firstLowColumns_2 : decode cX4_firstLowColumns 2 = .ok (.iload_n 2, 1) := by decide +kernel
theorem dX4_firstLowColumns_3 : decode cX4_firstLowColumns 3 = .ok (.invokevirtual 19, 3) := by decide +kernel
theorem dX4_firstLowColumns_6 : decode cX4_firstLowColumns 6 = .ok (.iconst 1, 1) := by decide +kernel
theorem dX4_firstLowColumns_7 : decode cX4_firstLowColumns 7 = .ok (.istore 4, 2) := by decide +kernel
theorem dX4_firstLowColumns_9 : decode cX4_firstLowColumns 9 = .ok (.iload 4, 2) := by decide +kernel
theorem dX4_firstLowColumns_11 : decode cX4_firstLowColumns 11 = .ok (.iconst 1, 1) := by decide +kernel
theorem dX4_firstLowColumns_12 : decode cX4_firstLowColumns 12 = .ok (.aload_n 1, 1) := by decide +kernel
theorem dX4_firstLowColumns_13 : decode cX4_firstLowColumns 13 = .ok (.getfield 29, 3) := by decide +kernel
theorem dX4_firstLowColumns_16 : decode cX4_firstLowColumns 16 = .ok (.ishl, 1) := by decide +kernel
theorem dX4_firstLowColumns_17 : decode cX4_firstLowColumns 17 = .ok (.if_icmp .ge 69, 3) := by decide +kernel
theorem dX4_firstLowColumns_20 : decode cX4_firstLowColumns 20 = .ok (.iload_n 3, 1) := by decide +kernel
theorem dX4_firstLowColumns_21 : decode cX4_firstLowColumns 21 = .ok (.ifCond .eq 23, 3) := by decide +kernel
theorem dX4_firstLowColumns_24 : decode cX4_firstLowColumns 24 = .ok (.aload_n 0, 1) := by decide +kernel
theorem dX4_firstLowColumns_25 : decode cX4_firstLowColumns 25 = .ok (.getfield 9, 3) := by decide +kernel
theorem dX4_firstLowColumns_28 : decode cX4_firstLowColumns 28 = .ok (.iload 4, 2) := by decide +kernel
theorem dX4_firstLowColumns_30 : decode cX4_firstLowColumns 30 = .ok (.laload, 1) := by decide +kernel
theorem dX4_firstLowColumns_31 : decode cX4_firstLowColumns 31 = .ok (.lconst 0, 1) := by decide +kernel
theorem dX4_firstLowColumns_32 : decode cX4_firstLowColumns 32 = .ok (.lcmp, 1) := by decide +kernel
theorem dX4_firstLowColumns_33 : decode cX4_firstLowColumns 33 = .ok (.ifCond .gt 7, 3) := by decide +kernel
theorem dX4_firstLowColumns_36 : decode cX4_firstLowColumns 36 = .ok (.iconst 1, 1) := by decide +kernel
theorem dX4_firstLowColumns_37 : decode cX4_firstLowColumns 37 = .ok (.goto 24, 3) := by decide +kernel
theorem dX4_firstLowColumns_40 : decode cX4_firstLowColumns 40 = .ok (.iconst 0, 1) := by decide +kernel
theorem dX4_firstLowColumns_41 : decode cX4_firstLowColumns 41 = .ok (.goto 20, 3) := by decide +kernel
theorem dX4_firstLowColumns_44 : decode cX4_firstLowColumns 44 = .ok (.aload_n 0, 1) := by decide +kernel
theorem dX4_firstLowColumns_45 : decode cX4_firstLowColumns 45 = .ok (.getfield 9, 3) := by decide +kernel
theorem dX4_firstLowColumns_48 : decode cX4_firstLowColumns 48 = .ok (.iload 4, 2) := by decide +kernel
theorem dX4_firstLowColumns_50 : decode cX4_firstLowColumns 50 = .ok (.laload, 1) := by decide +kernel
theorem dX4_firstLowColumns_51 : decode cX4_firstLowColumns 51 = .ok (.lconst 0, 1) := by decide +kernel
theorem dX4_firstLowColumns_52 : decode cX4_firstLowColumns 52 = .ok (.lcmp, 1) := by decide +kernel
theorem dX4_firstLowColumns_53 : decode cX4_firstLowColumns 53 = .ok (.ifCond .ge 7, 3) := by decide +kernel
theorem dX4_firstLowColumns_56 : decode cX4_firstLowColumns 56 = .ok (.iconst 1, 1) := by decide +kernel
theorem dX4_firstLowColumns_57 : decode cX4_firstLowColumns 57 = .ok (.goto 4, 3) := by decide +kernel
theorem dX4_firstLowColumns_60 : decode cX4_firstLowColumns 60 = .ok (.iconst 0, 1) := by decide +kernel
theorem dX4_firstLowColumns_61 : decode cX4_firstLowColumns 61 = .ok (.istore 5, 2) := by decide +kernel
theorem dX4_firstLowColumns_63 : decode cX4_firstLowColumns 63 = .ok (.iload 5, 2) := by decide +kernel
theorem dX4_firstLowColumns_65 : decode cX4_firstLowColumns 65 = .ok (.ifCond .eq 15, 3) := by decide +kernel
theorem dX4_firstLowColumns_68 : decode cX4_firstLowColumns 68 = .ok (.iload_n 2, 1) := by decide +kernel
theorem dX4_firstLowColumns_69 : decode cX4_firstLowColumns 69 = .ok (.iload 4, 2) := by decide +kernel
theorem dX4_firstLowColumns_71 : decode cX4_firstLowColumns 71 = .ok (.invokestatic 48, 3) := by decide +kernel
theorem dX4_firstLowColumns_74 : decode cX4_firstLowColumns 74 = .ok (.ifCond .eq 6, 3) := by decide +kernel
theorem dX4_firstLowColumns_77 : decode cX4_firstLowColumns 77 = .ok (.iload 4, 2) := by decide +kernel
theorem dX4_firstLowColumns_79 : decode cX4_firstLowColumns 79 = .ok (.ireturn, 1) := by decide +kernel
theorem dX4_firstLowColumns_80 : decode cX4_firstLowColumns 80 = .ok (.iinc 4 1, 3) := by decide +kernel
theorem dX4_firstLowColumns_83 : decode cX4_firstLowColumns 83 = .ok (.goto (-74), 3) := by decide +kernel
theorem dX4_firstLowColumns_86 : decode cX4_firstLowColumns 86 = .ok (.iconst (-1), 1) := by decide +kernel
theorem dX4_firstLowColumns_87 : decode cX4_firstLowColumns 87 = .ok (.ireturn, 1) := by decide +kernel
theorem dX4_manyOf_0 : decode cX4_manyOf 0 = .ok (.iconst 0, 1) := by decide +kernel
theorem dX4_manyOf_1 : decode cX4_manyOf 1 = .ok (.istore_n 3, 1) := by decide +kernel
theorem dX4_manyOf_2 : decode cX4_manyOf 2 = .ok (.iconst 1, 1) := by decide +kernel
theorem dX4_manyOf_3 : decode cX4_manyOf 3 = .ok (.istore 4, 2) := by decide +kernel
theorem dX4_manyOf_5 : decode cX4_manyOf 5 = .ok (.iload 4, 2) := by decide +kernel
theorem dX4_manyOf_7 : decode cX4_manyOf 7 = .ok (.iconst 1, 1) := by decide +kernel
theorem dX4_manyOf_8 : decode cX4_manyOf 8 = .ok (.aload_n 1, 1) := by decide +kernel
theorem dX4_manyOf_9 : decode cX4_manyOf 9 = .ok (.getfield 23, 3) := by decide +kernel
theorem dX4_manyOf_12 : decode cX4_manyOf 12 = .ok (.ishl, 1) := by decide +kernel
theorem dX4_manyOf_13 : decode cX4_manyOf 13 = .ok (.if_icmp .ge 63, 3) := by decide +kernel
theorem dX4_manyOf_16 : decode cX4_manyOf 16 = .ok (.aload_n 0, 1) := by decide +kernel
theorem dX4_manyOf_17 : decode cX4_manyOf 17 = .ok (.aload_n 1, 1) := by decide +kernel
theorem dX4_manyOf_18 : decode cX4_manyOf 18 = .ok (.iload 4, 2) := by decide +kernel
theorem dX4_manyOf_20 : decode cX4_manyOf 20 = .ok (.invokevirtual 19, 3) := by decide +kernel
theorem dX4_manyOf_23 : decode cX4_manyOf 23 = .ok (.iconst 1, 1) := by decide +kernel
theorem dX4_manyOf_24 : decode cX4_manyOf 24 = .ok (.istore 5, 2) := by decide +kernel
theorem dX4_manyOf_26 : decode cX4_manyOf 26 = .ok (.iload 5, 2) := by decide +kernel
theorem dX4_manyOf_28 : decode cX4_manyOf 28 = .ok (.iconst 1, 1) := by decide +kernel
theorem dX4_manyOf_29 : decode cX4_manyOf 29 = .ok (.aload_n 1, 1) := by decide +kernel
theorem dX4_manyOf_30 : decode cX4_manyOf 30 = .ok (.getfield 29, 3) := by decide +kernel
theorem dX4_manyOf_33 : decode cX4_manyOf 33 = .ok (.ishl, 1) := by decide +kernel
theorem dX4_manyOf_34 : decode cX4_manyOf 34 = .ok (.if_icmp .ge 36, 3) := by decide +kernel
theorem dX4_manyOf_37 : decode cX4_manyOf 37 = .ok (.iload 4, 2) := by decide +kernel
theorem dX4_manyOf_39 : decode cX4_manyOf 39 = .ok (.iload 5, 2) := by decide +kernel
theorem dX4_manyOf_41 : decode cX4_manyOf 41 = .ok (.invokestatic 48, 3) := by decide +kernel
theorem dX4_manyOf_44 : decode cX4_manyOf 44 = .ok (.ifCond .eq 20, 3) := by decide +kernel
theorem dX4_manyOf_47 : decode cX4_manyOf 47 = .ok (.aload_n 0, 1) := by decide +kernel
theorem dX4_manyOf_48 : decode cX4_manyOf 48 = .ok (.getfield 9, 3) := by decide +kernel
theorem dX4_manyOf_51 : decode cX4_manyOf 51 = .ok (.iload 5, 2) := by decide +kernel
theorem dX4_manyOf_53 : decode cX4_manyOf 53 = .ok (.laload, 1) := by decide +kernel
theorem dX4_manyOf_54 : decode cX4_manyOf 54 = .ok (.invokestatic 52, 3) := by decide +kernel
theorem dX4_manyOf_57 : decode cX4_manyOf 57 = .ok (.iload_n 2, 1) := by decide +kernel
theorem dX4_manyOf_58 : decode cX4_manyOf 58 = .ok (.if_icmp .ne 6, 3) := by decide +kernel
theorem dX4_manyOf_61 : decode cX4_manyOf 61 = .ok (.iinc 3 1, 3) := by decide +kernel
theorem dX4_manyOf_64 : decode cX4_manyOf 64 = .ok (.iinc 5 1, 3) := by decide +kernel
theorem dX4_manyOf_67 : decode cX4_manyOf 67 = .ok (.goto (-41), 3) := by decide +kernel
theorem dX4_manyOf_70 : decode cX4_manyOf 70 = .ok (.iinc 4 1, 3) := by decide +kernel
theorem dX4_manyOf_73 : decode cX4_manyOf 73 = .ok (.goto (-68), 3) := by decide +kernel
theorem dX4_manyOf_76 : decode cX4_manyOf 76 = .ok (.iload_n 3, 1) := by decide +kernel
theorem dX4_manyOf_77 : decode cX4_manyOf 77 = .ok (.ireturn, 1) := by decide +kernel
theorem dX4_looks_0 : decode cX4_looks 0 = .ok (.iconst 0, 1) := by decide +kernel
theorem dX4_looks_1 : decode cX4_looks 1 = .ok (.istore_n 3, 1) := by decide +kernel
theorem dX4_looks_2 : decode cX4_looks 2 = .ok (.iconst 1, 1) := by decide +kernel
theorem dX4_looks_3 : decode cX4_looks 3 = .ok (.istore 4, 2) := by decide +kernel
theorem dX4_looks_5 : decode cX4_looks 5 = .ok (.iload 4, 2) := by decide +kernel
theorem dX4_looks_7 : decode cX4_looks 7 = .ok (.aload_n 1, 1) := by decide +kernel
theorem dX4_looks_8 : decode cX4_looks 8 = .ok (.getfield 23, 3) := by decide +kernel
theorem dX4_looks_11 : decode cX4_looks 11 = .ok (.aload_n 1, 1) := by decide +kernel
theorem dX4_looks_12 : decode cX4_looks 12 = .ok (.getfield 29, 3) := by decide +kernel
theorem dX4_looks_15 : decode cX4_looks 15 = .ok (.invokestatic 32, 3) := by decide +kernel
theorem dX4_looks_18 : decode cX4_looks 18 = .ok (.if_icmp .gt 109, 3) := by decide +kernel
theorem dX4_looks_21 : decode cX4_looks 21 = .ok (.iconst 0, 1) := by decide +kernel
theorem dX4_looks_22 : decode cX4_looks 22 = .ok (.istore 5, 2) := by decide +kernel
theorem dX4_looks_24 : decode cX4_looks 24 = .ok (.iload 5, 2) := by decide +kernel
theorem dX4_looks_26 : decode cX4_looks 26 = .ok (.iload 4, 2) := by decide +kernel
theorem dX4_looks_28 : decode cX4_looks 28 = .ok (.iadd, 1) := by decide +kernel
theorem dX4_looks_29 : decode cX4_looks 29 = .ok (.aload_n 1, 1) := by decide +kernel
theorem dX4_looks_30 : decode cX4_looks 30 = .ok (.getfield 23, 3) := by decide +kernel
theorem dX4_looks_33 : decode cX4_looks 33 = .ok (.if_icmp .gt 88, 3) := by decide +kernel
theorem dX4_looks_36 : decode cX4_looks 36 = .ok (.aload_n 0, 1) := by decide +kernel
theorem dX4_looks_37 : decode cX4_looks 37 = .ok (.aload_n 1, 1) := by decide +kernel
theorem dX4_looks_38 : decode cX4_looks 38 = .ok (.iload 5, 2) := by decide +kernel
theorem dX4_looks_40 : decode cX4_looks 40 = .ok (.iload 4, 2) := by decide +kernel
theorem dX4_looks_42 : decode cX4_looks 42 = .ok (.invokestatic 56, 3) := by decide +kernel
theorem dX4_looks_45 : decode cX4_looks 45 = .ok (.invokevirtual 19, 3) := by decide +kernel
theorem dX4_looks_48 : decode cX4_looks 48 = .ok (.iconst 0, 1) := by decide +kernel
theorem dX4_looks_49 : decode cX4_looks 49 = .ok (.istore 6, 2) := by decide +kernel
theorem dX4_looks_51 : decode cX4_looks 51 = .ok (.iload 6, 2) := by decide +kernel
theorem dX4_looks_53 : decode cX4_looks 53 = .ok (.iload 4, 2) := by decide +kernel
theorem dX4_looks_55 : decode cX4_looks 55 = .ok (.iadd, 1) := by decide +kernel
theorem dX4_looks_56 : decode cX4_looks 56 = .ok (.aload_n 1, 1) := by decide +kernel
theorem dX4_looks_57 : decode cX4_looks 57 = .ok (.getfield 29, 3) := by decide +kernel
theorem dX4_looks_60 : decode cX4_looks 60 = .ok (.if_icmp .gt 55, 3) := by decide +kernel
theorem dX4_looks_63 : decode cX4_looks 63 = .ok (.iload 5, 2) := by decide +kernel
theorem dX4_looks_65 : decode cX4_looks 65 = .ok (.ifCond .eq 8, 3) := by decide +kernel
theorem dX4_looks_68 : decode cX4_looks 68 = .ok (.iload 6, 2) := by decide +kernel
theorem dX4_looks_70 : decode cX4_looks 70 = .ok (.ifCond .ne 7, 3) := by decide +kernel
theorem dX4_looks_73 : decode cX4_looks 73 = .ok (.iconst 1, 1) := by decide +kernel
theorem dX4_looks_74 : decode cX4_looks 74 = .ok (.goto 4, 3) := by decide +kernel
theorem dX4_looks_77 : decode cX4_looks 77 = .ok (.iconst 0, 1) := by decide +kernel
theorem dX4_looks_78 : decode cX4_looks 78 = .ok (.istore 7, 2) := by decide +kernel
theorem dX4_looks_80 : decode cX4_looks 80 = .ok (.iload 7, 2) := by decide +kernel
theorem dX4_looks_82 : decode cX4_looks 82 = .ok (.ifCond .eq 27, 3) := by decide +kernel
theorem dX4_looks_85 : decode cX4_looks 85 = .ok (.iload_n 2, 1) := by decide +kernel
theorem dX4_looks_86 : decode cX4_looks 86 = .ok (.ifCond .eq 20, 3) := by decide +kernel
theorem dX4_looks_89 : decode cX4_looks 89 = .ok (.aload_n 0, 1) := by decide +kernel
theorem dX4_looks_90 : decode cX4_looks 90 = .ok (.getfield 9, 3) := by decide +kernel
theorem dX4_looks_93 : decode cX4_looks 93 = .ok (.iload 6, 2) := by decide +kernel
theorem dX4_looks_95 : decode cX4_looks 95 = .ok (.iload 4, 2) := by decide +kernel
theorem dX4_looks_97 : decode cX4_looks 97 = .ok (.invokestatic 56, 3) := by decide +kernel
theorem dX4_looks_100 : decode cX4_looks 100 = .ok (.laload, 1) := by decide +kernel
theorem dX4_looks_101 : decode cX4_looks 101 = .ok (.lconst 0, 1) := by decide +kernel
theorem dX4_looks_102 : decode cX4_looks 102 = .ok (.lcmp, 1) := by decide +kernel
theorem dX4_looks_103 : decode cX4_looks 103 = .ok (.ifCond .le 6, 3) := by decide +kernel
theorem dX4_looks_106 : decode cX4_looks 106 = .ok (.iinc 3 1, 3) := by decide +kernel
theorem dX4_looks_109 : decode cX4_looks 109 = .ok (.iinc 6 1, 3) := by decide +kernel
theorem dX4_looks_112 : decode cX4_looks 112 = .ok (.goto (-61), 3) := by decide +kernel
theorem dX4_looks_115 : decode cX4_looks 115 = .ok (.iinc 5 1, 3) := by decide +kernel
theorem dX4_looks_118 : decode cX4_looks 118 = .ok (.goto (-94), 3) := by decide +kernel
theorem dX4_looks_121 : decode cX4_looks 121 = .ok (.iinc 4 1, 3) := by decide +kernel
theorem dX4_looks_124 : decode cX4_looks 124 = .ok (.goto (-119), 3) := by decide +kernel
theorem dX4_looks_127 : decode cX4_looks 127 = .ok (.iload_n 3, 1) := by decide +kernel
theorem dX4_looks_128 : decode cX4_looks 128 = .ok (.ireturn, 1) := by decide +kernel
theorem dX4_stretch_0 : decode cX4_stretch 0 = .ok (.iconst 1, 1) := by decide +kernel
theorem dX4_stretch_1 : decode cX4_stretch 1 = .ok (.iload_n 1, 1) := by decide +kernel
theorem dX4_stretch_2 : decode cX4_stretch 2 = .ok (.ishl, 1) := by decide +kernel
theorem dX4_stretch_3 : decode cX4_stretch 3 = .ok (.iconst 1, 1) := by decide +kernel
theorem dX4_stretch_4 : decode cX4_stretch 4 = .ok (.isub, 1) := by decide +kernel
theorem dX4_stretch_5 : decode cX4_stretch 5 = .ok (.iload_n 0, 1) := by decide +kernel
theorem dX4_stretch_6 : decode cX4_stretch 6 = .ok (.ishl, 1) := by decide +kernel
theorem dX4_stretch_7 : decode cX4_stretch 7 = .ok (.ireturn, 1) := by decide +kernel
theorem dX4_findAll_0 : decode cX4_findAll 0 = .ok (.aload_n 0, 1) := by decide +kernel
theorem dX4_findAll_1 : decode cX4_findAll 1 = .ok (.iload_n 2, 1) := by decide +kernel
theorem dX4_findAll_2 : decode cX4_findAll 2 = .ok (.invokevirtual 59, 3) := by decide +kernel
theorem dX4_findAll_5 : decode cX4_findAll 5 = .ok (.istore_n 3, 1) := by decide +kernel
theorem dX4_findAll_6 : decode cX4_findAll 6 = .ok (.aload_n 0, 1) := by decide +kernel
theorem dX4_findAll_7 : decode cX4_findAll 7 = .ok (.getfield 9, 3) := by decide +kernel
theorem dX4_findAll_10 : decode cX4_findAll 10 = .ok (.iconst 0, 1) := by decide +kernel
theorem dX4_findAll_11 : decode cX4_findAll 11 = .ok (.lconst 1, 1) := by decide +kernel
theorem dX4_findAll_12 : decode cX4_findAll 12 = .ok (.lastore, 1) := by decide +kernel
theorem dX4_findAll_13 : decode cX4_findAll 13 = .ok (.iconst 1, 1) := by decide +kernel
theorem dX4_findAll_14 : decode cX4_findAll 14 = .ok (.istore 4, 2) := by decide +kernel
theorem dX4_findAll_16 : decode cX4_findAll 16 = .ok (.iload 4, 2) := by decide +kernel
theorem dX4_findAll_18 : decode cX4_findAll 18 = .ok (.iconst 1, 1) := by decide +kernel
theorem dX4_findAll_19 : decode cX4_findAll 19 = .ok (.aload_n 1, 1) := by decide +kernel
theorem dX4_findAll_20 : decode cX4_findAll 20 = .ok (.getfield 29, 3) := by decide +kernel
theorem dX4_findAll_23 : decode cX4_findAll 23 = .ok (.ishl, 1) := by decide +kernel
theorem dX4_findAll_24 : decode cX4_findAll 24 = .ok (.if_icmp .ge 45, 3) := by decide +kernel
theorem dX4_findAll_27 : decode cX4_findAll 27 = .ok (.iload 4, 2) := by decide +kernel
theorem dX4_findAll_29 : decode cX4_findAll 29 = .ok (.invokestatic 38, 3) := by decide +kernel
theorem dX4_findAll_32 : decode cX4_findAll 32 = .ok (.istore 5, 2) := by decide +kernel
theorem dX4_findAll_34 : decode cX4_findAll 34 = .ok (.iload 5, 2) := by decide +kernel
theorem dX4_findAll_36 : decode cX4_findAll 36 = .ok (.iload_n 3, 1) := by decide +kernel
theorem dX4_findAll_37 : decode cX4_findAll 37 = .ok (.if_icmp .gt 26, 3) := by decide +kernel
theorem dX4_findAll_40 : decode cX4_findAll 40 = .ok (.aload_n 0, 1) := by decide +kernel
theorem dX4_findAll_41 : decode cX4_findAll 41 = .ok (.getfield 9, 3) := by decide +kernel
theorem dX4_findAll_44 : decode cX4_findAll 44 = .ok (.iload 4, 2) := by decide +kernel
theorem dX4_findAll_46 : decode cX4_findAll 46 = .ok (.aload_n 0, 1) := by decide +kernel
theorem dX4_findAll_47 : decode cX4_findAll 47 = .ok (.aload_n 1, 1) := by decide +kernel
theorem dX4_findAll_48 : decode cX4_findAll 48 = .ok (.aload_n 0, 1) := by decide +kernel
theorem dX4_findAll_49 : decode cX4_findAll 49 = .ok (.getfield 15, 3) := by decide +kernel
theorem dX4_findAll_52 : decode cX4_findAll 52 = .ok (.iload 5, 2) := by decide +kernel
theorem dX4_findAll_54 : decode cX4_findAll 54 = .ok (.iconst 1, 1) := by decide +kernel
theorem dX4_findAll_55 : decode cX4_findAll 55 = .ok (.isub, 1) := by decide +kernel
theorem dX4_findAll_56 : decode cX4_findAll 56 = .ok (.iaload, 1) := by decide +kernel
theorem dX4_findAll_57 : decode cX4_findAll 57 = .ok (.iload 4, 2) := by decide +kernel
theorem dX4_findAll_59 : decode cX4_findAll 59 = .ok (.invokevirtual 62, 3) := by decide +kernel
theorem dX4_findAll_62 : decode cX4_findAll 62 = .ok (.lastore, 1) := by decide +kernel
theorem dX4_findAll_63 : decode cX4_findAll 63 = .ok (.iinc 4 1, 3) := by decide +kernel
theorem dX4_findAll_66 : decode cX4_findAll 66 = .ok (.goto (-50), 3) := by decide +kernel
theorem dX4_findAll_69 : decode cX4_findAll 69 = .ok (.return_, 1) := by decide +kernel
theorem dX4_choose_0 : decode cX4_choose 0 = .ok (.iconst 0, 1) := by decide +kernel
theorem dX4_choose_1 : decode cX4_choose 1 = .ok (.istore_n 2, 1) := by decide +kernel
theorem dX4_choose_2 : decode cX4_choose 2 = .ok (.iconst 0, 1) := by decide +kernel
theorem dX4_choose_3 : decode cX4_choose 3 = .ok (.istore_n 3, 1) := by decide +kernel
theorem dX4_choose_4 : decode cX4_choose 4 = .ok (.iload_n 3, 1) := by decide +kernel
theorem dX4_choose_5 : decode cX4_choose 5 = .ok (.iconst 5, 1) := by decide +kernel
theorem dX4_choose_6 : decode cX4_choose 6 = .ok (.if_icmp .ge 27, 3) := by decide +kernel
theorem dX4_choose_9 : decode cX4_choose 9 = .ok (.iload_n 1, 1) := by decide +kernel
theorem dX4_choose_10 : decode cX4_choose 10 = .ok (.iload_n 3, 1) := by decide +kernel
theorem dX4_choose_11 : decode cX4_choose 11 = .ok (.invokestatic 66, 3) := by decide +kernel
theorem dX4_choose_14 : decode cX4_choose 14 = .ok (.ifCond .eq 13, 3) := by decide +kernel
theorem dX4_choose_17 : decode cX4_choose 17 = .ok (.aload_n 0, 1) := by decide +kernel
theorem dX4_choose_18 : decode cX4_choose 18 = .ok (.getfield 15, 3) := by decide +kernel
theorem dX4_choose_21 : decode cX4_choose 21 = .ok (.iload_n 2, 1) := by decide +kernel
theorem dX4_choose_22 : decode cX4_choose 22 = .ok (.iload_n 3, 1) := by decide +kernel
theorem dX4_choose_23 : decode cX4_choose 23 = .ok (.iastore, 1) := by decide +kernel
theorem dX4_choose_24 : decode cX4_choose 24 = .ok (.iinc 2 1, 3) := by decide +kernel
theorem dX4_choose_27 : decode cX4_choose 27 = .ok (.iinc 3 1, 3) := by decide +kernel
theorem dX4_choose_30 : decode cX4_choose 30 = .ok (.goto (-26), 3) := by decide +kernel
theorem dX4_choose_33 : decode cX4_choose 33 = .ok (.iload_n 2, 1) := by decide +kernel
theorem dX4_choose_34 : decode cX4_choose 34 = .ok (.ireturn, 1) := by decide +kernel
theorem dX4_alongLastRow_0 : decode cX4_alongLastRow 0 = .ok (.lconst 0, 1) := by decide +kernel
theorem dX4_alongLastRow_1 : decode cX4_alongLastRow 1 = .ok (.lstore 4, 2) := by decide +kernel
theorem dX4_alongLastRow_3 : decode cX4_alongLastRow 3 = .ok (.lconst 1, 1) := by decide +kernel
theorem dX4_alongLastRow_4 : decode cX4_alongLastRow 4 = .ok (.lstore 6, 2) := by decide +kernel
theorem dX4_alongLastRow_6 : decode cX4_alongLastRow 6 = .ok (.aload_n 1, 1) := by decide +kernel
theorem dX4_alongLastRow_7 : decode cX4_alongLastRow 7 = .ok (.getfield 29, 3) := by decide +kernel
theorem dX4_alongLastRow_10 : decode cX4_alongLastRow 10 = .ok (.iconst 1, 1) := by decide +kernel
theorem dX4_alongLastRow_11 : decode cX4_alongLastRow 11 = .ok (.isub, 1) := by decide +kernel
theorem dX4_alongLastRow_12 : decode cX4_alongLastRow 12 = .ok (.istore 8, 2) := by decide +kernel
theorem dX4_alongLastRow_14 : decode cX4_alongLastRow 14 = .ok (.iload 8, 2) := by decide +kernel
theorem dX4_alongLastRow_16 : decode cX4_alongLastRow 16 = .ok (.ifCond .lt 51, 3) := by decide +kernel
theorem dX4_alongLastRow_19 : decode cX4_alongLastRow 19 = .ok (.iload_n 3, 1) := by decide +kernel
theorem dX4_alongLastRow_20 : decode cX4_alongLastRow 20 = .ok (.iload 8, 2) := by decide +kernel
theorem dX4_alongLastRow_22 : decode cX4_alongLastRow 22 = .ok (.invokestatic 66, 3) := by decide +kernel
theorem dX4_alongLastRow_25 : decode cX4_alongLastRow 25 = .ok (.ifCond .eq 36, 3) := by decide +kernel
theorem dX4_alongLastRow_28 : decode cX4_alongLastRow 28 = .ok (.lload 4, 2) := by decide +kernel
theorem dX4_alongLastRow_30 : decode cX4_alongLastRow 30 = .ok (.lload 6, 2) := by decide +kernel
theorem dX4_alongLastRow_32 : decode cX4_alongLastRow 32 = .ok (.aload_n 1, 1) := by decide +kernel
theorem dX4_alongLastRow_33 : decode cX4_alongLastRow 33 = .ok (.iload_n 2, 1) := by decide +kernel
theorem dX4_alongLastRow_34 : decode cX4_alongLastRow 34 = .ok (.iload 8, 2) := by decide +kernel
theorem dX4_alongLastRow_36 : decode cX4_alongLastRow 36 = .ok (.invokevirtual 69, 3) := by decide +kernel
theorem dX4_alongLastRow_39 : decode cX4_alongLastRow 39 = .ok (.i2l, 1) := by decide +kernel
theorem dX4_alongLastRow_40 : decode cX4_alongLastRow 40 = .ok (.lmul, 1) := by decide +kernel
theorem dX4_alongLastRow_41 : decode cX4_alongLastRow 41 = .ok (.aload_n 0, 1) := by decide +kernel
theorem dX4_alongLastRow_42 : decode cX4_alongLastRow 42 = .ok (.getfield 9, 3) := by decide +kernel
theorem dX4_alongLastRow_45 : decode cX4_alongLastRow 45 = .ok (.iload_n 3, 1) := by decide +kernel
theorem dX4_alongLastRow_46 : decode cX4_alongLastRow 46 = .ok (.iconst 1, 1) := by decide +kernel
theorem dX4_alongLastRow_47 : decode cX4_alongLastRow 47 = .ok (.iload 8, 2) := by decide +kernel
theorem dX4_alongLastRow_49 : decode cX4_alongLastRow 49 = .ok (.ishl, 1) := by decide +kernel
theorem dX4_alongLastRow_50 : decode cX4_alongLastRow 50 = .ok (.ixor, 1) := by decide +kernel
theorem dX4_alongLastRow_51 : decode cX4_alongLastRow 51 = .ok (.laload, 1) := by decide +kernel
theorem dX4_alongLastRow_52 : decode cX4_alongLastRow 52 = .ok (.lmul, 1) := by decide +kernel
theorem dX4_alongLastRow_53 : decode cX4_alongLastRow 53 = .ok (.ladd, 1) := by decide +kernel
theorem dX4_alongLastRow_54 : decode cX4_alongLastRow 54 = .ok (.lstore 4, 2) := by decide +kernel
theorem dX4_alongLastRow_56 : decode cX4_alongLastRow 56 = .ok (.lload 6, 2) := by decide +kernel
theorem dX4_alongLastRow_58 : decode cX4_alongLastRow 58 = .ok (.lneg, 1) := by decide +kernel
theorem dX4_alongLastRow_59 : decode cX4_alongLastRow 59 = .ok (.lstore 6, 2) := by decide +kernel
theorem dX4_alongLastRow_61 : decode cX4_alongLastRow 61 = .ok (.iinc 8 (-1), 3) := by decide +kernel
theorem dX4_alongLastRow_64 : decode cX4_alongLastRow 64 = .ok (.goto (-50), 3) := by decide +kernel
theorem dX4_alongLastRow_67 : decode cX4_alongLastRow 67 = .ok (.lload 4, 2) := by decide +kernel
theorem dX4_alongLastRow_69 : decode cX4_alongLastRow 69 = .ok (.lreturn, 1) := by decide +kernel
theorem dX5_init_0 : decode cX5_init 0 = .ok (.aload_n 0, 1) := by decide +kernel
theorem dX5_init_1 : decode cX5_init 1 = .ok (.invokespecial 3, 3) := by decide +kernel
theorem dX5_init_4 : decode cX5_init 4 = .ok (.aload_n 0, 1) := by decide +kernel
theorem dX5_init_5 : decode cX5_init 5 = .ok (.bipush 12, 2) := by decide +kernel
theorem dX5_init_7 : decode cX5_init 7 = .ok (.anewarray 9, 3) := by decide +kernel
theorem dX5_init_10 : decode cX5_init 10 = .ok (.putfield 11, 3) := by decide +kernel
theorem dX5_init_13 : decode cX5_init 13 = .ok (.aload_n 0, 1) := by decide +kernel
theorem dX5_init_14 : decode cX5_init 14 = .ok (.iconst 4, 1) := by decide +kernel
theorem dX5_init_15 : decode cX5_init 15 = .ok (.anewarray 15, 3) := by decide +kernel
theorem dX5_init_18 : decode cX5_init 18 = .ok (.putfield 17, 3) := by decide +kernel
theorem dX5_init_21 : decode cX5_init 21 = .ok (.aload_n 0, 1) := by decide +kernel
theorem dX5_init_22 : decode cX5_init 22 = .ok (.bipush 16, 2) := by decide +kernel
theorem dX5_init_24 : decode cX5_init 24 = .ok (.newarray .int, 2) := by decide +kernel
theorem dX5_init_26 : decode cX5_init 26 = .ok (.putfield 21, 3) := by decide +kernel
theorem dX5_init_29 : decode cX5_init 29 = .ok (.aload_n 0, 1) := by decide +kernel
theorem dX5_init_30 : decode cX5_init 30 = .ok (.iconst 5, 1) := by decide +kernel
theorem dX5_init_31 : decode cX5_init 31 = .ok (.newarray .int, 2) := by decide +kernel
theorem dX5_init_33 : decode cX5_init 33 = .ok (.putfield 25, 3) := by decide +kernel
theorem dX5_init_36 : decode cX5_init 36 = .ok (.aload_n 0, 1) := by decide +kernel
theorem dX5_init_37 : decode cX5_init 37 = .ok (.bipush 9, 2) := by decide +kernel
theorem dX5_init_39 : decode cX5_init 39 = .ok (.newarray .int, 2) := by decide +kernel
theorem dX5_init_41 : decode cX5_init 41 = .ok (.putfield 28, 3) := by decide +kernel
theorem dX5_init_44 : decode cX5_init 44 = .ok (.aload_n 0, 1) := by decide +kernel
theorem dX5_init_45 : decode cX5_init 45 = .ok (.new 31, 3) := by decide +kernel
theorem dX5_init_48 : decode cX5_init 48 = .ok (.dup, 1) := by decide +kernel
theorem dX5_init_49 : decode cX5_init 49 = .ok (.invokespecial 33, 3) := by decide +kernel
theorem dX5_init_52 : decode cX5_init 52 = .ok (.putfield 34, 3) := by decide +kernel
theorem dX5_init_55 : decode cX5_init 55 = .ok (.aload_n 0, 1) := by decide +kernel
theorem dX5_init_56 : decode cX5_init 56 = .ok (.new 38, 3) := by decide +kernel
theorem dX5_init_59 : decode cX5_init 59 = .ok (.dup, 1) := by decide +kernel
theorem dX5_init_60 : decode cX5_init 60 = .ok (.invokespecial 40, 3) := by decide +kernel
theorem dX5_init_63 : decode cX5_init 63 = .ok (.putfield 41, 3) := by decide +kernel
theorem dX5_init_66 : decode cX5_init 66 = .ok (.aload_n 0, 1) := by decide +kernel
theorem dX5_init_67 : decode cX5_init 67 = .ok (.new 45, 3) := by decide +kernel
theorem dX5_init_70 : decode cX5_init 70 = .ok (.dup, 1) := by decide +kernel
theorem dX5_init_71 : decode cX5_init 71 = .ok (.invokespecial 47, 3) := by decide +kernel
theorem dX5_init_74 : decode cX5_init 74 = .ok (.putfield 48, 3) := by decide +kernel
theorem dX5_init_77 : decode cX5_init 77 = .ok (.iconst 0, 1) := by decide +kernel
theorem dX5_init_78 : decode cX5_init 78 = .ok (.istore_n 1, 1) := by decide +kernel
theorem dX5_init_79 : decode cX5_init 79 = .ok (.iload_n 1, 1) := by decide +kernel
theorem dX5_init_80 : decode cX5_init 80 = .ok (.bipush 12, 2) := by decide +kernel
theorem dX5_init_82 : decode cX5_init 82 = .ok (.if_icmp .ge 22, 3) := by decide +kernel
theorem dX5_init_85 : decode cX5_init 85 = .ok (.aload_n 0, 1) := by decide +kernel
theorem dX5_init_86 : decode cX5_init 86 = .ok (.getfield 11, 3) := by decide +kernel
theorem dX5_init_89 : decode cX5_init 89 = .ok (.iload_n 1, 1) := by decide +kernel
theorem dX5_init_90 : decode cX5_init 90 = .ok (.new 9, 3) := by decide +kernel
theorem dX5_init_93 : decode cX5_init 93 = .ok (.dup, 1) := by decide +kernel
theorem dX5_init_94 : decode cX5_init 94 = .ok (.invokespecial 52, 3) := by decide +kernel
theorem dX5_init_97 : decode cX5_init 97 = .ok (.aastore, 1) := by decide +kernel
theorem dX5_init_98 : decode cX5_init 98 = .ok (.iinc 1 1, 3) := by decide +kernel
theorem dX5_init_101 : decode cX5_init 101 = .ok (.goto (-22), 3) := by decide +kernel
theorem dX5_init_104 : decode cX5_init 104 = .ok (.iconst 0, 1) := by decide +kernel
theorem dX5_init_105 : decode cX5_init 105 = .ok (.istore_n 1, 1) := by decide +kernel
theorem dX5_init_106 : decode cX5_init 106 = .ok (.iload_n 1, 1) := by decide +kernel
theorem dX5_init_107 : decode cX5_init 107 = .ok (.iconst 4, 1) := by decide +kernel
theorem dX5_init_108 : decode cX5_init 108 = .ok (.if_icmp .ge 22, 3) := by decide +kernel
theorem dX5_init_111 : decode cX5_init 111 = .ok (.aload_n 0, 1) := by decide +kernel
theorem dX5_init_112 : decode cX5_init 112 = .ok (.getfield 17, 3) := by decide +kernel
theorem dX5_init_115 : decode cX5_init 115 = .ok (.iload_n 1, 1) := by decide +kernel
theorem dX5_init_116 : decode cX5_init 116 = .ok (.new 15, 3) := by decide +kernel
theorem dX5_init_119 : decode cX5_init 119 = .ok (.dup, 1) := by decide +kernel
theorem dX5_init_120 : decode cX5_init 120 = .ok (.invokespecial 53, 3) := by decide +kernel
theorem dX5_init_123 : decode cX5_init 123 = .ok (.aastore, 1) := by decide +kernel
theorem dX5_init_124 : decode cX5_init 124 = .ok (.iinc 1 1, 3) := by decide +kernel
theorem dX5_init_127 : decode cX5_init 127 = .ok (.goto (-21), 3) := by decide +kernel
theorem dX5_init_130 : decode cX5_init 130 = .ok (.return_, 1) := by decide +kernel
theorem dX5_table_0 : decode cX5_table 0 = .ok (.iload_n 1, 1) := by decide +kernel
theorem dX5_table_1 : decode cX5_table 1 = .ok (.invokestatic 54, 3) := by decide +kernel
theorem dX5_table_4 : decode cX5_table 4 = .ok (.ifCond .eq 10, 3) := by decide +kernel
theorem dX5_table_7 : decode cX5_table 7 = .ok (.iload_n 2, 1) := by decide +kernel
theorem dX5_table_8 : decode cX5_table 8 = .ok (.invokestatic 54, 3) := by decide +kernel
theorem dX5_table_11 : decode cX5_table 11 = .ok (.ifCond .ne 10, 3) := by decide +kernel
theorem dX5_table_14 : decode cX5_table 14 = .ok (.aload_n 0, 1) := by decide +kernel
theorem dX5_table_15 : decode cX5_table 15 = .ok (.bipush (-7), 2) := by decide +kernel
theorem dX5_table_17 : decode cX5_table 17 = .ok (.invokevirtual 58, 3) := by decide +kernel
theorem dX5_table_20 : decode cX5_table 20 = .ok (.ireturn, 1) := by decide +kernel
theorem dX5_table_21 : decode cX5_table 21 = .ok (.aload_n 0, 1) := by decide +kernel
theorem dX5_table_22 : decode cX5_table 22 = .ok (.invokevirtual 62, 3) := by decide +kernel
theorem dX5_table_25 : decode cX5_table 25 = .ok (.astore_n 3, 1) := by decide +kernel
theorem dX5_table_26 : decode cX5_table 26 = .ok (.aload_n 3, 1) := by decide +kernel
theorem dX5_table_27 : decode cX5_table 27 = .ok (.ifnonnull 10, 3) := by decide +kernel
theorem dX5_table_30 : decode cX5_table 30 = .ok (.aload_n 0, 1) := by decide +kernel
theorem dX5_table_31 : decode cX5_table 31 = .ok (.bipush (-8), 2) := by decide +kernel
theorem dX5_table_33 : decode cX5_table 33 = .ok (.invokevirtual 58, 3) := by decide +kernel
theorem dX5_table_36 : decode cX5_table 36 = .ok (.ireturn, 1) := by decide +kernel
theorem dX5_table_37 : decode cX5_table 37 = .ok (.aload_n 3, 1) := by decide +kernel
theorem dX5_table_38 : decode cX5_table 38 = .ok (.iload_n 1, 1) := by decide +kernel
theorem dX5_table_39 : decode cX5_table 39 = .ok (.iload_n 2, 1) := by decide +kernel
theorem dX5_table_40 : decode cX5_table 40 = .ok (.iconst 0, 1) := by decide +kernel
theorem dX5_table_41 : decode cX5_table 41 = .ok (.invokevirtual 66, 3) := by decide +kernel
theorem dX5_table_44 : decode cX5_table 44 = .ok (.aload_n 0, 1) := by decide +kernel
theorem dX5_table_45 : decode cX5_table 45 = .ok (.aload_n 3, 1) := by decide +kernel
theorem dX5_table_46 : decode cX5_table 46 = .ok (.invokevirtual 70, 3) := by decide +kernel
theorem dX5_table_49 : decode cX5_table 49 = .ok (.ireturn, 1) := by decide +kernel
theorem dX5_set_0 : decode cX5_set 0 = .ok (.aload_n 0, 1) := by decide +kernel
theorem dX5_set_1 : decode cX5_set 1 = .ok (.iload_n 1, 1) := by decide +kernel
theorem dX5_set_2 : decode cX5_set 2 = .ok (.invokevirtual 74, 3) := by decide +kernel
theorem dX5_set_5 : decode cX5_set 5 = .ok (.astore 5, 2) := by decide +kernel
theorem dX5_set_7 : decode cX5_set 7 = .ok (.aload 5, 2) := by decide +kernel
theorem dX5_set_9 : decode cX5_set 9 = .ok (.ifnull 13, 3) := by decide +kernel
theorem dX5_set_12 : decode cX5_set 12 = .ok (.aload 5, 2) := by decide +kernel
theorem dX5_set_14 : decode cX5_set 14 = .ok (.iload_n 2, 1) := by decide +kernel
theorem dX5_set_15 : decode cX5_set 15 = .ok (.iload_n 3, 1) := by decide +kernel
theorem dX5_set_16 : decode cX5_set 16 = .ok (.invokevirtual 78, 3) := by decide +kernel
theorem dX5_set_19 : decode cX5_set 19 = .ok (.ifCond .ne 10, 3) := by decide +kernel
theorem dX5_set_22 : decode cX5_set 22 = .ok (.aload_n 0, 1) := by decide +kernel
theorem dX5_set_23 : decode cX5_set 23 = .ok (.bipush (-3), 2) := by decide +kernel
theorem dX5_set_25 : decode cX5_set 25 = .ok (.invokevirtual 82, 3) := by decide +kernel
theorem dX5_set_28 : decode cX5_set 28 = .ok (.ireturn, 1) := by decide +kernel
theorem dX5_set_29 : decode cX5_set 29 = .ok (.aload 5, 2) := by decide +kernel
theorem dX5_set_31 : decode cX5_set 31 = .ok (.getfield 85, 3) := by decide +kernel
theorem dX5_set_34 : decode cX5_set 34 = .ok (.ifCond .eq 10, 3) := by decide +kernel
theorem dX5_set_37 : decode cX5_set 37 = .ok (.aload_n 0, 1) := by decide +kernel
theorem dX5_set_38 : decode cX5_set 38 = .ok (.bipush (-5), 2) := by decide +kernel
theorem dX5_set_40 : decode cX5_set 40 = .ok (.invokevirtual 82, 3) := by decide +kernel
theorem dX5_set_43 : decode cX5_set 43 = .ok (.ireturn, 1) := by decide +kernel
theorem dX5_set_44 : decode cX5_set 44 = .ok (.iload 4, 2) := by decide +kernel
theorem dX5_set_46 : decode cX5_set 46 = .ok (.i2l, 1) := by decide +kernel
theorem dX5_set_47 : decode cX5_set 47 = .ok (.invokestatic 89, 3) := by decide +kernel
theorem dX5_set_50 : decode cX5_set 50 = .ok (.ifCond .ne 10, 3) := by decide +kernel
theorem dX5_set_53 : decode cX5_set 53 = .ok (.aload_n 0, 1) := by decide +kernel
theorem dX5_set_54 : decode cX5_set 54 = .ok (.bipush (-7), 2) := by decide +kernel
theorem dX5_set_56 : decode cX5_set 56 = .ok (.invokevirtual 82, 3) := by decide +kernel
theorem dX5_set_59 : decode cX5_set 59 = .ok (.ireturn, 1) := by decide +kernel
theorem dX5_set_60 : decode cX5_set 60 = .ok (.aload 5, 2) := by decide +kernel
theorem dX5_set_62 : decode cX5_set 62 = .ok (.iload_n 2, 1) := by decide +kernel
theorem dX5_set_63 : decode cX5_set 63 = .ok (.iload_n 3, 1) := by decide +kernel
theorem dX5_set_64 : decode cX5_set 64 = .ok (.invokevirtual 93, 3) := by decide +kernel
theorem dX5_set_67 : decode cX5_set 67 = .ok (.istore 6, 2) := by decide +kernel
theorem dX5_set_69 : decode cX5_set 69 = .ok (.aload 5, 2) := by decide +kernel
theorem dX5_set_71 : decode cX5_set 71 = .ok (.iload_n 2, 1) := by decide +kernel
theorem dX5_set_72 : decode cX5_set 72 = .ok (.iload_n 3, 1) := by decide +kernel
theorem dX5_set_73 : decode cX5_set 73 = .ok (.iload 4, 2) := by decide +kernel
theorem dX5_set_75 : decode cX5_set 75 = .ok (.i2l, 1) := by decide +kernel
theorem dX5_set_76 : decode cX5_set 76 = .ok (.invokevirtual 97, 3) := by decide +kernel
theorem dX5_set_79 : decode cX5_set 79 = .ok (.iload 6, 2) := by decide +kernel
theorem dX5_set_81 : decode cX5_set 81 = .ok (.ireturn, 1) := by decide +kernel
theorem dX5_at_0 : decode cX5_at 0 = .ok (.aload_n 0, 1) := by decide +kernel
theorem dX5_at_1 : decode cX5_at 1 = .ok (.iload_n 1, 1) := by decide +kernel
theorem dX5_at_2 : decode cX5_at 2 = .ok (.invokevirtual 74, 3) := by decide +kernel
theorem dX5_at_5 : decode cX5_at 5 = .ok (.astore 4, 2) := by decide +kernel
theorem dX5_at_7 : decode cX5_at 7 = .ok (.aload 4, 2) := by decide +kernel
theorem dX5_at_9 : decode cX5_at 9 = .ok (.ifnull 13, 3) := by decide +kernel
theorem dX5_at_12 : decode cX5_at 12 = .ok (.aload 4, 2) := by decide +kernel
theorem dX5_at_14 : decode cX5_at 14 = .ok (.iload_n 2, 1) := by decide +kernel
theorem dX5_at_15 : decode cX5_at 15 = .ok (.iload_n 3, 1) := by decide +kernel
theorem dX5_at_16 : decode cX5_at 16 = .ok (.invokevirtual 78, 3) := by decide +kernel
theorem dX5_at_19 : decode cX5_at 19 = .ok (.ifCond .ne 10, 3) := by decide +kernel
theorem dX5_at_22 : decode cX5_at 22 = .ok (.aload_n 0, 1) := by decide +kernel
theorem dX5_at_23 : decode cX5_at 23 = .ok (.bipush (-3), 2) := by decide +kernel
theorem dX5_at_25 : decode cX5_at 25 = .ok (.invokevirtual 82, 3) := by decide +kernel
theorem dX5_at_28 : decode cX5_at 28 = .ok (.ireturn, 1) := by decide +kernel
theorem dX5_at_29 : decode cX5_at 29 = .ok (.aload 4, 2) := by decide +kernel
theorem dX5_at_31 : decode cX5_at 31 = .ok (.iload_n 2, 1) := by decide +kernel
theorem dX5_at_32 : decode cX5_at 32 = .ok (.iload_n 3, 1) := by decide +kernel
theorem dX5_at_33 : decode cX5_at 33 = .ok (.invokevirtual 93, 3) := by decide +kernel
theorem dX5_at_36 : decode cX5_at 36 = .ok (.ireturn, 1) := by decide +kernel
theorem dX5_look_0 : decode cX5_look 0 = .ok (.aload_n 0, 1) := by decide +kernel
theorem dX5_look_1 : decode cX5_look 1 = .ok (.iload_n 1, 1) := by decide +kernel
theorem dX5_look_2 : decode cX5_look 2 = .ok (.invokevirtual 74, 3) := by decide +kernel
theorem dX5_look_5 : decode cX5_look 5 = .ok (.astore_n 3, 1) := by decide +kernel
theorem dX5_look_6 : decode cX5_look 6 = .ok (.aload_n 3, 1) := by decide +kernel
theorem dX5_look_7 : decode cX5_look 7 = .ok (.ifnonnull 10, 3) := by decide +kernel
theorem dX5_look_10 : decode cX5_look 10 = .ok (.aload_n 0, 1) := by decide +kernel
theorem dX5_look_11 : decode cX5_look 11 = .ok (.bipush (-3), 2) := by decide +kernel
theorem dX5_look_13 : decode cX5_look 13 = .ok (.invokevirtual 58, 3) := by decide +kernel
theorem dX5_look_16 : decode cX5_look 16 = .ok (.ireturn, 1) := by decide +kernel
theorem dX5_look_17 : decode cX5_look 17 = .ok (.iload_n 2, 1) := by decide +kernel
theorem dX5_look_18 : decode cX5_look 18 = .ok (.tableswitch 141 0 7 #[46, 51, 56, 61, 80, 99, 109, 119], 46) := by decide +kernel
theorem dX5_look_64 : decode cX5_look 64 = .ok (.aload_n 3, 1) := by decide +kernel
theorem dX5_look_65 : decode cX5_look 65 = .ok (.getfield 85, 3) := by decide +kernel
theorem dX5_look_68 : decode cX5_look 68 = .ok (.ireturn, 1) := by decide +kernel
theorem dX5_look_69 : decode cX5_look 69 = .ok (.aload_n 3, 1) := by decide +kernel
theorem dX5_look_70 : decode cX5_look 70 = .ok (.getfield 101, 3) := by decide +kernel
theorem dX5_look_73 : decode cX5_look 73 = .ok (.ireturn, 1) := by decide +kernel
theorem dX5_look_74 : decode cX5_look 74 = .ok (.aload_n 3, 1) := by decide +kernel
theorem dX5_look_75 : decode cX5_look 75 = .ok (.getfield 104, 3) := by decide +kernel
theorem dX5_look_78 : decode cX5_look 78 = .ok (.ireturn, 1) := by decide +kernel
theorem dX5_look_79 : decode cX5_look 79 = .ok (.aload_n 0, 1) := by decide +kernel
theorem dX5_look_80 : decode cX5_look 80 = .ok (.getfield 34, 3) := by decide +kernel
theorem dX5_look_83 : decode cX5_look 83 = .ok (.aload_n 3, 1) := by decide +kernel
theorem dX5_look_84 : decode cX5_look 84 = .ok (.iconst 0, 1) := by decide +kernel
theorem dX5_look_85 : decode cX5_look 85 = .ok (.invokevirtual 107, 3) := by decide +kernel
theorem dX5_look_88 : decode cX5_look 88 = .ok (.iconst (-1), 1) := by decide +kernel
theorem dX5_look_89 : decode cX5_look 89 = .ok (.if_icmp .ne 7, 3) := by decide +kernel
theorem dX5_look_92 : decode cX5_look 92 = .ok (.iconst 1, 1) := by decide +kernel
theorem dX5_look_93 : decode cX5_look 93 = .ok (.goto 4, 3) := by decide +kernel
theorem dX5_look_96 : decode cX5_look 96 = .ok (.iconst 0, 1) := by decide +kernel
theorem dX5_look_97 : decode cX5_look 97 = .ok (.ireturn, 1) := by decide +kernel
theorem dX5_look_98 : decode cX5_look 98 = .ok (.aload_n 0, 1) := by decide +kernel
theorem dX5_look_99 : decode cX5_look 99 = .ok (.getfield 34, 3) := by decide +kernel
theorem dX5_look_102 : decode cX5_look 102 = .ok (.aload_n 3, 1) := by decide +kernel
theorem dX5_look_103 : decode cX5_look 103 = .ok (.iconst 1, 1) := by decide +kernel
theorem dX5_look_104 : decode cX5_look 104 = .ok (.invokevirtual 107, 3) := by decide +kernel
theorem dX5_look_107 : decode cX5_look 107 = .ok (.iconst (-1), 1) := by decide +kernel
theorem dX5_look_108 : decode cX5_look 108 = .ok (.if_icmp .ne 7, 3) := by decide +kernel
theorem dX5_look_111 : decode cX5_look 111 = .ok (.iconst 1, 1) := by decide +kernel
theorem dX5_look_112 : decode cX5_look 112 = .ok (.goto 4, 3) := by decide +kernel
theorem dX5_look_115 : decode cX5_look 115 = .ok (.iconst 0, 1) := by decide +kernel
theorem dX5_look_116 : decode cX5_look 116 = .ok (.ireturn, 1) := by decide +kernel
theorem dX5_look_117 : decode cX5_look 117 = .ok (.aload_n 0, 1) := by decide +kernel
theorem dX5_look_118 : decode cX5_look 118 = .ok (.getfield 34, 3) := by decide +kernel
theorem dX5_look_121 : decode cX5_look 121 = .ok (.aload_n 3, 1) := by decide +kernel
theorem dX5_look_122 : decode cX5_look 122 = .ok (.iconst 0, 1) := by decide +kernel
theorem dX5_look_123 : decode cX5_look 123 = .ok (.invokevirtual 111, 3) := by decide +kernel
theorem dX5_look_126 : decode cX5_look 126 = .ok (.ireturn, 1) := by decide +kernel
theorem dX5_look_127 : decode cX5_look 127 = .ok (.aload_n 0, 1) := by decide +kernel
theorem dX5_look_128 : decode cX5_look 128 = .ok (.getfield 34, 3) := by decide +kernel
theorem dX5_look_131 : decode cX5_look 131 = .ok (.aload_n 3, 1) := by decide +kernel
theorem dX5_look_132 : decode cX5_look 132 = .ok (.iconst 1, 1) := by decide +kernel
theorem dX5_look_133 : decode cX5_look 133 = .ok (.invokevirtual 111, 3) := by decide +kernel
theorem dX5_look_136 : decode cX5_look 136 = .ok (.ireturn, 1) := by decide +kernel
theorem dX5_look_137 : decode cX5_look 137 = .ok (.aload_n 3, 1) := by decide +kernel
theorem dX5_look_138 : decode cX5_look 138 = .ok (.getfield 85, 3) := by decide +kernel
theorem dX5_look_141 : decode cX5_look 141 = .ok (.iconst 1, 1) := by decide +kernel
theorem dX5_look_142 : decode cX5_look 142 = .ok (.if_icmp .ne 10, 3) := by decide +kernel
theorem dX5_look_145 : decode cX5_look 145 = .ok (.aload_n 3, 1) := by decide +kernel
theorem dX5_look_146 : decode cX5_look 146 = .ok (.getfield 114, 3) := by decide +kernel
theorem dX5_look_149 : decode cX5_look 149 = .ok (.goto 9, 3) := by decide +kernel
theorem dX5_look_152 : decode cX5_look 152 = .ok (.aload_n 0, 1) := by decide +kernel
theorem dX5_look_153 : decode cX5_look 153 = .ok (.bipush (-5), 2) := by decide +kernel
theorem dX5_look_155 : decode cX5_look 155 = .ok (.invokevirtual 58, 3) := by decide +kernel
theorem dX5_look_158 : decode cX5_look 158 = .ok (.ireturn, 1) := by decide +kernel
theorem dX5_look_159 : decode cX5_look 159 = .ok (.aload_n 0, 1) := by decide +kernel
theorem dX5_look_160 : decode cX5_look 160 = .ok (.bipush (-7), 2) := by decide +kernel
theorem dX5_look_162 : decode cX5_look 162 = .ok (.invokevirtual 58, 3) := by decide +kernel
theorem dX5_look_165 : decode cX5_look 165 = .ok (.ireturn, 1) := by decide +kernel
theorem dX5_drop_0 : decode cX5_drop 0 = .ok (.aload_n 0, 1) := by decide +kernel
theorem dX5_drop_1 : decode cX5_drop 1 = .ok (.getfield 117, 3) := by decide +kernel
theorem dX5_drop_4 : decode cX5_drop 4 = .ok (.ifCond .ne 10, 3) := by decide +kernel
theorem dX5_drop_7 : decode cX5_drop 7 = .ok (.aload_n 0, 1) := by decide +kernel
theorem dX5_drop_8 : decode cX5_drop 8 = .ok (.bipush (-2), 2) := by decide +kernel
theorem dX5_drop_10 : decode cX5_drop 10 = .ok (.invokevirtual 58, 3) := by decide +kernel
theorem dX5_drop_13 : decode cX5_drop 13 = .ok (.ireturn, 1) := by decide +kernel
theorem dX5_drop_14 : decode cX5_drop 14 = .ok (.aload_n 0, 1) := by decide +kernel
theorem dX5_drop_15 : decode cX5_drop 15 = .ok (.dup, 1) := by decide +kernel
theorem dX5_drop_16 : decode cX5_drop 16 = .ok (.getfield 117, 3) := by decide +kernel
theorem dX5_drop_19 : decode cX5_drop 19 = .ok (.iconst 1, 1) := by decide +kernel
theorem dX5_drop_20 : decode cX5_drop 20 = .ok (.isub, 1) := by decide +kernel
theorem dX5_drop_21 : decode cX5_drop 21 = .ok (.putfield 117, 3) := by decide +kernel
theorem dX5_drop_24 : decode cX5_drop 24 = .ok (.aload_n 0, 1) := by decide +kernel
theorem dX5_drop_25 : decode cX5_drop 25 = .ok (.getfield 117, 3) := by decide +kernel
theorem dX5_drop_28 : decode cX5_drop 28 = .ok (.ireturn, 1) := by decide +kernel
theorem dX5_worth_0 : decode cX5_worth 0 = .ok (.aload_n 0, 1) := by decide +kernel
theorem dX5_worth_1 : decode cX5_worth 1 = .ok (.iload_n 1, 1) := by decide +kernel
theorem dX5_worth_2 : decode cX5_worth 2 = .ok (.invokevirtual 74, 3) := by decide +kernel
theorem dX5_worth_5 : decode cX5_worth 5 = .ok (.astore 4, 2) := by decide +kernel
theorem dX5_worth_7 : decode cX5_worth 7 = .ok (.aload 4, 2) := by decide +kernel
theorem dX5_worth_9 : decode cX5_worth 9 = .ok (.ifnull 27, 3) := by decide +kernel
theorem dX5_worth_12 : decode cX5_worth 12 = .ok (.iload_n 2, 1) := by decide +kernel
theorem dX5_worth_13 : decode cX5_worth 13 = .ok (.aload 4, 2) := by decide +kernel
theorem dX5_worth_15 : decode cX5_worth 15 = .ok (.getfield 101, 3) := by decide +kernel
theorem dX5_worth_18 : decode cX5_worth 18 = .ok (.invokestatic 120, 3) := by decide +kernel
theorem dX5_worth_21 : decode cX5_worth 21 = .ok (.ifCond .eq 15, 3) := by decide +kernel
theorem dX5_worth_24 : decode cX5_worth 24 = .ok (.iload_n 3, 1) := by decide +kernel
theorem dX5_worth_25 : decode cX5_worth 25 = .ok (.aload 4, 2) := by decide +kernel
theorem dX5_worth_27 : decode cX5_worth 27 = .ok (.getfield 104, 3) := by decide +kernel
theorem dX5_worth_30 : decode cX5_worth 30 = .ok (.invokestatic 120, 3) := by decide +kernel
theorem dX5_worth_33 : decode cX5_worth 33 = .ok (.ifCond .ne 11, 3) := by decide +kernel
theorem dX5_worth_36 : decode cX5_worth 36 = .ok (.aload_n 0, 1) := by decide +kernel
theorem dX5_worth_37 : decode cX5_worth 37 = .ok (.bipush (-3), 2) := by decide +kernel
theorem dX5_worth_39 : decode cX5_worth 39 = .ok (.invokevirtual 82, 3) := by decide +kernel
theorem dX5_worth_42 : decode cX5_worth 42 = .ok (.i2l, 1) := by decide +kernel
theorem dX5_worth_43 : decode cX5_worth 43 = .ok (.lreturn, 1) := by decide +kernel
theorem dX5_worth_44 : decode cX5_worth 44 = .ok (.iload_n 2, 1) := by decide +kernel
theorem dX5_worth_45 : decode cX5_worth 45 = .ok (.iload_n 3, 1) := by decide +kernel
theorem dX5_worth_46 : decode cX5_worth 46 = .ok (.invokestatic 123, 3) := by decide +kernel
theorem dX5_worth_49 : decode cX5_worth 49 = .ok (.ifCond .ne 11, 3) := by decide +kernel
theorem dX5_worth_52 : decode cX5_worth 52 = .ok (.aload_n 0, 1) := by decide +kernel
theorem dX5_worth_53 : decode cX5_worth 53 = .ok (.bipush (-7), 2) := by decide +kernel
theorem dX5_worth_55 : decode cX5_worth 55 = .ok (.invokevirtual 82, 3) := by decide +kernel
theorem dX5_worth_58 : decode cX5_worth 58 = .ok (.i2l, 1) := by decide +kernel
theorem dX5_worth_59 : decode cX5_worth 59 = .ok (.lreturn, 1) := by decide +kernel
theorem dX5_worth_60 : decode cX5_worth 60 = .ok (.aload_n 0, 1) := by decide +kernel
theorem dX5_worth_61 : decode cX5_worth 61 = .ok (.getfield 34, 3) := by decide +kernel
theorem dX5_worth_64 : decode cX5_worth 64 = .ok (.aload 4, 2) := by decide +kernel
theorem dX5_worth_66 : decode cX5_worth 66 = .ok (.iload_n 2, 1) := by decide +kernel
theorem dX5_worth_67 : decode cX5_worth 67 = .ok (.iload_n 3, 1) := by decide +kernel
theorem dX5_worth_68 : decode cX5_worth 68 = .ok (.invokevirtual 126, 3) := by decide +kernel
theorem dX5_worth_71 : decode cX5_worth 71 = .ok (.lreturn, 1) := by decide +kernel
theorem dX5_low_0 : decode cX5_low 0 = .ok (.aload_n 0, 1) := by decide +kernel
theorem dX5_low_1 : decode cX5_low 1 = .ok (.iload_n 1, 1) := by decide +kernel
theorem dX5_low_2 : decode cX5_low 2 = .ok (.invokevirtual 74, 3) := by decide +kernel
theorem dX5_low_5 : decode cX5_low 5 = .ok (.astore_n 3, 1) := by decide +kernel
theorem dX5_low_6 : decode cX5_low 6 = .ok (.aload_n 3, 1) := by decide +kernel
theorem dX5_low_7 : decode cX5_low 7 = .ok (.ifnonnull 10, 3) := by decide +kernel
theorem dX5_low_10 : decode cX5_low 10 = .ok (.aload_n 0, 1) := by decide +kernel
theorem dX5_low_11 : decode cX5_low 11 = .ok (.bipush (-3), 2) := by decide +kernel
theorem dX5_low_13 : decode cX5_low 13 = .ok (.invokevirtual 58, 3) := by decide +kernel
theorem dX5_low_16 : decode cX5_low 16 = .ok (.ireturn, 1) := by decide +kernel
theorem dX5_low_17 : decode cX5_low 17 = .ok (.aload_n 0, 1) := by decide +kernel
theorem dX5_low_18 : decode cX5_low 18 = .ok (.getfield 34, 3) := by decide +kernel
theorem dX5_low_21 : decode cX5_low 21 = .ok (.aload_n 3, 1) := by decide +kernel
theorem dX5_low_22 : decode cX5_low 22 = .ok (.iload_n 2, 1) := by decide +kernel
theorem dX5_low_23 : decode cX5_low 23 = .ok (.invokevirtual 107, 3) := by decide +kernel
theorem dX5_low_26 : decode cX5_low 26 = .ok (.ireturn, 1) := by decide +kernel
theorem dX5_count_0 : decode cX5_count 0 = .ok (.aload_n 0, 1) := by decide +kernel
theorem dX5_count_1 : decode cX5_count 1 = .ok (.iload_n 1, 1) := by decide +kernel
theorem dX5_count_2 : decode cX5_count 2 = .ok (.invokevirtual 74, 3) := by decide +kernel
theorem dX5_count_5 : decode cX5_count 5 = .ok (.astore_n 3, 1) := by decide +kernel
theorem dX5_count_6 : decode cX5_count 6 = .ok (.aload_n 3, 1) := by decide +kernel
theorem dX5_count_7 : decode cX5_count 7 = .ok (.ifnonnull 10, 3) := by decide +kernel
theorem dX5_count_10 : decode cX5_count 10 = .ok (.aload_n 0, 1) := by decide +kernel
theorem dX5_count_11 : decode cX5_count 11 = .ok (.bipush (-3), 2) := by decide +kernel
theorem dX5_count_13 : decode cX5_count 13 = .ok (.invokevirtual 58, 3) := by decide +kernel
theorem dX5_count_16 : decode cX5_count 16 = .ok (.ireturn, 1) := by decide +kernel
theorem dX5_count_17 : decode cX5_count 17 = .ok (.iload_n 2, 1) := by decide +kernel
theorem dX5_count_18 : decode cX5_count 18 = .ok (.iconst (-1), 1) := by decide +kernel
theorem dX5_count_19 : decode cX5_count 19 = .ok (.if_icmp .lt 8, 3) := by decide +kernel
theorem dX5_count_22 : decode cX5_count 22 = .ok (.iload_n 2, 1) := by decide +kernel
theorem dX5_count_23 : decode cX5_count 23 = .ok (.iconst 1, 1) := by decide +kernel
theorem dX5_count_24 : decode cX5_count 24 = .ok (.if_icmp .le 10, 3) := by decide +kernel
theorem dX5_count_27 : decode cX5_count 27 = .ok (.aload_n 0, 1) := by decide +kernel
theorem dX5_count_28 : decode cX5_count 28 = .ok (.bipush (-7), 2) := by decide +kernel
theorem dX5_count_30 : decode cX5_count 30 = .ok (.invokevirtual 58, 3) := by decide +kernel
theorem dX5_count_33 : decode cX5_count 33 = .ok (.ireturn, 1) := by decide +kernel
theorem dX5_count_34 : decode cX5_count 34 = .ok (.aload_n 0, 1) := by decide +kernel
theorem dX5_count_35 : decode cX5_count 35 = .ok (.getfield 34, 3) := by decide +kernel
theorem dX5_count_38 : decode cX5_count 38 = .ok (.aload_n 3, 1) := by decide +kernel
theorem dX5_count_39 : decode cX5_count 39 = .ok (.iload_n 2, 1) := by decide +kernel
theorem dX5_count_40 : decode cX5_count 40 = .ok (.invokevirtual 130, 3) := by decide +kernel
theorem dX5_count_43 : decode cX5_count 43 = .ok (.ireturn, 1) := by decide +kernel
theorem dX5_product_0 : decode cX5_product 0 = .ok (.aload_n 0, 1) := by decide +kernel
theorem dX5_product_1 : decode cX5_product 1 = .ok (.iload_n 1, 1) := by decide +kernel
theorem dX5_product_2 : decode cX5_product 2 = .ok (.invokevirtual 74, 3) := by decide +kernel
theorem dX5_product_5 : decode cX5_product 5 = .ok (.astore_n 3, 1) := by decide +kernel
theorem dX5_product_6 : decode cX5_product 6 = .ok (.aload_n 0, 1) := by decide +kernel
theorem dX5_product_7 : decode cX5_product 7 = .ok (.iload_n 2, 1) := by decide +kernel
theorem dX5_product_8 : decode cX5_product 8 = .ok (.invokevirtual 74, 3) := by decide +kernel
theorem dX5_product_11 : decode cX5_product 11 = .ok (.astore 4, 2) := by decide +kernel
theorem dX5_product_13 : decode cX5_product 13 = .ok (.aload_n 3, 1) := by decide +kernel
theorem dX5_product_14 : decode cX5_product 14 = .ok (.ifnull 8, 3) := by decide +kernel
theorem dX5_product_17 : decode cX5_product 17 = .ok (.aload 4, 2) := by decide +kernel
theorem dX5_product_19 : decode cX5_product 19 = .ok (.ifnonnull 10, 3) := by decide +kernel
theorem dX5_product_22 : decode cX5_product 22 = .ok (.aload_n 0, 1) := by decide +kernel
theorem dX5_product_23 : decode cX5_product 23 = .ok (.bipush (-3), 2) := by decide +kernel
theorem dX5_product_25 : decode cX5_product 25 = .ok (.invokevirtual 58, 3) := by decide +kernel
theorem dX5_product_28 : decode cX5_product 28 = .ok (.ireturn, 1) := by decide +kernel
theorem dX5_product_29 : decode cX5_product 29 = .ok (.aload_n 3, 1) := by decide +kernel
theorem dX5_product_30 : decode cX5_product 30 = .ok (.getfield 104, 3) := by decide +kernel
theorem dX5_product_33 : decode cX5_product 33 = .ok (.aload 4, 2) := by decide +kernel
theorem dX5_product_35 : decode cX5_product 35 = .ok (.getfield 101, 3) := by decide +kernel
theorem dX5_product_38 : decode cX5_product 38 = .ok (.if_icmp .eq 10, 3) := by decide +kernel
theorem dX5_product_41 : decode cX5_product 41 = .ok (.aload_n 0, 1) := by decide +kernel
theorem dX5_product_42 : decode cX5_product 42 = .ok (.bipush (-7), 2) := by decide +kernel
theorem dX5_product_44 : decode cX5_product 44 = .ok (.invokevirtual 58, 3) := by decide +kernel
theorem dX5_product_47 : decode cX5_product 47 = .ok (.ireturn, 1) := by decide +kernel
theorem dX5_product_48 : decode cX5_product 48 = .ok (.aload_n 0, 1) := by decide +kernel
theorem dX5_product_49 : decode cX5_product 49 = .ok (.invokevirtual 62, 3) := by decide +kernel
theorem dX5_product_52 : decode cX5_product 52 = .ok (.astore 5, 2) := by decide +kernel
theorem dX5_product_54 : decode cX5_product 54 = .ok (.aload 5, 2) := by decide +kernel
theorem dX5_product_56 : decode cX5_product 56 = .ok (.ifnonnull 10, 3) := by decide +kernel
theorem dX5_product_59 : decode cX5_product 59 = .ok (.aload_n 0, 1) := by decide +kernel
theorem dX5_product_60 : decode cX5_product 60 = .ok (.bipush (-8), 2) := by decide +kernel
theorem dX5_product_62 : decode cX5_product 62 = .ok (.invokevirtual 58, 3) := by decide +kernel
theorem dX5_product_65 : decode cX5_product 65 = .ok (.ireturn, 1) := by decide +kernel
theorem dX5_product_66 : decode cX5_product 66 = .ok (.aload 5, 2) := by decide +kernel
theorem dX5_product_68 : decode cX5_product 68 = .ok (.aload_n 3, 1) := by decide +kernel
theorem dX5_product_69 : decode cX5_product 69 = .ok (.getfield 101, 3) := by decide +kernel
theorem dX5_product_72 : decode cX5_product 72 = .ok (.aload 4, 2) := by decide +kernel
theorem dX5_product_74 : decode cX5_product 74 = .ok (.getfield 104, 3) := by decide +kernel
theorem dX5_product_77 : decode cX5_product 77 = .ok (.iconst 3, 1) := by decide +kernel
theorem dX5_product_78 : decode cX5_product 78 = .ok (.invokevirtual 66, 3) := by decide +kernel
theorem dX5_product_81 : decode cX5_product 81 = .ok (.iconst 0, 1) := by decide +kernel
theorem dX5_product_82 : decode cX5_product 82 = .ok (.istore 6, 2) := by decide +kernel
theorem dX5_product_84 : decode cX5_product 84 = .ok (.iload 6, 2) := by decide +kernel
theorem dX5_product_86 : decode cX5_product 86 = .ok (.aload_n 3, 1) := by decide +kernel
theorem dX5_product_87 : decode cX5_product 87 = .ok (.getfield 101, 3) := by decide +kernel
theorem dX5_product_90 : decode cX5_product 90 = .ok (.if_icmp .ge 48, 3) := by decide +kernel
theorem dX5_product_93 : decode cX5_product 93 = .ok (.iconst 0, 1) := by decide +kernel
theorem dX5_product_94 : decode cX5_product 94 = .ok (.istore 7, 2) := by decide +kernel
theorem dX5_product_96 : decode cX5_product 96 = .ok (.iload 7, 2) := by decide +kernel
theorem dX5_product_98 : decode cX5_product 98 = .ok (.aload 4, 2) := by decide +kernel
theorem dX5_product_100 : decode cX5_product 100 = .ok (.getfield 104, 3) := by decide +kernel
theorem dX5_product_103 : decode cX5_product 103 = .ok (.if_icmp .ge 29, 3) := by decide +kernel
theorem dX5_product_106 : decode cX5_product 106 = .ok (.aload 5, 2) := by decide +kernel
theorem dX5_product_108 : decode cX5_product 108 = .ok (.iload 6, 2) := by decide +kernel
theorem dX5_product_110 : decode cX5_product 110 = .ok (.iload 7, 2) := by decide +kernel
theorem dX5_product_112 : decode cX5_product 112 = .ok (.aload_n 3, 1) := by decide +kernel
theorem dX5_product_113 : decode cX5_product 113 = .ok (.iload 6, 2) := by decide +kernel
theorem dX5_product_115 : decode cX5_product 115 = .ok (.aload 4, 2) := by decide +kernel
theorem dX5_product_117 : decode cX5_product 117 = .ok (.iload 7, 2) := by decide +kernel
theorem dX5_product_119 : decode cX5_product 119 = .ok (.invokestatic 134, 3) := by decide +kernel
theorem dX5_product_122 : decode cX5_product 122 = .ok (.i2l, 1) := by decide +kernel
theorem dX5_product_123 : decode cX5_product 123 = .ok (.invokevirtual 97, 3) := by decide +kernel
theorem dX5_product_126 : decode cX5_product 126 = .ok (.iinc 7 1, 3) := by decide +kernel
theorem dX5_product_129 : decode cX5_product 129 = .ok (.goto (-33), 3) := by decide +kernel
theorem dX5_product_132 : decode cX5_product 132 = .ok (.iinc 6 1, 3) := by decide +kernel
theorem dX5_product_135 : decode cX5_product 135 = .ok (.goto (-51), 3) := by decide +kernel
theorem dX5_product_138 : decode cX5_product 138 = .ok (.aload_n 0, 1) := by decide +kernel
theorem dX5_product_139 : decode cX5_product 139 = .ok (.aload 5, 2) := by decide +kernel
theorem dX5_product_141 : decode cX5_product 141 = .ok (.invokevirtual 70, 3) := by decide +kernel
theorem dX5_product_144 : decode cX5_product 144 = .ok (.ireturn, 1) := by decide +kernel
theorem dX5_sum_0 : decode cX5_sum 0 = .ok (.aload_n 0, 1) := by decide +kernel
theorem dX5_sum_1 : decode cX5_sum 1 = .ok (.iload_n 1, 1) := by decide +kernel
theorem dX5_sum_2 : decode cX5_sum 2 = .ok (.invokevirtual 74, 3) := by decide +kernel
theorem dX5_sum_5 : decode cX5_sum 5 = .ok (.astore_n 3, 1) := by decide +kernel
theorem dX5_sum_6 : decode cX5_sum 6 = .ok (.aload_n 0, 1) := by decide +kernel
theorem dX5_sum_7 : decode cX5_sum 7 = .ok (.iload_n 2, 1) := by decide +kernel
theorem dX5_sum_8 : decode cX5_sum 8 = .ok (.invokevirtual 74, 3) := by decide +kernel
theorem dX5_sum_11 : decode cX5_sum 11 = .ok (.astore 4, 2) := by decide +kernel
theorem dX5_sum_13 : decode cX5_sum 13 = .ok (.aload_n 3, 1) := by decide +kernel
theorem dX5_sum_14 : decode cX5_sum 14 = .ok (.ifnull 8, 3) := by decide +kernel
theorem dX5_sum_17 : decode cX5_sum 17 = .ok (.aload 4, 2) := by decide +kernel
theorem dX5_sum_19 : decode cX5_sum 19 = .ok (.ifnonnull 10, 3) := by decide +kernel
theorem dX5_sum_22 : decode cX5_sum 22 = .ok (.aload_n 0, 1) := by decide +kernel
theorem dX5_sum_23 : decode cX5_sum 23 = .ok (.bipush (-3), 2) := by decide +kernel
theorem dX5_sum_25 : decode cX5_sum 25 = .ok (.invokevirtual 58, 3) := by decide +kernel
theorem dX5_sum_28 : decode cX5_sum 28 = .ok (.ireturn, 1) := by decide +kernel
theorem dX5_sum_29 : decode cX5_sum 29 = .ok (.aload_n 3, 1) := by decide +kernel
theorem dX5_sum_30 : decode cX5_sum 30 = .ok (.getfield 101, 3) := by decide +kernel
theorem dX5_sum_33 : decode cX5_sum 33 = .ok (.aload 4, 2) := by decide +kernel
theorem dX5_sum_35 : decode cX5_sum 35 = .ok (.getfield 101, 3) := by decide +kernel
theorem dX5_sum_38 : decode cX5_sum 38 = .ok (.if_icmp .ne 15, 3) := by decide +kernel
theorem dX5_sum_41 : decode cX5_sum 41 = .ok (.aload_n 3, 1) := by decide +kernel
theorem dX5_sum_42 : decode cX5_sum 42 = .ok (.getfield 104, 3) := by decide +kernel
theorem dX5_sum_45 : decode cX5_sum 45 = .ok (.aload 4, 2) := by decide +kernel
theorem dX5_sum_47 : decode cX5_sum 47 = .ok (.getfield 104, 3) := by decide +kernel
theorem dX5_sum_50 : decode cX5_sum 50 = .ok (.if_icmp .eq 10, 3) := by decide +kernel
theorem dX5_sum_53 : decode cX5_sum 53 = .ok (.aload_n 0, 1) := by decide +kernel
theorem dX5_sum_54 : decode cX5_sum 54 = .ok (.bipush (-7), 2) := by decide +kernel
theorem dX5_sum_56 : decode cX5_sum 56 = .ok (.invokevirtual 58, 3) := by decide +kernel
theorem dX5_sum_59 : decode cX5_sum 59 = .ok (.ireturn, 1) := by decide +kernel
theorem dX5_sum_60 : decode cX5_sum 60 = .ok (.aload_n 0, 1) := by decide +kernel
theorem dX5_sum_61 : decode cX5_sum 61 = .ok (.invokevirtual 62, 3) := by decide +kernel
theorem dX5_sum_64 : decode cX5_sum 64 = .ok (.astore 5, 2) := by decide +kernel
theorem dX5_sum_66 : decode cX5_sum 66 = .ok (.aload 5, 2) := by decide +kernel
theorem dX5_sum_68 : decode cX5_sum 68 = .ok (.ifnonnull 10, 3) := by decide +kernel
theorem dX5_sum_71 : decode cX5_sum 71 = .ok (.aload_n 0, 1) := by decide +kernel
theorem dX5_sum_72 : decode cX5_sum 72 = .ok (.bipush (-8), 2) := by decide +kernel
theorem dX5_sum_74 : decode cX5_sum 74 = .ok (.invokevirtual 58, 3) := by decide +kernel
theorem dX5_sum_77 : decode cX5_sum 77 = .ok (.ireturn, 1) := by decide +kernel
theorem dX5_sum_78 : decode cX5_sum 78 = .ok (.aload 5, 2) := by decide +kernel
theorem dX5_sum_80 : decode cX5_sum 80 = .ok (.aload_n 3, 1) := by decide +kernel
theorem dX5_sum_81 : decode cX5_sum 81 = .ok (.getfield 101, 3) := by decide +kernel
theorem dX5_sum_84 : decode cX5_sum 84 = .ok (.aload_n 3, 1) := by decide +kernel
theorem dX5_sum_85 : decode cX5_sum 85 = .ok (.getfield 104, 3) := by decide +kernel
theorem dX5_sum_88 : decode cX5_sum 88 = .ok (.iconst 3, 1) := by decide +kernel
theorem dX5_sum_89 : decode cX5_sum 89 = .ok (.invokevirtual 66, 3) := by decide +kernel
theorem dX5_sum_92 : decode cX5_sum 92 = .ok (.iconst 0, 1) := by decide +kernel
theorem dX5_sum_93 : decode cX5_sum 93 = .ok (.istore 6, 2) := by decide +kernel
theorem dX5_sum_95 : decode cX5_sum 95 = .ok (.iload 6, 2) := by decide +kernel
theorem dX5_sum_97 : decode cX5_sum 97 = .ok (.aload_n 3, 1) := by decide +kernel
theorem dX5_sum_98 : decode cX5_sum 98 = .ok (.getfield 101, 3) := by decide +kernel
theorem dX5_sum_101 : decode cX5_sum 101 = .ok (.if_icmp .ge 55, 3) := by decide +kernel
theorem dX5_sum_104 : decode cX5_sum 104 = .ok (.iconst 0, 1) := by decide +kernel
theorem dX5_sum_105 : decode cX5_sum 105 = .ok (.istore 7, 2) := by decide +kernel
theorem dX5_sum_107 : decode cX5_sum 107 = .ok (.iload 7, 2) := by decide +kernel
theorem dX5_sum_109 : decode cX5_sum 109 = .ok (.aload_n 3, 1) := by decide +kernel
theorem dX5_sum_110 : decode cX5_sum 110 = .ok (.getfield 104, 3) := by decide +kernel
theorem dX5_sum_113 : decode cX5_sum 113 = .ok (.if_icmp .ge 37, 3) := by decide +kernel
theorem dX5_sum_116 : decode cX5_sum 116 = .ok (.aload 5, 2) := by decide +kernel
theorem dX5_sum_118 : decode cX5_sum 118 = .ok (.iload 6, 2) := by decide +kernel
theorem dX5_sum_120 : decode cX5_sum 120 = .ok (.iload 7, 2) := by decide +kernel
theorem dX5_sum_122 : decode cX5_sum 122 = .ok (.aload_n 3, 1) := by decide +kernel
theorem dX5_sum_123 : decode cX5_sum 123 = .ok (.iload 6, 2) := by decide +kernel
theorem dX5_sum_125 : decode cX5_sum 125 = .ok (.iload 7, 2) := by decide +kernel
theorem dX5_sum_127 : decode cX5_sum 127 = .ok (.invokevirtual 93, 3) := by decide +kernel
theorem dX5_sum_130 : decode cX5_sum 130 = .ok (.aload 4, 2) := by decide +kernel
theorem dX5_sum_132 : decode cX5_sum 132 = .ok (.iload 6, 2) := by decide +kernel
theorem dX5_sum_134 : decode cX5_sum 134 = .ok (.iload 7, 2) := by decide +kernel
theorem dX5_sum_136 : decode cX5_sum 136 = .ok (.invokevirtual 93, 3) := by decide +kernel
theorem dX5_sum_139 : decode cX5_sum 139 = .ok (.iadd, 1) := by decide +kernel
theorem dX5_sum_140 : decode cX5_sum 140 = .ok (.i2l, 1) := by decide +kernel
theorem dX5_sum_141 : decode cX5_sum 141 = .ok (.invokevirtual 97, 3) := by decide +kernel
theorem dX5_sum_144 : decode cX5_sum 144 = .ok (.iinc 7 1, 3) := by decide +kernel
theorem dX5_sum_147 : decode cX5_sum 147 = .ok (.goto (-40), 3) := by decide +kernel
theorem dX5_sum_150 : decode cX5_sum 150 = .ok (.iinc 6 1, 3) := by decide +kernel
theorem dX5_sum_153 : decode cX5_sum 153 = .ok (.goto (-58), 3) := by decide +kernel
theorem dX5_sum_156 : decode cX5_sum 156 = .ok (.aload_n 0, 1) := by decide +kernel
theorem dX5_sum_157 : decode cX5_sum 157 = .ok (.aload 5, 2) := by decide +kernel
theorem dX5_sum_159 : decode cX5_sum 159 = .ok (.invokevirtual 70, 3) := by decide +kernel
theorem dX5_sum_162 : decode cX5_sum 162 = .ok (.ireturn, 1) := by decide +kernel
theorem dX5_part_0 : decode cX5_part 0 = .ok (.aload_n 0, 1) := by decide +kernel
theorem dX5_part_1 : decode cX5_part 1 = .ok (.iload_n 1, 1) := by decide +kernel
theorem dX5_part_2 : decode cX5_part 2 = .ok (.invokevirtual 74, 3) := by decide +kernel
theorem dX5_part_5 : decode cX5_part 5 = .ok (.astore 4, 2) := by decide +kernel
theorem dX5_part_7 : decode cX5_part 7 = .ok (.aload 4, 2) := by decide +kernel
theorem dX5_part_9 : decode cX5_part 9 = .ok (.ifnull 27, 3) := by decide +kernel
theorem dX5_part_12 : decode cX5_part 12 = .ok (.iload_n 2, 1) := by decide +kernel
theorem dX5_part_13 : decode cX5_part 13 = .ok (.aload 4, 2) := by decide +kernel
theorem dX5_part_15 : decode cX5_part 15 = .ok (.getfield 101, 3) := by decide +kernel
theorem dX5_part_18 : decode cX5_part 18 = .ok (.invokestatic 120, 3) := by decide +kernel
theorem dX5_part_21 : decode cX5_part 21 = .ok (.ifCond .eq 15, 3) := by decide +kernel
theorem dX5_part_24 : decode cX5_part 24 = .ok (.iload_n 3, 1) := by decide +kernel
theorem dX5_part_25 : decode cX5_part 25 = .ok (.aload 4, 2) := by decide +kernel
theorem dX5_part_27 : decode cX5_part 27 = .ok (.getfield 104, 3) := by decide +kernel
theorem dX5_part_30 : decode cX5_part 30 = .ok (.invokestatic 120, 3) := by decide +kernel
theorem dX5_part_33 : decode cX5_part 33 = .ok (.ifCond .ne 10, 3) := by decide +kernel
theorem dX5_part_36 : decode cX5_part 36 = .ok (.aload_n 0, 1) := by decide +kernel
theorem dX5_part_37 : decode cX5_part 37 = .ok (.bipush (-3), 2) := by decide +kernel
theorem dX5_part_39 : decode cX5_part 39 = .ok (.invokevirtual 58, 3) := by decide +kernel
theorem dX5_part_42 : decode cX5_part 42 = .ok (.ireturn, 1) := by decide +kernel
theorem dX5_part_43 : decode cX5_part 43 = .ok (.aload_n 0, 1) := by decide +kernel
theorem dX5_part_44 : decode cX5_part 44 = .ok (.invokevirtual 62, 3) := by decide +kernel
theorem dX5_part_47 : decode cX5_part 47 = .ok (.astore 5, 2) := by decide +kernel
theorem dX5_part_49 : decode cX5_part 49 = .ok (.aload 5, 2) := by decide +kernel
theorem dX5_part_51 : decode cX5_part 51 = .ok (.ifnonnull 10, 3) := by decide +kernel
theorem dX5_part_54 : decode cX5_part 54 = .ok (.aload_n 0, 1) := by decide +kernel
theorem dX5_part_55 : decode cX5_part 55 = .ok (.bipush (-8), 2) := by decide +kernel
theorem dX5_part_57 : decode cX5_part 57 = .ok (.invokevirtual 58, 3) := by decide +kernel
theorem dX5_part_60 : decode cX5_part 60 = .ok (.ireturn, 1) := by decide +kernel
theorem dX5_part_61 : decode cX5_part 61 = .ok (.aload 5, 2) := by decide +kernel
theorem dX5_part_63 : decode cX5_part 63 = .ok (.iload_n 2, 1) := by decide +kernel
theorem dX5_part_64 : decode cX5_part 64 = .ok (.invokestatic 138, 3) := by decide +kernel
theorem dX5_part_67 : decode cX5_part 67 = .ok (.iload_n 3, 1) := by decide +kernel
theorem dX5_part_68 : decode cX5_part 68 = .ok (.invokestatic 138, 3) := by decide +kernel
theorem dX5_part_71 : decode cX5_part 71 = .ok (.iconst 3, 1) := by decide +kernel
theorem dX5_part_72 : decode cX5_part 72 = .ok (.invokevirtual 66, 3) := by decide +kernel
theorem dX5_part_75 : decode cX5_part 75 = .ok (.iconst 0, 1) := by decide +kernel
theorem dX5_part_76 : decode cX5_part 76 = .ok (.istore 6, 2) := by decide +kernel
theorem dX5_part_78 : decode cX5_part 78 = .ok (.iconst 0, 1) := by decide +kernel
theorem dX5_part_79 : decode cX5_part 79 = .ok (.istore 7, 2) := by decide +kernel
theorem dX5_part_81 : decode cX5_part 81 = .ok (.iload 7, 2) := by decide +kernel
theorem dX5_part_83 : decode cX5_part 83 = .ok (.aload 4, 2) := by decide +kernel
theorem dX5_part_85 : decode cX5_part 85 = .ok (.getfield 101, 3) := by decide +kernel
theorem dX5_part_88 : decode cX5_part 88 = .ok (.if_icmp .ge 33, 3) := by decide +kernel
theorem dX5_part_91 : decode cX5_part 91 = .ok (.iload_n 2, 1) := by decide +kernel
theorem dX5_part_92 : decode cX5_part 92 = .ok (.iload 7, 2) := by decide +kernel
theorem dX5_part_94 : decode cX5_part 94 = .ok (.invokestatic 143, 3) := by decide +kernel
theorem dX5_part_97 : decode cX5_part 97 = .ok (.ifCond .eq 18, 3) := by decide +kernel
theorem dX5_part_100 : decode cX5_part 100 = .ok (.aload 5, 2) := by decide +kernel
theorem dX5_part_102 : decode cX5_part 102 = .ok (.iload 6, 2) := by decide +kernel
theorem dX5_part_104 : decode cX5_part 104 = .ok (.aload 4, 2) := by decide +kernel
theorem dX5_part_106 : decode cX5_part 106 = .ok (.iload 7, 2) := by decide +kernel
theorem dX5_part_108 : decode cX5_part 108 = .ok (.iload_n 3, 1) := by decide +kernel
theorem dX5_part_109 : decode cX5_part 109 = .ok (.invokestatic 146, 3) := by decide +kernel
theorem dX5_part_112 : decode cX5_part 112 = .ok (.iinc 6 1, 3) := by decide +kernel
theorem dX5_part_115 : decode cX5_part 115 = .ok (.iinc 7 1, 3) := by decide +kernel
theorem dX5_part_118 : decode cX5_part 118 = .ok (.goto (-37), 3) := by decide +kernel
theorem dX5_part_121 : decode cX5_part 121 = .ok (.aload_n 0, 1) := by decide +kernel
theorem dX5_part_122 : decode cX5_part 122 = .ok (.aload 5, 2) := by decide +kernel
theorem dX5_part_124 : decode cX5_part 124 = .ok (.invokevirtual 70, 3) := by decide +kernel
theorem dX5_part_127 : decode cX5_part 127 = .ok (.ireturn, 1) := by decide +kernel
theorem dX5_turn_0 : decode cX5_turn 0 = .ok (.aload_n 0, 1) := by decide +kernel
theorem dX5_turn_1 : decode cX5_turn 1 = .ok (.iload_n 1, 1) := by decide +kernel
theorem dX5_turn_2 : decode cX5_turn 2 = .ok (.invokevirtual 74, 3) := by decide +kernel
theorem dX5_turn_5 : decode cX5_turn 5 = .ok (.astore_n 3, 1) := by decide +kernel
theorem dX5_turn_6 : decode cX5_turn 6 = .ok (.aload_n 3, 1) := by decide +kernel
theorem dX5_turn_7 : decode cX5_turn 7 = .ok (.ifnonnull 10, 3) := by decide +kernel
theorem dX5_turn_10 : decode cX5_turn 10 = .ok (.aload_n 0, 1) := by decide +kernel
theorem dX5_turn_11 : decode cX5_turn 11 = .ok (.bipush (-3), 2) := by decide +kernel
theorem dX5_turn_13 : decode cX5_turn 13 = .ok (.invokevirtual 58, 3) := by decide +kernel
theorem dX5_turn_16 : decode cX5_turn 16 = .ok (.ireturn, 1) := by decide +kernel
theorem dX5_turn_17 : decode cX5_turn 17 = .ok (.iload_n 2, 1) := by decide +kernel
theorem dX5_turn_18 : decode cX5_turn 18 = .ok (.ifCond .lt 8, 3) := by decide +kernel
theorem dX5_turn_21 : decode cX5_turn 21 = .ok (.iload_n 2, 1) := by decide +kernel
theorem dX5_turn_22 : decode cX5_turn 22 = .ok (.iconst 2, 1) := by decide +kernel
theorem dX5_turn_23 : decode cX5_turn 23 = .ok (.if_icmp .le 10, 3) := by decide +kernel
theorem dX5_turn_26 : decode cX5_turn 26 = .ok (.aload_n 0, 1) := by decide +kernel
theorem dX5_turn_27 : decode cX5_turn 27 = .ok (.bipush (-7), 2) := by decide +kernel
theorem dX5_turn_29 : decode cX5_turn 29 = .ok (.invokevirtual 58, 3) := by decide +kernel
theorem dX5_turn_32 : decode cX5_turn 32 = .ok (.ireturn, 1) := by decide +kernel
theorem dX5_turn_33 : decode cX5_turn 33 = .ok (.aload_n 0, 1) := by decide +kernel
theorem dX5_turn_34 : decode cX5_turn 34 = .ok (.invokevirtual 62, 3) := by decide +kernel
theorem dX5_turn_37 : decode cX5_turn 37 = .ok (.astore 4, 2) := by decide +kernel
theorem dX5_turn_39 : decode cX5_turn 39 = .ok (.aload 4, 2) := by decide +kernel
theorem dX5_turn_41 : decode cX5_turn 41 = .ok (.ifnonnull 10, 3) := by decide +kernel
theorem dX5_turn_44 : decode cX5_turn 44 = .ok (.aload_n 0, 1) := by decide +kernel
theorem dX5_turn_45 : decode cX5_turn 45 = .ok (.bipush (-8), 2) := by decide +kernel
theorem dX5_turn_47 : decode cX5_turn 47 = .ok (.invokevirtual 58, 3) := by decide +kernel
theorem dX5_turn_50 : decode cX5_turn 50 = .ok (.ireturn, 1) := by decide +kernel
theorem dX5_turn_51 : decode cX5_turn 51 = .ok (.iload_n 2, 1) := by decide +kernel
theorem dX5_turn_52 : decode cX5_turn 52 = .ok (.ifCond .ne 12, 3) := by decide +kernel
theorem dX5_turn_55 : decode cX5_turn 55 = .ok (.aload 4, 2) := by decide +kernel
theorem dX5_turn_57 : decode cX5_turn 57 = .ok (.aload_n 3, 1) := by decide +kernel
theorem dX5_turn_58 : decode cX5_turn 58 = .ok (.invokestatic 150, 3) := by decide +kernel
theorem dX5_turn_61 : decode cX5_turn 61 = .ok (.goto 19, 3) := by decide +kernel
theorem dX5_turn_64 : decode cX5_turn 64 = .ok (.aload 4, 2) := by decide +kernel
theorem dX5_turn_66 : decode cX5_turn 66 = .ok (.aload_n 3, 1) := by decide +kernel
theorem dX5_turn_67 : decode cX5_turn 67 = .ok (.iload_n 2, 1) := by decide +kernel
theorem dX5_turn_68 : decode cX5_turn 68 = .ok (.iconst 1, 1) := by decide +kernel
theorem dX5_turn_69 : decode cX5_turn 69 = .ok (.if_icmp .ne 7, 3) := by decide +kernel
theorem dX5_turn_72 : decode cX5_turn 72 = .ok (.iconst 1, 1) := by decide +kernel
theorem dX5_turn_73 : decode cX5_turn 73 = .ok (.goto 4, 3) := by decide +kernel
theorem dX5_turn_76 : decode cX5_turn 76 = .ok (.iconst 0, 1) := by decide +kernel
theorem dX5_turn_77 : decode cX5_turn 77 = .ok (.invokestatic 154, 3) := by decide +kernel
theorem dX5_turn_80 : decode cX5_turn 80 = .ok (.aload_n 0, 1) := by decide +kernel
theorem dX5_turn_81 : decode cX5_turn 81 = .ok (.aload 4, 2) := by decide +kernel
theorem dX5_turn_83 : decode cX5_turn 83 = .ok (.invokevirtual 70, 3) := by decide +kernel
theorem dX5_turn_86 : decode cX5_turn 86 = .ok (.ireturn, 1) := by decide +kernel
theorem dX5_same_0 : decode cX5_same 0 = .ok (.aload_n 0, 1) := by decide +kernel
theorem dX5_same_1 : decode cX5_same 1 = .ok (.iload_n 1, 1) := by decide +kernel
theorem dX5_same_2 : decode cX5_same 2 = .ok (.invokevirtual 74, 3) := by decide +kernel
theorem dX5_same_5 : decode cX5_same 5 = .ok (.astore_n 3, 1) := by decide +kernel
theorem dX5_same_6 : decode cX5_same 6 = .ok (.aload_n 0, 1) := by decide +kernel
theorem dX5_same_7 : decode cX5_same 7 = .ok (.iload_n 2, 1) := by decide +kernel
theorem dX5_same_8 : decode cX5_same 8 = .ok (.invokevirtual 74, 3) := by decide +kernel
theorem dX5_same_11 : decode cX5_same 11 = .ok (.astore 4, 2) := by decide +kernel
theorem dX5_same_13 : decode cX5_same 13 = .ok (.aload_n 3, 1) := by decide +kernel
theorem dX5_same_14 : decode cX5_same 14 = .ok (.ifnull 8, 3) := by decide +kernel
theorem dX5_same_17 : decode cX5_same 17 = .ok (.aload 4, 2) := by decide +kernel
theorem dX5_same_19 : decode cX5_same 19 = .ok (.ifnonnull 10, 3) := by decide +kernel
theorem dX5_same_22 : decode cX5_same 22 = .ok (.aload_n 0, 1) := by decide +kernel
theorem dX5_same_23 : decode cX5_same 23 = .ok (.bipush (-3), 2) := by decide +kernel
theorem dX5_same_25 : decode cX5_same 25 = .ok (.invokevirtual 58, 3) := by decide +kernel
theorem dX5_same_28 : decode cX5_same 28 = .ok (.ireturn, 1) := by decide +kernel
theorem dX5_same_29 : decode cX5_same 29 = .ok (.aload_n 3, 1) := by decide +kernel
theorem dX5_same_30 : decode cX5_same 30 = .ok (.getfield 101, 3) := by decide +kernel
theorem dX5_same_33 : decode cX5_same 33 = .ok (.aload 4, 2) := by decide +kernel
theorem dX5_same_35 : decode cX5_same 35 = .ok (.getfield 101, 3) := by decide +kernel
theorem dX5_same_38 : decode cX5_same 38 = .ok (.if_icmp .ne 15, 3) := by decide +kernel
theorem dX5_same_41 : decode cX5_same 41 = .ok (.aload_n 3, 1) := by decide +kernel
theorem dX5_same_42 : decode cX5_same 42 = .ok (.getfield 104, 3) := by decide +kernel
theorem dX5_same_45 : decode cX5_same 45 = .ok (.aload 4, 2) := by decide +kernel
theorem dX5_same_47 : decode cX5_same 47 = .ok (.getfield 104, 3) := by decide +kernel
theorem dX5_same_50 : decode cX5_same 50 = .ok (.if_icmp .eq 5, 3) := by decide +kernel
theorem dX5_same_53 : decode cX5_same 53 = .ok (.iconst 0, 1) := by decide +kernel
theorem dX5_same_54 : decode cX5_same 54 = .ok (.ireturn, 1) := by decide +kernel
theorem dX5_same_55 : decode cX5_same 55 = .ok (.iconst 0, 1) := by decide +kernel
theorem dX5_same_56 : decode cX5_same 56 = .ok (.istore 5, 2) := by decide +kernel
theorem dX5_same_58 : decode cX5_same 58 = .ok (.iload 5, 2) := by decide +kernel
theorem dX5_same_60 : decode cX5_same 60 = .ok (.aload_n 3, 1) := by decide +kernel
theorem dX5_same_61 : decode cX5_same 61 = .ok (.getfield 101, 3) := by decide +kernel
theorem dX5_same_64 : decode cX5_same 64 = .ok (.if_icmp .ge 49, 3) := by decide +kernel
theorem dX5_same_67 : decode cX5_same 67 = .ok (.iconst 0, 1) := by decide +kernel
theorem dX5_same_68 : decode cX5_same 68 = .ok (.istore 6, 2) := by decide +kernel
theorem dX5_same_70 : decode cX5_same 70 = .ok (.iload 6, 2) := by decide +kernel
theorem dX5_same_72 : decode cX5_same 72 = .ok (.aload_n 3, 1) := by decide +kernel
theorem dX5_same_73 : decode cX5_same 73 = .ok (.getfield 104, 3) := by decide +kernel
theorem dX5_same_76 : decode cX5_same 76 = .ok (.if_icmp .ge 31, 3) := by decide +kernel
theorem dX5_same_79 : decode cX5_same 79 = .ok (.aload_n 3, 1) := by decide +kernel
theorem dX5_same_80 : decode cX5_same 80 = .ok (.iload 5, 2) := by decide +kernel
theorem dX5_same_82 : decode cX5_same 82 = .ok (.iload 6, 2) := by decide +kernel
theorem dX5_same_84 : decode cX5_same 84 = .ok (.invokevirtual 93, 3) := by decide +kernel
theorem dX5_same_87 : decode cX5_same 87 = .ok (.aload 4, 2) := by decide +kernel
theorem dX5_same_89 : decode cX5_same 89 = .ok (.iload 5, 2) := by decide +kernel
theorem dX5_same_91 : decode cX5_same 91 = .ok (.iload 6, 2) := by decide +kernel
theorem dX5_same_93 : decode cX5_same 93 = .ok (.invokevirtual 93, 3) := by decide +kernel
theorem dX5_same_96 : decode cX5_same 96 = .ok (.if_icmp .eq 5, 3) := by decide +kernel
theorem dX5_same_99 : decode cX5_same 99 = .ok (.iconst 0, 1) := by decide +kernel
theorem dX5_same_100 : decode cX5_same 100 = .ok (.ireturn, 1) := by decide +kernel
theorem dX5_same_101 : decode cX5_same 101 = .ok (.iinc 6 1, 3) := by decide +kernel
theorem dX5_same_104 : decode cX5_same 104 = .ok (.goto (-34), 3) := by decide +kernel
theorem dX5_same_107 : decode cX5_same 107 = .ok (.iinc 5 1, 3) := by decide +kernel
theorem dX5_same_110 : decode cX5_same 110 = .ok (.goto (-52), 3) := by decide +kernel
theorem dX5_same_113 : decode cX5_same 113 = .ok (.iconst 1, 1) := by decide +kernel
theorem dX5_same_114 : decode cX5_same 114 = .ok (.ireturn, 1) := by decide +kernel
theorem dX5_net_0 : decode cX5_net 0 = .ok (.iload_n 1, 1) := by decide +kernel
theorem dX5_net_1 : decode cX5_net 1 = .ok (.invokestatic 54, 3) := by decide +kernel
theorem dX5_net_4 : decode cX5_net 4 = .ok (.ifCond .ne 10, 3) := by decide +kernel
theorem dX5_net_7 : decode cX5_net 7 = .ok (.aload_n 0, 1) := by decide +kernel
theorem dX5_net_8 : decode cX5_net 8 = .ok (.bipush (-7), 2) := by decide +kernel
theorem dX5_net_10 : decode cX5_net 10 = .ok (.invokevirtual 58, 3) := by decide +kernel
theorem dX5_net_13 : decode cX5_net 13 = .ok (.ireturn, 1) := by decide +kernel
theorem dX5_net_14 : decode cX5_net 14 = .ok (.aload_n 0, 1) := by decide +kernel
theorem dX5_net_15 : decode cX5_net 15 = .ok (.getfield 158, 3) := by decide +kernel
theorem dX5_net_18 : decode cX5_net 18 = .ok (.iconst 4, 1) := by decide +kernel
theorem dX5_net_19 : decode cX5_net 19 = .ok (.if_icmp .lt 10, 3) := by decide +kernel
theorem dX5_net_22 : decode cX5_net 22 = .ok (.aload_n 0, 1) := by decide +kernel
theorem dX5_net_23 : decode cX5_net 23 = .ok (.bipush (-8), 2) := by decide +kernel
theorem dX5_net_25 : decode cX5_net 25 = .ok (.invokevirtual 58, 3) := by decide +kernel
theorem dX5_net_28 : decode cX5_net 28 = .ok (.ireturn, 1) := by decide +kernel
theorem dX5_net_29 : decode cX5_net 29 = .ok (.aload_n 0, 1) := by decide +kernel
theorem dX5_net_30 : decode cX5_net 30 = .ok (.getfield 17, 3) := by decide +kernel
theorem dX5_net_33 : decode cX5_net 33 = .ok (.aload_n 0, 1) := by decide +kernel
theorem dX5_net_34 : decode cX5_net 34 = .ok (.getfield 158, 3) := by decide +kernel
theorem dX5_net_37 : decode cX5_net 37 = .ok (.aaload, 1) := by decide +kernel
theorem dX5_net_38 : decode cX5_net 38 = .ok (.astore_n 2, 1) := by decide +kernel
theorem dX5_net_39 : decode cX5_net 39 = .ok (.aload_n 2, 1) := by decide +kernel
theorem dX5_net_40 : decode cX5_net 40 = .ok (.ifnonnull 10, 3) := by decide +kernel
theorem dX5_net_43 : decode cX5_net 43 = .ok (.aload_n 0, 1) := by decide +kernel
theorem dX5_net_44 : decode cX5_net 44 = .ok (.bipush (-8), 2) := by decide +kernel
theorem dX5_net_46 : decode cX5_net 46 = .ok (.invokevirtual 58, 3) := by decide +kernel
theorem dX5_net_49 : decode cX5_net 49 = .ok (.ireturn, 1) := by decide +kernel
theorem dX5_net_50 : decode cX5_net 50 = .ok (.aload_n 2, 1) := by decide +kernel
theorem dX5_net_51 : decode cX5_net 51 = .ok (.iload_n 1, 1) := by decide +kernel
theorem dX5_net_52 : decode cX5_net 52 = .ok (.invokevirtual 161, 3) := by decide +kernel
theorem dX5_net_55 : decode cX5_net 55 = .ok (.aload_n 0, 1) := by decide +kernel
theorem dX5_net_56 : decode cX5_net 56 = .ok (.dup, 1) := by decide +kernel
theorem dX5_net_57 : decode cX5_net 57 = .ok (.getfield 158, 3) := by decide +kernel
theorem dX5_net_60 : decode cX5_net 60 = .ok (.iconst 1, 1) := by decide +kernel
theorem dX5_net_61 : decode cX5_net 61 = .ok (.iadd, 1) := by decide +kernel
theorem dX5_net_62 : decode cX5_net 62 = .ok (.putfield 158, 3) := by decide +kernel
theorem dX5_net_65 : decode cX5_net 65 = .ok (.aload_n 0, 1) := by decide +kernel
theorem dX5_net_66 : decode cX5_net 66 = .ok (.getfield 158, 3) := by decide +kernel
theorem dX5_net_69 : decode cX5_net 69 = .ok (.iconst 1, 1) := by decide +kernel
theorem dX5_net_70 : decode cX5_net 70 = .ok (.isub, 1) := by decide +kernel
theorem dX5_net_71 : decode cX5_net 71 = .ok (.ireturn, 1) := by decide +kernel
theorem dX5_step_0 : decode cX5_step 0 = .ok (.aload_n 0, 1) := by decide +kernel
theorem dX5_step_1 : decode cX5_step 1 = .ok (.iload_n 1, 1) := by decide +kernel
theorem dX5_step_2 : decode cX5_step 2 = .ok (.invokevirtual 164, 3) := by decide +kernel
theorem dX5_step_5 : decode cX5_step 5 = .ok (.astore 5, 2) := by decide +kernel
theorem dX5_step_7 : decode cX5_step 7 = .ok (.aload 5, 2) := by decide +kernel
theorem dX5_step_9 : decode cX5_step 9 = .ok (.ifnonnull 10, 3) := by decide +kernel
theorem dX5_step_12 : decode cX5_step 12 = .ok (.aload_n 0, 1) := by decide +kernel
theorem dX5_step_13 : decode cX5_step 13 = .ok (.bipush (-3), 2) := by decide +kernel
theorem dX5_step_15 : decode cX5_step 15 = .ok (.invokevirtual 58, 3) := by decide +kernel
theorem dX5_step_18 : decode cX5_step 18 = .ok (.ireturn, 1) := by decide +kernel
theorem dX5_step_19 : decode cX5_step 19 = .ok (.aload 5, 2) := by decide +kernel
theorem dX5_step_21 : decode cX5_step 21 = .ok (.iload_n 2, 1) := by decide +kernel
theorem dX5_step_22 : decode cX5_step 22 = .ok (.iload_n 3, 1) := by decide +kernel
theorem dX5_step_23 : decode cX5_step 23 = .ok (.invokevirtual 168, 3) := by decide +kernel
theorem dX5_step_26 : decode cX5_step 26 = .ok (.ifCond .eq 16, 3) := by decide +kernel
theorem dX5_step_29 : decode cX5_step 29 = .ok (.iload 4, 2) := by decide +kernel
theorem dX5_step_31 : decode cX5_step 31 = .ok (.iconst 1, 1) := by decide +kernel
theorem dX5_step_32 : decode cX5_step 32 = .ok (.if_icmp .lt 10, 3) := by decide +kernel
theorem dX5_step_35 : decode cX5_step 35 = .ok (.iload 4, 2) := by decide +kernel
theorem dX5_step_37 : decode cX5_step 37 = .ok (.bipush 9, 2) := by decide +kernel
theorem dX5_step_39 : decode cX5_step 39 = .ok (.if_icmp .le 10, 3) := by decide +kernel
theorem dX5_step_42 : decode cX5_step 42 = .ok (.aload_n 0, 1) := by decide +kernel
theorem dX5_step_43 : decode cX5_step 43 = .ok (.bipush (-7), 2) := by decide +kernel
theorem dX5_step_45 : decode cX5_step 45 = .ok (.invokevirtual 58, 3) := by decide +kernel
theorem dX5_step_48 : decode cX5_step 48 = .ok (.ireturn, 1) := by decide +kernel
theorem dX5_step_49 : decode cX5_step 49 = .ok (.aload 5, 2) := by decide +kernel
theorem dX5_step_51 : decode cX5_step 51 = .ok (.getfield 171, 3) := by decide +kernel
theorem dX5_step_54 : decode cX5_step 54 = .ok (.bipush 16, 2) := by decide +kernel
theorem dX5_step_56 : decode cX5_step 56 = .ok (.if_icmp .lt 10, 3) := by decide +kernel
theorem dX5_step_59 : decode cX5_step 59 = .ok (.aload_n 0, 1) := by decide +kernel
theorem dX5_step_60 : decode cX5_step 60 = .ok (.bipush (-8), 2) := by decide +kernel
theorem dX5_step_62 : decode cX5_step 62 = .ok (.invokevirtual 58, 3) := by decide +kernel
theorem dX5_step_65 : decode cX5_step 65 = .ok (.ireturn, 1) := by decide +kernel
theorem dX5_step_66 : decode cX5_step 66 = .ok (.aload 5, 2) := by decide +kernel
theorem dX5_step_68 : decode cX5_step 68 = .ok (.iload_n 2, 1) := by decide +kernel
theorem dX5_step_69 : decode cX5_step 69 = .ok (.iload_n 3, 1) := by decide +kernel
theorem dX5_step_70 : decode cX5_step 70 = .ok (.iload 4, 2) := by decide +kernel
theorem dX5_step_72 : decode cX5_step 72 = .ok (.invokevirtual 174, 3) := by decide +kernel
theorem dX5_step_75 : decode cX5_step 75 = .ok (.aload 5, 2) := by decide +kernel
theorem dX5_step_77 : decode cX5_step 77 = .ok (.getfield 171, 3) := by decide +kernel
theorem dX5_step_80 : decode cX5_step 80 = .ok (.ireturn, 1) := by decide +kernel
theorem dX5_back_0 : decode cX5_back 0 = .ok (.aload_n 0, 1) := by decide +kernel
theorem dX5_back_1 : decode cX5_back 1 = .ok (.iload_n 1, 1) := by decide +kernel
theorem dX5_back_2 : decode cX5_back 2 = .ok (.invokevirtual 164, 3) := by decide +kernel
theorem dX5_back_5 : decode cX5_back 5 = .ok (.astore_n 2, 1) := by decide +kernel
theorem dX5_back_6 : decode cX5_back 6 = .ok (.aload_n 2, 1) := by decide +kernel
theorem dX5_back_7 : decode cX5_back 7 = .ok (.ifnonnull 10, 3) := by decide +kernel
theorem dX5_back_10 : decode cX5_back 10 = .ok (.aload_n 0, 1) := by decide +kernel
theorem dX5_back_11 : decode cX5_back 11 = .ok (.bipush (-3), 2) := by decide +kernel
theorem dX5_back_13 : decode cX5_back 13 = .ok (.invokevirtual 58, 3) := by decide +kernel
theorem dX5_back_16 : decode cX5_back 16 = .ok (.ireturn, 1) := by decide +kernel
theorem dX5_back_17 : decode cX5_back 17 = .ok (.aload_n 2, 1) := by decide +kernel
theorem dX5_back_18 : decode cX5_back 18 = .ok (.getfield 171, 3) := by decide +kernel
theorem dX5_back_21 : decode cX5_back 21 = .ok (.ifCond .ne 10, 3) := by decide +kernel
theorem dX5_back_24 : decode cX5_back 24 = .ok (.aload_n 0, 1) := by decide +kernel
theorem dX5_back_25 : decode cX5_back 25 = .ok (.bipush (-2), 2) := by decide +kernel
theorem dX5_back_27 : decode cX5_back 27 = .ok (.invokevirtual 58, 3) := by decide +kernel
theorem dX5_back_30 : decode cX5_back 30 = .ok (.ireturn, 1) := by decide +kernel
theorem dX5_back_31 : decode cX5_back 31 = .ok (.aload_n 2, 1) := by decide +kernel
theorem dX5_back_32 : decode cX5_back 32 = .ok (.dup, 1) := by decide +kernel
theorem dX5_back_33 : decode cX5_back 33 = .ok (.getfield 171, 3) := by decide +kernel
theorem dX5_back_36 : decode cX5_back 36 = .ok (.iconst 1, 1) := by decide +kernel
theorem dX5_back_37 : decode cX5_back 37 = .ok (.isub, 1) := by decide +kernel
theorem dX5_back_38 : decode cX5_back 38 = .ok (.putfield 171, 3) := by decide +kernel
theorem dX5_back_41 : decode cX5_back 41 = .ok (.aload_n 2, 1) := by decide +kernel
theorem dX5_back_42 : decode cX5_back 42 = .ok (.getfield 171, 3) := by decide +kernel
theorem dX5_back_45 : decode cX5_back 45 = .ok (.ireturn, 1) := by decide +kernel
theorem dX5_made_0 : decode cX5_made 0 = .ok (.aload_n 0, 1) := by decide +kernel
theorem dX5_made_1 : decode cX5_made 1 = .ok (.iload_n 1, 1) := by decide +kernel
theorem dX5_made_2 : decode cX5_made 2 = .ok (.invokevirtual 164, 3) := by decide +kernel
theorem dX5_made_5 : decode cX5_made 5 = .ok (.astore_n 2, 1) := by decide +kernel
theorem dX5_made_6 : decode cX5_made 6 = .ok (.aload_n 2, 1) := by decide +kernel
theorem dX5_made_7 : decode cX5_made 7 = .ok (.ifnonnull 10, 3) := by decide +kernel
theorem dX5_made_10 : decode cX5_made 10 = .ok (.aload_n 0, 1) := by decide +kernel
theorem dX5_made_11 : decode cX5_made 11 = .ok (.bipush (-3), 2) := by decide +kernel
theorem dX5_made_13 : decode cX5_made 13 = .ok (.invokevirtual 58, 3) := by decide +kernel
theorem dX5_made_16 : decode cX5_made 16 = .ok (.ireturn, 1) := by decide +kernel
theorem dX5_made_17 : decode cX5_made 17 = .ok (.aload_n 0, 1) := by decide +kernel
theorem dX5_made_18 : decode cX5_made 18 = .ok (.invokevirtual 62, 3) := by decide +kernel
theorem dX5_made_21 : decode cX5_made 21 = .ok (.astore_n 3, 1) := by decide +kernel
theorem dX5_made_22 : decode cX5_made 22 = .ok (.aload_n 3, 1) := by decide +kernel
theorem dX5_made_23 : decode cX5_made 23 = .ok (.ifnonnull 10, 3) := by decide +kernel
theorem dX5_made_26 : decode cX5_made 26 = .ok (.aload_n 0, 1) := by decide +kernel
theorem dX5_made_27 : decode cX5_made 27 = .ok (.bipush (-8), 2) := by decide +kernel
theorem dX5_made_29 : decode cX5_made 29 = .ok (.invokevirtual 58, 3) := by decide +kernel
theorem dX5_made_32 : decode cX5_made 32 = .ok (.ireturn, 1) := by decide +kernel
theorem dX5_made_33 : decode cX5_made 33 = .ok (.aload_n 3, 1) := by decide +kernel
theorem dX5_made_34 : decode cX5_made 34 = .ok (.aload_n 2, 1) := by decide +kernel
theorem dX5_made_35 : decode cX5_made 35 = .ok (.getfield 177, 3) := by decide +kernel
theorem dX5_made_38 : decode cX5_made 38 = .ok (.aload_n 2, 1) := by decide +kernel
theorem dX5_made_39 : decode cX5_made 39 = .ok (.getfield 177, 3) := by decide +kernel
theorem dX5_made_42 : decode cX5_made 42 = .ok (.iconst 1, 1) := by decide +kernel
theorem dX5_made_43 : decode cX5_made 43 = .ok (.invokevirtual 66, 3) := by decide +kernel
theorem dX5_made_46 : decode cX5_made 46 = .ok (.aload_n 3, 1) := by decide +kernel
theorem dX5_made_47 : decode cX5_made 47 = .ok (.iload_n 1, 1) := by decide +kernel
theorem dX5_made_48 : decode cX5_made 48 = .ok (.putfield 114, 3) := by decide +kernel
theorem dX5_made_51 : decode cX5_made 51 = .ok (.iconst 0, 1) := by decide +kernel
theorem dX5_made_52 : decode cX5_made 52 = .ok (.istore 4, 2) := by decide +kernel
theorem dX5_made_54 : decode cX5_made 54 = .ok (.iload 4, 2) := by decide +kernel
theorem dX5_made_56 : decode cX5_made 56 = .ok (.aload_n 2, 1) := by decide +kernel
theorem dX5_made_57 : decode cX5_made 57 = .ok (.getfield 177, 3) := by decide +kernel
theorem dX5_made_60 : decode cX5_made 60 = .ok (.if_icmp .ge 52, 3) := by decide +kernel
theorem dX5_made_63 : decode cX5_made 63 = .ok (.iconst 0, 1) := by decide +kernel
theorem dX5_made_64 : decode cX5_made 64 = .ok (.istore 5, 2) := by decide +kernel
theorem dX5_made_66 : decode cX5_made 66 = .ok (.iload 5, 2) := by decide +kernel
theorem dX5_made_68 : decode cX5_made 68 = .ok (.aload_n 2, 1) := by decide +kernel
theorem dX5_made_69 : decode cX5_made 69 = .ok (.getfield 177, 3) := by decide +kernel
theorem dX5_made_72 : decode cX5_made 72 = .ok (.if_icmp .ge 34, 3) := by decide +kernel
theorem dX5_made_75 : decode cX5_made 75 = .ok (.aload_n 3, 1) := by decide +kernel
theorem dX5_made_76 : decode cX5_made 76 = .ok (.iload 4, 2) := by decide +kernel
theorem dX5_made_78 : decode cX5_made 78 = .ok (.iload 5, 2) := by decide +kernel
theorem dX5_made_80 : decode cX5_made 80 = .ok (.aload_n 0, 1) := by decide +kernel
theorem dX5_made_81 : decode cX5_made 81 = .ok (.getfield 41, 3) := by decide +kernel
theorem dX5_made_84 : decode cX5_made 84 = .ok (.aload_n 2, 1) := by decide +kernel
theorem dX5_made_85 : decode cX5_made 85 = .ok (.iconst 1, 1) := by decide +kernel
theorem dX5_made_86 : decode cX5_made 86 = .ok (.iload 4, 2) := by decide +kernel
theorem dX5_made_88 : decode cX5_made 88 = .ok (.ishl, 1) := by decide +kernel
theorem dX5_made_89 : decode cX5_made 89 = .ok (.iconst 1, 1) := by decide +kernel
theorem dX5_made_90 : decode cX5_made 90 = .ok (.iload 5, 2) := by decide +kernel
theorem dX5_made_92 : decode cX5_made 92 = .ok (.ishl, 1) := by decide +kernel
theorem dX5_made_93 : decode cX5_made 93 = .ok (.iconst 1, 1) := by decide +kernel
theorem dX5_made_94 : decode cX5_made 94 = .ok (.invokevirtual 180, 3) := by decide +kernel
theorem dX5_made_97 : decode cX5_made 97 = .ok (.invokevirtual 97, 3) := by decide +kernel
theorem dX5_made_100 : decode cX5_made 100 = .ok (.iinc 5 1, 3) := by decide +kernel
theorem dX5_made_103 : decode cX5_made 103 = .ok (.goto (-37), 3) := by decide +kernel
theorem dX5_made_106 : decode cX5_made 106 = .ok (.iinc 4 1, 3) := by decide +kernel
theorem dX5_made_109 : decode cX5_made 109 = .ok (.goto (-55), 3) := by decide +kernel
theorem dX5_made_112 : decode cX5_made 112 = .ok (.aload_n 0, 1) := by decide +kernel
theorem dX5_made_113 : decode cX5_made 113 = .ok (.aload_n 3, 1) := by decide +kernel
theorem dX5_made_114 : decode cX5_made 114 = .ok (.invokevirtual 70, 3) := by decide +kernel
theorem dX5_made_117 : decode cX5_made 117 = .ok (.ireturn, 1) := by decide +kernel
theorem dX5_families_0 : decode cX5_families 0 = .ok (.aload_n 0, 1) := by decide +kernel
theorem dX5_families_1 : decode cX5_families 1 = .ok (.iload_n 1, 1) := by decide +kernel
theorem dX5_families_2 : decode cX5_families 2 = .ok (.iload_n 2, 1) := by decide +kernel
theorem dX5_families_3 : decode cX5_families 3 = .ok (.iload_n 3, 1) := by decide +kernel
theorem dX5_families_4 : decode cX5_families 4 = .ok (.iconst 0, 1) := by decide +kernel
theorem dX5_families_5 : decode cX5_families 5 = .ok (.invokevirtual 184, 3) := by decide +kernel
theorem dX5_families_8 : decode cX5_families 8 = .ok (.l2i, 1) := by decide +kernel
theorem dX5_families_9 : decode cX5_families 9 = .ok (.ireturn, 1) := by decide +kernel
theorem dX5_weight_0 : decode cX5_weight 0 = .ok (.lconst 0, 1) := by decide +kernel
theorem dX5_weight_1 : decode cX5_weight 1 = .ok (.aload_n 0, 1) := by decide +kernel
theorem dX5_weight_2 : decode cX5_weight 2 = .ok (.iload_n 1, 1) := by decide +kernel
theorem dX5_weight_3 : decode cX5_weight 3 = .ok (.iload_n 2, 1) := by decide +kernel
theorem dX5_weight_4 : decode cX5_weight 4 = .ok (.iload_n 3, 1) := by decide +kernel
theorem dX5_weight_5 : decode cX5_weight 5 = .ok (.iconst 1, 1) := by decide +kernel
theorem dX5_weight_6 : decode cX5_weight 6 = .ok (.invokevirtual 184, 3) := by decide +kernel
theorem dX5_weight_9 : decode cX5_weight 9 = .ok (.invokestatic 188, 3) := by decide +kernel
theorem dX5_weight_12 : decode cX5_weight 12 = .ok (.lreturn, 1) := by decide +kernel
theorem dX5_family_0 : decode cX5_family 0 = .ok (.aload_n 0, 1) := by decide +kernel
theorem dX5_family_1 : decode cX5_family 1 = .ok (.iload_n 1, 1) := by decide +kernel
theorem dX5_family_2 : decode cX5_family 2 = .ok (.iload_n 2, 1) := by decide +kernel
theorem dX5_family_3 : decode cX5_family 3 = .ok (.iload_n 3, 1) := by decide +kernel
theorem dX5_family_4 : decode cX5_family 4 = .ok (.iconst 0, 1) := by decide +kernel
theorem dX5_family_5 : decode cX5_family 5 = .ok (.invokevirtual 184, 3) := by decide +kernel
theorem dX5_family_8 : decode cX5_family 8 = .ok (.lstore 5, 2) := by decide +kernel
theorem dX5_family_10 : decode cX5_family 10 = .ok (.lload 5, 2) := by decide +kernel
theorem dX5_family_12 : decode cX5_family 12 = .ok (.lconst 0, 1) := by decide +kernel
theorem dX5_family_13 : decode cX5_family 13 = .ok (.lcmp, 1) := by decide +kernel
theorem dX5_family_14 : decode cX5_family 14 = .ok (.ifCond .ge 7, 3) := by decide +kernel
theorem dX5_family_17 : decode cX5_family 17 = .ok (.lload 5, 2) := by decide +kernel
theorem dX5_family_19 : decode cX5_family 19 = .ok (.l2i, 1) := by decide +kernel
theorem dX5_family_20 : decode cX5_family 20 = .ok (.ireturn, 1) := by decide +kernel
theorem dX5_family_21 : decode cX5_family 21 = .ok (.aload_n 0, 1) := by decide +kernel
theorem dX5_family_22 : decode cX5_family 22 = .ok (.iload_n 1, 1) := by decide +kernel
theorem dX5_family_23 : decode cX5_family 23 = .ok (.invokevirtual 164, 3) := by decide +kernel
theorem dX5_family_26 : decode cX5_family 26 = .ok (.astore 7, 2) := by decide +kernel
theorem dX5_family_28 : decode cX5_family 28 = .ok (.iload 4, 2) := by decide +kernel
theorem dX5_family_30 : decode cX5_family 30 = .ok (.bipush 20, 2) := by decide +kernel
theorem dX5_family_32 : decode cX5_family 32 = .ok (.ishr, 1) := by decide +kernel
theorem dX5_family_33 : decode cX5_family 33 = .ok (.istore 8, 2) := by decide +kernel
theorem dX5_family_35 : decode cX5_family 35 = .ok (.iload 4, 2) := by decide +kernel
theorem dX5_family_37 : decode cX5_family 37 = .ok (.ldc 194, 2) := by decide +kernel
theorem dX5_family_39 : decode cX5_family 39 = .ok (.iand, 1) := by decide +kernel
theorem dX5_family_40 : decode cX5_family 40 = .ok (.istore 9, 2) := by decide +kernel
theorem dX5_family_42 : decode cX5_family 42 = .ok (.aload 7, 2) := by decide +kernel
theorem dX5_family_44 : decode cX5_family 44 = .ok (.ifnull 27, 3) := by decide +kernel
theorem dX5_family_47 : decode cX5_family 47 = .ok (.iload 8, 2) := by decide +kernel
theorem dX5_family_49 : decode cX5_family 49 = .ok (.ifCond .lt 22, 3) := by decide +kernel
theorem dX5_family_52 : decode cX5_family 52 = .ok (.iload 8, 2) := by decide +kernel
theorem dX5_family_54 : decode cX5_family 54 = .ok (.aload 7, 2) := by decide +kernel
theorem dX5_family_56 : decode cX5_family 56 = .ok (.getfield 171, 3) := by decide +kernel
theorem dX5_family_59 : decode cX5_family 59 = .ok (.if_icmp .gt 12, 3) := by decide +kernel
theorem dX5_family_62 : decode cX5_family 62 = .ok (.iload 9, 2) := by decide +kernel
theorem dX5_family_64 : decode cX5_family 64 = .ok (.i2l, 1) := by decide +kernel
theorem dX5_family_65 : decode cX5_family 65 = .ok (.lload 5, 2) := by decide +kernel
theorem dX5_family_67 : decode cX5_family 67 = .ok (.lcmp, 1) := by decide +kernel
theorem dX5_family_68 : decode cX5_family 68 = .ok (.ifCond .lt 10, 3) := by decide +kernel
theorem dX5_family_71 : decode cX5_family 71 = .ok (.aload_n 0, 1) := by decide +kernel
theorem dX5_family_72 : decode cX5_family 72 = .ok (.bipush (-3), 2) := by decide +kernel
theorem dX5_family_74 : decode cX5_family 74 = .ok (.invokevirtual 58, 3) := by decide +kernel
theorem dX5_family_77 : decode cX5_family 77 = .ok (.ireturn, 1) := by decide +kernel
theorem dX5_family_78 : decode cX5_family 78 = .ok (.aload_n 0, 1) := by decide +kernel
theorem dX5_family_79 : decode cX5_family 79 = .ok (.getfield 41, 3) := by decide +kernel
theorem dX5_family_82 : decode cX5_family 82 = .ok (.aload 7, 2) := by decide +kernel
theorem dX5_family_84 : decode cX5_family 84 = .ok (.iload_n 2, 1) := by decide +kernel
theorem dX5_family_85 : decode cX5_family 85 = .ok (.iload 8, 2) := by decide +kernel
theorem dX5_family_87 : decode cX5_family 87 = .ok (.iload 9, 2) := by decide +kernel
theorem dX5_family_89 : decode cX5_family 89 = .ok (.invokevirtual 195, 3) := by decide +kernel
theorem dX5_family_92 : decode cX5_family 92 = .ok (.ireturn, 1) := by decide +kernel
theorem dX5_unnet_0 : decode cX5_unnet 0 = .ok (.aload_n 0, 1) := by decide +kernel
theorem dX5_unnet_1 : decode cX5_unnet 1 = .ok (.getfield 158, 3) := by decide +kernel
theorem dX5_unnet_4 : decode cX5_unnet 4 = .ok (.ifCond .ne 10, 3) := by decide +kernel
theorem dX5_unnet_7 : decode cX5_unnet 7 = .ok (.aload_n 0, 1) := by decide +kernel
theorem dX5_unnet_8 : decode cX5_unnet 8 = .ok (.bipush (-2), 2) := by decide +kernel
theorem dX5_unnet_10 : decode cX5_unnet 10 = .ok (.invokevirtual 58, 3) := by decide +kernel
theorem dX5_unnet_13 : decode cX5_unnet 13 = .ok (.ireturn, 1) := by decide +kernel
theorem dX5_unnet_14 : decode cX5_unnet 14 = .ok (.aload_n 0, 1) := by decide +kernel
theorem dX5_unnet_15 : decode cX5_unnet 15 = .ok (.dup, 1) := by decide +kernel
theorem dX5_unnet_16 : decode cX5_unnet 16 = .ok (.getfield 158, 3) := by decide +kernel
theorem dX5_unnet_19 : decode cX5_unnet 19 = .ok (.iconst 1, 1) := by decide +kernel
theorem dX5_unnet_20 : decode cX5_unnet 20 = .ok (.isub, 1) := by decide +kernel
theorem dX5_unnet_21 : decode cX5_unnet 21 = .ok (.putfield 158, 3) := by decide +kernel
theorem dX5_unnet_24 : decode cX5_unnet 24 = .ok (.aload_n 0, 1) := by decide +kernel
theorem dX5_unnet_25 : decode cX5_unnet 25 = .ok (.getfield 158, 3) := by decide +kernel
theorem dX5_unnet_28 : decode cX5_unnet 28 = .ok (.ireturn, 1) := by decide +kernel
theorem dX5_tell_0 : decode cX5_tell 0 = .ok (.iload_n 1, 1) := by decide +kernel
theorem dX5_tell_1 : decode cX5_tell 1 = .ok (.ifCond .lt 9, 3) := by decide +kernel
theorem dX5_tell_4 : decode cX5_tell 4 = .ok (.iload_n 1, 1) := by decide +kernel
theorem dX5_tell_5 : decode cX5_tell 5 = .ok (.bipush 16, 2) := by decide +kernel
theorem dX5_tell_7 : decode cX5_tell 7 = .ok (.if_icmp .lt 10, 3) := by decide +kernel
theorem dX5_tell_10 : decode cX5_tell 10 = .ok (.aload_n 0, 1) := by decide +kernel
theorem dX5_tell_11 : decode cX5_tell 11 = .ok (.bipush (-3), 2) := by decide +kernel
theorem dX5_tell_13 : decode cX5_tell 13 = .ok (.invokevirtual 58, 3) := by decide +kernel
theorem dX5_tell_16 : decode cX5_tell 16 = .ok (.ireturn, 1) := by decide +kernel
theorem dX5_tell_17 : decode cX5_tell 17 = .ok (.iload_n 2, 1) := by decide +kernel
theorem dX5_tell_18 : decode cX5_tell 18 = .ok (.i2l, 1) := by decide +kernel
theorem dX5_tell_19 : decode cX5_tell 19 = .ok (.invokestatic 89, 3) := by decide +kernel
theorem dX5_tell_22 : decode cX5_tell 22 = .ok (.ifCond .ne 10, 3) := by decide +kernel
theorem dX5_tell_25 : decode cX5_tell 25 = .ok (.aload_n 0, 1) := by decide +kernel
theorem dX5_tell_26 : decode cX5_tell 26 = .ok (.bipush (-7), 2) := by decide +kernel
theorem dX5_tell_28 : decode cX5_tell 28 = .ok (.invokevirtual 58, 3) := by decide +kernel
theorem dX5_tell_31 : decode cX5_tell 31 = .ok (.ireturn, 1) := by decide +kernel
theorem dX5_tell_32 : decode cX5_tell 32 = .ok (.aload_n 0, 1) := by decide +kernel
theorem dX5_tell_33 : decode cX5_tell 33 = .ok (.getfield 199, 3) := by decide +kernel
theorem dX5_tell_36 : decode cX5_tell 36 = .ok (.ifCond .ne 7, 3) := by decide +kernel
theorem dX5_tell_39 : decode cX5_tell 39 = .ok (.aload_n 0, 1) := by decide +kernel
theorem dX5_tell_40 : decode cX5_tell 40 = .ok (.invokevirtual 203, 3) := by decide +kernel
theorem dX5_tell_43 : decode cX5_tell 43 = .ok (.aload_n 0, 1) := by decide +kernel
theorem dX5_tell_44 : decode cX5_tell 44 = .ok (.getfield 21, 3) := by decide +kernel
theorem dX5_tell_47 : decode cX5_tell 47 = .ok (.iload_n 1, 1) := by decide +kernel
theorem dX5_tell_48 : decode cX5_tell 48 = .ok (.iload_n 2, 1) := by decide +kernel
theorem dX5_tell_49 : decode cX5_tell 49 = .ok (.iastore, 1) := by decide +kernel
theorem dX5_tell_50 : decode cX5_tell 50 = .ok (.iconst 1, 1) := by decide +kernel
theorem dX5_tell_51 : decode cX5_tell 51 = .ok (.ireturn, 1) := by decide +kernel
theorem dX5_changes_0 : decode cX5_changes 0 = .ok (.aload_n 0, 1) := by decide +kernel
theorem dX5_changes_1 : decode cX5_changes 1 = .ok (.iload_n 1, 1) := by decide +kernel
theorem dX5_changes_2 : decode cX5_changes 2 = .ok (.invokevirtual 74, 3) := by decide +kernel
theorem dX5_changes_5 : decode cX5_changes 5 = .ok (.astore_n 2, 1) := by decide +kernel
theorem dX5_changes_6 : decode cX5_changes 6 = .ok (.aload_n 2, 1) := by decide +kernel
theorem dX5_changes_7 : decode cX5_changes 7 = .ok (.ifnonnull 10, 3) := by decide +kernel
theorem dX5_changes_10 : decode cX5_changes 10 = .ok (.aload_n 0, 1) := by decide +kernel
theorem dX5_changes_11 : decode cX5_changes 11 = .ok (.bipush (-3), 2) := by decide +kernel
theorem dX5_changes_13 : decode cX5_changes 13 = .ok (.invokevirtual 58, 3) := by decide +kernel
theorem dX5_changes_16 : decode cX5_changes 16 = .ok (.ireturn, 1) := by decide +kernel
theorem dX5_changes_17 : decode cX5_changes 17 = .ok (.aload_n 0, 1) := by decide +kernel
theorem dX5_changes_18 : decode cX5_changes 18 = .ok (.getfield 199, 3) := by decide +kernel
theorem dX5_changes_21 : decode cX5_changes 21 = .ok (.ifCond .ne 10, 3) := by decide +kernel
theorem dX5_changes_24 : decode cX5_changes 24 = .ok (.aload_n 0, 1) := by decide +kernel
theorem dX5_changes_25 : decode cX5_changes 25 = .ok (.bipush (-2), 2) := by decide +kernel
theorem dX5_changes_27 : decode cX5_changes 27 = .ok (.invokevirtual 58, 3) := by decide +kernel
theorem dX5_changes_30 : decode cX5_changes 30 = .ok (.ireturn, 1) := by decide +kernel
theorem dX5_changes_31 : decode cX5_changes 31 = .ok (.iconst 0, 1) := by decide +kernel
theorem dX5_changes_32 : decode cX5_changes 32 = .ok (.istore_n 3, 1) := by decide +kernel
theorem dX5_changes_33 : decode cX5_changes 33 = .ok (.iload_n 3, 1) := by decide +kernel
theorem dX5_changes_34 : decode cX5_changes 34 = .ok (.aload_n 2, 1) := by decide +kernel
theorem dX5_changes_35 : decode cX5_changes 35 = .ok (.getfield 101, 3) := by decide +kernel
theorem dX5_changes_38 : decode cX5_changes 38 = .ok (.if_icmp .ge 58, 3) := by decide +kernel
theorem dX5_changes_41 : decode cX5_changes 41 = .ok (.aload_n 0, 1) := by decide +kernel
theorem dX5_changes_42 : decode cX5_changes 42 = .ok (.getfield 25, 3) := by decide +kernel
theorem dX5_changes_45 : decode cX5_changes 45 = .ok (.iload_n 3, 1) := by decide +kernel
theorem dX5_changes_46 : decode cX5_changes 46 = .ok (.iconst 0, 1) := by decide +kernel
theorem dX5_changes_47 : decode cX5_changes 47 = .ok (.iastore, 1) := by decide +kernel
theorem dX5_changes_48 : decode cX5_changes 48 = .ok (.iconst 0, 1) := by decide +kernel
theorem dX5_changes_49 : decode cX5_changes 49 = .ok (.istore 4, 2) := by decide +kernel
theorem dX5_changes_51 : decode cX5_changes 51 = .ok (.iload 4, 2) := by decide +kernel
theorem dX5_changes_53 : decode cX5_changes 53 = .ok (.aload_n 2, 1) := by decide +kernel
theorem dX5_changes_54 : decode cX5_changes 54 = .ok (.getfield 104, 3) := by decide +kernel
theorem dX5_changes_57 : decode cX5_changes 57 = .ok (.if_icmp .ge 33, 3) := by decide +kernel
theorem dX5_changes_60 : decode cX5_changes 60 = .ok (.aload_n 0, 1) := by decide +kernel
theorem dX5_changes_61 : decode cX5_changes 61 = .ok (.getfield 25, 3) := by decide +kernel
theorem dX5_changes_64 : decode cX5_changes 64 = .ok (.iload_n 3, 1) := by decide +kernel
theorem dX5_changes_65 : decode cX5_changes 65 = .ok (.dup2, 1) := by decide +kernel
theorem dX5_changes_66 : decode cX5_changes 66 = .ok (.iaload, 1) := by decide +kernel
theorem dX5_changes_67 : decode cX5_changes 67 = .ok (.aload_n 2, 1) := by decide +kernel
theorem dX5_changes_68 : decode cX5_changes 68 = .ok (.iload_n 3, 1) := by decide +kernel
theorem dX5_changes_69 : decode cX5_changes 69 = .ok (.iload 4, 2) := by decide +kernel
theorem dX5_changes_71 : decode cX5_changes 71 = .ok (.invokevirtual 93, 3) := by decide +kernel
theorem dX5_changes_74 : decode cX5_changes 74 = .ok (.aload_n 0, 1) := by decide +kernel
theorem dX5_changes_75 : decode cX5_changes 75 = .ok (.getfield 21, 3) := by decide +kernel
theorem dX5_changes_78 : decode cX5_changes 78 = .ok (.iload 4, 2) := by decide +kernel
theorem dX5_changes_80 : decode cX5_changes 80 = .ok (.iaload, 1) := by decide +kernel
theorem dX5_changes_81 : decode cX5_changes 81 = .ok (.imul, 1) := by decide +kernel
theorem dX5_changes_82 : decode cX5_changes 82 = .ok (.iadd, 1) := by decide +kernel
theorem dX5_changes_83 : decode cX5_changes 83 = .ok (.iastore, 1) := by decide +kernel
theorem dX5_changes_84 : decode cX5_changes 84 = .ok (.iinc 4 1, 3) := by decide +kernel
theorem dX5_changes_87 : decode cX5_changes 87 = .ok (.goto (-36), 3) := by decide +kernel
theorem dX5_changes_90 : decode cX5_changes 90 = .ok (.iinc 3 1, 3) := by decide +kernel
theorem dX5_changes_93 : decode cX5_changes 93 = .ok (.goto (-60), 3) := by decide +kernel
theorem dX5_changes_96 : decode cX5_changes 96 = .ok (.bipush 10, 2) := by decide +kernel
theorem dX5_changes_98 : decode cX5_changes 98 = .ok (.aload_n 0, 1) := by decide +kernel
theorem dX5_changes_99 : decode cX5_changes 99 = .ok (.getfield 21, 3) := by decide +kernel
theorem dX5_changes_102 : decode cX5_changes 102 = .ok (.aload_n 2, 1) := by decide +kernel
theorem dX5_changes_103 : decode cX5_changes 103 = .ok (.getfield 104, 3) := by decide +kernel
theorem dX5_changes_106 : decode cX5_changes 106 = .ok (.invokestatic 206, 3) := by decide +kernel
theorem dX5_changes_109 : decode cX5_changes 109 = .ok (.imul, 1) := by decide +kernel
theorem dX5_changes_110 : decode cX5_changes 110 = .ok (.aload_n 0, 1) := by decide +kernel
theorem dX5_changes_111 : decode cX5_changes 111 = .ok (.getfield 25, 3) := by decide +kernel
theorem dX5_changes_114 : decode cX5_changes 114 = .ok (.aload_n 2, 1) := by decide +kernel
theorem dX5_changes_115 : decode cX5_changes 115 = .ok (.getfield 101, 3) := by decide +kernel
theorem dX5_changes_118 : decode cX5_changes 118 = .ok (.invokestatic 206, 3) := by decide +kernel
theorem dX5_changes_121 : decode cX5_changes 121 = .ok (.iadd, 1) := by decide +kernel
theorem dX5_changes_122 : decode cX5_changes 122 = .ok (.ireturn, 1) := by decide +kernel
theorem dX5_band_0 : decode cX5_band 0 = .ok (.aload_n 0, 1) := by decide +kernel
theorem dX5_band_1 : decode cX5_band 1 = .ok (.getfield 199, 3) := by decide +kernel
theorem dX5_band_4 : decode cX5_band 4 = .ok (.ifCond .ne 10, 3) := by decide +kernel
theorem dX5_band_7 : decode cX5_band 7 = .ok (.aload_n 0, 1) := by decide +kernel
theorem dX5_band_8 : decode cX5_band 8 = .ok (.bipush (-2), 2) := by decide +kernel
theorem dX5_band_10 : decode cX5_band 10 = .ok (.invokevirtual 58, 3) := by decide +kernel
theorem dX5_band_13 : decode cX5_band 13 = .ok (.ireturn, 1) := by decide +kernel
theorem dX5_band_14 : decode cX5_band 14 = .ok (.iload_n 1, 1) := by decide +kernel
theorem dX5_band_15 : decode cX5_band 15 = .ok (.invokestatic 54, 3) := by decide +kernel
theorem dX5_band_18 : decode cX5_band 18 = .ok (.ifCond .eq 10, 3) := by decide +kernel
theorem dX5_band_21 : decode cX5_band 21 = .ok (.iload_n 2, 1) := by decide +kernel
theorem dX5_band_22 : decode cX5_band 22 = .ok (.invokestatic 54, 3) := by decide +kernel
theorem dX5_band_25 : decode cX5_band 25 = .ok (.ifCond .ne 10, 3) := by decide +kernel
theorem dX5_band_28 : decode cX5_band 28 = .ok (.aload_n 0, 1) := by decide +kernel
theorem dX5_band_29 : decode cX5_band 29 = .ok (.bipush (-7), 2) := by decide +kernel
theorem dX5_band_31 : decode cX5_band 31 = .ok (.invokevirtual 58, 3) := by decide +kernel
theorem dX5_band_34 : decode cX5_band 34 = .ok (.ireturn, 1) := by decide +kernel
theorem dX5_band_35 : decode cX5_band 35 = .ok (.aload_n 0, 1) := by decide +kernel
theorem dX5_band_36 : decode cX5_band 36 = .ok (.invokevirtual 62, 3) := by decide +kernel
theorem dX5_band_39 : decode cX5_band 39 = .ok (.astore_n 3, 1) := by decide +kernel
theorem dX5_band_40 : decode cX5_band 40 = .ok (.aload_n 3, 1) := by decide +kernel
theorem dX5_band_41 : decode cX5_band 41 = .ok (.ifnonnull 10, 3) := by decide +kernel
theorem dX5_band_44 : decode cX5_band 44 = .ok (.aload_n 0, 1) := by decide +kernel
theorem dX5_band_45 : decode cX5_band 45 = .ok (.bipush (-8), 2) := by decide +kernel
theorem dX5_band_47 : decode cX5_band 47 = .ok (.invokevirtual 58, 3) := by decide +kernel
theorem dX5_band_50 : decode cX5_band 50 = .ok (.ireturn, 1) := by decide +kernel
theorem dX5_band_51 : decode cX5_band 51 = .ok (.aload_n 3, 1) := by decide +kernel
theorem dX5_band_52 : decode cX5_band 52 = .ok (.iload_n 1, 1) := by decide +kernel
theorem dX5_band_53 : decode cX5_band 53 = .ok (.iload_n 1, 1) := by decide +kernel
theorem dX5_band_54 : decode cX5_band 54 = .ok (.iconst 2, 1) := by decide +kernel
theorem dX5_band_55 : decode cX5_band 55 = .ok (.invokevirtual 66, 3) := by decide +kernel
theorem dX5_band_58 : decode cX5_band 58 = .ok (.iconst 0, 1) := by decide +kernel
theorem dX5_band_59 : decode cX5_band 59 = .ok (.istore 4, 2) := by decide +kernel
theorem dX5_band_61 : decode cX5_band 61 = .ok (.iload 4, 2) := by decide +kernel
theorem dX5_band_63 : decode cX5_band 63 = .ok (.iload_n 1, 1) := by decide +kernel
theorem dX5_band_64 : decode cX5_band 64 = .ok (.if_icmp .ge 53, 3) := by decide +kernel
theorem dX5_band_67 : decode cX5_band 67 = .ok (.iload 4, 2) := by decide +kernel
theorem dX5_band_69 : decode cX5_band 69 = .ok (.istore 5, 2) := by decide +kernel
theorem dX5_band_71 : decode cX5_band 71 = .ok (.iload 5, 2) := by decide +kernel
theorem dX5_band_73 : decode cX5_band 73 = .ok (.iload_n 1, 1) := by decide +kernel
theorem dX5_band_74 : decode cX5_band 74 = .ok (.if_icmp .ge 37, 3) := by decide +kernel
theorem dX5_band_77 : decode cX5_band 77 = .ok (.iload 5, 2) := by decide +kernel
theorem dX5_band_79 : decode cX5_band 79 = .ok (.iload 4, 2) := by decide +kernel
theorem dX5_band_81 : decode cX5_band 81 = .ok (.isub, 1) := by decide +kernel
theorem dX5_band_82 : decode cX5_band 82 = .ok (.iload_n 2, 1) := by decide +kernel
theorem dX5_band_83 : decode cX5_band 83 = .ok (.if_icmp .ge 28, 3) := by decide +kernel
theorem dX5_band_86 : decode cX5_band 86 = .ok (.aload_n 3, 1) := by decide +kernel
theorem dX5_band_87 : decode cX5_band 87 = .ok (.iload 4, 2) := by decide +kernel
theorem dX5_band_89 : decode cX5_band 89 = .ok (.iload 5, 2) := by decide +kernel
theorem dX5_band_91 : decode cX5_band 91 = .ok (.aload_n 0, 1) := by decide +kernel
theorem dX5_band_92 : decode cX5_band 92 = .ok (.getfield 21, 3) := by decide +kernel
theorem dX5_band_95 : decode cX5_band 95 = .ok (.iload 5, 2) := by decide +kernel
theorem dX5_band_97 : decode cX5_band 97 = .ok (.iload 4, 2) := by decide +kernel
theorem dX5_band_99 : decode cX5_band 99 = .ok (.isub, 1) := by decide +kernel
theorem dX5_band_100 : decode cX5_band 100 = .ok (.iaload, 1) := by decide +kernel
theorem dX5_band_101 : decode cX5_band 101 = .ok (.i2l, 1) := by decide +kernel
theorem dX5_band_102 : decode cX5_band 102 = .ok (.invokevirtual 97, 3) := by decide +kernel
theorem dX5_band_105 : decode cX5_band 105 = .ok (.iinc 5 1, 3) := by decide +kernel
theorem dX5_band_108 : decode cX5_band 108 = .ok (.goto (-37), 3) := by decide +kernel
theorem dX5_band_111 : decode cX5_band 111 = .ok (.iinc 4 1, 3) := by decide +kernel
theorem dX5_band_114 : decode cX5_band 114 = .ok (.goto (-53), 3) := by decide +kernel
theorem dX5_band_117 : decode cX5_band 117 = .ok (.aload_n 0, 1) := by decide +kernel
theorem dX5_band_118 : decode cX5_band 118 = .ok (.aload_n 3, 1) := by decide +kernel
theorem dX5_band_119 : decode cX5_band 119 = .ok (.invokevirtual 70, 3) := by decide +kernel
theorem dX5_band_122 : decode cX5_band 122 = .ok (.ireturn, 1) := by decide +kernel
theorem dX5_make_0 : decode cX5_make 0 = .ok (.aload_n 0, 1) := by decide +kernel
theorem dX5_make_1 : decode cX5_make 1 = .ok (.iload_n 1, 1) := by decide +kernel
theorem dX5_make_2 : decode cX5_make 2 = .ok (.invokevirtual 74, 3) := by decide +kernel
theorem dX5_make_5 : decode cX5_make 5 = .ok (.astore_n 2, 1) := by decide +kernel
theorem dX5_make_6 : decode cX5_make 6 = .ok (.aload_n 2, 1) := by decide +kernel
theorem dX5_make_7 : decode cX5_make 7 = .ok (.ifnonnull 10, 3) := by decide +kernel
theorem dX5_make_10 : decode cX5_make 10 = .ok (.aload_n 0, 1) := by decide +kernel
theorem dX5_make_11 : decode cX5_make 11 = .ok (.bipush (-3), 2) := by decide +kernel
theorem dX5_make_13 : decode cX5_make 13 = .ok (.invokevirtual 58, 3) := by decide +kernel
theorem dX5_make_16 : decode cX5_make 16 = .ok (.ireturn, 1) := by decide +kernel
theorem dX5_make_17 : decode cX5_make 17 = .ok (.aload_n 2, 1) := by decide +kernel
theorem dX5_make_18 : decode cX5_make 18 = .ok (.getfield 101, 3) := by decide +kernel
theorem dX5_make_21 : decode cX5_make 21 = .ok (.aload_n 2, 1) := by decide +kernel
theorem dX5_make_22 : decode cX5_make 22 = .ok (.getfield 104, 3) := by decide +kernel
theorem dX5_make_25 : decode cX5_make 25 = .ok (.if_icmp .ne 11, 3) := by decide +kernel
theorem dX5_make_28 : decode cX5_make 28 = .ok (.aload_n 2, 1) := by decide +kernel
theorem dX5_make_29 : decode cX5_make 29 = .ok (.getfield 101, 3) := by decide +kernel
theorem dX5_make_32 : decode cX5_make 32 = .ok (.iconst 3, 1) := by decide +kernel
theorem dX5_make_33 : decode cX5_make 33 = .ok (.if_icmp .le 10, 3) := by decide +kernel
theorem dX5_make_36 : decode cX5_make 36 = .ok (.aload_n 0, 1) := by decide +kernel
theorem dX5_make_37 : decode cX5_make 37 = .ok (.bipush (-7), 2) := by decide +kernel
theorem dX5_make_39 : decode cX5_make 39 = .ok (.invokevirtual 58, 3) := by decide +kernel
theorem dX5_make_42 : decode cX5_make 42 = .ok (.ireturn, 1) := by decide +kernel
theorem dX5_make_43 : decode cX5_make 43 = .ok (.aload_n 0, 1) := by decide +kernel
theorem dX5_make_44 : decode cX5_make 44 = .ok (.getfield 48, 3) := by decide +kernel
theorem dX5_make_47 : decode cX5_make 47 = .ok (.aload_n 2, 1) := by decide +kernel
theorem dX5_make_48 : decode cX5_make 48 = .ok (.invokevirtual 210, 3) := by decide +kernel
theorem dX5_make_51 : decode cX5_make 51 = .ok (.ireturn, 1) := by decide +kernel
theorem dX5_making_0 : decode cX5_making 0 = .ok (.iload_n 1, 1) := by decide +kernel
theorem dX5_making_1 : decode cX5_making 1 = .ok (.ifCond .lt 14, 3) := by decide +kernel
theorem dX5_making_4 : decode cX5_making 4 = .ok (.iload_n 1, 1) := by decide +kernel
theorem dX5_making_5 : decode cX5_making 5 = .ok (.aload_n 0, 1) := by decide +kernel
theorem dX5_making_6 : decode cX5_making 6 = .ok (.getfield 48, 3) := by decide +kernel
theorem dX5_making_9 : decode cX5_making 9 = .ok (.getfield 213, 3) := by decide +kernel
theorem dX5_making_12 : decode cX5_making 12 = .ok (.if_icmp .lt 11, 3) := by decide +kernel
theorem dX5_making_15 : decode cX5_making 15 = .ok (.aload_n 0, 1) := by decide +kernel
theorem dX5_making_16 : decode cX5_making 16 = .ok (.bipush (-3), 2) := by decide +kernel
theorem dX5_making_18 : decode cX5_making 18 = .ok (.invokevirtual 82, 3) := by decide +kernel
theorem dX5_making_21 : decode cX5_making 21 = .ok (.i2l, 1) := by decide +kernel
theorem dX5_making_22 : decode cX5_making 22 = .ok (.lreturn, 1) := by decide +kernel
theorem dX5_making_23 : decode cX5_making 23 = .ok (.iload_n 2, 1) := by decide +kernel
theorem dX5_making_24 : decode cX5_making 24 = .ok (.tableswitch 74 0 3 #[32, 43, 54, 64], 32) := by decide +kernel
theorem dX5_making_56 : decode cX5_making 56 = .ok (.aload_n 0, 1) := by decide +kernel
theorem dX5_making_57 : decode cX5_making 57 = .ok (.getfield 48, 3) := by decide +kernel
theorem dX5_making_60 : decode cX5_making 60 = .ok (.getfield 214, 3) := by decide +kernel
theorem dX5_making_63 : decode cX5_making 63 = .ok (.iload_n 1, 1) := by decide +kernel
theorem dX5_making_64 : decode cX5_making 64 = .ok (.iaload, 1) := by decide +kernel
theorem dX5_making_65 : decode cX5_making 65 = .ok (.i2l, 1) := by decide +kernel
theorem dX5_making_66 : decode cX5_making 66 = .ok (.lreturn, 1) := by decide +kernel
theorem dX5_making_67 : decode cX5_making 67 = .ok (.aload_n 0, 1) := by decide +kernel
theorem dX5_making_68 : decode cX5_making 68 = .ok (.getfield 48, 3) := by decide +kernel
theorem dX5_making_71 : decode cX5_making 71 = .ok (.getfield 217, 3) := by decide +kernel
theorem dX5_making_74 : decode cX5_making 74 = .ok (.iload_n 1, 1) := by decide +kernel
theorem dX5_making_75 : decode cX5_making 75 = .ok (.iaload, 1) := by decide +kernel
theorem dX5_making_76 : decode cX5_making 76 = .ok (.i2l, 1) := by decide +kernel
theorem dX5_making_77 : decode cX5_making 77 = .ok (.lreturn, 1) := by decide +kernel
theorem dX5_making_78 : decode cX5_making 78 = .ok (.aload_n 0, 1) := by decide +kernel
theorem dX5_making_79 : decode cX5_making 79 = .ok (.getfield 48, 3) := by decide +kernel
theorem dX5_making_82 : decode cX5_making 82 = .ok (.getfield 219, 3) := by decide +kernel
theorem dX5_making_85 : decode cX5_making 85 = .ok (.iload_n 1, 1) := by decide +kernel
theorem dX5_making_86 : decode cX5_making 86 = .ok (.laload, 1) := by decide +kernel
theorem dX5_making_87 : decode cX5_making 87 = .ok (.lreturn, 1) := by decide +kernel
theorem dX5_making_88 : decode cX5_making 88 = .ok (.aload_n 0, 1) := by decide +kernel
theorem dX5_making_89 : decode cX5_making 89 = .ok (.getfield 48, 3) := by decide +kernel
theorem dX5_making_92 : decode cX5_making 92 = .ok (.getfield 223, 3) := by decide +kernel
theorem dX5_making_95 : decode cX5_making 95 = .ok (.iload_n 1, 1) := by decide +kernel
theorem dX5_making_96 : decode cX5_making 96 = .ok (.laload, 1) := by decide +kernel
theorem dX5_making_97 : decode cX5_making 97 = .ok (.lreturn, 1) := by decide +kernel
theorem dX5_making_98 : decode cX5_making 98 = .ok (.aload_n 0, 1) := by decide +kernel
theorem dX5_making_99 : decode cX5_making 99 = .ok (.bipush (-7), 2) := by decide +kernel
theorem dX5_making_101 : decode cX5_making 101 = .ok (.invokevirtual 82, 3) := by decide +kernel
theorem dX5_making_104 : decode cX5_making 104 = .ok (.i2l, 1) := by decide +kernel
theorem dX5_making_105 : decode cX5_making 105 = .ok (.lreturn, 1) := by decide +kernel
theorem dX5_lay_0 : decode cX5_lay 0 = .ok (.aload_n 0, 1) := by decide +kernel
theorem dX5_lay_1 : decode cX5_lay 1 = .ok (.iload_n 1, 1) := by decide +kernel
theorem dX5_lay_2 : decode cX5_lay 2 = .ok (.invokevirtual 74, 3) := by decide +kernel
theorem dX5_lay_5 : decode cX5_lay 5 = .ok (.astore_n 3, 1) := by decide +kernel
theorem dX5_lay_6 : decode cX5_lay 6 = .ok (.aload_n 3, 1) := by decide +kernel
theorem dX5_lay_7 : decode cX5_lay 7 = .ok (.ifnull 12, 3) := by decide +kernel
theorem dX5_lay_10 : decode cX5_lay 10 = .ok (.aload_n 3, 1) := by decide +kernel
theorem dX5_lay_11 : decode cX5_lay 11 = .ok (.iload_n 2, 1) := by decide +kernel
theorem dX5_lay_12 : decode cX5_lay 12 = .ok (.iconst 0, 1) := by decide +kernel
theorem dX5_lay_13 : decode cX5_lay 13 = .ok (.invokevirtual 78, 3) := by decide +kernel
theorem dX5_lay_16 : decode cX5_lay 16 = .ok (.ifCond .ne 10, 3) := by decide +kernel
theorem dX5_lay_19 : decode cX5_lay 19 = .ok (.aload_n 0, 1) := by decide +kernel
theorem dX5_lay_20 : decode cX5_lay 20 = .ok (.bipush (-3), 2) := by decide +kernel
theorem dX5_lay_22 : decode cX5_lay 22 = .ok (.invokevirtual 58, 3) := by decide +kernel
theorem dX5_lay_25 : decode cX5_lay 25 = .ok (.ireturn, 1) := by decide +kernel
theorem dX5_lay_26 : decode cX5_lay 26 = .ok (.aload_n 0, 1) := by decide +kernel
theorem dX5_lay_27 : decode cX5_lay 27 = .ok (.invokevirtual 203, 3) := by decide +kernel
theorem dX5_lay_30 : decode cX5_lay 30 = .ok (.iconst 0, 1) := by decide +kernel
theorem dX5_lay_31 : decode cX5_lay 31 = .ok (.istore 4, 2) := by decide +kernel
theorem dX5_lay_33 : decode cX5_lay 33 = .ok (.iload 4, 2) := by decide +kernel
theorem dX5_lay_35 : decode cX5_lay 35 = .ok (.aload_n 3, 1) := by decide +kernel
theorem dX5_lay_36 : decode cX5_lay 36 = .ok (.getfield 104, 3) := by decide +kernel
theorem dX5_lay_39 : decode cX5_lay 39 = .ok (.if_icmp .ge 23, 3) := by decide +kernel
theorem dX5_lay_42 : decode cX5_lay 42 = .ok (.aload_n 0, 1) := by decide +kernel
theorem dX5_lay_43 : decode cX5_lay 43 = .ok (.getfield 21, 3) := by decide +kernel
theorem dX5_lay_46 : decode cX5_lay 46 = .ok (.iload 4, 2) := by decide +kernel
theorem dX5_lay_48 : decode cX5_lay 48 = .ok (.aload_n 3, 1) := by decide +kernel
theorem dX5_lay_49 : decode cX5_lay 49 = .ok (.iload_n 2, 1) := by decide +kernel
theorem dX5_lay_50 : decode cX5_lay 50 = .ok (.iload 4, 2) := by decide +kernel
theorem dX5_lay_52 : decode cX5_lay 52 = .ok (.invokevirtual 93, 3) := by decide +kernel
theorem dX5_lay_55 : decode cX5_lay 55 = .ok (.iastore, 1) := by decide +kernel
theorem dX5_lay_56 : decode cX5_lay 56 = .ok (.iinc 4 1, 3) := by decide +kernel
theorem dX5_lay_59 : decode cX5_lay 59 = .ok (.goto (-26), 3) := by decide +kernel
theorem dX5_lay_62 : decode cX5_lay 62 = .ok (.aload_n 3, 1) := by decide +kernel
theorem dX5_lay_63 : decode cX5_lay 63 = .ok (.getfield 104, 3) := by decide +kernel
theorem dX5_lay_66 : decode cX5_lay 66 = .ok (.ireturn, 1) := by decide +kernel
theorem dX5_tear_0 : decode cX5_tear 0 = .ok (.aload_n 0, 1) := by decide +kernel
theorem dX5_tear_1 : decode cX5_tear 1 = .ok (.getfield 199, 3) := by decide +kernel
theorem dX5_tear_4 : decode cX5_tear 4 = .ok (.ifCond .eq 7, 3) := by decide +kernel
theorem dX5_tear_7 : decode cX5_tear 7 = .ok (.iconst 1, 1) := by decide +kernel
theorem dX5_tear_8 : decode cX5_tear 8 = .ok (.goto 4, 3) := by decide +kernel
theorem dX5_tear_11 : decode cX5_tear 11 = .ok (.iconst 0, 1) := by decide +kernel
theorem dX5_tear_12 : decode cX5_tear 12 = .ok (.istore_n 1, 1) := by decide +kernel
theorem dX5_tear_13 : decode cX5_tear 13 = .ok (.aload_n 0, 1) := by decide +kernel
theorem dX5_tear_14 : decode cX5_tear 14 = .ok (.iconst 0, 1) := by decide +kernel
theorem dX5_tear_15 : decode cX5_tear 15 = .ok (.putfield 199, 3) := by decide +kernel
theorem dX5_tear_18 : decode cX5_tear 18 = .ok (.iload_n 1, 1) := by decide +kernel
theorem dX5_tear_19 : decode cX5_tear 19 = .ok (.ireturn, 1) := by decide +kernel
theorem dX5_row_0 : decode cX5_row 0 = .ok (.aload_n 0, 1) := by decide +kernel
theorem dX5_row_1 : decode cX5_row 1 = .ok (.getfield 199, 3) := by decide +kernel
theorem dX5_row_4 : decode cX5_row 4 = .ok (.ifCond .ne 10, 3) := by decide +kernel
theorem dX5_row_7 : decode cX5_row 7 = .ok (.aload_n 0, 1) := by decide +kernel
theorem dX5_row_8 : decode cX5_row 8 = .ok (.bipush (-2), 2) := by decide +kernel
theorem dX5_row_10 : decode cX5_row 10 = .ok (.invokevirtual 82, 3) := by decide +kernel
theorem dX5_row_13 : decode cX5_row 13 = .ok (.ireturn, 1) := by decide +kernel
theorem dX5_row_14 : decode cX5_row 14 = .ok (.iload_n 1, 1) := by decide +kernel
theorem dX5_row_15 : decode cX5_row 15 = .ok (.ifCond .lt 9, 3) := by decide +kernel
theorem dX5_row_18 : decode cX5_row 18 = .ok (.iload_n 1, 1) := by decide +kernel
theorem dX5_row_19 : decode cX5_row 19 = .ok (.bipush 16, 2) := by decide +kernel
theorem dX5_row_21 : decode cX5_row 21 = .ok (.if_icmp .lt 10, 3) := by decide +kernel
theorem dX5_row_24 : decode cX5_row 24 = .ok (.aload_n 0, 1) := by decide +kernel
theorem dX5_row_25 : decode cX5_row 25 = .ok (.bipush (-3), 2) := by decide +kernel
theorem dX5_row_27 : decode cX5_row 27 = .ok (.invokevirtual 82, 3) := by decide +kernel
theorem dX5_row_30 : decode cX5_row 30 = .ok (.ireturn, 1) := by decide +kernel
theorem dX5_row_31 : decode cX5_row 31 = .ok (.aload_n 0, 1) := by decide +kernel
theorem dX5_row_32 : decode cX5_row 32 = .ok (.getfield 21, 3) := by decide +kernel
theorem dX5_row_35 : decode cX5_row 35 = .ok (.iload_n 1, 1) := by decide +kernel
theorem dX5_row_36 : decode cX5_row 36 = .ok (.iaload, 1) := by decide +kernel
theorem dX5_row_37 : decode cX5_row 37 = .ok (.ireturn, 1) := by decide +kernel
theorem dX5_copy_0 : decode cX5_copy 0 = .ok (.aload_n 0, 1) := by decide +kernel
theorem dX5_copy_1 : decode cX5_copy 1 = .ok (.getfield 199, 3) := by decide +kernel
theorem dX5_copy_4 : decode cX5_copy 4 = .ok (.ifCond .ne 10, 3) := by decide +kernel
theorem dX5_copy_7 : decode cX5_copy 7 = .ok (.aload_n 0, 1) := by decide +kernel
theorem dX5_copy_8 : decode cX5_copy 8 = .ok (.bipush (-2), 2) := by decide +kernel
theorem dX5_copy_10 : decode cX5_copy 10 = .ok (.invokevirtual 58, 3) := by decide +kernel
theorem dX5_copy_13 : decode cX5_copy 13 = .ok (.ireturn, 1) := by decide +kernel
theorem dX5_copy_14 : decode cX5_copy 14 = .ok (.iload_n 3, 1) := by decide +kernel
theorem dX5_copy_15 : decode cX5_copy 15 = .ok (.ifCond .ge 10, 3) := by decide +kernel
theorem dX5_copy_18 : decode cX5_copy 18 = .ok (.aload_n 0, 1) := by decide +kernel
theorem dX5_copy_19 : decode cX5_copy 19 = .ok (.bipush (-4), 2) := by decide +kernel
theorem dX5_copy_21 : decode cX5_copy 21 = .ok (.invokevirtual 58, 3) := by decide +kernel
theorem dX5_copy_24 : decode cX5_copy 24 = .ok (.ireturn, 1) := by decide +kernel
theorem dX5_copy_25 : decode cX5_copy 25 = .ok (.iload_n 1, 1) := by decide +kernel
theorem dX5_copy_26 : decode cX5_copy 26 = .ok (.ifCond .lt 23, 3) := by decide +kernel
theorem dX5_copy_29 : decode cX5_copy 29 = .ok (.iload_n 2, 1) := by decide +kernel
theorem dX5_copy_30 : decode cX5_copy 30 = .ok (.ifCond .lt 19, 3) := by decide +kernel
theorem dX5_copy_33 : decode cX5_copy 33 = .ok (.iload_n 3, 1) := by decide +kernel
theorem dX5_copy_34 : decode cX5_copy 34 = .ok (.bipush 16, 2) := by decide +kernel
theorem dX5_copy_36 : decode cX5_copy 36 = .ok (.iload_n 1, 1) := by decide +kernel
theorem dX5_copy_37 : decode cX5_copy 37 = .ok (.isub, 1) := by decide +kernel
theorem dX5_copy_38 : decode cX5_copy 38 = .ok (.if_icmp .gt 11, 3) := by decide +kernel
theorem dX5_copy_41 : decode cX5_copy 41 = .ok (.iload_n 3, 1) := by decide +kernel
theorem dX5_copy_42 : decode cX5_copy 42 = .ok (.bipush 16, 2) := by decide +kernel
theorem dX5_copy_44 : decode cX5_copy 44 = .ok (.iload_n 2, 1) := by decide +kernel
theorem dX5_copy_45 : decode cX5_copy 45 = .ok (.isub, 1) := by decide +kernel
theorem dX5_copy_46 : decode cX5_copy 46 = .ok (.if_icmp .le 10, 3) := by decide +kernel
theorem dX5_copy_49 : decode cX5_copy 49 = .ok (.aload_n 0, 1) := by decide +kernel
theorem dX5_copy_50 : decode cX5_copy 50 = .ok (.bipush (-6), 2) := by decide +kernel
theorem dX5_copy_52 : decode cX5_copy 52 = .ok (.invokevirtual 58, 3) := by decide +kernel
theorem dX5_copy_55 : decode cX5_copy 55 = .ok (.ireturn, 1) := by decide +kernel
theorem dX5_copy_56 : decode cX5_copy 56 = .ok (.aload_n 0, 1) := by decide +kernel
theorem dX5_copy_57 : decode cX5_copy 57 = .ok (.getfield 21, 3) := by decide +kernel
theorem dX5_copy_60 : decode cX5_copy 60 = .ok (.iload_n 1, 1) := by decide +kernel
theorem dX5_copy_61 : decode cX5_copy 61 = .ok (.aload_n 0, 1) := by decide +kernel
theorem dX5_copy_62 : decode cX5_copy 62 = .ok (.getfield 21, 3) := by decide +kernel
theorem dX5_copy_65 : decode cX5_copy 65 = .ok (.iload_n 2, 1) := by decide +kernel
theorem dX5_copy_66 : decode cX5_copy 66 = .ok (.iload_n 3, 1) := by decide +kernel
theorem dX5_copy_67 : decode cX5_copy 67 = .ok (.invokestatic 226, 3) := by decide +kernel
theorem dX5_copy_70 : decode cX5_copy 70 = .ok (.iload_n 3, 1) := by decide +kernel
theorem dX5_copy_71 : decode cX5_copy 71 = .ok (.ireturn, 1) := by decide +kernel
theorem dX5_status_0 : decode cX5_status 0 = .ok (.iload_n 1, 1) := by decide +kernel
theorem dX5_status_1 : decode cX5_status 1 = .ok (.bipush (-8), 2) := by decide +kernel
theorem dX5_status_3 : decode cX5_status 3 = .ok (.if_icmp .lt 9, 3) := by decide +kernel
theorem dX5_status_6 : decode cX5_status 6 = .ok (.iload_n 1, 1) := by decide +kernel
theorem dX5_status_7 : decode cX5_status 7 = .ok (.bipush (-2), 2) := by decide +kernel
theorem dX5_status_9 : decode cX5_status 9 = .ok (.if_icmp .le 10, 3) := by decide +kernel
theorem dX5_status_12 : decode cX5_status 12 = .ok (.aload_n 0, 1) := by decide +kernel
theorem dX5_status_13 : decode cX5_status 13 = .ok (.bipush (-7), 2) := by decide +kernel
theorem dX5_status_15 : decode cX5_status 15 = .ok (.invokevirtual 58, 3) := by decide +kernel
theorem dX5_status_18 : decode cX5_status 18 = .ok (.ireturn, 1) := by decide +kernel
theorem dX5_status_19 : decode cX5_status 19 = .ok (.aload_n 0, 1) := by decide +kernel
theorem dX5_status_20 : decode cX5_status 20 = .ok (.getfield 28, 3) := by decide +kernel
theorem dX5_status_23 : decode cX5_status 23 = .ok (.iload_n 1, 1) := by decide +kernel
theorem dX5_status_24 : decode cX5_status 24 = .ok (.ineg, 1) := by decide +kernel
theorem dX5_status_25 : decode cX5_status 25 = .ok (.iaload, 1) := by decide +kernel
theorem dX5_status_26 : decode cX5_status 26 = .ok (.ireturn, 1) := by decide +kernel
theorem dX5_refused_0 : decode cX5_refused 0 = .ok (.iload_n 1, 1) := by decide +kernel
theorem dX5_refused_1 : decode cX5_refused 1 = .ok (.bipush (-8), 2) := by decide +kernel
theorem dX5_refused_3 : decode cX5_refused 3 = .ok (.if_icmp .lt 20, 3) := by decide +kernel
theorem dX5_refused_6 : decode cX5_refused 6 = .ok (.iload_n 1, 1) := by decide +kernel
theorem dX5_refused_7 : decode cX5_refused 7 = .ok (.bipush (-2), 2) := by decide +kernel
theorem dX5_refused_9 : decode cX5_refused 9 = .ok (.if_icmp .gt 14, 3) := by decide +kernel
theorem dX5_refused_12 : decode cX5_refused 12 = .ok (.aload_n 0, 1) := by decide +kernel
theorem dX5_refused_13 : decode cX5_refused 13 = .ok (.getfield 28, 3) := by decide +kernel
theorem dX5_refused_16 : decode cX5_refused 16 = .ok (.iload_n 1, 1) := by decide +kernel
theorem dX5_refused_17 : decode cX5_refused 17 = .ok (.ineg, 1) := by decide +kernel
theorem dX5_refused_18 : decode cX5_refused 18 = .ok (.dup2, 1) := by decide +kernel
theorem dX5_refused_19 : decode cX5_refused 19 = .ok (.iaload, 1) := by decide +kernel
theorem dX5_refused_20 : decode cX5_refused 20 = .ok (.iconst 1, 1) := by decide +kernel
theorem dX5_refused_21 : decode cX5_refused 21 = .ok (.iadd, 1) := by decide +kernel
theorem dX5_refused_22 : decode cX5_refused 22 = .ok (.iastore, 1) := by decide +kernel
theorem dX5_refused_23 : decode cX5_refused 23 = .ok (.iload_n 1, 1) := by decide +kernel
theorem dX5_refused_24 : decode cX5_refused 24 = .ok (.ireturn, 1) := by decide +kernel
theorem dX5_nought_0 : decode cX5_nought 0 = .ok (.aload_n 0, 1) := by decide +kernel
theorem dX5_nought_1 : decode cX5_nought 1 = .ok (.iload_n 1, 1) := by decide +kernel
theorem dX5_nought_2 : decode cX5_nought 2 = .ok (.invokevirtual 58, 3) := by decide +kernel
theorem dX5_nought_5 : decode cX5_nought 5 = .ok (.pop, 1) := by decide +kernel
theorem dX5_nought_6 : decode cX5_nought 6 = .ok (.iconst 0, 1) := by decide +kernel
theorem dX5_nought_7 : decode cX5_nought 7 = .ok (.ireturn, 1) := by decide +kernel
theorem dX5_gridOf_0 : decode cX5_gridOf 0 = .ok (.iload_n 1, 1) := by decide +kernel
theorem dX5_gridOf_1 : decode cX5_gridOf 1 = .ok (.ifCond .lt 11, 3) := by decide +kernel
theorem dX5_gridOf_4 : decode cX5_gridOf 4 = .ok (.iload_n 1, 1) := by decide +kernel
theorem dX5_gridOf_5 : decode cX5_gridOf 5 = .ok (.aload_n 0, 1) := by decide +kernel
theorem dX5_gridOf_6 : decode cX5_gridOf 6 = .ok (.getfield 117, 3) := by decide +kernel
theorem dX5_gridOf_9 : decode cX5_gridOf 9 = .ok (.if_icmp .lt 7, 3) := by decide +kernel
theorem dX5_gridOf_12 : decode cX5_gridOf 12 = .ok (.aconst_null, 1) := by decide +kernel
theorem dX5_gridOf_13 : decode cX5_gridOf 13 = .ok (.goto 9, 3) := by decide +kernel
theorem dX5_gridOf_16 : decode cX5_gridOf 16 = .ok (.aload_n 0, 1) := by decide +kernel
theorem dX5_gridOf_17 : decode cX5_gridOf 17 = .ok (.getfield 11, 3) := by decide +kernel
theorem dX5_gridOf_20 : decode cX5_gridOf 20 = .ok (.iload_n 1, 1) := by decide +kernel
theorem dX5_gridOf_21 : decode cX5_gridOf 21 = .ok (.aaload, 1) := by decide +kernel
theorem dX5_gridOf_22 : decode cX5_gridOf 22 = .ok (.areturn, 1) := by decide +kernel
theorem dX5_webOf_0 : decode cX5_webOf 0 = .ok (.iload_n 1, 1) := by decide +kernel
theorem dX5_webOf_1 : decode cX5_webOf 1 = .ok (.ifCond .lt 11, 3) := by decide +kernel
theorem dX5_webOf_4 : decode cX5_webOf 4 = .ok (.iload_n 1, 1) := by decide +kernel
theorem dX5_webOf_5 : decode cX5_webOf 5 = .ok (.aload_n 0, 1) := by decide +kernel
theorem dX5_webOf_6 : decode cX5_webOf 6 = .ok (.getfield 158, 3) := by decide +kernel
theorem dX5_webOf_9 : decode cX5_webOf 9 = .ok (.if_icmp .lt 7, 3) := by decide +kernel
theorem dX5_webOf_12 : decode cX5_webOf 12 = .ok (.aconst_null, 1) := by decide +kernel
theorem dX5_webOf_13 : decode cX5_webOf 13 = .ok (.goto 9, 3) := by decide +kernel
theorem dX5_webOf_16 : decode cX5_webOf 16 = .ok (.aload_n 0, 1) := by decide +kernel
theorem dX5_webOf_17 : decode cX5_webOf 17 = .ok (.getfield 17, 3) := by decide +kernel
theorem dX5_webOf_20 : decode cX5_webOf 20 = .ok (.iload_n 1, 1) := by decide +kernel
theorem dX5_webOf_21 : decode cX5_webOf 21 = .ok (.aaload, 1) := by decide +kernel
theorem dX5_webOf_22 : decode cX5_webOf 22 = .ok (.areturn, 1) := by decide +kernel
theorem dX5_freeGrid_0 : decode cX5_freeGrid 0 = .ok (.aload_n 0, 1) := by decide +kernel
theorem dX5_freeGrid_1 : decode cX5_freeGrid 1 = .ok (.getfield 117, 3) := by decide +kernel
theorem dX5_freeGrid_4 : decode cX5_freeGrid 4 = .ok (.bipush 12, 2) := by decide +kernel
theorem dX5_freeGrid_6 : decode cX5_freeGrid 6 = .ok (.if_icmp .lt 7, 3) := by decide +kernel
theorem dX5_freeGrid_9 : decode cX5_freeGrid 9 = .ok (.aconst_null, 1) := by decide +kernel
theorem dX5_freeGrid_10 : decode cX5_freeGrid 10 = .ok (.goto 12, 3) := by decide +kernel
theorem dX5_freeGrid_13 : decode cX5_freeGrid 13 = .ok (.aload_n 0, 1) := by decide +kernel
theorem dX5_freeGrid_14 : decode cX5_freeGrid 14 = .ok (.getfield 11, 3) := by decide +kernel
theorem dX5_freeGrid_17 : decode cX5_freeGrid 17 = .ok (.aload_n 0, 1) := by decide +kernel
theorem dX5_freeGrid_18 : decode cX5_freeGrid 18 = .ok (.getfield 117, 3) := by decide +kernel
theorem dX5_freeGrid_21 : decode cX5_freeGrid 21 = .ok (.aaload, 1) := by decide +kernel
theorem dX5_freeGrid_22 : decode cX5_freeGrid 22 = .ok (.areturn, 1) := by decide +kernel
theorem dX5_come_0 : decode cX5_come 0 = .ok (.aload_n 1, 1) := by decide +kernel
theorem dX5_come_1 : decode cX5_come 1 = .ok (.getfield 232, 3) := by decide +kernel
theorem dX5_come_4 : decode cX5_come 4 = .ok (.ifCond .ne 10, 3) := by decide +kernel
theorem dX5_come_7 : decode cX5_come 7 = .ok (.aload_n 0, 1) := by decide +kernel
theorem dX5_come_8 : decode cX5_come 8 = .ok (.bipush (-8), 2) := by decide +kernel
theorem dX5_come_10 : decode cX5_come 10 = .ok (.invokevirtual 58, 3) := by decide +kernel
theorem dX5_come_13 : decode cX5_come 13 = .ok (.ireturn, 1) := by decide +kernel
theorem dX5_come_14 : decode cX5_come 14 = .ok (.aload_n 0, 1) := by decide +kernel
theorem dX5_come_15 : decode cX5_come 15 = .ok (.dup, 1) := by decide +kernel
theorem dX5_come_16 : decode cX5_come 16 = .ok (.getfield 117, 3) := by decide +kernel
theorem dX5_come_19 : decode cX5_come 19 = .ok (.iconst 1, 1) := by decide +kernel
theorem dX5_come_20 : decode cX5_come 20 = .ok (.iadd, 1) := by decide +kernel
theorem dX5_come_21 : decode cX5_come 21 = .ok (.putfield 117, 3) := by decide +kernel
theorem dX5_come_24 : decode cX5_come 24 = .ok (.aload_n 0, 1) := by decide +kernel
theorem dX5_come_25 : decode cX5_come 25 = .ok (.getfield 117, 3) := by decide +kernel
theorem dX5_come_28 : decode cX5_come 28 = .ok (.iconst 1, 1) := by decide +kernel
theorem dX5_come_29 : decode cX5_come 29 = .ok (.isub, 1) := by decide +kernel
theorem dX5_come_30 : decode cX5_come 30 = .ok (.ireturn, 1) := by decide +kernel
theorem dX5_leading_0 : decode cX5_leading 0 = .ok (.aload_n 0, 1) := by decide +kernel
theorem dX5_leading_1 : decode cX5_leading 1 = .ok (.iload_n 1, 1) := by decide +kernel
theorem dX5_leading_2 : decode cX5_leading 2 = .ok (.invokevirtual 164, 3) := by decide +kernel
theorem dX5_leading_5 : decode cX5_leading 5 = .ok (.astore 5, 2) := by decide +kernel
theorem dX5_leading_7 : decode cX5_leading 7 = .ok (.aload 5, 2) := by decide +kernel
theorem dX5_leading_9 : decode cX5_leading 9 = .ok (.ifnull 27, 3) := by decide +kernel
theorem dX5_leading_12 : decode cX5_leading 12 = .ok (.iload_n 2, 1) := by decide +kernel
theorem dX5_leading_13 : decode cX5_leading 13 = .ok (.aload 5, 2) := by decide +kernel
theorem dX5_leading_15 : decode cX5_leading 15 = .ok (.getfield 177, 3) := by decide +kernel
theorem dX5_leading_18 : decode cX5_leading 18 = .ok (.invokestatic 120, 3) := by decide +kernel
theorem dX5_leading_21 : decode cX5_leading 21 = .ok (.ifCond .eq 15, 3) := by decide +kernel
theorem dX5_leading_24 : decode cX5_leading 24 = .ok (.iload_n 3, 1) := by decide +kernel
theorem dX5_leading_25 : decode cX5_leading 25 = .ok (.aload 5, 2) := by decide +kernel
theorem dX5_leading_27 : decode cX5_leading 27 = .ok (.getfield 177, 3) := by decide +kernel
theorem dX5_leading_30 : decode cX5_leading 30 = .ok (.invokestatic 120, 3) := by decide +kernel
theorem dX5_leading_33 : decode cX5_leading 33 = .ok (.ifCond .ne 11, 3) := by decide +kernel
theorem dX5_leading_36 : decode cX5_leading 36 = .ok (.aload_n 0, 1) := by decide +kernel
theorem dX5_leading_37 : decode cX5_leading 37 = .ok (.bipush (-3), 2) := by decide +kernel
theorem dX5_leading_39 : decode cX5_leading 39 = .ok (.invokevirtual 58, 3) := by decide +kernel
theorem dX5_leading_42 : decode cX5_leading 42 = .ok (.i2l, 1) := by decide +kernel
theorem dX5_leading_43 : decode cX5_leading 43 = .ok (.lreturn, 1) := by decide +kernel
theorem dX5_leading_44 : decode cX5_leading 44 = .ok (.iload_n 2, 1) := by decide +kernel
theorem dX5_leading_45 : decode cX5_leading 45 = .ok (.iload_n 3, 1) := by decide +kernel
theorem dX5_leading_46 : decode cX5_leading 46 = .ok (.invokestatic 123, 3) := by decide +kernel
theorem dX5_leading_49 : decode cX5_leading 49 = .ok (.ifCond .ne 11, 3) := by decide +kernel
theorem dX5_leading_52 : decode cX5_leading 52 = .ok (.aload_n 0, 1) := by decide +kernel
theorem dX5_leading_53 : decode cX5_leading 53 = .ok (.bipush (-7), 2) := by decide +kernel
theorem dX5_leading_55 : decode cX5_leading 55 = .ok (.invokevirtual 58, 3) := by decide +kernel
theorem dX5_leading_58 : decode cX5_leading 58 = .ok (.i2l, 1) := by decide +kernel
theorem dX5_leading_59 : decode cX5_leading 59 = .ok (.lreturn, 1) := by decide +kernel
theorem dX5_leading_60 : decode cX5_leading 60 = .ok (.aload_n 0, 1) := by decide +kernel
theorem dX5_leading_61 : decode cX5_leading 61 = .ok (.getfield 41, 3) := by decide +kernel
theorem dX5_leading_64 : decode cX5_leading 64 = .ok (.aload 5, 2) := by decide +kernel
theorem dX5_leading_66 : decode cX5_leading 66 = .ok (.iload_n 2, 1) := by decide +kernel
theorem dX5_leading_67 : decode cX5_leading 67 = .ok (.iload_n 3, 1) := by decide +kernel
theorem dX5_leading_68 : decode cX5_leading 68 = .ok (.iload 4, 2) := by decide +kernel
theorem dX5_leading_70 : decode cX5_leading 70 = .ok (.invokevirtual 180, 3) := by decide +kernel
theorem dX5_leading_73 : decode cX5_leading 73 = .ok (.lreturn, 1) := by decide +kernel
theorem dX5_emptyTheRow_0 : decode cX5_emptyTheRow 0 = .ok (.aload_n 0, 1) := by decide +kernel
theorem dX5_emptyTheRow_1 : decode cX5_emptyTheRow 1 = .ok (.getfield 21, 3) := by decide +kernel
theorem dX5_emptyTheRow_4 : decode cX5_emptyTheRow 4 = .ok (.iconst 0, 1) := by decide +kernel
theorem dX5_emptyTheRow_5 : decode cX5_emptyTheRow 5 = .ok (.invokestatic 235, 3) := by decide +kernel
theorem dX5_emptyTheRow_8 : decode cX5_emptyTheRow 8 = .ok (.aload_n 0, 1) := by decide +kernel
theorem dX5_emptyTheRow_9 : decode cX5_emptyTheRow 9 = .ok (.iconst 1, 1) := by decide +kernel
theorem dX5_emptyTheRow_10 : decode cX5_emptyTheRow 10 = .ok (.putfield 199, 3) := by decide +kernel
theorem dX5_emptyTheRow_13 : decode cX5_emptyTheRow 13 = .ok (.return_, 1) := by decide +kernel
theorem dX5_isSide_0 : decode cX5_isSide 0 = .ok (.iload_n 0, 1) := by decide +kernel
theorem dX5_isSide_1 : decode cX5_isSide 1 = .ok (.iconst 1, 1) := by decide +kernel
theorem dX5_isSide_2 : decode cX5_isSide 2 = .ok (.if_icmp .lt 12, 3) := by decide +kernel
theorem dX5_isSide_5 : decode cX5_isSide 5 = .ok (.iload_n 0, 1) := by decide +kernel
theorem dX5_isSide_6 : decode cX5_isSide 6 = .ok (.iconst 5, 1) := by decide +kernel
theorem dX5_isSide_7 : decode cX5_isSide 7 = .ok (.if_icmp .gt 7, 3) := by decide +kernel
theorem dX5_isSide_10 : decode cX5_isSide 10 = .ok (.iconst 1, 1) := by decide +kernel
theorem dX5_isSide_11 : decode cX5_isSide 11 = .ok (.goto 4, 3) := by decide +kernel
theorem dX5_isSide_14 : decode cX5_isSide 14 = .ok (.iconst 0, 1) := by decide +kernel
theorem dX5_isSide_15 : decode cX5_isSide 15 = .ok (.ireturn, 1) := by decide +kernel
theorem dX5_isNumber_0 : decode cX5_isNumber 0 = .ok (.lload_n 0, 1) := by decide +kernel
theorem dX5_isNumber_1 : decode cX5_isNumber 1 = .ok (.ldc2_w 241, 3) := by decide +kernel
theorem dX5_isNumber_4 : decode cX5_isNumber 4 = .ok (.lcmp, 1) := by decide +kernel
theorem dX5_isNumber_5 : decode cX5_isNumber 5 = .ok (.ifCond .lt 15, 3) := by decide +kernel
theorem dX5_isNumber_8 : decode cX5_isNumber 8 = .ok (.lload_n 0, 1) := by decide +kernel
theorem dX5_isNumber_9 : decode cX5_isNumber 9 = .ok (.ldc2_w 243, 3) := by decide +kernel
theorem dX5_isNumber_12 : decode cX5_isNumber 12 = .ok (.lcmp, 1) := by decide +kernel
theorem dX5_isNumber_13 : decode cX5_isNumber 13 = .ok (.ifCond .gt 7, 3) := by decide +kernel
theorem dX5_isNumber_16 : decode cX5_isNumber 16 = .ok (.iconst 1, 1) := by decide +kernel
theorem dX5_isNumber_17 : decode cX5_isNumber 17 = .ok (.goto 4, 3) := by decide +kernel
theorem dX5_isNumber_20 : decode cX5_isNumber 20 = .ok (.iconst 0, 1) := by decide +kernel
theorem dX5_isNumber_21 : decode cX5_isNumber 21 = .ok (.ireturn, 1) := by decide +kernel
theorem dX5_areSome_0 : decode cX5_areSome 0 = .ok (.iload_n 0, 1) := by decide +kernel
theorem dX5_areSome_1 : decode cX5_areSome 1 = .ok (.ifCond .le 14, 3) := by decide +kernel
theorem dX5_areSome_4 : decode cX5_areSome 4 = .ok (.iload_n 0, 1) := by decide +kernel
theorem dX5_areSome_5 : decode cX5_areSome 5 = .ok (.iconst 1, 1) := by decide +kernel
theorem dX5_areSome_6 : decode cX5_areSome 6 = .ok (.iload_n 1, 1) := by decide +kernel
theorem dX5_areSome_7 : decode cX5_areSome 7 = .ok (.ishl, 1) := by decide +kernel
theorem dX5_areSome_8 : decode cX5_areSome 8 = .ok (.if_icmp .ge 7, 3) := by decide +kernel
theorem dX5_areSome_11 : decode cX5_areSome 11 = .ok (.iconst 1, 1) := by decide +kernel
theorem dX5_areSome_12 : decode cX5_areSome 12 = .ok (.goto 4, 3) := by decide +kernel
theorem dX5_areSome_15 : decode cX5_areSome 15 = .ok (.iconst 0, 1) := by decide +kernel
theorem dX5_areSome_16 : decode cX5_areSome 16 = .ok (.ireturn, 1) := by decide +kernel
theorem dX5_areAsMany_0 : decode cX5_areAsMany 0 = .ok (.iload_n 0, 1) := by decide +kernel
theorem dX5_areAsMany_1 : decode cX5_areAsMany 1 = .ok (.invokestatic 138, 3) := by decide +kernel
theorem dX5_areAsMany_4 : decode cX5_areAsMany 4 = .ok (.iload_n 1, 1) := by decide +kernel
theorem dX5_areAsMany_5 : decode cX5_areAsMany 5 = .ok (.invokestatic 138, 3) := by decide +kernel
theorem dX5_areAsMany_8 : decode cX5_areAsMany 8 = .ok (.if_icmp .ne 7, 3) := by decide +kernel
theorem dX5_areAsMany_11 : decode cX5_areAsMany 11 = .ok (.iconst 1, 1) := by decide +kernel
theorem dX5_areAsMany_12 : decode cX5_areAsMany 12 = .ok (.goto 4, 3) := by decide +kernel
theorem dX5_areAsMany_15 : decode cX5_areAsMany 15 = .ok (.iconst 0, 1) := by decide +kernel
theorem dX5_areAsMany_16 : decode cX5_areAsMany 16 = .ok (.ireturn, 1) := by decide +kernel
theorem dX5_holds_0 : decode cX5_holds 0 = .ok (.iload_n 0, 1) := by decide +kernel
theorem dX5_holds_1 : decode cX5_holds 1 = .ok (.iload_n 1, 1) := by decide +kernel
theorem dX5_holds_2 : decode cX5_holds 2 = .ok (.ishr, 1) := by decide +kernel
theorem dX5_holds_3 : decode cX5_holds 3 = .ok (.iconst 1, 1) := by decide +kernel
theorem dX5_holds_4 : decode cX5_holds 4 = .ok (.iand, 1) := by decide +kernel
theorem dX5_holds_5 : decode cX5_holds 5 = .ok (.iconst 1, 1) := by decide +kernel
theorem dX5_holds_6 : decode cX5_holds 6 = .ok (.if_icmp .ne 7, 3) := by decide +kernel
theorem dX5_holds_9 : decode cX5_holds 9 = .ok (.iconst 1, 1) := by decide +kernel
theorem dX5_holds_10 : decode cX5_holds 10 = .ok (.goto 4, 3) := by decide +kernel
theorem dX5_holds_13 : decode cX5_holds 13 = .ok (.iconst 0, 1) := by decide +kernel
theorem dX5_holds_14 : decode cX5_holds 14 = .ok (.ireturn, 1) := by decide +kernel
theorem dX5_signOf_0 : decode cX5_signOf 0 = .ok (.lload_n 0, 1) := by decide +kernel
theorem dX5_signOf_1 : decode cX5_signOf 1 = .ok (.lconst 0, 1) := by decide +kernel
theorem dX5_signOf_2 : decode cX5_signOf 2 = .ok (.lcmp, 1) := by decide +kernel
theorem dX5_signOf_3 : decode cX5_signOf 3 = .ok (.ifCond .le 7, 3) := by decide +kernel
theorem dX5_signOf_6 : decode cX5_signOf 6 = .ok (.iconst 1, 1) := by decide +kernel
theorem dX5_signOf_7 : decode cX5_signOf 7 = .ok (.goto 14, 3) := by decide +kernel
theorem dX5_signOf_10 : decode cX5_signOf 10 = .ok (.lload_n 0, 1) := by decide +kernel
theorem dX5_signOf_11 : decode cX5_signOf 11 = .ok (.lconst 0, 1) := by decide +kernel
theorem dX5_signOf_12 : decode cX5_signOf 12 = .ok (.lcmp, 1) := by decide +kernel
theorem dX5_signOf_13 : decode cX5_signOf 13 = .ok (.ifCond .ge 7, 3) := by decide +kernel
theorem dX5_signOf_16 : decode cX5_signOf 16 = .ok (.iconst (-1), 1) := by decide +kernel
theorem dX5_signOf_17 : decode cX5_signOf 17 = .ok (.goto 4, 3) := by decide +kernel
theorem dX5_signOf_20 : decode cX5_signOf 20 = .ok (.iconst 0, 1) := by decide +kernel
theorem dX5_signOf_21 : decode cX5_signOf 21 = .ok (.ireturn, 1) := by decide +kernel
theorem dX5_rowByColumn_0 : decode cX5_rowByColumn 0 = .ok (.iconst 0, 1) := by decide +kernel
theorem dX5_rowByColumn_1 : decode cX5_rowByColumn 1 = .ok (.istore 4, 2) := by decide +kernel
theorem dX5_rowByColumn_3 : decode cX5_rowByColumn 3 = .ok (.iconst 0, 1) := by decide +kernel
theorem dX5_rowByColumn_4 : decode cX5_rowByColumn 4 = .ok (.istore 5, 2) := by decide +kernel
theorem dX5_rowByColumn_6 : decode cX5_rowByColumn 6 = .ok (.iload 5, 2) := by decide +kernel
theorem dX5_rowByColumn_8 : decode cX5_rowByColumn 8 = .ok (.aload_n 0, 1) := by decide +kernel
theorem dX5_rowByColumn_9 : decode cX5_rowByColumn 9 = .ok (.getfield 104, 3) := by decide +kernel
theorem dX5_rowByColumn_12 : decode cX5_rowByColumn 12 = .ok (.if_icmp .ge 29, 3) := by decide +kernel
theorem dX5_rowByColumn_15 : decode cX5_rowByColumn 15 = .ok (.iload 4, 2) := by decide +kernel
theorem dX5_rowByColumn_17 : decode cX5_rowByColumn 17 = .ok (.aload_n 0, 1) := by decide +kernel
theorem dX5_rowByColumn_18 : decode cX5_rowByColumn 18 = .ok (.iload_n 1, 1) := by decide +kernel
theorem dX5_rowByColumn_19 : decode cX5_rowByColumn 19 = .ok (.iload 5, 2) := by decide +kernel
theorem dX5_rowByColumn_21 : decode cX5_rowByColumn 21 = .ok (.invokevirtual 93, 3) := by decide +kernel
theorem dX5_rowByColumn_24 : decode cX5_rowByColumn 24 = .ok (.aload_n 2, 1) := by decide +kernel
theorem dX5_rowByColumn_25 : decode cX5_rowByColumn 25 = .ok (.iload 5, 2) := by decide +kernel
theorem dX5_rowByColumn_27 : decode cX5_rowByColumn 27 = .ok (.iload_n 3, 1) := by decide +kernel
theorem dX5_rowByColumn_28 : decode cX5_rowByColumn 28 = .ok (.invokevirtual 93, 3) := by decide +kernel
theorem dX5_rowByColumn_31 : decode cX5_rowByColumn 31 = .ok (.imul, 1) := by decide +kernel
theorem dX5_rowByColumn_32 : decode cX5_rowByColumn 32 = .ok (.iadd, 1) := by decide +kernel
theorem dX5_rowByColumn_33 : decode cX5_rowByColumn 33 = .ok (.istore 4, 2) := by decide +kernel
theorem dX5_rowByColumn_35 : decode cX5_rowByColumn 35 = .ok (.iinc 5 1, 3) := by decide +kernel
theorem dX5_rowByColumn_38 : decode cX5_rowByColumn 38 = .ok (.goto (-32), 3) := by decide +kernel
theorem dX5_rowByColumn_41 : decode cX5_rowByColumn 41 = .ok (.iload 4, 2) := by decide +kernel
theorem dX5_rowByColumn_43 : decode cX5_rowByColumn 43 = .ok (.ireturn, 1) := by decide +kernel
theorem dX5_takeRow_0 : decode cX5_takeRow 0 = .ok (.iconst 0, 1) := by decide +kernel
theorem dX5_takeRow_1 : decode cX5_takeRow 1 = .ok (.istore 5, 2) := by decide +kernel
theorem dX5_takeRow_3 : decode cX5_takeRow 3 = .ok (.iconst 0, 1) := by decide +kernel
theorem dX5_takeRow_4 : decode cX5_takeRow 4 = .ok (.istore 6, 2) := by decide +kernel
theorem dX5_takeRow_6 : decode cX5_takeRow 6 = .ok (.iload 6, 2) := by decide +kernel
theorem dX5_takeRow_8 : decode cX5_takeRow 8 = .ok (.aload_n 2, 1) := by decide +kernel
theorem dX5_takeRow_9 : decode cX5_takeRow 9 = .ok (.getfield 104, 3) := by decide +kernel
theorem dX5_takeRow_12 : decode cX5_takeRow 12 = .ok (.if_icmp .ge 37, 3) := by decide +kernel
theorem dX5_takeRow_15 : decode cX5_takeRow 15 = .ok (.iload 4, 2) := by decide +kernel
theorem dX5_takeRow_17 : decode cX5_takeRow 17 = .ok (.iload 6, 2) := by decide +kernel
theorem dX5_takeRow_19 : decode cX5_takeRow 19 = .ok (.invokestatic 143, 3) := by decide +kernel
theorem dX5_takeRow_22 : decode cX5_takeRow 22 = .ok (.ifCond .eq 21, 3) := by decide +kernel
theorem dX5_takeRow_25 : decode cX5_takeRow 25 = .ok (.aload_n 0, 1) := by decide +kernel
theorem dX5_takeRow_26 : decode cX5_takeRow 26 = .ok (.iload_n 1, 1) := by decide +kernel
theorem dX5_takeRow_27 : decode cX5_takeRow 27 = .ok (.iload 5, 2) := by decide +kernel
theorem dX5_takeRow_29 : decode cX5_takeRow 29 = .ok (.aload_n 2, 1) := by decide +kernel
theorem dX5_takeRow_30 : decode cX5_takeRow 30 = .ok (.iload_n 3, 1) := by decide +kernel
theorem dX5_takeRow_31 : decode cX5_takeRow 31 = .ok (.iload 6, 2) := by decide +kernel
theorem dX5_takeRow_33 : decode cX5_takeRow 33 = .ok (.invokevirtual 93, 3) := by decide +kernel
theorem dX5_takeRow_36 : decode cX5_takeRow 36 = .ok (.i2l, 1) := by decide +kernel
theorem dX5_takeRow_37 : decode cX5_takeRow 37 = .ok (.invokevirtual 97, 3) := by decide +kernel
theorem dX5_takeRow_40 : decode cX5_takeRow 40 = .ok (.iinc 5 1, 3) := by decide +kernel
theorem dX5_takeRow_43 : decode cX5_takeRow 43 = .ok (.iinc 6 1, 3) := by decide +kernel
theorem dX5_takeRow_46 : decode cX5_takeRow 46 = .ok (.goto (-40), 3) := by decide +kernel
theorem dX5_takeRow_49 : decode cX5_takeRow 49 = .ok (.return_, 1) := by decide +kernel
theorem dX5_exchange_0 : decode cX5_exchange 0 = .ok (.aload_n 0, 1) := by decide +kernel
theorem dX5_exchange_1 : decode cX5_exchange 1 = .ok (.aload_n 1, 1) := by decide +kernel
theorem dX5_exchange_2 : decode cX5_exchange 2 = .ok (.getfield 104, 3) := by decide +kernel
theorem dX5_exchange_5 : decode cX5_exchange 5 = .ok (.aload_n 1, 1) := by decide +kernel
theorem dX5_exchange_6 : decode cX5_exchange 6 = .ok (.getfield 101, 3) := by decide +kernel
theorem dX5_exchange_9 : decode cX5_exchange 9 = .ok (.iconst 3, 1) := by decide +kernel
theorem dX5_exchange_10 : decode cX5_exchange 10 = .ok (.invokevirtual 66, 3) := by decide +kernel
theorem dX5_exchange_13 : decode cX5_exchange 13 = .ok (.iconst 0, 1) := by decide +kernel
theorem dX5_exchange_14 : decode cX5_exchange 14 = .ok (.istore_n 2, 1) := by decide +kernel
theorem dX5_exchange_15 : decode cX5_exchange 15 = .ok (.iload_n 2, 1) := by decide +kernel
theorem dX5_exchange_16 : decode cX5_exchange 16 = .ok (.aload_n 1, 1) := by decide +kernel
theorem dX5_exchange_17 : decode cX5_exchange 17 = .ok (.getfield 101, 3) := by decide +kernel
theorem dX5_exchange_20 : decode cX5_exchange 20 = .ok (.if_icmp .ge 38, 3) := by decide +kernel
theorem dX5_exchange_23 : decode cX5_exchange 23 = .ok (.iconst 0, 1) := by decide +kernel
theorem dX5_exchange_24 : decode cX5_exchange 24 = .ok (.istore_n 3, 1) := by decide +kernel
theorem dX5_exchange_25 : decode cX5_exchange 25 = .ok (.iload_n 3, 1) := by decide +kernel
theorem dX5_exchange_26 : decode cX5_exchange 26 = .ok (.aload_n 1, 1) := by decide +kernel
theorem dX5_exchange_27 : decode cX5_exchange 27 = .ok (.getfield 104, 3) := by decide +kernel
theorem dX5_exchange_30 : decode cX5_exchange 30 = .ok (.if_icmp .ge 22, 3) := by decide +kernel
theorem dX5_exchange_33 : decode cX5_exchange 33 = .ok (.aload_n 0, 1) := by decide +kernel
theorem dX5_exchange_34 : decode cX5_exchange 34 = .ok (.iload_n 3, 1) := by decide +kernel
theorem dX5_exchange_35 : decode cX5_exchange 35 = .ok (.iload_n 2, 1) := by decide +kernel
theorem dX5_exchange_36 : decode cX5_exchange 36 = .ok (.aload_n 1, 1) := by decide +kernel
theorem dX5_exchange_37 : decode cX5_exchange 37 = .ok (.iload_n 2, 1) := by decide +kernel
theorem dX5_exchange_38 : decode cX5_exchange 38 = .ok (.iload_n 3, 1) := by decide +kernel
theorem dX5_exchange_39 : decode cX5_exchange 39 = .ok (.invokevirtual 93, 3) := by decide +kernel
theorem dX5_exchange_42 : decode cX5_exchange 42 = .ok (.i2l, 1) := by decide +kernel
theorem dX5_exchange_43 : decode cX5_exchange 43 = .ok (.invokevirtual 97, 3) := by decide +kernel
theorem dX5_exchange_46 : decode cX5_exchange 46 = .ok (.iinc 3 1, 3) := by decide +kernel
theorem dX5_exchange_49 : decode cX5_exchange 49 = .ok (.goto (-24), 3) := by decide +kernel
theorem dX5_exchange_52 : decode cX5_exchange 52 = .ok (.iinc 2 1, 3) := by decide +kernel
theorem dX5_exchange_55 : decode cX5_exchange 55 = .ok (.goto (-40), 3) := by decide +kernel
theorem dX5_exchange_58 : decode cX5_exchange 58 = .ok (.return_, 1) := by decide +kernel
theorem dX5_reverse_0 : decode cX5_reverse 0 = .ok (.aload_n 0, 1) := by decide +kernel
theorem dX5_reverse_1 : decode cX5_reverse 1 = .ok (.aload_n 1, 1) := by decide +kernel
theorem dX5_reverse_2 : decode cX5_reverse 2 = .ok (.getfield 101, 3) := by decide +kernel
theorem dX5_reverse_5 : decode cX5_reverse 5 = .ok (.aload_n 1, 1) := by decide +kernel
theorem dX5_reverse_6 : decode cX5_reverse 6 = .ok (.getfield 104, 3) := by decide +kernel
theorem dX5_reverse_9 : decode cX5_reverse 9 = .ok (.iconst 3, 1) := by decide +kernel
theorem dX5_reverse_10 : decode cX5_reverse 10 = .ok (.invokevirtual 66, 3) := by decide +kernel
theorem dX5_reverse_13 : decode cX5_reverse 13 = .ok (.iconst 0, 1) := by decide +kernel
theorem dX5_reverse_14 : decode cX5_reverse 14 = .ok (.istore_n 3, 1) := by decide +kernel
theorem dX5_reverse_15 : decode cX5_reverse 15 = .ok (.iload_n 3, 1) := by decide +kernel
theorem dX5_reverse_16 : decode cX5_reverse 16 = .ok (.aload_n 1, 1) := by decide +kernel
theorem dX5_reverse_17 : decode cX5_reverse 17 = .ok (.getfield 101, 3) := by decide +kernel
theorem dX5_reverse_20 : decode cX5_reverse 20 = .ok (.if_icmp .ge 69, 3) := by decide +kernel
theorem dX5_reverse_23 : decode cX5_reverse 23 = .ok (.iconst 0, 1) := by decide +kernel
theorem dX5_reverse_24 : decode cX5_reverse 24 = .ok (.istore 4, 2) := by decide +kernel
theorem dX5_reverse_26 : decode cX5_reverse 26 = .ok (.iload 4, 2) := by decide +kernel
theorem dX5_reverse_28 : decode cX5_reverse 28 = .ok (.aload_n 1, 1) := by decide +kernel
theorem dX5_reverse_29 : decode cX5_reverse 29 = .ok (.getfield 104, 3) := by decide +kernel
theorem dX5_reverse_32 : decode cX5_reverse 32 = .ok (.if_icmp .ge 51, 3) := by decide +kernel
theorem dX5_reverse_35 : decode cX5_reverse 35 = .ok (.iload_n 2, 1) := by decide +kernel
theorem dX5_reverse_36 : decode cX5_reverse 36 = .ok (.ifCond .eq 15, 3) := by decide +kernel
theorem dX5_reverse_39 : decode cX5_reverse 39 = .ok (.aload_n 1, 1) := by decide +kernel
theorem dX5_reverse_40 : decode cX5_reverse 40 = .ok (.getfield 104, 3) := by decide +kernel
theorem dX5_reverse_43 : decode cX5_reverse 43 = .ok (.iconst 1, 1) := by decide +kernel
theorem dX5_reverse_44 : decode cX5_reverse 44 = .ok (.isub, 1) := by decide +kernel
theorem dX5_reverse_45 : decode cX5_reverse 45 = .ok (.iload 4, 2) := by decide +kernel
theorem dX5_reverse_47 : decode cX5_reverse 47 = .ok (.isub, 1) := by decide +kernel
theorem dX5_reverse_48 : decode cX5_reverse 48 = .ok (.goto 5, 3) := by decide +kernel
theorem dX5_reverse_51 : decode cX5_reverse 51 = .ok (.iload 4, 2) := by decide +kernel
theorem dX5_reverse_53 : decode cX5_reverse 53 = .ok (.istore 5, 2) := by decide +kernel
theorem dX5_reverse_55 : decode cX5_reverse 55 = .ok (.aload_n 0, 1) := by decide +kernel
theorem dX5_reverse_56 : decode cX5_reverse 56 = .ok (.aload_n 1, 1) := by decide +kernel
theorem dX5_reverse_57 : decode cX5_reverse 57 = .ok (.getfield 101, 3) := by decide +kernel
theorem dX5_reverse_60 : decode cX5_reverse 60 = .ok (.iconst 1, 1) := by decide +kernel
theorem dX5_reverse_61 : decode cX5_reverse 61 = .ok (.isub, 1) := by decide +kernel
theorem dX5_reverse_62 : decode cX5_reverse 62 = .ok (.iload_n 3, 1) := by decide +kernel
theorem dX5_reverse_63 : decode cX5_reverse 63 = .ok (.isub, 1) := by decide +kernel
theorem dX5_reverse_64 : decode cX5_reverse 64 = .ok (.iload 5, 2) := by decide +kernel
theorem dX5_reverse_66 : decode cX5_reverse 66 = .ok (.aload_n 1, 1) := by decide +kernel
theorem dX5_reverse_67 : decode cX5_reverse 67 = .ok (.iload_n 3, 1) := by decide +kernel
theorem dX5_reverse_68 : decode cX5_reverse 68 = .ok (.iload 4, 2) := by decide +kernel
theorem dX5_reverse_70 : decode cX5_reverse 70 = .ok (.invokevirtual 93, 3) := by decide +kernel
theorem dX5_reverse_73 : decode cX5_reverse 73 = .ok (.i2l, 1) := by decide +kernel
theorem dX5_reverse_74 : decode cX5_reverse 74 = .ok (.invokevirtual 97, 3) := by decide +kernel
theorem dX5_reverse_77 : decode cX5_reverse 77 = .ok (.iinc 4 1, 3) := by decide +kernel
theorem dX5_reverse_80 : decode cX5_reverse 80 = .ok (.goto (-54), 3) := by decide +kernel
theorem dX5_reverse_83 : decode cX5_reverse 83 = .ok (.iinc 3 1, 3) := by decide +kernel
theorem dX5_reverse_86 : decode cX5_reverse 86 = .ok (.goto (-71), 3) := by decide +kernel
theorem dX5_reverse_89 : decode cX5_reverse 89 = .ok (.return_, 1) := by decide +kernel
theorem dX5_signChanges_0 : decode cX5_signChanges 0 = .ok (.iconst 0, 1) := by decide +kernel
theorem dX5_signChanges_1 : decode cX5_signChanges 1 = .ok (.istore_n 2, 1) := by decide +kernel
theorem dX5_signChanges_2 : decode cX5_signChanges 2 = .ok (.iconst 0, 1) := by decide +kernel
theorem dX5_signChanges_3 : decode cX5_signChanges 3 = .ok (.istore_n 3, 1) := by decide +kernel
theorem dX5_signChanges_4 : decode cX5_signChanges 4 = .ok (.iconst 0, 1) := by decide +kernel
theorem dX5_signChanges_5 : decode cX5_signChanges 5 = .ok (.istore 4, 2) := by decide +kernel
theorem dX5_signChanges_7 : decode cX5_signChanges 7 = .ok (.iload 4, 2) := by decide +kernel
theorem dX5_signChanges_9 : decode cX5_signChanges 9 = .ok (.iload_n 1, 1) := by decide +kernel
theorem dX5_signChanges_10 : decode cX5_signChanges 10 = .ok (.if_icmp .ge 49, 3) := by decide +kernel
theorem dX5_signChanges_13 : decode cX5_signChanges 13 = .ok (.iload 4, 2) := by decide +kernel
theorem dX5_signChanges_15 : decode cX5_signChanges 15 = .ok (.aload_n 0, 1) := by decide +kernel
theorem dX5_signChanges_16 : decode cX5_signChanges 16 = .ok (.arraylength, 1) := by decide +kernel
theorem dX5_signChanges_17 : decode cX5_signChanges 17 = .ok (.if_icmp .ge 42, 3) := by decide +kernel
theorem dX5_signChanges_20 : decode cX5_signChanges 20 = .ok (.aload_n 0, 1) := by decide +kernel
theorem dX5_signChanges_21 : decode cX5_signChanges 21 = .ok (.iload 4, 2) := by decide +kernel
theorem dX5_signChanges_23 : decode cX5_signChanges 23 = .ok (.iaload, 1) := by decide +kernel
theorem dX5_signChanges_24 : decode cX5_signChanges 24 = .ok (.i2l, 1) := by decide +kernel
theorem dX5_signChanges_25 : decode cX5_signChanges 25 = .ok (.invokestatic 245, 3) := by decide +kernel
theorem dX5_signChanges_28 : decode cX5_signChanges 28 = .ok (.istore 5, 2) := by decide +kernel
theorem dX5_signChanges_30 : decode cX5_signChanges 30 = .ok (.iload 5, 2) := by decide +kernel
theorem dX5_signChanges_32 : decode cX5_signChanges 32 = .ok (.iload_n 3, 1) := by decide +kernel
theorem dX5_signChanges_33 : decode cX5_signChanges 33 = .ok (.ineg, 1) := by decide +kernel
theorem dX5_signChanges_34 : decode cX5_signChanges 34 = .ok (.if_icmp .ne 11, 3) := by decide +kernel
theorem dX5_signChanges_37 : decode cX5_signChanges 37 = .ok (.iload 5, 2) := by decide +kernel
theorem dX5_signChanges_39 : decode cX5_signChanges 39 = .ok (.ifCond .eq 6, 3) := by decide +kernel
theorem dX5_signChanges_42 : decode cX5_signChanges 42 = .ok (.iinc 2 1, 3) := by decide +kernel
theorem dX5_signChanges_45 : decode cX5_signChanges 45 = .ok (.iload 5, 2) := by decide +kernel
theorem dX5_signChanges_47 : decode cX5_signChanges 47 = .ok (.ifCond .eq 6, 3) := by decide +kernel
theorem dX5_signChanges_50 : decode cX5_signChanges 50 = .ok (.iload 5, 2) := by decide +kernel
theorem dX5_signChanges_52 : decode cX5_signChanges 52 = .ok (.istore_n 3, 1) := by decide +kernel
theorem dX5_signChanges_53 : decode cX5_signChanges 53 = .ok (.iinc 4 1, 3) := by decide +kernel
theorem dX5_signChanges_56 : decode cX5_signChanges 56 = .ok (.goto (-49), 3) := by decide +kernel
theorem dX5_signChanges_59 : decode cX5_signChanges 59 = .ok (.iload_n 2, 1) := by decide +kernel
theorem dX5_signChanges_60 : decode cX5_signChanges 60 = .ok (.ireturn, 1) := by decide +kernel
