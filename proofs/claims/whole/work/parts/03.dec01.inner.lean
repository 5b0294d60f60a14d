theorem dX0_init_0 : decode cX0_init 0 = .ok (.aload_n 0, 1) := by decide +kernel
theorem dX0_init_1 : decode cX0_init 1 = .ok (.invokespecial 3, 3) := by decide +kernel
theorem dX0_init_4 : decode cX0_init 4 = .ok (.aload_n 0, 1) := by decide +kernel
theorem dX0_init_5 : decode cX0_init 5 = .ok (.new 9, 3) := by decide +kernel
theorem dX0_init_8 : decode cX0_init 8 = .ok (.dup, 1) := by decide +kernel
theorem dX0_init_9 : decode cX0_init 9 = .ok (.bipush 11, 2) := by decide +kernel
theorem dX0_init_11 : decode cX0_init 11 = .ok (.invokespecial 11, 3) := by decide +kernel
theorem dX0_init_14 : decode cX0_init 14 = .ok (.putfield 14, 3) := by decide +kernel
theorem dX0_init_17 : decode cX0_init 17 = .ok (.aload_n 0, 1) := by decide +kernel
theorem dX0_init_18 : decode cX0_init 18 = .ok (.iconst 0, 1) := by decide +kernel
theorem dX0_init_19 : decode cX0_init 19 = .ok (.putfield 20, 3) := by decide +kernel
theorem dX0_init_22 : decode cX0_init 22 = .ok (.aload_n 0, 1) := by decide +kernel
theorem dX0_init_23 : decode cX0_init 23 = .ok (.bipush (-2), 2) := by decide +kernel
theorem dX0_init_25 : decode cX0_init 25 = .ok (.putfield 24, 3) := by decide +kernel
theorem dX0_init_28 : decode cX0_init 28 = .ok (.aload_n 0, 1) := by decide +kernel
theorem dX0_init_29 : decode cX0_init 29 = .ok (.bipush (-2), 2) := by decide +kernel
theorem dX0_init_31 : decode cX0_init 31 = .ok (.putfield 27, 3) := by decide +kernel
theorem dX0_init_34 : decode cX0_init 34 = .ok (.return_, 1) := by decide +kernel
theorem dX0_begin_0 : decode cX0_begin 0 = .ok (.aload_n 0, 1) := by decide +kernel
theorem dX0_begin_1 : decode cX0_begin 1 = .ok (.getfield 14, 3) := by decide +kernel
theorem dX0_begin_4 : decode cX0_begin 4 = .ok (.iconst 0, 1) := by decide +kernel
theorem dX0_begin_5 : decode cX0_begin 5 = .ok (.invokevirtual 30, 3) := by decide +kernel
theorem dX0_begin_8 : decode cX0_begin 8 = .ok (.aload_n 0, 1) := by decide +kernel
theorem dX0_begin_9 : decode cX0_begin 9 = .ok (.getfield 14, 3) := by decide +kernel
theorem dX0_begin_12 : decode cX0_begin 12 = .ok (.aload_n 1, 1) := by decide +kernel
theorem dX0_begin_13 : decode cX0_begin 13 = .ok (.invokevirtual 33, 3) := by decide +kernel
theorem dX0_begin_16 : decode cX0_begin 16 = .ok (.aload_n 0, 1) := by decide +kernel
theorem dX0_begin_17 : decode cX0_begin 17 = .ok (.iconst 0, 1) := by decide +kernel
theorem dX0_begin_18 : decode cX0_begin 18 = .ok (.putfield 20, 3) := by decide +kernel
theorem dX0_begin_21 : decode cX0_begin 21 = .ok (.aload_n 0, 1) := by decide +kernel
theorem dX0_begin_22 : decode cX0_begin 22 = .ok (.bipush (-2), 2) := by decide +kernel
theorem dX0_begin_24 : decode cX0_begin 24 = .ok (.putfield 24, 3) := by decide +kernel
theorem dX0_begin_27 : decode cX0_begin 27 = .ok (.aload_n 0, 1) := by decide +kernel
theorem dX0_begin_28 : decode cX0_begin 28 = .ok (.bipush (-2), 2) := by decide +kernel
theorem dX0_begin_30 : decode cX0_begin 30 = .ok (.putfield 27, 3) := by decide +kernel
theorem dX0_begin_33 : decode cX0_begin 33 = .ok (.return_, 1) := by decide +kernel
theorem dX0_trusted_0 : decode cX0_trusted 0 = .ok (.aload_n 0, 1) := by decide +kernel
theorem dX0_trusted_1 : decode cX0_trusted 1 = .ok (.getfield 14, 3) := by decide +kernel
theorem dX0_trusted_4 : decode cX0_trusted 4 = .ok (.aload_n 0, 1) := by decide +kernel
theorem dX0_trusted_5 : decode cX0_trusted 5 = .ok (.getfield 14, 3) := by decide +kernel
theorem dX0_trusted_8 : decode cX0_trusted 8 = .ok (.getfield 37, 3) := by decide +kernel
theorem dX0_trusted_11 : decode cX0_trusted 11 = .ok (.iconst 1, 1) := by decide +kernel
theorem dX0_trusted_12 : decode cX0_trusted 12 = .ok (.isub, 1) := by decide +kernel
theorem dX0_trusted_13 : decode cX0_trusted 13 = .ok (.invokevirtual 40, 3) := by decide +kernel
theorem dX0_trusted_16 : decode cX0_trusted 16 = .ok (.areturn, 1) := by decide +kernel
theorem dX0_keep_0 : decode cX0_keep 0 = .ok (.aload_n 0, 1) := by decide +kernel
theorem dX0_keep_1 : decode cX0_keep 1 = .ok (.getfield 14, 3) := by decide +kernel
theorem dX0_keep_4 : decode cX0_keep 4 = .ok (.aload_n 1, 1) := by decide +kernel
theorem dX0_keep_5 : decode cX0_keep 5 = .ok (.invokevirtual 33, 3) := by decide +kernel
theorem dX0_keep_8 : decode cX0_keep 8 = .ok (.aload_n 0, 1) := by decide +kernel
theorem dX0_keep_9 : decode cX0_keep 9 = .ok (.getfield 14, 3) := by decide +kernel
theorem dX0_keep_12 : decode cX0_keep 12 = .ok (.getfield 37, 3) := by decide +kernel
theorem dX0_keep_15 : decode cX0_keep 15 = .ok (.iload_n 2, 1) := by decide +kernel
theorem dX0_keep_16 : decode cX0_keep 16 = .ok (.isub, 1) := by decide +kernel
theorem dX0_keep_17 : decode cX0_keep 17 = .ok (.istore_n 3, 1) := by decide +kernel
theorem dX0_keep_18 : decode cX0_keep 18 = .ok (.iload_n 3, 1) := by decide +kernel
theorem dX0_keep_19 : decode cX0_keep 19 = .ok (.ifCond .gt 4, 3) := by decide +kernel
theorem dX0_keep_22 : decode cX0_keep 22 = .ok (.return_, 1) := by decide +kernel
theorem dX0_keep_23 : decode cX0_keep 23 = .ok (.iconst 1, 1) := by decide +kernel
theorem dX0_keep_24 : decode cX0_keep 24 = .ok (.istore 4, 2) := by decide +kernel
theorem dX0_keep_26 : decode cX0_keep 26 = .ok (.iload 4, 2) := by decide +kernel
theorem dX0_keep_28 : decode cX0_keep 28 = .ok (.iload_n 2, 1) := by decide +kernel
theorem dX0_keep_29 : decode cX0_keep 29 = .ok (.if_icmp .ge 29, 3) := by decide +kernel
theorem dX0_keep_32 : decode cX0_keep 32 = .ok (.aload_n 0, 1) := by decide +kernel
theorem dX0_keep_33 : decode cX0_keep 33 = .ok (.getfield 14, 3) := by decide +kernel
theorem dX0_keep_36 : decode cX0_keep 36 = .ok (.iload 4, 2) := by decide +kernel
theorem dX0_keep_38 : decode cX0_keep 38 = .ok (.aload_n 0, 1) := by decide +kernel
theorem dX0_keep_39 : decode cX0_keep 39 = .ok (.getfield 14, 3) := by decide +kernel
theorem dX0_keep_42 : decode cX0_keep 42 = .ok (.iload 4, 2) := by decide +kernel
theorem dX0_keep_44 : decode cX0_keep 44 = .ok (.iload_n 3, 1) := by decide +kernel
theorem dX0_keep_45 : decode cX0_keep 45 = .ok (.iadd, 1) := by decide +kernel
theorem dX0_keep_46 : decode cX0_keep 46 = .ok (.invokevirtual 40, 3) := by decide +kernel
theorem dX0_keep_49 : decode cX0_keep 49 = .ok (.invokevirtual 44, 3) := by decide +kernel
theorem dX0_keep_52 : decode cX0_keep 52 = .ok (.iinc 4 1, 3) := by decide +kernel
theorem dX0_keep_55 : decode cX0_keep 55 = .ok (.goto (-29), 3) := by decide +kernel
theorem dX0_keep_58 : decode cX0_keep 58 = .ok (.aload_n 0, 1) := by decide +kernel
theorem dX0_keep_59 : decode cX0_keep 59 = .ok (.getfield 14, 3) := by decide +kernel
theorem dX0_keep_62 : decode cX0_keep 62 = .ok (.iload_n 2, 1) := by decide +kernel
theorem dX0_keep_63 : decode cX0_keep 63 = .ok (.invokevirtual 30, 3) := by decide +kernel
theorem dX0_keep_66 : decode cX0_keep 66 = .ok (.return_, 1) := by decide +kernel
theorem dX0_refuse_0 : decode cX0_refuse 0 = .ok (.aload_n 0, 1) := by decide +kernel
theorem dX0_refuse_1 : decode cX0_refuse 1 = .ok (.iload_n 1, 1) := by decide +kernel
theorem dX0_refuse_2 : decode cX0_refuse 2 = .ok (.putfield 24, 3) := by decide +kernel
theorem dX0_refuse_5 : decode cX0_refuse 5 = .ok (.aload_n 0, 1) := by decide +kernel
theorem dX0_refuse_6 : decode cX0_refuse 6 = .ok (.iload_n 2, 1) := by decide +kernel
theorem dX0_refuse_7 : decode cX0_refuse 7 = .ok (.putfield 27, 3) := by decide +kernel
theorem dX0_refuse_10 : decode cX0_refuse 10 = .ok (.bipush (-10), 2) := by decide +kernel
theorem dX0_refuse_12 : decode cX0_refuse 12 = .ok (.iload_n 1, 1) := by decide +kernel
theorem dX0_refuse_13 : decode cX0_refuse 13 = .ok (.isub, 1) := by decide +kernel
theorem dX0_refuse_14 : decode cX0_refuse 14 = .ok (.ireturn, 1) := by decide +kernel
theorem dX0_lastBelow_0 : decode cX0_lastBelow 0 = .ok (.aload_n 0, 1) := by decide +kernel
theorem dX0_lastBelow_1 : decode cX0_lastBelow 1 = .ok (.getfield 14, 3) := by decide +kernel
theorem dX0_lastBelow_4 : decode cX0_lastBelow 4 = .ok (.getfield 37, 3) := by decide +kernel
theorem dX0_lastBelow_7 : decode cX0_lastBelow 7 = .ok (.iconst 1, 1) := by decide +kernel
theorem dX0_lastBelow_8 : decode cX0_lastBelow 8 = .ok (.isub, 1) := by decide +kernel
theorem dX0_lastBelow_9 : decode cX0_lastBelow 9 = .ok (.istore_n 2, 1) := by decide +kernel
theorem dX0_lastBelow_10 : decode cX0_lastBelow 10 = .ok (.iload_n 2, 1) := by decide +kernel
theorem dX0_lastBelow_11 : decode cX0_lastBelow 11 = .ok (.ifCond .lt 32, 3) := by decide +kernel
theorem dX0_lastBelow_14 : decode cX0_lastBelow 14 = .ok (.aload_n 0, 1) := by decide +kernel
theorem dX0_lastBelow_15 : decode cX0_lastBelow 15 = .ok (.getfield 14, 3) := by decide +kernel
theorem dX0_lastBelow_18 : decode cX0_lastBelow 18 = .ok (.iload_n 2, 1) := by decide +kernel
theorem dX0_lastBelow_19 : decode cX0_lastBelow 19 = .ok (.invokevirtual 40, 3) := by decide +kernel
theorem dX0_lastBelow_22 : decode cX0_lastBelow 22 = .ok (.astore_n 3, 1) := by decide +kernel
theorem dX0_lastBelow_23 : decode cX0_lastBelow 23 = .ok (.aload_n 3, 1) := by decide +kernel
theorem dX0_lastBelow_24 : decode cX0_lastBelow 24 = .ok (.ifnull 13, 3) := by decide +kernel
theorem dX0_lastBelow_27 : decode cX0_lastBelow 27 = .ok (.aload_n 3, 1) := by decide +kernel
theorem dX0_lastBelow_28 : decode cX0_lastBelow 28 = .ok (.getfield 48, 3) := by decide +kernel
theorem dX0_lastBelow_31 : decode cX0_lastBelow 31 = .ok (.iload_n 1, 1) := by decide +kernel
theorem dX0_lastBelow_32 : decode cX0_lastBelow 32 = .ok (.if_icmp .ge 5, 3) := by decide +kernel
theorem dX0_lastBelow_35 : decode cX0_lastBelow 35 = .ok (.aload_n 3, 1) := by decide +kernel
theorem dX0_lastBelow_36 : decode cX0_lastBelow 36 = .ok (.areturn, 1) := by decide +kernel
theorem dX0_lastBelow_37 : decode cX0_lastBelow 37 = .ok (.iinc 2 (-1), 3) := by decide +kernel
theorem dX0_lastBelow_40 : decode cX0_lastBelow 40 = .ok (.goto (-30), 3) := by decide +kernel
theorem dX0_lastBelow_43 : decode cX0_lastBelow 43 = .ok (.aconst_null, 1) := by decide +kernel
theorem dX0_lastBelow_44 : decode cX0_lastBelow 44 = .ok (.areturn, 1) := by decide +kernel
theorem dX1_init_0 : decode cX1_init 0 = .ok (.aload_n 0, 1) := by decide +kernel
theorem dX1_init_1 : decode cX1_init 1 = .ok (.invokespecial 3, 3) := by decide +kernel
theorem dX1_init_4 : decode cX1_init 4 = .ok (.aload_n 0, 1) := by decide +kernel
theorem dX1_init_5 : decode cX1_init 5 = .ok (.new 9, 3) := by decide +kernel
theorem dX1_init_8 : decode cX1_init 8 = .ok (.dup, 1) := by decide +kernel
theorem dX1_init_9 : decode cX1_init 9 = .ok (.bipush 60, 2) := by decide +kernel
theorem dX1_init_11 : decode cX1_init 11 = .ok (.invokespecial 11, 3) := by decide +kernel
theorem dX1_init_14 : decode cX1_init 14 = .ok (.putfield 14, 3) := by decide +kernel
theorem dX1_init_17 : decode cX1_init 17 = .ok (.return_, 1) := by decide +kernel
theorem dX1_placeOf_0 : decode cX1_placeOf 0 = .ok (.iconst 0, 1) := by decide +kernel
theorem dX1_placeOf_1 : decode cX1_placeOf 1 = .ok (.istore_n 2, 1) := by decide +kernel
theorem dX1_placeOf_2 : decode cX1_placeOf 2 = .ok (.iload_n 2, 1) := by decide +kernel
theorem dX1_placeOf_3 : decode cX1_placeOf 3 = .ok (.aload_n 0, 1) := by decide +kernel
theorem dX1_placeOf_4 : decode cX1_placeOf 4 = .ok (.getfield 14, 3) := by decide +kernel
theorem dX1_placeOf_7 : decode cX1_placeOf 7 = .ok (.getfield 20, 3) := by decide +kernel
theorem dX1_placeOf_10 : decode cX1_placeOf 10 = .ok (.if_icmp .ge 32, 3) := by decide +kernel
theorem dX1_placeOf_13 : decode cX1_placeOf 13 = .ok (.aload_n 0, 1) := by decide +kernel
theorem dX1_placeOf_14 : decode cX1_placeOf 14 = .ok (.getfield 14, 3) := by decide +kernel
theorem dX1_placeOf_17 : decode cX1_placeOf 17 = .ok (.iload_n 2, 1) := by decide +kernel
theorem dX1_placeOf_18 : decode cX1_placeOf 18 = .ok (.invokevirtual 24, 3) := by decide +kernel
theorem dX1_placeOf_21 : decode cX1_placeOf 21 = .ok (.astore_n 3, 1) := by decide +kernel
theorem dX1_placeOf_22 : decode cX1_placeOf 22 = .ok (.aload_n 3, 1) := by decide +kernel
theorem dX1_placeOf_23 : decode cX1_placeOf 23 = .ok (.ifnull 13, 3) := by decide +kernel
theorem dX1_placeOf_26 : decode cX1_placeOf 26 = .ok (.aload_n 3, 1) := by decide +kernel
theorem dX1_placeOf_27 : decode cX1_placeOf 27 = .ok (.getfield 28, 3) := by decide +kernel
theorem dX1_placeOf_30 : decode cX1_placeOf 30 = .ok (.iload_n 1, 1) := by decide +kernel
theorem dX1_placeOf_31 : decode cX1_placeOf 31 = .ok (.if_icmp .ne 5, 3) := by decide +kernel
theorem dX1_placeOf_34 : decode cX1_placeOf 34 = .ok (.iload_n 2, 1) := by decide +kernel
theorem dX1_placeOf_35 : decode cX1_placeOf 35 = .ok (.ireturn, 1) := by decide +kernel
theorem dX1_placeOf_36 : decode cX1_placeOf 36 = .ok (.iinc 2 1, 3) := by decide +kernel
theorem dX1_placeOf_39 : decode cX1_placeOf 39 = .ok (.goto (-37), 3) := by decide +kernel
theorem dX1_placeOf_42 : decode cX1_placeOf 42 = .ok (.bipush (-2), 2) := by decide +kernel
theorem dX1_placeOf_44 : decode cX1_placeOf 44 = .ok (.ireturn, 1) := by decide +kernel
theorem dX1_headAt_0 : decode cX1_headAt 0 = .ok (.aload_n 0, 1) := by decide +kernel
theorem dX1_headAt_1 : decode cX1_headAt 1 = .ok (.getfield 14, 3) := by decide +kernel
theorem dX1_headAt_4 : decode cX1_headAt 4 = .ok (.aload_n 0, 1) := by decide +kernel
theorem dX1_headAt_5 : decode cX1_headAt 5 = .ok (.iload_n 1, 1) := by decide +kernel
theorem dX1_headAt_6 : decode cX1_headAt 6 = .ok (.invokevirtual 33, 3) := by decide +kernel
theorem dX1_headAt_9 : decode cX1_headAt 9 = .ok (.invokevirtual 24, 3) := by decide +kernel
theorem dX1_headAt_12 : decode cX1_headAt 12 = .ok (.areturn, 1) := by decide +kernel
theorem dX1_replace_0 : decode cX1_replace 0 = .ok (.aload_n 0, 1) := by decide +kernel
theorem dX1_replace_1 : decode cX1_replace 1 = .ok (.aload_n 1, 1) := by decide +kernel
theorem dX1_replace_2 : decode cX1_replace 2 = .ok (.getfield 28, 3) := by decide +kernel
theorem dX1_replace_5 : decode cX1_replace 5 = .ok (.invokevirtual 33, 3) := by decide +kernel
theorem dX1_replace_8 : decode cX1_replace 8 = .ok (.istore_n 2, 1) := by decide +kernel
theorem dX1_replace_9 : decode cX1_replace 9 = .ok (.aload_n 0, 1) := by decide +kernel
theorem dX1_replace_10 : decode cX1_replace 10 = .ok (.getfield 14, 3) := by decide +kernel
theorem dX1_replace_13 : decode cX1_replace 13 = .ok (.iload_n 2, 1) := by decide +kernel
theorem dX1_replace_14 : decode cX1_replace 14 = .ok (.invokevirtual 24, 3) := by decide +kernel
theorem dX1_replace_17 : decode cX1_replace 17 = .ok (.astore_n 3, 1) := by decide +kernel
theorem dX1_replace_18 : decode cX1_replace 18 = .ok (.aload_n 3, 1) := by decide +kernel
theorem dX1_replace_19 : decode cX1_replace 19 = .ok (.ifnonnull 14, 3) := by decide +kernel
theorem dX1_replace_22 : decode cX1_replace 22 = .ok (.aload_n 0, 1) := by decide +kernel
theorem dX1_replace_23 : decode cX1_replace 23 = .ok (.getfield 14, 3) := by decide +kernel
theorem dX1_replace_26 : decode cX1_replace 26 = .ok (.aload_n 1, 1) := by decide +kernel
theorem dX1_replace_27 : decode cX1_replace 27 = .ok (.invokevirtual 37, 3) := by decide +kernel
theorem dX1_replace_30 : decode cX1_replace 30 = .ok (.goto 12, 3) := by decide +kernel
theorem dX1_replace_33 : decode cX1_replace 33 = .ok (.aload_n 0, 1) := by decide +kernel
theorem dX1_replace_34 : decode cX1_replace 34 = .ok (.getfield 14, 3) := by decide +kernel
theorem dX1_replace_37 : decode cX1_replace 37 = .ok (.iload_n 2, 1) := by decide +kernel
theorem dX1_replace_38 : decode cX1_replace 38 = .ok (.aload_n 1, 1) := by decide +kernel
theorem dX1_replace_39 : decode cX1_replace 39 = .ok (.invokevirtual 41, 3) := by decide +kernel
theorem dX1_replace_42 : decode cX1_replace 42 = .ok (.aload_n 3, 1) := by decide +kernel
theorem dX1_replace_43 : decode cX1_replace 43 = .ok (.areturn, 1) := by decide +kernel
theorem dX1_leastUnlike_0 : decode cX1_leastUnlike 0 = .ok (.bipush (-2), 2) := by decide +kernel
theorem dX1_leastUnlike_2 : decode cX1_leastUnlike 2 = .ok (.istore_n 2, 1) := by decide +kernel
theorem dX1_leastUnlike_3 : decode cX1_leastUnlike 3 = .ok (.iconst 0, 1) := by decide +kernel
theorem dX1_leastUnlike_4 : decode cX1_leastUnlike 4 = .ok (.istore_n 3, 1) := by decide +kernel
theorem dX1_leastUnlike_5 : decode cX1_leastUnlike 5 = .ok (.iload_n 3, 1) := by decide +kernel
theorem dX1_leastUnlike_6 : decode cX1_leastUnlike 6 = .ok (.aload_n 0, 1) := by decide +kernel
theorem dX1_leastUnlike_7 : decode cX1_leastUnlike 7 = .ok (.getfield 14, 3) := by decide +kernel
theorem dX1_leastUnlike_10 : decode cX1_leastUnlike 10 = .ok (.getfield 20, 3) := by decide +kernel
theorem dX1_leastUnlike_13 : decode cX1_leastUnlike 13 = .ok (.if_icmp .ge 54, 3) := by decide +kernel
theorem dX1_leastUnlike_16 : decode cX1_leastUnlike 16 = .ok (.aload_n 0, 1) := by decide +kernel
theorem dX1_leastUnlike_17 : decode cX1_leastUnlike 17 = .ok (.getfield 14, 3) := by decide +kernel
theorem dX1_leastUnlike_20 : decode cX1_leastUnlike 20 = .ok (.iload_n 3, 1) := by decide +kernel
theorem dX1_leastUnlike_21 : decode cX1_leastUnlike 21 = .ok (.invokevirtual 24, 3) := by decide +kernel
theorem dX1_leastUnlike_24 : decode cX1_leastUnlike 24 = .ok (.astore 4, 2) := by decide +kernel
theorem dX1_leastUnlike_26 : decode cX1_leastUnlike 26 = .ok (.aload 4, 2) := by decide +kernel
theorem dX1_leastUnlike_28 : decode cX1_leastUnlike 28 = .ok (.ifnull 33, 3) := by decide +kernel
theorem dX1_leastUnlike_31 : decode cX1_leastUnlike 31 = .ok (.aload 4, 2) := by decide +kernel
theorem dX1_leastUnlike_33 : decode cX1_leastUnlike 33 = .ok (.aload_n 1, 1) := by decide +kernel
theorem dX1_leastUnlike_34 : decode cX1_leastUnlike 34 = .ok (.invokestatic 45, 3) := by decide +kernel
theorem dX1_leastUnlike_37 : decode cX1_leastUnlike 37 = .ok (.ifCond .eq 24, 3) := by decide +kernel
theorem dX1_leastUnlike_40 : decode cX1_leastUnlike 40 = .ok (.iload_n 2, 1) := by decide +kernel
theorem dX1_leastUnlike_41 : decode cX1_leastUnlike 41 = .ok (.bipush (-2), 2) := by decide +kernel
theorem dX1_leastUnlike_43 : decode cX1_leastUnlike 43 = .ok (.if_icmp .eq 12, 3) := by decide +kernel
theorem dX1_leastUnlike_46 : decode cX1_leastUnlike 46 = .ok (.aload 4, 2) := by decide +kernel
theorem dX1_leastUnlike_48 : decode cX1_leastUnlike 48 = .ok (.getfield 28, 3) := by decide +kernel
theorem dX1_leastUnlike_51 : decode cX1_leastUnlike 51 = .ok (.iload_n 2, 1) := by decide +kernel
theorem dX1_leastUnlike_52 : decode cX1_leastUnlike 52 = .ok (.if_icmp .ge 9, 3) := by decide +kernel
theorem dX1_leastUnlike_55 : decode cX1_leastUnlike 55 = .ok (.aload 4, 2) := by decide +kernel
theorem dX1_leastUnlike_57 : decode cX1_leastUnlike 57 = .ok (.getfield 28, 3) := by decide +kernel
theorem dX1_leastUnlike_60 : decode cX1_leastUnlike 60 = .ok (.istore_n 2, 1) := by decide +kernel
theorem dX1_leastUnlike_61 : decode cX1_leastUnlike 61 = .ok (.iinc 3 1, 3) := by decide +kernel
theorem dX1_leastUnlike_64 : decode cX1_leastUnlike 64 = .ok (.goto (-59), 3) := by decide +kernel
theorem dX1_leastUnlike_67 : decode cX1_leastUnlike 67 = .ok (.iload_n 2, 1) := by decide +kernel
theorem dX1_leastUnlike_68 : decode cX1_leastUnlike 68 = .ok (.ireturn, 1) := by decide +kernel
theorem dX1_isUnlike_0 : decode cX1_isUnlike 0 = .ok (.aload_n 1, 1) := by decide +kernel
theorem dX1_isUnlike_1 : decode cX1_isUnlike 1 = .ok (.aload_n 0, 1) := by decide +kernel
theorem dX1_isUnlike_2 : decode cX1_isUnlike 2 = .ok (.getfield 28, 3) := by decide +kernel
theorem dX1_isUnlike_5 : decode cX1_isUnlike 5 = .ok (.invokevirtual 49, 3) := by decide +kernel
theorem dX1_isUnlike_8 : decode cX1_isUnlike 8 = .ok (.astore_n 2, 1) := by decide +kernel
theorem dX1_isUnlike_9 : decode cX1_isUnlike 9 = .ok (.aload_n 2, 1) := by decide +kernel
theorem dX1_isUnlike_10 : decode cX1_isUnlike 10 = .ok (.ifnull 19, 3) := by decide +kernel
theorem dX1_isUnlike_13 : decode cX1_isUnlike 13 = .ok (.aload_n 2, 1) := by decide +kernel
theorem dX1_isUnlike_14 : decode cX1_isUnlike 14 = .ok (.getfield 52, 3) := by decide +kernel
theorem dX1_isUnlike_17 : decode cX1_isUnlike 17 = .ok (.aload_n 0, 1) := by decide +kernel
theorem dX1_isUnlike_18 : decode cX1_isUnlike 18 = .ok (.getfield 52, 3) := by decide +kernel
theorem dX1_isUnlike_21 : decode cX1_isUnlike 21 = .ok (.lcmp, 1) := by decide +kernel
theorem dX1_isUnlike_22 : decode cX1_isUnlike 22 = .ok (.ifCond .eq 7, 3) := by decide +kernel
theorem dX1_isUnlike_25 : decode cX1_isUnlike 25 = .ok (.iconst 1, 1) := by decide +kernel
theorem dX1_isUnlike_26 : decode cX1_isUnlike 26 = .ok (.goto 4, 3) := by decide +kernel
theorem dX1_isUnlike_29 : decode cX1_isUnlike 29 = .ok (.iconst 0, 1) := by decide +kernel
theorem dX1_isUnlike_30 : decode cX1_isUnlike 30 = .ok (.ireturn, 1) := by decide +kernel
theorem dX2_init_0 : decode cX2_init 0 = .ok (.aload_n 0, 1) := by decide +kernel
theorem dX2_init_1 : decode cX2_init 1 = .ok (.invokespecial 1, 3) := by decide +kernel
theorem dX2_init_4 : decode cX2_init 4 = .ok (.aload_n 0, 1) := by decide +kernel
theorem dX2_init_5 : decode cX2_init 5 = .ok (.iconst 0, 1) := by decide +kernel
theorem dX2_init_6 : decode cX2_init 6 = .ok (.putfield 7, 3) := by decide +kernel
theorem dX2_init_9 : decode cX2_init 9 = .ok (.aload_n 0, 1) := by decide +kernel
theorem dX2_init_10 : decode cX2_init 10 = .ok (.iload_n 1, 1) := by decide +kernel
theorem dX2_init_11 : decode cX2_init 11 = .ok (.putfield 13, 3) := by decide +kernel
theorem dX2_init_14 : decode cX2_init 14 = .ok (.aload_n 0, 1) := by decide +kernel
theorem dX2_init_15 : decode cX2_init 15 = .ok (.iload_n 2, 1) := by decide +kernel
theorem dX2_init_16 : decode cX2_init 16 = .ok (.putfield 16, 3) := by decide +kernel
theorem dX2_init_19 : decode cX2_init 19 = .ok (.aload_n 0, 1) := by decide +kernel
theorem dX2_init_20 : decode cX2_init 20 = .ok (.lload_n 3, 1) := by decide +kernel
theorem dX2_init_21 : decode cX2_init 21 = .ok (.putfield 19, 3) := by decide +kernel
theorem dX2_init_24 : decode cX2_init 24 = .ok (.aload_n 0, 1) := by decide +kernel
theorem dX2_init_25 : decode cX2_init 25 = .ok (.aload 5, 2) := by decide +kernel
theorem dX2_init_27 : decode cX2_init 27 = .ok (.putfield 23, 3) := by decide +kernel
theorem dX2_init_30 : decode cX2_init 30 = .ok (.aload_n 0, 1) := by decide +kernel
theorem dX2_init_31 : decode cX2_init 31 = .ok (.aload 6, 2) := by decide +kernel
theorem dX2_init_33 : decode cX2_init 33 = .ok (.putfield 27, 3) := by decide +kernel
theorem dX2_init_36 : decode cX2_init 36 = .ok (.aload_n 0, 1) := by decide +kernel
theorem dX2_init_37 : decode cX2_init 37 = .ok (.lload 7, 2) := by decide +kernel
theorem dX2_init_39 : decode cX2_init 39 = .ok (.putfield 30, 3) := by decide +kernel
theorem dX2_init_42 : decode cX2_init 42 = .ok (.aload_n 0, 1) := by decide +kernel
theorem dX2_init_43 : decode cX2_init 43 = .ok (.iload_n 2, 1) := by decide +kernel
theorem dX2_init_44 : decode cX2_init 44 = .ok (.i2l, 1) := by decide +kernel
theorem dX2_init_45 : decode cX2_init 45 = .ok (.lload_n 3, 1) := by decide +kernel
theorem dX2_init_46 : decode cX2_init 46 = .ok (.invokestatic 33, 3) := by decide +kernel
theorem dX2_init_49 : decode cX2_init 49 = .ok (.aload 5, 2) := by decide +kernel
theorem dX2_init_51 : decode cX2_init 51 = .ok (.getfield 39, 3) := by decide +kernel
theorem dX2_init_54 : decode cX2_init 54 = .ok (.i2l, 1) := by decide +kernel
theorem dX2_init_55 : decode cX2_init 55 = .ok (.aload 6, 2) := by decide +kernel
theorem dX2_init_57 : decode cX2_init 57 = .ok (.getfield 39, 3) := by decide +kernel
theorem dX2_init_60 : decode cX2_init 60 = .ok (.i2l, 1) := by decide +kernel
theorem dX2_init_61 : decode cX2_init 61 = .ok (.invokestatic 33, 3) := by decide +kernel
theorem dX2_init_64 : decode cX2_init 64 = .ok (.invokestatic 33, 3) := by decide +kernel
theorem dX2_init_67 : decode cX2_init 67 = .ok (.lload 7, 2) := by decide +kernel
theorem dX2_init_69 : decode cX2_init 69 = .ok (.invokestatic 33, 3) := by decide +kernel
theorem dX2_init_72 : decode cX2_init 72 = .ok (.putfield 42, 3) := by decide +kernel
theorem dX2_init_75 : decode cX2_init 75 = .ok (.return_, 1) := by decide +kernel
theorem dX3_init_0 : decode cX3_init 0 = .ok (.aload_n 0, 1) := by decide +kernel
theorem dX3_init_1 : decode cX3_init 1 = .ok (.invokespecial 1, 3) := by decide +kernel
theorem dX3_init_4 : decode cX3_init 4 = .ok (.aload_n 0, 1) := by decide +kernel
theorem dX3_init_5 : decode cX3_init 5 = .ok (.iconst 0, 1) := by decide +kernel
theorem dX3_init_6 : decode cX3_init 6 = .ok (.putfield 7, 3) := by decide +kernel
theorem dX3_init_9 : decode cX3_init 9 = .ok (.aload_n 0, 1) := by decide +kernel
theorem dX3_init_10 : decode cX3_init 10 = .ok (.iconst 0, 1) := by decide +kernel
theorem dX3_init_11 : decode cX3_init 11 = .ok (.iload_n 1, 1) := by decide +kernel
theorem dX3_init_12 : decode cX3_init 12 = .ok (.invokestatic 13, 3) := by decide +kernel
theorem dX3_init_15 : decode cX3_init 15 = .ok (.anewarray 19, 3) := by decide +kernel
theorem dX3_init_18 : decode cX3_init 18 = .ok (.putfield 21, 3) := by decide +kernel
theorem dX3_init_21 : decode cX3_init 21 = .ok (.return_, 1) := by decide +kernel
theorem dX3_at_0 : decode cX3_at 0 = .ok (.iload_n 1, 1) := by decide +kernel
theorem dX3_at_1 : decode cX3_at 1 = .ok (.ifCond .lt 29, 3) := by decide +kernel
theorem dX3_at_4 : decode cX3_at 4 = .ok (.iload_n 1, 1) := by decide +kernel
theorem dX3_at_5 : decode cX3_at 5 = .ok (.aload_n 0, 1) := by decide +kernel
theorem dX3_at_6 : decode cX3_at 6 = .ok (.getfield 7, 3) := by decide +kernel
theorem dX3_at_9 : decode cX3_at 9 = .ok (.if_icmp .ge 21, 3) := by decide +kernel
theorem dX3_at_12 : decode cX3_at 12 = .ok (.iload_n 1, 1) := by decide +kernel
theorem dX3_at_13 : decode cX3_at 13 = .ok (.aload_n 0, 1) := by decide +kernel
theorem dX3_at_14 : decode cX3_at 14 = .ok (.getfield 21, 3) := by decide +kernel
theorem dX3_at_17 : decode cX3_at 17 = .ok (.arraylength, 1) := by decide +kernel
theorem dX3_at_18 : decode cX3_at 18 = .ok (.if_icmp .ge 12, 3) := by decide +kernel
theorem dX3_at_21 : decode cX3_at 21 = .ok (.aload_n 0, 1) := by decide +kernel
theorem dX3_at_22 : decode cX3_at 22 = .ok (.getfield 21, 3) := by decide +kernel
theorem dX3_at_25 : decode cX3_at 25 = .ok (.iload_n 1, 1) := by decide +kernel
theorem dX3_at_26 : decode cX3_at 26 = .ok (.aaload, 1) := by decide +kernel
theorem dX3_at_27 : decode cX3_at 27 = .ok (.goto 4, 3) := by decide +kernel
theorem dX3_at_30 : decode cX3_at 30 = .ok (.aconst_null, 1) := by decide +kernel
theorem dX3_at_31 : decode cX3_at 31 = .ok (.areturn, 1) := by decide +kernel
theorem dX3_isFull_0 : decode cX3_isFull 0 = .ok (.aload_n 0, 1) := by decide +kernel
theorem dX3_isFull_1 : decode cX3_isFull 1 = .ok (.getfield 7, 3) := by decide +kernel
theorem dX3_isFull_4 : decode cX3_isFull 4 = .ok (.aload_n 0, 1) := by decide +kernel
theorem dX3_isFull_5 : decode cX3_isFull 5 = .ok (.getfield 21, 3) := by decide +kernel
theorem dX3_isFull_8 : decode cX3_isFull 8 = .ok (.arraylength, 1) := by decide +kernel
theorem dX3_isFull_9 : decode cX3_isFull 9 = .ok (.if_icmp .lt 7, 3) := by decide +kernel
theorem dX3_isFull_12 : decode cX3_isFull 12 = .ok (.iconst 1, 1) := by decide +kernel
theorem dX3_isFull_13 : decode cX3_isFull 13 = .ok (.goto 4, 3) := by decide +kernel
theorem dX3_isFull_16 : decode cX3_isFull 16 = .ok (.iconst 0, 1) := by decide +kernel
theorem dX3_isFull_17 : decode cX3_isFull 17 = .ok (.ireturn, 1) := by decide +kernel
theorem dX3_add_0 : decode cX3_add 0 = .ok (.aload_n 0, 1) := by decide +kernel
theorem dX3_add_1 : decode cX3_add 1 = .ok (.invokevirtual 25, 3) := by decide +kernel
theorem dX3_add_4 : decode cX3_add 4 = .ok (.ifCond .ne 23, 3) := by decide +kernel
theorem dX3_add_7 : decode cX3_add 7 = .ok (.aload_n 0, 1) := by decide +kernel
theorem dX3_add_8 : decode cX3_add 8 = .ok (.getfield 21, 3) := by decide +kernel
theorem dX3_add_11 : decode cX3_add 11 = .ok (.aload_n 0, 1) := by decide +kernel
theorem dX3_add_12 : decode cX3_add 12 = .ok (.getfield 7, 3) := by decide +kernel
theorem dX3_add_15 : decode cX3_add 15 = .ok (.aload_n 1, 1) := by decide +kernel
theorem dX3_add_16 : decode cX3_add 16 = .ok (.aastore, 1) := by decide +kernel
theorem dX3_add_17 : decode cX3_add 17 = .ok (.aload_n 0, 1) := by decide +kernel
theorem dX3_add_18 : decode cX3_add 18 = .ok (.dup, 1) := by decide +kernel
theorem dX3_add_19 : decode cX3_add 19 = .ok (.getfield 7, 3) := by decide +kernel
theorem dX3_add_22 : decode cX3_add 22 = .ok (.iconst 1, 1) := by decide +kernel
theorem dX3_add_23 : decode cX3_add 23 = .ok (.iadd, 1) := by decide +kernel
theorem dX3_add_24 : decode cX3_add 24 = .ok (.putfield 7, 3) := by decide +kernel
theorem dX3_add_27 : decode cX3_add 27 = .ok (.return_, 1) := by decide +kernel
theorem dX3_put_0 : decode cX3_put 0 = .ok (.iload_n 1, 1) := by decide +kernel
theorem dX3_put_1 : decode cX3_put 1 = .ok (.ifCond .lt 27, 3) := by decide +kernel
theorem dX3_put_4 : decode cX3_put 4 = .ok (.iload_n 1, 1) := by decide +kernel
theorem dX3_put_5 : decode cX3_put 5 = .ok (.aload_n 0, 1) := by decide +kernel
theorem dX3_put_6 : decode cX3_put 6 = .ok (.getfield 7, 3) := by decide +kernel
theorem dX3_put_9 : decode cX3_put 9 = .ok (.if_icmp .ge 19, 3) := by decide +kernel
theorem dX3_put_12 : decode cX3_put 12 = .ok (.iload_n 1, 1) := by decide +kernel
theorem dX3_put_13 : decode cX3_put 13 = .ok (.aload_n 0, 1) := by decide +kernel
theorem dX3_put_14 : decode cX3_put 14 = .ok (.getfield 21, 3) := by decide +kernel
theorem dX3_put_17 : decode cX3_put 17 = .ok (.arraylength, 1) := by decide +kernel
theorem dX3_put_18 : decode cX3_put 18 = .ok (.if_icmp .ge 10, 3) := by decide +kernel
theorem dX3_put_21 : decode cX3_put 21 = .ok (.aload_n 0, 1) := by decide +kernel
theorem dX3_put_22 : decode cX3_put 22 = .ok (.getfield 21, 3) := by decide +kernel
theorem dX3_put_25 : decode cX3_put 25 = .ok (.iload_n 1, 1) := by decide +kernel
theorem dX3_put_26 : decode cX3_put 26 = .ok (.aload_n 2, 1) := by decide +kernel
theorem dX3_put_27 : decode cX3_put 27 = .ok (.aastore, 1) := by decide +kernel
theorem dX3_put_28 : decode cX3_put 28 = .ok (.return_, 1) := by decide +kernel
theorem dX3_cutTo_0 : decode cX3_cutTo 0 = .ok (.aload_n 0, 1) := by decide +kernel
theorem dX3_cutTo_1 : decode cX3_cutTo 1 = .ok (.aload_n 0, 1) := by decide +kernel
theorem dX3_cutTo_2 : decode cX3_cutTo 2 = .ok (.getfield 7, 3) := by decide +kernel
theorem dX3_cutTo_5 : decode cX3_cutTo 5 = .ok (.iconst 0, 1) := by decide +kernel
theorem dX3_cutTo_6 : decode cX3_cutTo 6 = .ok (.iload_n 1, 1) := by decide +kernel
theorem dX3_cutTo_7 : decode cX3_cutTo 7 = .ok (.invokestatic 13, 3) := by decide +kernel
theorem dX3_cutTo_10 : decode cX3_cutTo 10 = .ok (.invokestatic 29, 3) := by decide +kernel
theorem dX3_cutTo_13 : decode cX3_cutTo 13 = .ok (.putfield 7, 3) := by decide +kernel
theorem dX3_cutTo_16 : decode cX3_cutTo 16 = .ok (.return_, 1) := by decide +kernel
theorem dX4_init_0 : decode cX4_init 0 = .ok (.aload_n 0, 1) := by decide +kernel
theorem dX4_init_1 : decode cX4_init 1 = .ok (.invokespecial 3, 3) := by decide +kernel
theorem dX4_init_4 : decode cX4_init 4 = .ok (.aload_n 0, 1) := by decide +kernel
theorem dX4_init_5 : decode cX4_init 5 = .ok (.iconst 0, 1) := by decide +kernel
theorem dX4_init_6 : decode cX4_init 6 = .ok (.putfield 9, 3) := by decide +kernel
theorem dX4_init_9 : decode cX4_init 9 = .ok (.aload_n 0, 1) := by decide +kernel
theorem dX4_init_10 : decode cX4_init 10 = .ok (.iconst 0, 1) := by decide +kernel
theorem dX4_init_11 : decode cX4_init 11 = .ok (.putfield 15, 3) := by decide +kernel
theorem dX4_init_14 : decode cX4_init 14 = .ok (.aload_n 0, 1) := by decide +kernel
theorem dX4_init_15 : decode cX4_init 15 = .ok (.lconst 0, 1) := by decide +kernel
theorem dX4_init_16 : decode cX4_init 16 = .ok (.putfield 18, 3) := by decide +kernel
theorem dX4_init_19 : decode cX4_init 19 = .ok (.aload_n 0, 1) := by decide +kernel
theorem dX4_init_20 : decode cX4_init 20 = .ok (.lconst 0, 1) := by decide +kernel
theorem dX4_init_21 : decode cX4_init 21 = .ok (.putfield 22, 3) := by decide +kernel
theorem dX4_init_24 : decode cX4_init 24 = .ok (.aload_n 0, 1) := by decide +kernel
theorem dX4_init_25 : decode cX4_init 25 = .ok (.iconst 4, 1) := by decide +kernel
theorem dX4_init_26 : decode cX4_init 26 = .ok (.newarray .long, 2) := by decide +kernel
theorem dX4_init_28 : decode cX4_init 28 = .ok (.putfield 25, 3) := by decide +kernel
theorem dX4_init_31 : decode cX4_init 31 = .ok (.aload_n 0, 1) := by decide +kernel
theorem dX4_init_32 : decode cX4_init 32 = .ok (.iconst 0, 1) := by decide +kernel
theorem dX4_init_33 : decode cX4_init 33 = .ok (.putfield 29, 3) := by decide +kernel
theorem dX4_init_36 : decode cX4_init 36 = .ok (.aload_n 0, 1) := by decide +kernel
theorem dX4_init_37 : decode cX4_init 37 = .ok (.bipush 16, 2) := by decide +kernel
theorem dX4_init_39 : decode cX4_init 39 = .ok (.newarray .long, 2) := by decide +kernel
theorem dX4_init_41 : decode cX4_init 41 = .ok (.putfield 32, 3) := by decide +kernel
theorem dX4_init_44 : decode cX4_init 44 = .ok (.return_, 1) := by decide +kernel
theorem dX4_take_0 : decode cX4_take 0 = .ok (.aload_n 0, 1) := by decide +kernel
theorem dX4_take_1 : decode cX4_take 1 = .ok (.iload_n 2, 1) := by decide +kernel
theorem dX4_take_2 : decode cX4_take 2 = .ok (.putfield 9, 3) := by decide +kernel
theorem dX4_take_5 : decode cX4_take 5 = .ok (.aload_n 0, 1) := by decide +kernel
theorem dX4_take_6 : decode cX4_take 6 = .ok (.iload_n 3, 1) := by decide +kernel
theorem dX4_take_7 : decode cX4_take 7 = .ok (.putfield 15, 3) := by decide +kernel
theorem dX4_take_10 : decode cX4_take 10 = .ok (.aload_n 0, 1) := by decide +kernel
theorem dX4_take_11 : decode cX4_take 11 = .ok (.aload_n 1, 1) := by decide +kernel
theorem dX4_take_12 : decode cX4_take 12 = .ok (.iload_n 2, 1) := by decide +kernel
theorem dX4_take_13 : decode cX4_take 13 = .ok (.invokevirtual 35, 3) := by decide +kernel
theorem dX4_take_16 : decode cX4_take 16 = .ok (.putfield 18, 3) := by decide +kernel
theorem dX4_take_19 : decode cX4_take 19 = .ok (.aload_n 0, 1) := by decide +kernel
theorem dX4_take_20 : decode cX4_take 20 = .ok (.aload_n 1, 1) := by decide +kernel
theorem dX4_take_21 : decode cX4_take 21 = .ok (.iload_n 3, 1) := by decide +kernel
theorem dX4_take_22 : decode cX4_take 22 = .ok (.invokevirtual 35, 3) := by decide +kernel
theorem dX4_take_25 : decode cX4_take 25 = .ok (.putfield 22, 3) := by decide +kernel
theorem dX4_take_28 : decode cX4_take 28 = .ok (.aload_n 0, 1) := by decide +kernel
theorem dX4_take_29 : decode cX4_take 29 = .ok (.iconst 0, 1) := by decide +kernel
theorem dX4_take_30 : decode cX4_take 30 = .ok (.putfield 29, 3) := by decide +kernel
theorem dX4_take_33 : decode cX4_take 33 = .ok (.bipush 15, 2) := by decide +kernel
theorem dX4_take_35 : decode cX4_take 35 = .ok (.istore 4, 2) := by decide +kernel
theorem dX4_take_37 : decode cX4_take 37 = .ok (.iload 4, 2) := by decide +kernel
theorem dX4_take_39 : decode cX4_take 39 = .ok (.iconst 1, 1) := by decide +kernel
theorem dX4_take_40 : decode cX4_take 40 = .ok (.if_icmp .le 51, 3) := by decide +kernel
theorem dX4_take_43 : decode cX4_take 43 = .ok (.aload_n 0, 1) := by decide +kernel
theorem dX4_take_44 : decode cX4_take 44 = .ok (.iload 4, 2) := by decide +kernel
theorem dX4_take_46 : decode cX4_take 46 = .ok (.invokevirtual 41, 3) := by decide +kernel
theorem dX4_take_49 : decode cX4_take 49 = .ok (.ifCond .eq 36, 3) := by decide +kernel
theorem dX4_take_52 : decode cX4_take 52 = .ok (.aload_n 0, 1) := by decide +kernel
theorem dX4_take_53 : decode cX4_take 53 = .ok (.getfield 29, 3) := by decide +kernel
theorem dX4_take_56 : decode cX4_take 56 = .ok (.iconst 4, 1) := by decide +kernel
theorem dX4_take_57 : decode cX4_take 57 = .ok (.if_icmp .ge 28, 3) := by decide +kernel
theorem dX4_take_60 : decode cX4_take 60 = .ok (.aload_n 0, 1) := by decide +kernel
theorem dX4_take_61 : decode cX4_take 61 = .ok (.getfield 25, 3) := by decide +kernel
theorem dX4_take_64 : decode cX4_take 64 = .ok (.aload_n 0, 1) := by decide +kernel
theorem dX4_take_65 : decode cX4_take 65 = .ok (.getfield 29, 3) := by decide +kernel
theorem dX4_take_68 : decode cX4_take 68 = .ok (.aload_n 1, 1) := by decide +kernel
theorem dX4_take_69 : decode cX4_take 69 = .ok (.iload 4, 2) := by decide +kernel
theorem dX4_take_71 : decode cX4_take 71 = .ok (.invokevirtual 45, 3) := by decide +kernel
theorem dX4_take_74 : decode cX4_take 74 = .ok (.lastore, 1) := by decide +kernel
theorem dX4_take_75 : decode cX4_take 75 = .ok (.aload_n 0, 1) := by decide +kernel
theorem dX4_take_76 : decode cX4_take 76 = .ok (.dup, 1) := by decide +kernel
theorem dX4_take_77 : decode cX4_take 77 = .ok (.getfield 29, 3) := by decide +kernel
theorem dX4_take_80 : decode cX4_take 80 = .ok (.iconst 1, 1) := by decide +kernel
theorem dX4_take_81 : decode cX4_take 81 = .ok (.iadd, 1) := by decide +kernel
theorem dX4_take_82 : decode cX4_take 82 = .ok (.putfield 29, 3) := by decide +kernel
theorem dX4_take_85 : decode cX4_take 85 = .ok (.iinc 4 (-1), 3) := by decide +kernel
theorem dX4_take_88 : decode cX4_take 88 = .ok (.goto (-51), 3) := by decide +kernel
theorem dX4_take_91 : decode cX4_take 91 = .ok (.return_, 1) := by decide +kernel
theorem dX4_isOnWay_0 : decode cX4_isOnWay 0 = .ok (.iconst 0, 1) := by decide +kernel
theorem dX4_isOnWay_1 : decode cX4_isOnWay 1 = .ok (.istore_n 2, 1) := by decide +kernel
theorem dX4_isOnWay_2 : decode cX4_isOnWay 2 = .ok (.iload_n 2, 1) := by decide +kernel
theorem dX4_isOnWay_3 : decode cX4_isOnWay 3 = .ok (.iconst 4, 1) := by decide +kernel
theorem dX4_isOnWay_4 : decode cX4_isOnWay 4 = .ok (.if_icmp .ge 37, 3) := by decide +kernel
theorem dX4_isOnWay_7 : decode cX4_isOnWay 7 = .ok (.bipush 8, 2) := by decide +kernel
theorem dX4_isOnWay_9 : decode cX4_isOnWay 9 = .ok (.aload_n 0, 1) := by decide +kernel
theorem dX4_isOnWay_10 : decode cX4_isOnWay 10 = .ok (.getfield 9, 3) := by decide +kernel
theorem dX4_isOnWay_13 : decode cX4_isOnWay 13 = .ok (.iadd, 1) := by decide +kernel
theorem dX4_isOnWay_14 : decode cX4_isOnWay 14 = .ok (.iload_n 2, 1) := by decide +kernel
theorem dX4_isOnWay_15 : decode cX4_isOnWay 15 = .ok (.iushr, 1) := by decide +kernel
theorem dX4_isOnWay_16 : decode cX4_isOnWay 16 = .ok (.iload_n 1, 1) := by decide +kernel
theorem dX4_isOnWay_17 : decode cX4_isOnWay 17 = .ok (.if_icmp .eq 16, 3) := by decide +kernel
theorem dX4_isOnWay_20 : decode cX4_isOnWay 20 = .ok (.bipush 8, 2) := by decide +kernel
theorem dX4_isOnWay_22 : decode cX4_isOnWay 22 = .ok (.aload_n 0, 1) := by decide +kernel
theorem dX4_isOnWay_23 : decode cX4_isOnWay 23 = .ok (.getfield 15, 3) := by decide +kernel
theorem dX4_isOnWay_26 : decode cX4_isOnWay 26 = .ok (.iadd, 1) := by decide +kernel
theorem dX4_isOnWay_27 : decode cX4_isOnWay 27 = .ok (.iload_n 2, 1) := by decide +kernel
theorem dX4_isOnWay_28 : decode cX4_isOnWay 28 = .ok (.iushr, 1) := by decide +kernel
theorem dX4_isOnWay_29 : decode cX4_isOnWay 29 = .ok (.iload_n 1, 1) := by decide +kernel
theorem dX4_isOnWay_30 : decode cX4_isOnWay 30 = .ok (.if_icmp .ne 5, 3) := by decide +kernel
theorem dX4_isOnWay_33 : decode cX4_isOnWay 33 = .ok (.iconst 1, 1) := by decide +kernel
theorem dX4_isOnWay_34 : decode cX4_isOnWay 34 = .ok (.ireturn, 1) := by decide +kernel
theorem dX4_isOnWay_35 : decode cX4_isOnWay 35 = .ok (.iinc 2 1, 3) := by decide +kernel
theorem dX4_isOnWay_38 : decode cX4_isOnWay 38 = .ok (.goto (-36), 3) := by decide +kernel
theorem dX4_isOnWay_41 : decode cX4_isOnWay 41 = .ok (.iconst 0, 1) := by decide +kernel
theorem dX4_isOnWay_42 : decode cX4_isOnWay 42 = .ok (.ireturn, 1) := by decide +kernel
theorem dX4_isBeside_0 : decode cX4_isBeside 0 = .ok (.aload_n 0, 1) := by decide +kernel
theorem dX4_isBeside_1 : decode cX4_isBeside 1 = .ok (.iload_n 1, 1) := by decide +kernel
theorem dX4_isBeside_2 : decode cX4_isBeside 2 = .ok (.invokevirtual 48, 3) := by decide +kernel
theorem dX4_isBeside_5 : decode cX4_isBeside 5 = .ok (.ifCond .ne 17, 3) := by decide +kernel
theorem dX4_isBeside_8 : decode cX4_isBeside 8 = .ok (.aload_n 0, 1) := by decide +kernel
theorem dX4_isBeside_9 : decode cX4_isBeside 9 = .ok (.iload_n 1, 1) := by decide +kernel
theorem dX4_isBeside_10 : decode cX4_isBeside 10 = .ok (.iconst 1, 1) := by decide +kernel
theorem dX4_isBeside_11 : decode cX4_isBeside 11 = .ok (.ixor, 1) := by decide +kernel
theorem dX4_isBeside_12 : decode cX4_isBeside 12 = .ok (.invokevirtual 48, 3) := by decide +kernel
theorem dX4_isBeside_15 : decode cX4_isBeside 15 = .ok (.ifCond .eq 7, 3) := by decide +kernel
theorem dX4_isBeside_18 : decode cX4_isBeside 18 = .ok (.iconst 1, 1) := by decide +kernel
theorem dX4_isBeside_19 : decode cX4_isBeside 19 = .ok (.goto 4, 3) := by decide +kernel
theorem dX4_isBeside_22 : decode cX4_isBeside 22 = .ok (.iconst 0, 1) := by decide +kernel
theorem dX4_isBeside_23 : decode cX4_isBeside 23 = .ok (.ireturn, 1) := by decide +kernel
theorem dX4_hasNode_0 : decode cX4_hasNode 0 = .ok (.iload_n 1, 1) := by decide +kernel
theorem dX4_hasNode_1 : decode cX4_hasNode 1 = .ok (.ifCond .lt 20, 3) := by decide +kernel
theorem dX4_hasNode_4 : decode cX4_hasNode 4 = .ok (.iload_n 1, 1) := by decide +kernel
theorem dX4_hasNode_5 : decode cX4_hasNode 5 = .ok (.aload_n 0, 1) := by decide +kernel
theorem dX4_hasNode_6 : decode cX4_hasNode 6 = .ok (.getfield 29, 3) := by decide +kernel
theorem dX4_hasNode_9 : decode cX4_hasNode 9 = .ok (.if_icmp .ge 12, 3) := by decide +kernel
theorem dX4_hasNode_12 : decode cX4_hasNode 12 = .ok (.iload_n 1, 1) := by decide +kernel
theorem dX4_hasNode_13 : decode cX4_hasNode 13 = .ok (.iconst 4, 1) := by decide +kernel
theorem dX4_hasNode_14 : decode cX4_hasNode 14 = .ok (.if_icmp .ge 7, 3) := by decide +kernel
theorem dX4_hasNode_17 : decode cX4_hasNode 17 = .ok (.iconst 1, 1) := by decide +kernel
theorem dX4_hasNode_18 : decode cX4_hasNode 18 = .ok (.goto 4, 3) := by decide +kernel
theorem dX4_hasNode_21 : decode cX4_hasNode 21 = .ok (.iconst 0, 1) := by decide +kernel
theorem dX4_hasNode_22 : decode cX4_hasNode 22 = .ok (.ireturn, 1) := by decide +kernel
theorem dX4_numberAt_0 : decode cX4_numberAt 0 = .ok (.iload_n 1, 1) := by decide +kernel
theorem dX4_numberAt_1 : decode cX4_numberAt 1 = .ok (.tableswitch 53 0 3 #[31, 37, 43, 48], 31) := by decide +kernel
theorem dX4_numberAt_32 : decode cX4_numberAt 32 = .ok (.aload_n 0, 1) := by decide +kernel
theorem dX4_numberAt_33 : decode cX4_numberAt 33 = .ok (.getfield 9, 3) := by decide +kernel
theorem dX4_numberAt_36 : decode cX4_numberAt 36 = .ok (.i2l, 1) := by decide +kernel
theorem dX4_numberAt_37 : decode cX4_numberAt 37 = .ok (.lreturn, 1) := by decide +kernel
theorem dX4_numberAt_38 : decode cX4_numberAt 38 = .ok (.aload_n 0, 1) := by decide +kernel
theorem dX4_numberAt_39 : decode cX4_numberAt 39 = .ok (.getfield 15, 3) := by decide +kernel
theorem dX4_numberAt_42 : decode cX4_numberAt 42 = .ok (.i2l, 1) := by decide +kernel
theorem dX4_numberAt_43 : decode cX4_numberAt 43 = .ok (.lreturn, 1) := by decide +kernel
theorem dX4_numberAt_44 : decode cX4_numberAt 44 = .ok (.aload_n 0, 1) := by decide +kernel
theorem dX4_numberAt_45 : decode cX4_numberAt 45 = .ok (.getfield 18, 3) := by decide +kernel
theorem dX4_numberAt_48 : decode cX4_numberAt 48 = .ok (.lreturn, 1) := by decide +kernel
theorem dX4_numberAt_49 : decode cX4_numberAt 49 = .ok (.aload_n 0, 1) := by decide +kernel
theorem dX4_numberAt_50 : decode cX4_numberAt 50 = .ok (.getfield 22, 3) := by decide +kernel
theorem dX4_numberAt_53 : decode cX4_numberAt 53 = .ok (.lreturn, 1) := by decide +kernel
theorem dX4_numberAt_54 : decode cX4_numberAt 54 = .ok (.aload_n 0, 1) := by decide +kernel
theorem dX4_numberAt_55 : decode cX4_numberAt 55 = .ok (.iload_n 1, 1) := by decide +kernel
theorem dX4_numberAt_56 : decode cX4_numberAt 56 = .ok (.iconst 4, 1) := by decide +kernel
theorem dX4_numberAt_57 : decode cX4_numberAt 57 = .ok (.isub, 1) := by decide +kernel
theorem dX4_numberAt_58 : decode cX4_numberAt 58 = .ok (.invokevirtual 51, 3) := by decide +kernel
theorem dX4_numberAt_61 : decode cX4_numberAt 61 = .ok (.ifCond .eq 14, 3) := by decide +kernel
theorem dX4_numberAt_64 : decode cX4_numberAt 64 = .ok (.aload_n 0, 1) := by decide +kernel
theorem dX4_numberAt_65 : decode cX4_numberAt 65 = .ok (.getfield 25, 3) := by decide +kernel
theorem dX4_numberAt_68 : decode cX4_numberAt 68 = .ok (.iload_n 1, 1) := by decide +kernel
theorem dX4_numberAt_69 : decode cX4_numberAt 69 = .ok (.iconst 4, 1) := by decide +kernel
theorem dX4_numberAt_70 : decode cX4_numberAt 70 = .ok (.isub, 1) := by decide +kernel
theorem dX4_numberAt_71 : decode cX4_numberAt 71 = .ok (.laload, 1) := by decide +kernel
theorem dX4_numberAt_72 : decode cX4_numberAt 72 = .ok (.goto 4, 3) := by decide +kernel
theorem dX4_numberAt_75 : decode cX4_numberAt 75 = .ok (.lconst 0, 1) := by decide +kernel
theorem dX4_numberAt_76 : decode cX4_numberAt 76 = .ok (.lreturn, 1) := by decide +kernel
theorem dX4_replace_0 : decode cX4_replace 0 = .ok (.iload_n 1, 1) := by decide +kernel
theorem dX4_replace_1 : decode cX4_replace 1 = .ok (.iconst 2, 1) := by decide +kernel
theorem dX4_replace_2 : decode cX4_replace 2 = .ok (.if_icmp .ne 11, 3) := by decide +kernel
theorem dX4_replace_5 : decode cX4_replace 5 = .ok (.aload_n 0, 1) := by decide +kernel
theorem dX4_replace_6 : decode cX4_replace 6 = .ok (.lload_n 2, 1) := by decide +kernel
theorem dX4_replace_7 : decode cX4_replace 7 = .ok (.putfield 18, 3) := by decide +kernel
theorem dX4_replace_10 : decode cX4_replace 10 = .ok (.goto 40, 3) := by decide +kernel
theorem dX4_replace_13 : decode cX4_replace 13 = .ok (.iload_n 1, 1) := by decide +kernel
theorem dX4_replace_14 : decode cX4_replace 14 = .ok (.iconst 3, 1) := by decide +kernel
theorem dX4_replace_15 : decode cX4_replace 15 = .ok (.if_icmp .ne 11, 3) := by decide +kernel
theorem dX4_replace_18 : decode cX4_replace 18 = .ok (.aload_n 0, 1) := by decide +kernel
theorem dX4_replace_19 : decode cX4_replace 19 = .ok (.lload_n 2, 1) := by decide +kernel
theorem dX4_replace_20 : decode cX4_replace 20 = .ok (.putfield 22, 3) := by decide +kernel
theorem dX4_replace_23 : decode cX4_replace 23 = .ok (.goto 27, 3) := by decide +kernel
theorem dX4_replace_26 : decode cX4_replace 26 = .ok (.aload_n 0, 1) := by decide +kernel
theorem dX4_replace_27 : decode cX4_replace 27 = .ok (.iload_n 1, 1) := by decide +kernel
theorem dX4_replace_28 : decode cX4_replace 28 = .ok (.iconst 4, 1) := by decide +kernel
theorem dX4_replace_29 : decode cX4_replace 29 = .ok (.isub, 1) := by decide +kernel
theorem dX4_replace_30 : decode cX4_replace 30 = .ok (.invokevirtual 51, 3) := by decide +kernel
theorem dX4_replace_33 : decode cX4_replace 33 = .ok (.ifCond .eq 15, 3) := by decide +kernel
theorem dX4_replace_36 : decode cX4_replace 36 = .ok (.aload_n 0, 1) := by decide +kernel
theorem dX4_replace_37 : decode cX4_replace 37 = .ok (.getfield 25, 3) := by decide +kernel
theorem dX4_replace_40 : decode cX4_replace 40 = .ok (.iload_n 1, 1) := by decide +kernel
theorem dX4_replace_41 : decode cX4_replace 41 = .ok (.iconst 4, 1) := by decide +kernel
theorem dX4_replace_42 : decode cX4_replace 42 = .ok (.isub, 1) := by decide +kernel
theorem dX4_replace_43 : decode cX4_replace 43 = .ok (.lload_n 2, 1) := by decide +kernel
theorem dX4_replace_44 : decode cX4_replace 44 = .ok (.lastore, 1) := by decide +kernel
theorem dX4_replace_45 : decode cX4_replace 45 = .ok (.goto 5, 3) := by decide +kernel
theorem dX4_replace_48 : decode cX4_replace 48 = .ok (.iconst 0, 1) := by decide +kernel
theorem dX4_replace_49 : decode cX4_replace 49 = .ok (.ireturn, 1) := by decide +kernel
theorem dX4_replace_50 : decode cX4_replace 50 = .ok (.iconst 1, 1) := by decide +kernel
theorem dX4_replace_51 : decode cX4_replace 51 = .ok (.ireturn, 1) := by decide +kernel
theorem dX4_topBefore_0 : decode cX4_topBefore 0 = .ok (.aload_n 0, 1) := by decide +kernel
theorem dX4_topBefore_1 : decode cX4_topBefore 1 = .ok (.aload_n 0, 1) := by decide +kernel
theorem dX4_topBefore_2 : decode cX4_topBefore 2 = .ok (.getfield 18, 3) := by decide +kernel
theorem dX4_topBefore_5 : decode cX4_topBefore 5 = .ok (.aload_n 0, 1) := by decide +kernel
theorem dX4_topBefore_6 : decode cX4_topBefore 6 = .ok (.getfield 22, 3) := by decide +kernel
theorem dX4_topBefore_9 : decode cX4_topBefore 9 = .ok (.invokevirtual 54, 3) := by decide +kernel
theorem dX4_topBefore_12 : decode cX4_topBefore 12 = .ok (.lreturn, 1) := by decide +kernel
theorem dX4_topBehind_0 : decode cX4_topBehind 0 = .ok (.aload_n 0, 1) := by decide +kernel
theorem dX4_topBehind_1 : decode cX4_topBehind 1 = .ok (.getfield 18, 3) := by decide +kernel
theorem dX4_topBehind_4 : decode cX4_topBehind 4 = .ok (.lload_n 1, 1) := by decide +kernel
theorem dX4_topBehind_5 : decode cX4_topBehind 5 = .ok (.lcmp, 1) := by decide +kernel
theorem dX4_topBehind_6 : decode cX4_topBehind 6 = .ok (.ifCond .ge 10, 3) := by decide +kernel
theorem dX4_topBehind_9 : decode cX4_topBehind 9 = .ok (.aload_n 0, 1) := by decide +kernel
theorem dX4_topBehind_10 : decode cX4_topBehind 10 = .ok (.invokevirtual 58, 3) := by decide +kernel
theorem dX4_topBehind_13 : decode cX4_topBehind 13 = .ok (.goto 19, 3) := by decide +kernel
theorem dX4_topBehind_16 : decode cX4_topBehind 16 = .ok (.aload_n 0, 1) := by decide +kernel
theorem dX4_topBehind_17 : decode cX4_topBehind 17 = .ok (.aload_n 0, 1) := by decide +kernel
theorem dX4_topBehind_18 : decode cX4_topBehind 18 = .ok (.getfield 18, 3) := by decide +kernel
theorem dX4_topBehind_21 : decode cX4_topBehind 21 = .ok (.lload_n 1, 1) := by decide +kernel
theorem dX4_topBehind_22 : decode cX4_topBehind 22 = .ok (.lsub, 1) := by decide +kernel
theorem dX4_topBehind_23 : decode cX4_topBehind 23 = .ok (.aload_n 0, 1) := by decide +kernel
theorem dX4_topBehind_24 : decode cX4_topBehind 24 = .ok (.getfield 22, 3) := by decide +kernel
theorem dX4_topBehind_27 : decode cX4_topBehind 27 = .ok (.lload_n 1, 1) := by decide +kernel
theorem dX4_topBehind_28 : decode cX4_topBehind 28 = .ok (.ladd, 1) := by decide +kernel
theorem dX4_topBehind_29 : decode cX4_topBehind 29 = .ok (.invokevirtual 54, 3) := by decide +kernel
theorem dX4_topBehind_32 : decode cX4_topBehind 32 = .ok (.lreturn, 1) := by decide +kernel
theorem dX4_topWith_0 : decode cX4_topWith 0 = .ok (.iconst 0, 1) := by decide +kernel
theorem dX4_topWith_1 : decode cX4_topWith 1 = .ok (.istore 5, 2) := by decide +kernel
theorem dX4_topWith_3 : decode cX4_topWith 3 = .ok (.bipush 15, 2) := by decide +kernel
theorem dX4_topWith_5 : decode cX4_topWith 5 = .ok (.istore 6, 2) := by decide +kernel
theorem dX4_topWith_7 : decode cX4_topWith 7 = .ok (.iload 6, 2) := by decide +kernel
theorem dX4_topWith_9 : decode cX4_topWith 9 = .ok (.iconst 1, 1) := by decide +kernel
theorem dX4_topWith_10 : decode cX4_topWith 10 = .ok (.if_icmp .lt 116, 3) := by decide +kernel
theorem dX4_topWith_13 : decode cX4_topWith 13 = .ok (.aload_n 0, 1) := by decide +kernel
theorem dX4_topWith_14 : decode cX4_topWith 14 = .ok (.iload 6, 2) := by decide +kernel
theorem dX4_topWith_16 : decode cX4_topWith 16 = .ok (.invokevirtual 48, 3) := by decide +kernel
theorem dX4_topWith_19 : decode cX4_topWith 19 = .ok (.ifCond .eq 66, 3) := by decide +kernel
theorem dX4_topWith_22 : decode cX4_topWith 22 = .ok (.aload_n 0, 1) := by decide +kernel
theorem dX4_topWith_23 : decode cX4_topWith 23 = .ok (.getfield 32, 3) := by decide +kernel
theorem dX4_topWith_26 : decode cX4_topWith 26 = .ok (.iload 6, 2) := by decide +kernel
theorem dX4_topWith_28 : decode cX4_topWith 28 = .ok (.iload 6, 2) := by decide +kernel
theorem dX4_topWith_30 : decode cX4_topWith 30 = .ok (.bipush 8, 2) := by decide +kernel
theorem dX4_topWith_32 : decode cX4_topWith 32 = .ok (.if_icmp .lt 26, 3) := by decide +kernel
theorem dX4_topWith_35 : decode cX4_topWith 35 = .ok (.iload 6, 2) := by decide +kernel
theorem dX4_topWith_37 : decode cX4_topWith 37 = .ok (.bipush 8, 2) := by decide +kernel
theorem dX4_topWith_39 : decode cX4_topWith 39 = .ok (.aload_n 0, 1) := by decide +kernel
theorem dX4_topWith_40 : decode cX4_topWith 40 = .ok (.getfield 9, 3) := by decide +kernel
theorem dX4_topWith_43 : decode cX4_topWith 43 = .ok (.iadd, 1) := by decide +kernel
theorem dX4_topWith_44 : decode cX4_topWith 44 = .ok (.if_icmp .ne 7, 3) := by decide +kernel
theorem dX4_topWith_47 : decode cX4_topWith 47 = .ok (.lload_n 1, 1) := by decide +kernel
theorem dX4_topWith_48 : decode cX4_topWith 48 = .ok (.goto 4, 3) := by decide +kernel
theorem dX4_topWith_51 : decode cX4_topWith 51 = .ok (.lload_n 3, 1) := by decide +kernel
theorem dX4_topWith_52 : decode cX4_topWith 52 = .ok (.invokestatic 62, 3) := by decide +kernel
theorem dX4_topWith_55 : decode cX4_topWith 55 = .ok (.goto 26, 3) := by decide +kernel
theorem dX4_topWith_58 : decode cX4_topWith 58 = .ok (.aload_n 0, 1) := by decide +kernel
theorem dX4_topWith_59 : decode cX4_topWith 59 = .ok (.getfield 32, 3) := by decide +kernel
theorem dX4_topWith_62 : decode cX4_topWith 62 = .ok (.iconst 2, 1) := by decide +kernel
theorem dX4_topWith_63 : decode cX4_topWith 63 = .ok (.iload 6, 2) := by decide +kernel
theorem dX4_topWith_65 : decode cX4_topWith 65 = .ok (.imul, 1) := by decide +kernel
theorem dX4_topWith_66 : decode cX4_topWith 66 = .ok (.laload, 1) := by decide +kernel
theorem dX4_topWith_67 : decode cX4_topWith 67 = .ok (.aload_n 0, 1) := by decide +kernel
theorem dX4_topWith_68 : decode cX4_topWith 68 = .ok (.getfield 32, 3) := by decide +kernel
theorem dX4_topWith_71 : decode cX4_topWith 71 = .ok (.iconst 2, 1) := by decide +kernel
theorem dX4_topWith_72 : decode cX4_topWith 72 = .ok (.iload 6, 2) := by decide +kernel
theorem dX4_topWith_74 : decode cX4_topWith 74 = .ok (.imul, 1) := by decide +kernel
theorem dX4_topWith_75 : decode cX4_topWith 75 = .ok (.iconst 1, 1) := by decide +kernel
theorem dX4_topWith_76 : decode cX4_topWith 76 = .ok (.iadd, 1) := by decide +kernel
theorem dX4_topWith_77 : decode cX4_topWith 77 = .ok (.laload, 1) := by decide +kernel
theorem dX4_topWith_78 : decode cX4_topWith 78 = .ok (.invokestatic 66, 3) := by decide +kernel
theorem dX4_topWith_81 : decode cX4_topWith 81 = .ok (.lastore, 1) := by decide +kernel
theorem dX4_topWith_82 : decode cX4_topWith 82 = .ok (.goto 38, 3) := by decide +kernel
theorem dX4_topWith_85 : decode cX4_topWith 85 = .ok (.aload_n 0, 1) := by decide +kernel
theorem dX4_topWith_86 : decode cX4_topWith 86 = .ok (.iload 6, 2) := by decide +kernel
theorem dX4_topWith_88 : decode cX4_topWith 88 = .ok (.invokevirtual 41, 3) := by decide +kernel
theorem dX4_topWith_91 : decode cX4_topWith 91 = .ok (.ifCond .eq 29, 3) := by decide +kernel
theorem dX4_topWith_94 : decode cX4_topWith 94 = .ok (.aload_n 0, 1) := by decide +kernel
theorem dX4_topWith_95 : decode cX4_topWith 95 = .ok (.iload 5, 2) := by decide +kernel
theorem dX4_topWith_97 : decode cX4_topWith 97 = .ok (.invokevirtual 51, 3) := by decide +kernel
theorem dX4_topWith_100 : decode cX4_topWith 100 = .ok (.ifCond .eq 20, 3) := by decide +kernel
theorem dX4_topWith_103 : decode cX4_topWith 103 = .ok (.aload_n 0, 1) := by decide +kernel
theorem dX4_topWith_104 : decode cX4_topWith 104 = .ok (.getfield 32, 3) := by decide +kernel
theorem dX4_topWith_107 : decode cX4_topWith 107 = .ok (.iload 6, 2) := by decide +kernel
theorem dX4_topWith_109 : decode cX4_topWith 109 = .ok (.aload_n 0, 1) := by decide +kernel
theorem dX4_topWith_110 : decode cX4_topWith 110 = .ok (.getfield 25, 3) := by decide +kernel
theorem dX4_topWith_113 : decode cX4_topWith 113 = .ok (.iload 5, 2) := by decide +kernel
theorem dX4_topWith_115 : decode cX4_topWith 115 = .ok (.laload, 1) := by decide +kernel
theorem dX4_topWith_116 : decode cX4_topWith 116 = .ok (.lastore, 1) := by decide +kernel
theorem dX4_topWith_117 : decode cX4_topWith 117 = .ok (.iinc 5 1, 3) := by decide +kernel
theorem dX4_topWith_120 : decode cX4_topWith 120 = .ok (.iinc 6 (-1), 3) := by decide +kernel
theorem dX4_topWith_123 : decode cX4_topWith 123 = .ok (.goto (-116), 3) := by decide +kernel
theorem dX4_topWith_126 : decode cX4_topWith 126 = .ok (.aload_n 0, 1) := by decide +kernel
theorem dX4_topWith_127 : decode cX4_topWith 127 = .ok (.getfield 32, 3) := by decide +kernel
theorem dX4_topWith_130 : decode cX4_topWith 130 = .ok (.iconst 1, 1) := by decide +kernel
theorem dX4_topWith_131 : decode cX4_topWith 131 = .ok (.laload, 1) := by decide +kernel
theorem dX4_topWith_132 : decode cX4_topWith 132 = .ok (.lreturn, 1) := by decide +kernel
theorem dX5_init_0 : decode cX5_init 0 = .ok (.aload_n 0, 1) := by decide +kernel
theorem dX5_init_1 : decode cX5_init 1 = .ok (.invokespecial 3, 3) := by decide +kernel
theorem dX5_init_4 : decode cX5_init 4 = .ok (.aload_n 0, 1) := by decide +kernel
theorem dX5_init_5 : decode cX5_init 5 = .ok (.bipush 8, 2) := by decide +kernel
theorem dX5_init_7 : decode cX5_init 7 = .ok (.newarray .long, 2) := by decide +kernel
theorem dX5_init_9 : decode cX5_init 9 = .ok (.putfield 9, 3) := by decide +kernel
theorem dX5_init_12 : decode cX5_init 12 = .ok (.aload_n 0, 1) := by decide +kernel
theorem dX5_init_13 : decode cX5_init 13 = .ok (.bipush 16, 2) := by decide +kernel
theorem dX5_init_15 : decode cX5_init 15 = .ok (.newarray .long, 2) := by decide +kernel
theorem dX5_init_17 : decode cX5_init 17 = .ok (.putfield 15, 3) := by decide +kernel
theorem dX5_init_20 : decode cX5_init 20 = .ok (.aload_n 0, 1) := by decide +kernel
theorem dX5_init_21 : decode cX5_init 21 = .ok (.invokevirtual 18, 3) := by decide +kernel
theorem dX5_init_24 : decode cX5_init 24 = .ok (.return_, 1) := by decide +kernel
theorem dX5_reckon_0 : decode cX5_reckon 0 = .ok (.bipush 15, 2) := by decide +kernel
theorem dX5_reckon_2 : decode cX5_reckon 2 = .ok (.istore_n 1, 1) := by decide +kernel
theorem dX5_reckon_3 : decode cX5_reckon 3 = .ok (.iload_n 1, 1) := by decide +kernel
theorem dX5_reckon_4 : decode cX5_reckon 4 = .ok (.iconst 1, 1) := by decide +kernel
theorem dX5_reckon_5 : decode cX5_reckon 5 = .ok (.if_icmp .lt 57, 3) := by decide +kernel
theorem dX5_reckon_8 : decode cX5_reckon 8 = .ok (.aload_n 0, 1) := by decide +kernel
theorem dX5_reckon_9 : decode cX5_reckon 9 = .ok (.getfield 15, 3) := by decide +kernel
theorem dX5_reckon_12 : decode cX5_reckon 12 = .ok (.iload_n 1, 1) := by decide +kernel
theorem dX5_reckon_13 : decode cX5_reckon 13 = .ok (.iload_n 1, 1) := by decide +kernel
theorem dX5_reckon_14 : decode cX5_reckon 14 = .ok (.bipush 8, 2) := by decide +kernel
theorem dX5_reckon_16 : decode cX5_reckon 16 = .ok (.if_icmp .lt 18, 3) := by decide +kernel
theorem dX5_reckon_19 : decode cX5_reckon 19 = .ok (.aload_n 0, 1) := by decide +kernel
theorem dX5_reckon_20 : decode cX5_reckon 20 = .ok (.getfield 9, 3) := by decide +kernel
theorem dX5_reckon_23 : decode cX5_reckon 23 = .ok (.iload_n 1, 1) := by decide +kernel
theorem dX5_reckon_24 : decode cX5_reckon 24 = .ok (.bipush 8, 2) := by decide +kernel
theorem dX5_reckon_26 : decode cX5_reckon 26 = .ok (.isub, 1) := by decide +kernel
theorem dX5_reckon_27 : decode cX5_reckon 27 = .ok (.laload, 1) := by decide +kernel
theorem dX5_reckon_28 : decode cX5_reckon 28 = .ok (.invokestatic 21, 3) := by decide +kernel
theorem dX5_reckon_31 : decode cX5_reckon 31 = .ok (.goto 24, 3) := by decide +kernel
theorem dX5_reckon_34 : decode cX5_reckon 34 = .ok (.aload_n 0, 1) := by decide +kernel
theorem dX5_reckon_35 : decode cX5_reckon 35 = .ok (.getfield 15, 3) := by decide +kernel
theorem dX5_reckon_38 : decode cX5_reckon 38 = .ok (.iconst 2, 1) := by decide +kernel
theorem dX5_reckon_39 : decode cX5_reckon 39 = .ok (.iload_n 1, 1) := by decide +kernel
theorem dX5_reckon_40 : decode cX5_reckon 40 = .ok (.imul, 1) := by decide +kernel
theorem dX5_reckon_41 : decode cX5_reckon 41 = .ok (.laload, 1) := by decide +kernel
theorem dX5_reckon_42 : decode cX5_reckon 42 = .ok (.aload_n 0, 1) := by decide +kernel
theorem dX5_reckon_43 : decode cX5_reckon 43 = .ok (.getfield 15, 3) := by decide +kernel
theorem dX5_reckon_46 : decode cX5_reckon 46 = .ok (.iconst 2, 1) := by decide +kernel
theorem dX5_reckon_47 : decode cX5_reckon 47 = .ok (.iload_n 1, 1) := by decide +kernel
theorem dX5_reckon_48 : decode cX5_reckon 48 = .ok (.imul, 1) := by decide +kernel
theorem dX5_reckon_49 : decode cX5_reckon 49 = .ok (.iconst 1, 1) := by decide +kernel
theorem dX5_reckon_50 : decode cX5_reckon 50 = .ok (.iadd, 1) := by decide +kernel
theorem dX5_reckon_51 : decode cX5_reckon 51 = .ok (.laload, 1) := by decide +kernel
theorem dX5_reckon_52 : decode cX5_reckon 52 = .ok (.invokestatic 25, 3) := by decide +kernel
theorem dX5_reckon_55 : decode cX5_reckon 55 = .ok (.lastore, 1) := by decide +kernel
theorem dX5_reckon_56 : decode cX5_reckon 56 = .ok (.iinc 1 (-1), 3) := by decide +kernel
theorem dX5_reckon_59 : decode cX5_reckon 59 = .ok (.goto (-56), 3) := by decide +kernel
theorem dX5_reckon_62 : decode cX5_reckon 62 = .ok (.return_, 1) := by decide +kernel
theorem dX5_leafAt_0 : decode cX5_leafAt 0 = .ok (.iload_n 1, 1) := by decide +kernel
theorem dX5_leafAt_1 : decode cX5_leafAt 1 = .ok (.invokestatic 29, 3) := by decide +kernel
theorem dX5_leafAt_4 : decode cX5_leafAt 4 = .ok (.ifCond .eq 12, 3) := by decide +kernel
theorem dX5_leafAt_7 : decode cX5_leafAt 7 = .ok (.aload_n 0, 1) := by decide +kernel
theorem dX5_leafAt_8 : decode cX5_leafAt 8 = .ok (.getfield 9, 3) := by decide +kernel
theorem dX5_leafAt_11 : decode cX5_leafAt 11 = .ok (.iload_n 1, 1) := by decide +kernel
theorem dX5_leafAt_12 : decode cX5_leafAt 12 = .ok (.laload, 1) := by decide +kernel
theorem dX5_leafAt_13 : decode cX5_leafAt 13 = .ok (.goto 4, 3) := by decide +kernel
theorem dX5_leafAt_16 : decode cX5_leafAt 16 = .ok (.lconst 0, 1) := by decide +kernel
theorem dX5_leafAt_17 : decode cX5_leafAt 17 = .ok (.lreturn, 1) := by decide +kernel
