theorem dX3_init_0 : decode cX3_init 0 = .ok (.aload_n 0, 1) := by decide +kernel
theorem dX3_init_1 : decode cX3_init 1 = .ok (.invokespecial 3, 3) := by decide +kernel
theorem dX3_init_4 : decode cX3_init 4 = .ok (.aload_n 0, 1) := by decide +kernel
theorem dX3_init_5 : decode cX3_init 5 = .ok (.new 9, 3) := by decide +kernel
theorem dX3_init_8 : decode cX3_init 8 = .ok (.dup, 1) := by decide +kernel
theorem dX3_init_9 : decode cX3_init 9 = .ok (.invokespecial 11, 3) := by decide +kernel
theorem dX3_init_12 : decode cX3_init 12 = .ok (.putfield 12, 3) := by decide +kernel
theorem dX3_init_15 : decode cX3_init 15 = .ok (.aload_n 0, 1) := by decide +kernel
theorem dX3_init_16 : decode cX3_init 16 = .ok (.new 9, 3) := by decide +kernel
theorem dX3_init_19 : decode cX3_init 19 = .ok (.dup, 1) := by decide +kernel
theorem dX3_init_20 : decode cX3_init 20 = .ok (.invokespecial 11, 3) := by decide +kernel
theorem dX3_init_23 : decode cX3_init 23 = .ok (.putfield 16, 3) := by decide +kernel
theorem dX3_init_26 : decode cX3_init 26 = .ok (.aload_n 0, 1) := by decide +kernel
theorem dX3_init_27 : decode cX3_init 27 = .ok (.new 19, 3) := by decide +kernel
theorem dX3_init_30 : decode cX3_init 30 = .ok (.dup, 1) := by decide +kernel
theorem dX3_init_31 : decode cX3_init 31 = .ok (.invokespecial 21, 3) := by decide +kernel
theorem dX3_init_34 : decode cX3_init 34 = .ok (.putfield 22, 3) := by decide +kernel
theorem dX3_init_37 : decode cX3_init 37 = .ok (.aload_n 0, 1) := by decide +kernel
theorem dX3_init_38 : decode cX3_init 38 = .ok (.new 19, 3) := by decide +kernel
theorem dX3_init_41 : decode cX3_init 41 = .ok (.dup, 1) := by decide +kernel
theorem dX3_init_42 : decode cX3_init 42 = .ok (.invokespecial 21, 3) := by decide +kernel
theorem dX3_init_45 : decode cX3_init 45 = .ok (.putfield 26, 3) := by decide +kernel
theorem dX3_init_48 : decode cX3_init 48 = .ok (.return_, 1) := by decide +kernel
theorem dX3_feed_0 : decode cX3_feed 0 = .ok (.aload_n 0, 1) := by decide +kernel
theorem dX3_feed_1 : decode cX3_feed 1 = .ok (.getfield 12, 3) := by decide +kernel
theorem dX3_feed_4 : decode cX3_feed 4 = .ok (.bipush 20, 2) := by decide +kernel
theorem dX3_feed_6 : decode cX3_feed 6 = .ok (.invokevirtual 29, 3) := by decide +kernel
theorem dX3_feed_9 : decode cX3_feed 9 = .ok (.ifCond .ne 13, 3) := by decide +kernel
theorem dX3_feed_12 : decode cX3_feed 12 = .ok (.new 33, 3) := by decide +kernel
theorem dX3_feed_15 : decode cX3_feed 15 = .ok (.dup, 1) := by decide +kernel
theorem dX3_feed_16 : decode cX3_feed 16 = .ok (.ldc 35, 2) := by decide +kernel
theorem dX3_feed_18 : decode cX3_feed 18 = .ok (.invokespecial 37, 3) := by decide +kernel
theorem dX3_feed_21 : decode cX3_feed 21 = .ok (.athrow, 1) := by decide +kernel
theorem dX3_feed_22 : decode cX3_feed 22 = .ok (.aload_n 0, 1) := by decide +kernel
theorem dX3_feed_23 : decode cX3_feed 23 = .ok (.getfield 12, 3) := by decide +kernel
theorem dX3_feed_26 : decode cX3_feed 26 = .ok (.iload_n 1, 1) := by decide +kernel
theorem dX3_feed_27 : decode cX3_feed 27 = .ok (.i2l, 1) := by decide +kernel
theorem dX3_feed_28 : decode cX3_feed 28 = .ok (.iconst 4, 1) := by decide +kernel
theorem dX3_feed_29 : decode cX3_feed 29 = .ok (.invokevirtual 40, 3) := by decide +kernel
theorem dX3_feed_32 : decode cX3_feed 32 = .ok (.aload_n 0, 1) := by decide +kernel
theorem dX3_feed_33 : decode cX3_feed 33 = .ok (.getfield 12, 3) := by decide +kernel
theorem dX3_feed_36 : decode cX3_feed 36 = .ok (.iload_n 2, 1) := by decide +kernel
theorem dX3_feed_37 : decode cX3_feed 37 = .ok (.i2l, 1) := by decide +kernel
theorem dX3_feed_38 : decode cX3_feed 38 = .ok (.iconst 4, 1) := by decide +kernel
theorem dX3_feed_39 : decode cX3_feed 39 = .ok (.invokevirtual 40, 3) := by decide +kernel
theorem dX3_feed_42 : decode cX3_feed 42 = .ok (.aload_n 0, 1) := by decide +kernel
theorem dX3_feed_43 : decode cX3_feed 43 = .ok (.getfield 12, 3) := by decide +kernel
theorem dX3_feed_46 : decode cX3_feed 46 = .ok (.iload_n 3, 1) := by decide +kernel
theorem dX3_feed_47 : decode cX3_feed 47 = .ok (.i2l, 1) := by decide +kernel
theorem dX3_feed_48 : decode cX3_feed 48 = .ok (.iconst 4, 1) := by decide +kernel
theorem dX3_feed_49 : decode cX3_feed 49 = .ok (.invokevirtual 40, 3) := by decide +kernel
theorem dX3_feed_52 : decode cX3_feed 52 = .ok (.aload_n 0, 1) := by decide +kernel
theorem dX3_feed_53 : decode cX3_feed 53 = .ok (.getfield 12, 3) := by decide +kernel
theorem dX3_feed_56 : decode cX3_feed 56 = .ok (.iload 4, 2) := by decide +kernel
theorem dX3_feed_58 : decode cX3_feed 58 = .ok (.i2l, 1) := by decide +kernel
theorem dX3_feed_59 : decode cX3_feed 59 = .ok (.iconst 4, 1) := by decide +kernel
theorem dX3_feed_60 : decode cX3_feed 60 = .ok (.invokevirtual 40, 3) := by decide +kernel
theorem dX3_feed_63 : decode cX3_feed 63 = .ok (.aload_n 0, 1) := by decide +kernel
theorem dX3_feed_64 : decode cX3_feed 64 = .ok (.getfield 12, 3) := by decide +kernel
theorem dX3_feed_67 : decode cX3_feed 67 = .ok (.iload 5, 2) := by decide +kernel
theorem dX3_feed_69 : decode cX3_feed 69 = .ok (.i2l, 1) := by decide +kernel
theorem dX3_feed_70 : decode cX3_feed 70 = .ok (.iconst 4, 1) := by decide +kernel
theorem dX3_feed_71 : decode cX3_feed 71 = .ok (.invokevirtual 40, 3) := by decide +kernel
theorem dX3_feed_74 : decode cX3_feed 74 = .ok (.aload_n 0, 1) := by decide +kernel
theorem dX3_feed_75 : decode cX3_feed 75 = .ok (.getfield 12, 3) := by decide +kernel
theorem dX3_feed_78 : decode cX3_feed 78 = .ok (.invokevirtual 44, 3) := by decide +kernel
theorem dX3_feed_81 : decode cX3_feed 81 = .ok (.ireturn, 1) := by decide +kernel
theorem dX3_end_0 : decode cX3_end 0 = .ok (.iload_n 1, 1) := by decide +kernel
theorem dX3_end_1 : decode cX3_end 1 = .ok (.ifCond .lt 14, 3) := by decide +kernel
theorem dX3_end_4 : decode cX3_end 4 = .ok (.iload_n 1, 1) := by decide +kernel
theorem dX3_end_5 : decode cX3_end 5 = .ok (.aload_n 0, 1) := by decide +kernel
theorem dX3_end_6 : decode cX3_end 6 = .ok (.getfield 12, 3) := by decide +kernel
theorem dX3_end_9 : decode cX3_end 9 = .ok (.invokevirtual 44, 3) := by decide +kernel
theorem dX3_end_12 : decode cX3_end 12 = .ok (.if_icmp .le 13, 3) := by decide +kernel
theorem dX3_end_15 : decode cX3_end 15 = .ok (.new 48, 3) := by decide +kernel
theorem dX3_end_18 : decode cX3_end 18 = .ok (.dup, 1) := by decide +kernel
theorem dX3_end_19 : decode cX3_end 19 = .ok (.ldc 50, 2) := by decide +kernel
theorem dX3_end_21 : decode cX3_end 21 = .ok (.invokespecial 52, 3) := by decide +kernel
theorem dX3_end_24 : decode cX3_end 24 = .ok (.athrow, 1) := by decide +kernel
theorem dX3_end_25 : decode cX3_end 25 = .ok (.aload_n 0, 1) := by decide +kernel
theorem dX3_end_26 : decode cX3_end 26 = .ok (.getfield 12, 3) := by decide +kernel
theorem dX3_end_29 : decode cX3_end 29 = .ok (.iload_n 1, 1) := by decide +kernel
theorem dX3_end_30 : decode cX3_end 30 = .ok (.invokevirtual 53, 3) := by decide +kernel
theorem dX3_end_33 : decode cX3_end 33 = .ok (.iload_n 1, 1) := by decide +kernel
theorem dX3_end_34 : decode cX3_end 34 = .ok (.ireturn, 1) := by decide +kernel
theorem dX3_read_0 : decode cX3_read 0 = .ok (.aload_n 0, 1) := by decide +kernel
theorem dX3_read_1 : decode cX3_read 1 = .ok (.getfield 26, 3) := by decide +kernel
theorem dX3_read_4 : decode cX3_read 4 = .ok (.aload_n 0, 1) := by decide +kernel
theorem dX3_read_5 : decode cX3_read 5 = .ok (.getfield 12, 3) := by decide +kernel
theorem dX3_read_8 : decode cX3_read 8 = .ok (.iload_n 1, 1) := by decide +kernel
theorem dX3_read_9 : decode cX3_read 9 = .ok (.invokevirtual 57, 3) := by decide +kernel
theorem dX3_read_12 : decode cX3_read 12 = .ok (.ifCond .ne 13, 3) := by decide +kernel
theorem dX3_read_15 : decode cX3_read 15 = .ok (.new 61, 3) := by decide +kernel
theorem dX3_read_18 : decode cX3_read 18 = .ok (.dup, 1) := by decide +kernel
theorem dX3_read_19 : decode cX3_read 19 = .ok (.ldc 63, 2) := by decide +kernel
theorem dX3_read_21 : decode cX3_read 21 = .ok (.invokespecial 65, 3) := by decide +kernel
theorem dX3_read_24 : decode cX3_read 24 = .ok (.athrow, 1) := by decide +kernel
theorem dX3_read_25 : decode cX3_read 25 = .ok (.aload_n 0, 1) := by decide +kernel
theorem dX3_read_26 : decode cX3_read 26 = .ok (.getfield 22, 3) := by decide +kernel
theorem dX3_read_29 : decode cX3_read 29 = .ok (.astore_n 2, 1) := by decide +kernel
theorem dX3_read_30 : decode cX3_read 30 = .ok (.aload_n 0, 1) := by decide +kernel
theorem dX3_read_31 : decode cX3_read 31 = .ok (.aload_n 0, 1) := by decide +kernel
theorem dX3_read_32 : decode cX3_read 32 = .ok (.getfield 26, 3) := by decide +kernel
theorem dX3_read_35 : decode cX3_read 35 = .ok (.putfield 22, 3) := by decide +kernel
theorem dX3_read_38 : decode cX3_read 38 = .ok (.aload_n 0, 1) := by decide +kernel
theorem dX3_read_39 : decode cX3_read 39 = .ok (.aload_n 2, 1) := by decide +kernel
theorem dX3_read_40 : decode cX3_read 40 = .ok (.putfield 26, 3) := by decide +kernel
theorem dX3_read_43 : decode cX3_read 43 = .ok (.aload_n 0, 1) := by decide +kernel
theorem dX3_read_44 : decode cX3_read 44 = .ok (.getfield 22, 3) := by decide +kernel
theorem dX3_read_47 : decode cX3_read 47 = .ok (.invokevirtual 66, 3) := by decide +kernel
theorem dX3_read_50 : decode cX3_read 50 = .ok (.ireturn, 1) := by decide +kernel
theorem dX3_node_0 : decode cX3_node 0 = .ok (.aload_n 0, 1) := by decide +kernel
theorem dX3_node_1 : decode cX3_node 1 = .ok (.getfield 22, 3) := by decide +kernel
theorem dX3_node_4 : decode cX3_node 4 = .ok (.iload_n 1, 1) := by decide +kernel
theorem dX3_node_5 : decode cX3_node 5 = .ok (.invokevirtual 67, 3) := by decide +kernel
theorem dX3_node_8 : decode cX3_node 8 = .ok (.ifCond .ne 13, 3) := by decide +kernel
theorem dX3_node_11 : decode cX3_node 11 = .ok (.new 48, 3) := by decide +kernel
theorem dX3_node_14 : decode cX3_node 14 = .ok (.dup, 1) := by decide +kernel
theorem dX3_node_15 : decode cX3_node 15 = .ok (.ldc 70, 2) := by decide +kernel
theorem dX3_node_17 : decode cX3_node 17 = .ok (.invokespecial 52, 3) := by decide +kernel
theorem dX3_node_20 : decode cX3_node 20 = .ok (.athrow, 1) := by decide +kernel
theorem dX3_node_21 : decode cX3_node 21 = .ok (.iload_n 2, 1) := by decide +kernel
theorem dX3_node_22 : decode cX3_node 22 = .ok (.ifCond .lt 9, 3) := by decide +kernel
theorem dX3_node_25 : decode cX3_node 25 = .ok (.iload_n 2, 1) := by decide +kernel
theorem dX3_node_26 : decode cX3_node 26 = .ok (.bipush 8, 2) := by decide +kernel
theorem dX3_node_28 : decode cX3_node 28 = .ok (.if_icmp .lt 13, 3) := by decide +kernel
theorem dX3_node_31 : decode cX3_node 31 = .ok (.new 48, 3) := by decide +kernel
theorem dX3_node_34 : decode cX3_node 34 = .ok (.dup, 1) := by decide +kernel
theorem dX3_node_35 : decode cX3_node 35 = .ok (.ldc 72, 2) := by decide +kernel
theorem dX3_node_37 : decode cX3_node 37 = .ok (.invokespecial 52, 3) := by decide +kernel
theorem dX3_node_40 : decode cX3_node 40 = .ok (.athrow, 1) := by decide +kernel
theorem dX3_node_41 : decode cX3_node 41 = .ok (.aload_n 0, 1) := by decide +kernel
theorem dX3_node_42 : decode cX3_node 42 = .ok (.getfield 22, 3) := by decide +kernel
theorem dX3_node_45 : decode cX3_node 45 = .ok (.iload_n 1, 1) := by decide +kernel
theorem dX3_node_46 : decode cX3_node 46 = .ok (.iload_n 2, 1) := by decide +kernel
theorem dX3_node_47 : decode cX3_node 47 = .ok (.invokevirtual 74, 3) := by decide +kernel
theorem dX3_node_50 : decode cX3_node 50 = .ok (.ireturn, 1) := by decide +kernel
theorem dX3_number_0 : decode cX3_number 0 = .ok (.aload_n 0, 1) := by decide +kernel
theorem dX3_number_1 : decode cX3_number 1 = .ok (.getfield 22, 3) := by decide +kernel
theorem dX3_number_4 : decode cX3_number 4 = .ok (.iload_n 1, 1) := by decide +kernel
theorem dX3_number_5 : decode cX3_number 5 = .ok (.invokevirtual 67, 3) := by decide +kernel
theorem dX3_number_8 : decode cX3_number 8 = .ok (.ifCond .ne 13, 3) := by decide +kernel
theorem dX3_number_11 : decode cX3_number 11 = .ok (.new 48, 3) := by decide +kernel
theorem dX3_number_14 : decode cX3_number 14 = .ok (.dup, 1) := by decide +kernel
theorem dX3_number_15 : decode cX3_number 15 = .ok (.ldc 70, 2) := by decide +kernel
theorem dX3_number_17 : decode cX3_number 17 = .ok (.invokespecial 52, 3) := by decide +kernel
theorem dX3_number_20 : decode cX3_number 20 = .ok (.athrow, 1) := by decide +kernel
theorem dX3_number_21 : decode cX3_number 21 = .ok (.aload_n 0, 1) := by decide +kernel
theorem dX3_number_22 : decode cX3_number 22 = .ok (.getfield 22, 3) := by decide +kernel
theorem dX3_number_25 : decode cX3_number 25 = .ok (.iload_n 1, 1) := by decide +kernel
theorem dX3_number_26 : decode cX3_number 26 = .ok (.iconst 2, 1) := by decide +kernel
theorem dX3_number_27 : decode cX3_number 27 = .ok (.invokevirtual 74, 3) := by decide +kernel
theorem dX3_number_30 : decode cX3_number 30 = .ok (.iconst 1, 1) := by decide +kernel
theorem dX3_number_31 : decode cX3_number 31 = .ok (.if_icmp .ne 13, 3) := by decide +kernel
theorem dX3_number_34 : decode cX3_number 34 = .ok (.new 61, 3) := by decide +kernel
theorem dX3_number_37 : decode cX3_number 37 = .ok (.dup, 1) := by decide +kernel
theorem dX3_number_38 : decode cX3_number 38 = .ok (.ldc 78, 2) := by decide +kernel
theorem dX3_number_40 : decode cX3_number 40 = .ok (.invokespecial 65, 3) := by decide +kernel
theorem dX3_number_43 : decode cX3_number 43 = .ok (.athrow, 1) := by decide +kernel
theorem dX3_number_44 : decode cX3_number 44 = .ok (.aload_n 0, 1) := by decide +kernel
theorem dX3_number_45 : decode cX3_number 45 = .ok (.getfield 22, 3) := by decide +kernel
theorem dX3_number_48 : decode cX3_number 48 = .ok (.iload_n 1, 1) := by decide +kernel
theorem dX3_number_49 : decode cX3_number 49 = .ok (.invokevirtual 80, 3) := by decide +kernel
theorem dX3_number_52 : decode cX3_number 52 = .ok (.ifCond .ne 13, 3) := by decide +kernel
theorem dX3_number_55 : decode cX3_number 55 = .ok (.new 83, 3) := by decide +kernel
theorem dX3_number_58 : decode cX3_number 58 = .ok (.dup, 1) := by decide +kernel
theorem dX3_number_59 : decode cX3_number 59 = .ok (.ldc 85, 2) := by decide +kernel
theorem dX3_number_61 : decode cX3_number 61 = .ok (.invokespecial 87, 3) := by decide +kernel
theorem dX3_number_64 : decode cX3_number 64 = .ok (.athrow, 1) := by decide +kernel
theorem dX3_number_65 : decode cX3_number 65 = .ok (.aload_n 0, 1) := by decide +kernel
theorem dX3_number_66 : decode cX3_number 66 = .ok (.getfield 22, 3) := by decide +kernel
theorem dX3_number_69 : decode cX3_number 69 = .ok (.iload_n 1, 1) := by decide +kernel
theorem dX3_number_70 : decode cX3_number 70 = .ok (.invokevirtual 88, 3) := by decide +kernel
theorem dX3_number_73 : decode cX3_number 73 = .ok (.lreturn, 1) := by decide +kernel
theorem dX3_wrap_0 : decode cX3_wrap 0 = .ok (.iload_n 1, 1) := by decide +kernel
theorem dX3_wrap_1 : decode cX3_wrap 1 = .ok (.iload_n 2, 1) := by decide +kernel
theorem dX3_wrap_2 : decode cX3_wrap 2 = .ok (.invokestatic 92, 3) := by decide +kernel
theorem dX3_wrap_5 : decode cX3_wrap 5 = .ok (.ifCond .ne 13, 3) := by decide +kernel
theorem dX3_wrap_8 : decode cX3_wrap 8 = .ok (.new 48, 3) := by decide +kernel
theorem dX3_wrap_11 : decode cX3_wrap 11 = .ok (.dup, 1) := by decide +kernel
theorem dX3_wrap_12 : decode cX3_wrap 12 = .ok (.ldc 96, 2) := by decide +kernel
theorem dX3_wrap_14 : decode cX3_wrap 14 = .ok (.invokespecial 52, 3) := by decide +kernel
theorem dX3_wrap_17 : decode cX3_wrap 17 = .ok (.athrow, 1) := by decide +kernel
theorem dX3_wrap_18 : decode cX3_wrap 18 = .ok (.aload_n 0, 1) := by decide +kernel
theorem dX3_wrap_19 : decode cX3_wrap 19 = .ok (.getfield 16, 3) := by decide +kernel
theorem dX3_wrap_22 : decode cX3_wrap 22 = .ok (.iconst 0, 1) := by decide +kernel
theorem dX3_wrap_23 : decode cX3_wrap 23 = .ok (.invokevirtual 53, 3) := by decide +kernel
theorem dX3_wrap_26 : decode cX3_wrap 26 = .ok (.aload_n 0, 1) := by decide +kernel
theorem dX3_wrap_27 : decode cX3_wrap 27 = .ok (.iload_n 1, 1) := by decide +kernel
theorem dX3_wrap_28 : decode cX3_wrap 28 = .ok (.iload_n 2, 1) := by decide +kernel
theorem dX3_wrap_29 : decode cX3_wrap 29 = .ok (.iload_n 3, 1) := by decide +kernel
theorem dX3_wrap_30 : decode cX3_wrap 30 = .ok (.invokevirtual 98, 3) := by decide +kernel
theorem dX3_wrap_33 : decode cX3_wrap 33 = .ok (.aload_n 0, 1) := by decide +kernel
theorem dX3_wrap_34 : decode cX3_wrap 34 = .ok (.aload_n 0, 1) := by decide +kernel
theorem dX3_wrap_35 : decode cX3_wrap 35 = .ok (.getfield 12, 3) := by decide +kernel
theorem dX3_wrap_38 : decode cX3_wrap 38 = .ok (.invokevirtual 44, 3) := by decide +kernel
theorem dX3_wrap_41 : decode cX3_wrap 41 = .ok (.invokevirtual 102, 3) := by decide +kernel
theorem dX3_wrap_44 : decode cX3_wrap 44 = .ok (.aload_n 0, 1) := by decide +kernel
theorem dX3_wrap_45 : decode cX3_wrap 45 = .ok (.getfield 12, 3) := by decide +kernel
theorem dX3_wrap_48 : decode cX3_wrap 48 = .ok (.aload_n 0, 1) := by decide +kernel
theorem dX3_wrap_49 : decode cX3_wrap 49 = .ok (.getfield 16, 3) := by decide +kernel
theorem dX3_wrap_52 : decode cX3_wrap 52 = .ok (.invokevirtual 44, 3) := by decide +kernel
theorem dX3_wrap_55 : decode cX3_wrap 55 = .ok (.invokevirtual 29, 3) := by decide +kernel
theorem dX3_wrap_58 : decode cX3_wrap 58 = .ok (.ifCond .ne 13, 3) := by decide +kernel
theorem dX3_wrap_61 : decode cX3_wrap 61 = .ok (.new 33, 3) := by decide +kernel
theorem dX3_wrap_64 : decode cX3_wrap 64 = .ok (.dup, 1) := by decide +kernel
theorem dX3_wrap_65 : decode cX3_wrap 65 = .ok (.ldc 35, 2) := by decide +kernel
theorem dX3_wrap_67 : decode cX3_wrap 67 = .ok (.invokespecial 37, 3) := by decide +kernel
theorem dX3_wrap_70 : decode cX3_wrap 70 = .ok (.athrow, 1) := by decide +kernel
theorem dX3_wrap_71 : decode cX3_wrap 71 = .ok (.aload_n 0, 1) := by decide +kernel
theorem dX3_wrap_72 : decode cX3_wrap 72 = .ok (.getfield 12, 3) := by decide +kernel
theorem dX3_wrap_75 : decode cX3_wrap 75 = .ok (.aload_n 0, 1) := by decide +kernel
theorem dX3_wrap_76 : decode cX3_wrap 76 = .ok (.getfield 16, 3) := by decide +kernel
theorem dX3_wrap_79 : decode cX3_wrap 79 = .ok (.invokevirtual 105, 3) := by decide +kernel
theorem dX3_wrap_82 : decode cX3_wrap 82 = .ok (.aload_n 0, 1) := by decide +kernel
theorem dX3_wrap_83 : decode cX3_wrap 83 = .ok (.getfield 12, 3) := by decide +kernel
theorem dX3_wrap_86 : decode cX3_wrap 86 = .ok (.invokevirtual 44, 3) := by decide +kernel
theorem dX3_wrap_89 : decode cX3_wrap 89 = .ok (.ireturn, 1) := by decide +kernel
theorem dX3_isIdentifier_0 : decode cX3_isIdentifier 0 = .ok (.iload_n 0, 1) := by decide +kernel
theorem dX3_isIdentifier_1 : decode cX3_isIdentifier 1 = .ok (.ifCond .lt 16, 3) := by decide +kernel
theorem dX3_isIdentifier_4 : decode cX3_isIdentifier 4 = .ok (.iload_n 0, 1) := by decide +kernel
theorem dX3_isIdentifier_5 : decode cX3_isIdentifier 5 = .ok (.iconst 3, 1) := by decide +kernel
theorem dX3_isIdentifier_6 : decode cX3_isIdentifier 6 = .ok (.if_icmp .gt 11, 3) := by decide +kernel
theorem dX3_isIdentifier_9 : decode cX3_isIdentifier 9 = .ok (.iload_n 1, 1) := by decide +kernel
theorem dX3_isIdentifier_10 : decode cX3_isIdentifier 10 = .ok (.ifCond .lt 7, 3) := by decide +kernel
theorem dX3_isIdentifier_13 : decode cX3_isIdentifier 13 = .ok (.iconst 1, 1) := by decide +kernel
theorem dX3_isIdentifier_14 : decode cX3_isIdentifier 14 = .ok (.goto 4, 3) := by decide +kernel
theorem dX3_isIdentifier_17 : decode cX3_isIdentifier 17 = .ok (.iconst 0, 1) := by decide +kernel
theorem dX3_isIdentifier_18 : decode cX3_isIdentifier 18 = .ok (.ireturn, 1) := by decide +kernel
theorem dX3_writeIdentifier_0 : decode cX3_writeIdentifier 0 = .ok (.iload_n 1, 1) := by decide +kernel
theorem dX3_writeIdentifier_1 : decode cX3_writeIdentifier 1 = .ok (.bipush 64, 2) := by decide +kernel
theorem dX3_writeIdentifier_3 : decode cX3_writeIdentifier 3 = .ok (.imul, 1) := by decide +kernel
theorem dX3_writeIdentifier_4 : decode cX3_writeIdentifier 4 = .ok (.iload_n 3, 1) := by decide +kernel
theorem dX3_writeIdentifier_5 : decode cX3_writeIdentifier 5 = .ok (.ifCond .eq 8, 3) := by decide +kernel
theorem dX3_writeIdentifier_8 : decode cX3_writeIdentifier 8 = .ok (.bipush 32, 2) := by decide +kernel
theorem dX3_writeIdentifier_10 : decode cX3_writeIdentifier 10 = .ok (.goto 4, 3) := by decide +kernel
theorem dX3_writeIdentifier_13 : decode cX3_writeIdentifier 13 = .ok (.iconst 0, 1) := by decide +kernel
theorem dX3_writeIdentifier_14 : decode cX3_writeIdentifier 14 = .ok (.iadd, 1) := by decide +kernel
theorem dX3_writeIdentifier_15 : decode cX3_writeIdentifier 15 = .ok (.istore 4, 2) := by decide +kernel
theorem dX3_writeIdentifier_17 : decode cX3_writeIdentifier 17 = .ok (.iload_n 2, 1) := by decide +kernel
theorem dX3_writeIdentifier_18 : decode cX3_writeIdentifier 18 = .ok (.bipush 31, 2) := by decide +kernel
theorem dX3_writeIdentifier_20 : decode cX3_writeIdentifier 20 = .ok (.if_icmp .ge 15, 3) := by decide +kernel
theorem dX3_writeIdentifier_23 : decode cX3_writeIdentifier 23 = .ok (.aload_n 0, 1) := by decide +kernel
theorem dX3_writeIdentifier_24 : decode cX3_writeIdentifier 24 = .ok (.getfield 16, 3) := by decide +kernel
theorem dX3_writeIdentifier_27 : decode cX3_writeIdentifier 27 = .ok (.iload 4, 2) := by decide +kernel
theorem dX3_writeIdentifier_29 : decode cX3_writeIdentifier 29 = .ok (.iload_n 2, 1) := by decide +kernel
theorem dX3_writeIdentifier_30 : decode cX3_writeIdentifier 30 = .ok (.iadd, 1) := by decide +kernel
theorem dX3_writeIdentifier_31 : decode cX3_writeIdentifier 31 = .ok (.invokevirtual 127, 3) := by decide +kernel
theorem dX3_writeIdentifier_34 : decode cX3_writeIdentifier 34 = .ok (.return_, 1) := by decide +kernel
theorem dX3_writeIdentifier_35 : decode cX3_writeIdentifier 35 = .ok (.aload_n 0, 1) := by decide +kernel
theorem dX3_writeIdentifier_36 : decode cX3_writeIdentifier 36 = .ok (.getfield 16, 3) := by decide +kernel
theorem dX3_writeIdentifier_39 : decode cX3_writeIdentifier 39 = .ok (.iload 4, 2) := by decide +kernel
theorem dX3_writeIdentifier_41 : decode cX3_writeIdentifier 41 = .ok (.bipush 31, 2) := by decide +kernel
theorem dX3_writeIdentifier_43 : decode cX3_writeIdentifier 43 = .ok (.iadd, 1) := by decide +kernel
theorem dX3_writeIdentifier_44 : decode cX3_writeIdentifier 44 = .ok (.invokevirtual 127, 3) := by decide +kernel
theorem dX3_writeIdentifier_47 : decode cX3_writeIdentifier 47 = .ok (.bipush 28, 2) := by decide +kernel
theorem dX3_writeIdentifier_49 : decode cX3_writeIdentifier 49 = .ok (.istore 5, 2) := by decide +kernel
theorem dX3_writeIdentifier_51 : decode cX3_writeIdentifier 51 = .ok (.iload 5, 2) := by decide +kernel
theorem dX3_writeIdentifier_53 : decode cX3_writeIdentifier 53 = .ok (.bipush 7, 2) := by decide +kernel
theorem dX3_writeIdentifier_55 : decode cX3_writeIdentifier 55 = .ok (.if_icmp .lt 34, 3) := by decide +kernel
theorem dX3_writeIdentifier_58 : decode cX3_writeIdentifier 58 = .ok (.iload_n 2, 1) := by decide +kernel
theorem dX3_writeIdentifier_59 : decode cX3_writeIdentifier 59 = .ok (.iload 5, 2) := by decide +kernel
theorem dX3_writeIdentifier_61 : decode cX3_writeIdentifier 61 = .ok (.ishr, 1) := by decide +kernel
theorem dX3_writeIdentifier_62 : decode cX3_writeIdentifier 62 = .ok (.ifCond .eq 21, 3) := by decide +kernel
theorem dX3_writeIdentifier_65 : decode cX3_writeIdentifier 65 = .ok (.aload_n 0, 1) := by decide +kernel
theorem dX3_writeIdentifier_66 : decode cX3_writeIdentifier 66 = .ok (.getfield 16, 3) := by decide +kernel
theorem dX3_writeIdentifier_69 : decode cX3_writeIdentifier 69 = .ok (.sipush 128, 3) := by decide +kernel
theorem dX3_writeIdentifier_72 : decode cX3_writeIdentifier 72 = .ok (.iload_n 2, 1) := by decide +kernel
theorem dX3_writeIdentifier_73 : decode cX3_writeIdentifier 73 = .ok (.iload 5, 2) := by decide +kernel
theorem dX3_writeIdentifier_75 : decode cX3_writeIdentifier 75 = .ok (.ishr, 1) := by decide +kernel
theorem dX3_writeIdentifier_76 : decode cX3_writeIdentifier 76 = .ok (.bipush 127, 2) := by decide +kernel
theorem dX3_writeIdentifier_78 : decode cX3_writeIdentifier 78 = .ok (.iand, 1) := by decide +kernel
theorem dX3_writeIdentifier_79 : decode cX3_writeIdentifier 79 = .ok (.iadd, 1) := by decide +kernel
theorem dX3_writeIdentifier_80 : decode cX3_writeIdentifier 80 = .ok (.invokevirtual 127, 3) := by decide +kernel
theorem dX3_writeIdentifier_83 : decode cX3_writeIdentifier 83 = .ok (.iinc 5 (-7), 3) := by decide +kernel
theorem dX3_writeIdentifier_86 : decode cX3_writeIdentifier 86 = .ok (.goto (-35), 3) := by decide +kernel
theorem dX3_writeIdentifier_89 : decode cX3_writeIdentifier 89 = .ok (.aload_n 0, 1) := by decide +kernel
theorem dX3_writeIdentifier_90 : decode cX3_writeIdentifier 90 = .ok (.getfield 16, 3) := by decide +kernel
theorem dX3_writeIdentifier_93 : decode cX3_writeIdentifier 93 = .ok (.iload_n 2, 1) := by decide +kernel
theorem dX3_writeIdentifier_94 : decode cX3_writeIdentifier 94 = .ok (.bipush 127, 2) := by decide +kernel
theorem dX3_writeIdentifier_96 : decode cX3_writeIdentifier 96 = .ok (.iand, 1) := by decide +kernel
theorem dX3_writeIdentifier_97 : decode cX3_writeIdentifier 97 = .ok (.invokevirtual 127, 3) := by decide +kernel
theorem dX3_writeIdentifier_100 : decode cX3_writeIdentifier 100 = .ok (.return_, 1) := by decide +kernel
theorem dX3_writeLength_0 : decode cX3_writeLength 0 = .ok (.iload_n 1, 1) := by decide +kernel
theorem dX3_writeLength_1 : decode cX3_writeLength 1 = .ok (.sipush 128, 3) := by decide +kernel
theorem dX3_writeLength_4 : decode cX3_writeLength 4 = .ok (.if_icmp .ge 14, 3) := by decide +kernel
theorem dX3_writeLength_7 : decode cX3_writeLength 7 = .ok (.aload_n 0, 1) := by decide +kernel
theorem dX3_writeLength_8 : decode cX3_writeLength 8 = .ok (.getfield 16, 3) := by decide +kernel
theorem dX3_writeLength_11 : decode cX3_writeLength 11 = .ok (.iload_n 1, 1) := by decide +kernel
theorem dX3_writeLength_12 : decode cX3_writeLength 12 = .ok (.invokevirtual 127, 3) := by decide +kernel
theorem dX3_writeLength_15 : decode cX3_writeLength 15 = .ok (.goto 51, 3) := by decide +kernel
theorem dX3_writeLength_18 : decode cX3_writeLength 18 = .ok (.iload_n 1, 1) := by decide +kernel
theorem dX3_writeLength_19 : decode cX3_writeLength 19 = .ok (.sipush 256, 3) := by decide +kernel
theorem dX3_writeLength_22 : decode cX3_writeLength 22 = .ok (.if_icmp .ge 24, 3) := by decide +kernel
theorem dX3_writeLength_25 : decode cX3_writeLength 25 = .ok (.aload_n 0, 1) := by decide +kernel
theorem dX3_writeLength_26 : decode cX3_writeLength 26 = .ok (.getfield 16, 3) := by decide +kernel
theorem dX3_writeLength_29 : decode cX3_writeLength 29 = .ok (.sipush 129, 3) := by decide +kernel
theorem dX3_writeLength_32 : decode cX3_writeLength 32 = .ok (.invokevirtual 127, 3) := by decide +kernel
theorem dX3_writeLength_35 : decode cX3_writeLength 35 = .ok (.aload_n 0, 1) := by decide +kernel
theorem dX3_writeLength_36 : decode cX3_writeLength 36 = .ok (.getfield 16, 3) := by decide +kernel
theorem dX3_writeLength_39 : decode cX3_writeLength 39 = .ok (.iload_n 1, 1) := by decide +kernel
theorem dX3_writeLength_40 : decode cX3_writeLength 40 = .ok (.invokevirtual 127, 3) := by decide +kernel
theorem dX3_writeLength_43 : decode cX3_writeLength 43 = .ok (.goto 23, 3) := by decide +kernel
theorem dX3_writeLength_46 : decode cX3_writeLength 46 = .ok (.aload_n 0, 1) := by decide +kernel
theorem dX3_writeLength_47 : decode cX3_writeLength 47 = .ok (.getfield 16, 3) := by decide +kernel
theorem dX3_writeLength_50 : decode cX3_writeLength 50 = .ok (.sipush 130, 3) := by decide +kernel
theorem dX3_writeLength_53 : decode cX3_writeLength 53 = .ok (.invokevirtual 127, 3) := by decide +kernel
theorem dX3_writeLength_56 : decode cX3_writeLength 56 = .ok (.aload_n 0, 1) := by decide +kernel
theorem dX3_writeLength_57 : decode cX3_writeLength 57 = .ok (.getfield 16, 3) := by decide +kernel
theorem dX3_writeLength_60 : decode cX3_writeLength 60 = .ok (.iload_n 1, 1) := by decide +kernel
theorem dX3_writeLength_61 : decode cX3_writeLength 61 = .ok (.i2l, 1) := by decide +kernel
theorem dX3_writeLength_62 : decode cX3_writeLength 62 = .ok (.iconst 2, 1) := by decide +kernel
theorem dX3_writeLength_63 : decode cX3_writeLength 63 = .ok (.invokevirtual 40, 3) := by decide +kernel
theorem dX3_writeLength_66 : decode cX3_writeLength 66 = .ok (.return_, 1) := by decide +kernel
theorem dX3_add_0 : decode cX3_add 0 = .ok (.iload_n 1, 1) := by decide +kernel
theorem dX3_add_1 : decode cX3_add 1 = .ok (.iload_n 2, 1) := by decide +kernel
theorem dX3_add_2 : decode cX3_add 2 = .ok (.invokestatic 92, 3) := by decide +kernel
theorem dX3_add_5 : decode cX3_add 5 = .ok (.ifCond .ne 13, 3) := by decide +kernel
theorem dX3_add_8 : decode cX3_add 8 = .ok (.new 48, 3) := by decide +kernel
theorem dX3_add_11 : decode cX3_add 11 = .ok (.dup, 1) := by decide +kernel
theorem dX3_add_12 : decode cX3_add 12 = .ok (.ldc 96, 2) := by decide +kernel
theorem dX3_add_14 : decode cX3_add 14 = .ok (.invokespecial 52, 3) := by decide +kernel
theorem dX3_add_17 : decode cX3_add 17 = .ok (.athrow, 1) := by decide +kernel
theorem dX3_add_18 : decode cX3_add 18 = .ok (.lload_n 3, 1) := by decide +kernel
theorem dX3_add_19 : decode cX3_add 19 = .ok (.invokestatic 109, 3) := by decide +kernel
theorem dX3_add_22 : decode cX3_add 22 = .ok (.istore 5, 2) := by decide +kernel
theorem dX3_add_24 : decode cX3_add 24 = .ok (.aload_n 0, 1) := by decide +kernel
theorem dX3_add_25 : decode cX3_add 25 = .ok (.getfield 16, 3) := by decide +kernel
theorem dX3_add_28 : decode cX3_add 28 = .ok (.iconst 0, 1) := by decide +kernel
theorem dX3_add_29 : decode cX3_add 29 = .ok (.invokevirtual 53, 3) := by decide +kernel
theorem dX3_add_32 : decode cX3_add 32 = .ok (.aload_n 0, 1) := by decide +kernel
theorem dX3_add_33 : decode cX3_add 33 = .ok (.iload_n 1, 1) := by decide +kernel
theorem dX3_add_34 : decode cX3_add 34 = .ok (.iload_n 2, 1) := by decide +kernel
theorem dX3_add_35 : decode cX3_add 35 = .ok (.iconst 0, 1) := by decide +kernel
theorem dX3_add_36 : decode cX3_add 36 = .ok (.invokevirtual 98, 3) := by decide +kernel
theorem dX3_add_39 : decode cX3_add 39 = .ok (.aload_n 0, 1) := by decide +kernel
theorem dX3_add_40 : decode cX3_add 40 = .ok (.iload 5, 2) := by decide +kernel
theorem dX3_add_42 : decode cX3_add 42 = .ok (.invokevirtual 102, 3) := by decide +kernel
theorem dX3_add_45 : decode cX3_add 45 = .ok (.aload_n 0, 1) := by decide +kernel
theorem dX3_add_46 : decode cX3_add 46 = .ok (.getfield 16, 3) := by decide +kernel
theorem dX3_add_49 : decode cX3_add 49 = .ok (.lload_n 3, 1) := by decide +kernel
theorem dX3_add_50 : decode cX3_add 50 = .ok (.iload 5, 2) := by decide +kernel
theorem dX3_add_52 : decode cX3_add 52 = .ok (.invokevirtual 40, 3) := by decide +kernel
theorem dX3_add_55 : decode cX3_add 55 = .ok (.aload_n 0, 1) := by decide +kernel
theorem dX3_add_56 : decode cX3_add 56 = .ok (.getfield 12, 3) := by decide +kernel
theorem dX3_add_59 : decode cX3_add 59 = .ok (.aload_n 0, 1) := by decide +kernel
theorem dX3_add_60 : decode cX3_add 60 = .ok (.getfield 16, 3) := by decide +kernel
theorem dX3_add_63 : decode cX3_add 63 = .ok (.invokevirtual 44, 3) := by decide +kernel
theorem dX3_add_66 : decode cX3_add 66 = .ok (.invokevirtual 29, 3) := by decide +kernel
theorem dX3_add_69 : decode cX3_add 69 = .ok (.ifCond .ne 13, 3) := by decide +kernel
theorem dX3_add_72 : decode cX3_add 72 = .ok (.new 33, 3) := by decide +kernel
theorem dX3_add_75 : decode cX3_add 75 = .ok (.dup, 1) := by decide +kernel
theorem dX3_add_76 : decode cX3_add 76 = .ok (.ldc 35, 2) := by decide +kernel
theorem dX3_add_78 : decode cX3_add 78 = .ok (.invokespecial 37, 3) := by decide +kernel
theorem dX3_add_81 : decode cX3_add 81 = .ok (.athrow, 1) := by decide +kernel
theorem dX3_add_82 : decode cX3_add 82 = .ok (.aload_n 0, 1) := by decide +kernel
theorem dX3_add_83 : decode cX3_add 83 = .ok (.getfield 12, 3) := by decide +kernel
theorem dX3_add_86 : decode cX3_add 86 = .ok (.aload_n 0, 1) := by decide +kernel
theorem dX3_add_87 : decode cX3_add 87 = .ok (.getfield 16, 3) := by decide +kernel
theorem dX3_add_90 : decode cX3_add 90 = .ok (.invokevirtual 113, 3) := by decide +kernel
theorem dX3_add_93 : decode cX3_add 93 = .ok (.aload_n 0, 1) := by decide +kernel
theorem dX3_add_94 : decode cX3_add 94 = .ok (.getfield 12, 3) := by decide +kernel
theorem dX3_add_97 : decode cX3_add 97 = .ok (.invokevirtual 44, 3) := by decide +kernel
theorem dX3_add_100 : decode cX3_add 100 = .ok (.ireturn, 1) := by decide +kernel
theorem dX3_fewestBytes_0 : decode cX3_fewestBytes 0 = .ok (.iconst 1, 1) := by decide +kernel
theorem dX3_fewestBytes_1 : decode cX3_fewestBytes 1 = .ok (.istore_n 2, 1) := by decide +kernel
theorem dX3_fewestBytes_2 : decode cX3_fewestBytes 2 = .ok (.iload_n 2, 1) := by decide +kernel
theorem dX3_fewestBytes_3 : decode cX3_fewestBytes 3 = .ok (.bipush 8, 2) := by decide +kernel
theorem dX3_fewestBytes_5 : decode cX3_fewestBytes 5 = .ok (.if_icmp .ge 34, 3) := by decide +kernel
theorem dX3_fewestBytes_8 : decode cX3_fewestBytes 8 = .ok (.lload_n 0, 1) := by decide +kernel
theorem dX3_fewestBytes_9 : decode cX3_fewestBytes 9 = .ok (.bipush 8, 2) := by decide +kernel
theorem dX3_fewestBytes_11 : decode cX3_fewestBytes 11 = .ok (.iload_n 2, 1) := by decide +kernel
theorem dX3_fewestBytes_12 : decode cX3_fewestBytes 12 = .ok (.imul, 1) := by decide +kernel
theorem dX3_fewestBytes_13 : decode cX3_fewestBytes 13 = .ok (.iconst 1, 1) := by decide +kernel
theorem dX3_fewestBytes_14 : decode cX3_fewestBytes 14 = .ok (.isub, 1) := by decide +kernel
theorem dX3_fewestBytes_15 : decode cX3_fewestBytes 15 = .ok (.lshr, 1) := by decide +kernel
theorem dX3_fewestBytes_16 : decode cX3_fewestBytes 16 = .ok (.lstore_n 3, 1) := by decide +kernel
theorem dX3_fewestBytes_17 : decode cX3_fewestBytes 17 = .ok (.lload_n 3, 1) := by decide +kernel
theorem dX3_fewestBytes_18 : decode cX3_fewestBytes 18 = .ok (.lconst 0, 1) := by decide +kernel
theorem dX3_fewestBytes_19 : decode cX3_fewestBytes 19 = .ok (.lcmp, 1) := by decide +kernel
theorem dX3_fewestBytes_20 : decode cX3_fewestBytes 20 = .ok (.ifCond .eq 11, 3) := by decide +kernel
theorem dX3_fewestBytes_23 : decode cX3_fewestBytes 23 = .ok (.lload_n 3, 1) := by decide +kernel
theorem dX3_fewestBytes_24 : decode cX3_fewestBytes 24 = .ok (.ldc2_w 130, 3) := by decide +kernel
theorem dX3_fewestBytes_27 : decode cX3_fewestBytes 27 = .ok (.lcmp, 1) := by decide +kernel
theorem dX3_fewestBytes_28 : decode cX3_fewestBytes 28 = .ok (.ifCond .ne 5, 3) := by decide +kernel
theorem dX3_fewestBytes_31 : decode cX3_fewestBytes 31 = .ok (.iload_n 2, 1) := by decide +kernel
theorem dX3_fewestBytes_32 : decode cX3_fewestBytes 32 = .ok (.ireturn, 1) := by decide +kernel
theorem dX3_fewestBytes_33 : decode cX3_fewestBytes 33 = .ok (.iinc 2 1, 3) := by decide +kernel
theorem dX3_fewestBytes_36 : decode cX3_fewestBytes 36 = .ok (.goto (-34), 3) := by decide +kernel
theorem dX3_fewestBytes_39 : decode cX3_fewestBytes 39 = .ok (.bipush 8, 2) := by decide +kernel
theorem dX3_fewestBytes_41 : decode cX3_fewestBytes 41 = .ok (.ireturn, 1) := by decide +kernel
theorem dX3_compare_0 : decode cX3_compare 0 = .ok (.aload_n 0, 1) := by decide +kernel
theorem dX3_compare_1 : decode cX3_compare 1 = .ok (.getfield 22, 3) := by decide +kernel
theorem dX3_compare_4 : decode cX3_compare 4 = .ok (.iload_n 1, 1) := by decide +kernel
theorem dX3_compare_5 : decode cX3_compare 5 = .ok (.invokevirtual 67, 3) := by decide +kernel
theorem dX3_compare_8 : decode cX3_compare 8 = .ok (.ifCond .eq 14, 3) := by decide +kernel
theorem dX3_compare_11 : decode cX3_compare 11 = .ok (.aload_n 0, 1) := by decide +kernel
theorem dX3_compare_12 : decode cX3_compare 12 = .ok (.getfield 22, 3) := by decide +kernel
theorem dX3_compare_15 : decode cX3_compare 15 = .ok (.iload_n 2, 1) := by decide +kernel
theorem dX3_compare_16 : decode cX3_compare 16 = .ok (.invokevirtual 67, 3) := by decide +kernel
theorem dX3_compare_19 : decode cX3_compare 19 = .ok (.ifCond .ne 13, 3) := by decide +kernel
theorem dX3_compare_22 : decode cX3_compare 22 = .ok (.new 48, 3) := by decide +kernel
theorem dX3_compare_25 : decode cX3_compare 25 = .ok (.dup, 1) := by decide +kernel
theorem dX3_compare_26 : decode cX3_compare 26 = .ok (.ldc 70, 2) := by decide +kernel
theorem dX3_compare_28 : decode cX3_compare 28 = .ok (.invokespecial 52, 3) := by decide +kernel
theorem dX3_compare_31 : decode cX3_compare 31 = .ok (.athrow, 1) := by decide +kernel
theorem dX3_compare_32 : decode cX3_compare 32 = .ok (.aload_n 0, 1) := by decide +kernel
theorem dX3_compare_33 : decode cX3_compare 33 = .ok (.getfield 22, 3) := by decide +kernel
theorem dX3_compare_36 : decode cX3_compare 36 = .ok (.iload_n 1, 1) := by decide +kernel
theorem dX3_compare_37 : decode cX3_compare 37 = .ok (.iload_n 2, 1) := by decide +kernel
theorem dX3_compare_38 : decode cX3_compare 38 = .ok (.invokevirtual 116, 3) := by decide +kernel
theorem dX3_compare_41 : decode cX3_compare 41 = .ok (.ireturn, 1) := by decide +kernel
theorem dX3_count_0 : decode cX3_count 0 = .ok (.iload_n 1, 1) := by decide +kernel
theorem dX3_count_1 : decode cX3_count 1 = .ok (.ifCond .lt 8, 3) := by decide +kernel
theorem dX3_count_4 : decode cX3_count 4 = .ok (.iload_n 1, 1) := by decide +kernel
theorem dX3_count_5 : decode cX3_count 5 = .ok (.iconst 1, 1) := by decide +kernel
theorem dX3_count_6 : decode cX3_count 6 = .ok (.if_icmp .le 13, 3) := by decide +kernel
theorem dX3_count_9 : decode cX3_count 9 = .ok (.new 48, 3) := by decide +kernel
theorem dX3_count_12 : decode cX3_count 12 = .ok (.dup, 1) := by decide +kernel
theorem dX3_count_13 : decode cX3_count 13 = .ok (.ldc 119, 2) := by decide +kernel
theorem dX3_count_15 : decode cX3_count 15 = .ok (.invokespecial 52, 3) := by decide +kernel
theorem dX3_count_18 : decode cX3_count 18 = .ok (.athrow, 1) := by decide +kernel
theorem dX3_count_19 : decode cX3_count 19 = .ok (.iload_n 1, 1) := by decide +kernel
theorem dX3_count_20 : decode cX3_count 20 = .ok (.ifCond .ne 13, 3) := by decide +kernel
theorem dX3_count_23 : decode cX3_count 23 = .ok (.aload_n 0, 1) := by decide +kernel
theorem dX3_count_24 : decode cX3_count 24 = .ok (.getfield 12, 3) := by decide +kernel
theorem dX3_count_27 : decode cX3_count 27 = .ok (.invokevirtual 44, 3) := by decide +kernel
theorem dX3_count_30 : decode cX3_count 30 = .ok (.goto 10, 3) := by decide +kernel
theorem dX3_count_33 : decode cX3_count 33 = .ok (.aload_n 0, 1) := by decide +kernel
theorem dX3_count_34 : decode cX3_count 34 = .ok (.getfield 22, 3) := by decide +kernel
theorem dX3_count_37 : decode cX3_count 37 = .ok (.invokevirtual 66, 3) := by decide +kernel
theorem dX3_count_40 : decode cX3_count 40 = .ok (.ireturn, 1) := by decide +kernel
theorem dX3_word_0 : decode cX3_word 0 = .ok (.iload_n 1, 1) := by decide +kernel
theorem dX3_word_1 : decode cX3_word 1 = .ok (.ifCond .lt 14, 3) := by decide +kernel
theorem dX3_word_4 : decode cX3_word 4 = .ok (.iload_n 1, 1) := by decide +kernel
theorem dX3_word_5 : decode cX3_word 5 = .ok (.aload_n 0, 1) := by decide +kernel
theorem dX3_word_6 : decode cX3_word 6 = .ok (.getfield 12, 3) := by decide +kernel
theorem dX3_word_9 : decode cX3_word 9 = .ok (.invokevirtual 44, 3) := by decide +kernel
theorem dX3_word_12 : decode cX3_word 12 = .ok (.if_icmp .lt 13, 3) := by decide +kernel
theorem dX3_word_15 : decode cX3_word 15 = .ok (.new 33, 3) := by decide +kernel
theorem dX3_word_18 : decode cX3_word 18 = .ok (.dup, 1) := by decide +kernel
theorem dX3_word_19 : decode cX3_word 19 = .ok (.ldc 121, 2) := by decide +kernel
theorem dX3_word_21 : decode cX3_word 21 = .ok (.invokespecial 37, 3) := by decide +kernel
theorem dX3_word_24 : decode cX3_word 24 = .ok (.athrow, 1) := by decide +kernel
theorem dX3_word_25 : decode cX3_word 25 = .ok (.lconst 0, 1) := by decide +kernel
theorem dX3_word_26 : decode cX3_word 26 = .ok (.lstore_n 2, 1) := by decide +kernel
theorem dX3_word_27 : decode cX3_word 27 = .ok (.iconst 0, 1) := by decide +kernel
theorem dX3_word_28 : decode cX3_word 28 = .ok (.istore 4, 2) := by decide +kernel
theorem dX3_word_30 : decode cX3_word 30 = .ok (.iload 4, 2) := by decide +kernel
theorem dX3_word_32 : decode cX3_word 32 = .ok (.bipush 8, 2) := by decide +kernel
theorem dX3_word_34 : decode cX3_word 34 = .ok (.if_icmp .ge 27, 3) := by decide +kernel
theorem dX3_word_37 : decode cX3_word 37 = .ok (.lload_n 2, 1) := by decide +kernel
theorem dX3_word_38 : decode cX3_word 38 = .ok (.bipush 8, 2) := by decide +kernel
theorem dX3_word_40 : decode cX3_word 40 = .ok (.lshl, 1) := by decide +kernel
theorem dX3_word_41 : decode cX3_word 41 = .ok (.aload_n 0, 1) := by decide +kernel
theorem dX3_word_42 : decode cX3_word 42 = .ok (.getfield 12, 3) := by decide +kernel
theorem dX3_word_45 : decode cX3_word 45 = .ok (.iload_n 1, 1) := by decide +kernel
theorem dX3_word_46 : decode cX3_word 46 = .ok (.iload 4, 2) := by decide +kernel
theorem dX3_word_48 : decode cX3_word 48 = .ok (.iadd, 1) := by decide +kernel
theorem dX3_word_49 : decode cX3_word 49 = .ok (.invokevirtual 123, 3) := by decide +kernel
theorem dX3_word_52 : decode cX3_word 52 = .ok (.i2l, 1) := by decide +kernel
theorem dX3_word_53 : decode cX3_word 53 = .ok (.lor, 1) := by decide +kernel
theorem dX3_word_54 : decode cX3_word 54 = .ok (.lstore_n 2, 1) := by decide +kernel
theorem dX3_word_55 : decode cX3_word 55 = .ok (.iinc 4 1, 3) := by decide +kernel
theorem dX3_word_58 : decode cX3_word 58 = .ok (.goto (-28), 3) := by decide +kernel
theorem dX3_word_61 : decode cX3_word 61 = .ok (.lload_n 2, 1) := by decide +kernel
theorem dX3_word_62 : decode cX3_word 62 = .ok (.lreturn, 1) := by decide +kernel
