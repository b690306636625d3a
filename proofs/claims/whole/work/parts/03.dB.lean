theorem dX0_init_0 : decode cX0_init 0 = .ok (.aload_n 0, 1) := by decide +kernel
theorem dX0_init_1 : decode cX0_init 1 = .ok (.invokespecial 3, 3) := by decide +kernel
theorem dX0_init_4 : decode cX0_init 4 = .ok (.aload_n 0, 1) := by decide +kernel
theorem dX0_init_5 : decode cX0_init 5 = .ok (.bipush 64, 2) := by decide +kernel
theorem dX0_init_7 : decode cX0_init 7 = .ok (.newarray .byte, 2) := by decide +kernel
theorem dX0_init_9 : decode cX0_init 9 = .ok (.putfield 9, 3) := by decide +kernel
theorem dX0_init_12 : decode cX0_init 12 = .ok (.aload_n 0, 1) := by decide +kernel
theorem dX0_init_13 : decode cX0_init 13 = .ok (.iconst 0, 1) := by decide +kernel
theorem dX0_init_14 : decode cX0_init 14 = .ok (.putfield 15, 3) := by decide +kernel
theorem dX0_init_17 : decode cX0_init 17 = .ok (.return_, 1) := by decide +kernel
theorem dX0_hasRoomFor_0 : decode cX0_hasRoomFor 0 = .ok (.iload_n 1, 1) := by decide +kernel
theorem dX0_hasRoomFor_1 : decode cX0_hasRoomFor 1 = .ok (.ifCond .lt 19, 3) := by decide +kernel
theorem dX0_hasRoomFor_4 : decode cX0_hasRoomFor 4 = .ok (.iload_n 1, 1) := by decide +kernel
theorem dX0_hasRoomFor_5 : decode cX0_hasRoomFor 5 = .ok (.sipush 4096, 3) := by decide +kernel
theorem dX0_hasRoomFor_8 : decode cX0_hasRoomFor 8 = .ok (.aload_n 0, 1) := by decide +kernel
theorem dX0_hasRoomFor_9 : decode cX0_hasRoomFor 9 = .ok (.getfield 15, 3) := by decide +kernel
theorem dX0_hasRoomFor_12 : decode cX0_hasRoomFor 12 = .ok (.isub, 1) := by decide +kernel
theorem dX0_hasRoomFor_13 : decode cX0_hasRoomFor 13 = .ok (.if_icmp .gt 7, 3) := by decide +kernel
theorem dX0_hasRoomFor_16 : decode cX0_hasRoomFor 16 = .ok (.iconst 1, 1) := by decide +kernel
theorem dX0_hasRoomFor_17 : decode cX0_hasRoomFor 17 = .ok (.goto 4, 3) := by decide +kernel
theorem dX0_hasRoomFor_20 : decode cX0_hasRoomFor 20 = .ok (.iconst 0, 1) := by decide +kernel
theorem dX0_hasRoomFor_21 : decode cX0_hasRoomFor 21 = .ok (.ireturn, 1) := by decide +kernel
theorem dX0_appendNumber_0 : decode cX0_appendNumber 0 = .ok (.iload_n 3, 1) := by decide +kernel
theorem dX0_appendNumber_1 : decode cX0_appendNumber 1 = .ok (.bipush 8, 2) := by decide +kernel
theorem dX0_appendNumber_3 : decode cX0_appendNumber 3 = .ok (.invokestatic 31, 3) := by decide +kernel
theorem dX0_appendNumber_6 : decode cX0_appendNumber 6 = .ok (.iconst 1, 1) := by decide +kernel
theorem dX0_appendNumber_7 : decode cX0_appendNumber 7 = .ok (.isub, 1) := by decide +kernel
theorem dX0_appendNumber_8 : decode cX0_appendNumber 8 = .ok (.istore 4, 2) := by decide +kernel
theorem dX0_appendNumber_10 : decode cX0_appendNumber 10 = .ok (.iload 4, 2) := by decide +kernel
theorem dX0_appendNumber_12 : decode cX0_appendNumber 12 = .ok (.ifCond .lt 25, 3) := by decide +kernel
theorem dX0_appendNumber_15 : decode cX0_appendNumber 15 = .ok (.aload_n 0, 1) := by decide +kernel
theorem dX0_appendNumber_16 : decode cX0_appendNumber 16 = .ok (.lload_n 1, 1) := by decide +kernel
theorem dX0_appendNumber_17 : decode cX0_appendNumber 17 = .ok (.bipush 8, 2) := by decide +kernel
theorem dX0_appendNumber_19 : decode cX0_appendNumber 19 = .ok (.iload 4, 2) := by decide +kernel
theorem dX0_appendNumber_21 : decode cX0_appendNumber 21 = .ok (.imul, 1) := by decide +kernel
theorem dX0_appendNumber_22 : decode cX0_appendNumber 22 = .ok (.lshr, 1) := by decide +kernel
theorem dX0_appendNumber_23 : decode cX0_appendNumber 23 = .ok (.l2i, 1) := by decide +kernel
theorem dX0_appendNumber_24 : decode cX0_appendNumber 24 = .ok (.sipush 255, 3) := by decide +kernel
theorem dX0_appendNumber_27 : decode cX0_appendNumber 27 = .ok (.iand, 1) := by decide +kernel
theorem dX0_appendNumber_28 : decode cX0_appendNumber 28 = .ok (.invokevirtual 37, 3) := by decide +kernel
theorem dX0_appendNumber_31 : decode cX0_appendNumber 31 = .ok (.iinc 4 (-1), 3) := by decide +kernel
theorem dX0_appendNumber_34 : decode cX0_appendNumber 34 = .ok (.goto (-24), 3) := by decide +kernel
theorem dX0_appendNumber_37 : decode cX0_appendNumber 37 = .ok (.return_, 1) := by decide +kernel
theorem dX0_append_0 : decode cX0_append 0 = .ok (.aload_n 0, 1) := by decide +kernel
theorem dX0_append_1 : decode cX0_append 1 = .ok (.iconst 1, 1) := by decide +kernel
theorem dX0_append_2 : decode cX0_append 2 = .ok (.invokevirtual 19, 3) := by decide +kernel
theorem dX0_append_5 : decode cX0_append 5 = .ok (.ifCond .eq 19, 3) := by decide +kernel
theorem dX0_append_8 : decode cX0_append 8 = .ok (.aload_n 0, 1) := by decide +kernel
theorem dX0_append_9 : decode cX0_append 9 = .ok (.iconst 1, 1) := by decide +kernel
theorem dX0_append_10 : decode cX0_append 10 = .ok (.invokevirtual 23, 3) := by decide +kernel
theorem dX0_append_13 : decode cX0_append 13 = .ok (.aload_n 0, 1) := by decide +kernel
theorem dX0_append_14 : decode cX0_append 14 = .ok (.aload_n 0, 1) := by decide +kernel
theorem dX0_append_15 : decode cX0_append 15 = .ok (.getfield 15, 3) := by decide +kernel
theorem dX0_append_18 : decode cX0_append 18 = .ok (.iconst 1, 1) := by decide +kernel
theorem dX0_append_19 : decode cX0_append 19 = .ok (.isub, 1) := by decide +kernel
theorem dX0_append_20 : decode cX0_append 20 = .ok (.iload_n 1, 1) := by decide +kernel
theorem dX0_append_21 : decode cX0_append 21 = .ok (.invokevirtual 27, 3) := by decide +kernel
theorem dX0_append_24 : decode cX0_append 24 = .ok (.return_, 1) := by decide +kernel
theorem dX0_lengthen_0 : decode cX0_lengthen 0 = .ok (.aload_n 0, 1) := by decide +kernel
theorem dX0_lengthen_1 : decode cX0_lengthen 1 = .ok (.getfield 15, 3) := by decide +kernel
theorem dX0_lengthen_4 : decode cX0_lengthen 4 = .ok (.iload_n 1, 1) := by decide +kernel
theorem dX0_lengthen_5 : decode cX0_lengthen 5 = .ok (.iadd, 1) := by decide +kernel
theorem dX0_lengthen_6 : decode cX0_lengthen 6 = .ok (.istore_n 2, 1) := by decide +kernel
theorem dX0_lengthen_7 : decode cX0_lengthen 7 = .ok (.iload_n 2, 1) := by decide +kernel
theorem dX0_lengthen_8 : decode cX0_lengthen 8 = .ok (.aload_n 0, 1) := by decide +kernel
theorem dX0_lengthen_9 : decode cX0_lengthen 9 = .ok (.getfield 9, 3) := by decide +kernel
theorem dX0_lengthen_12 : decode cX0_lengthen 12 = .ok (.arraylength, 1) := by decide +kernel
theorem dX0_lengthen_13 : decode cX0_lengthen 13 = .ok (.if_icmp .le 31, 3) := by decide +kernel
theorem dX0_lengthen_16 : decode cX0_lengthen 16 = .ok (.aload_n 0, 1) := by decide +kernel
theorem dX0_lengthen_17 : decode cX0_lengthen 17 = .ok (.aload_n 0, 1) := by decide +kernel
theorem dX0_lengthen_18 : decode cX0_lengthen 18 = .ok (.getfield 9, 3) := by decide +kernel
theorem dX0_lengthen_21 : decode cX0_lengthen 21 = .ok (.iload_n 2, 1) := by decide +kernel
theorem dX0_lengthen_22 : decode cX0_lengthen 22 = .ok (.sipush 4096, 3) := by decide +kernel
theorem dX0_lengthen_25 : decode cX0_lengthen 25 = .ok (.iconst 2, 1) := by decide +kernel
theorem dX0_lengthen_26 : decode cX0_lengthen 26 = .ok (.aload_n 0, 1) := by decide +kernel
theorem dX0_lengthen_27 : decode cX0_lengthen 27 = .ok (.getfield 9, 3) := by decide +kernel
theorem dX0_lengthen_30 : decode cX0_lengthen 30 = .ok (.arraylength, 1) := by decide +kernel
theorem dX0_lengthen_31 : decode cX0_lengthen 31 = .ok (.imul, 1) := by decide +kernel
theorem dX0_lengthen_32 : decode cX0_lengthen 32 = .ok (.invokestatic 31, 3) := by decide +kernel
theorem dX0_lengthen_35 : decode cX0_lengthen 35 = .ok (.invokestatic 57, 3) := by decide +kernel
theorem dX0_lengthen_38 : decode cX0_lengthen 38 = .ok (.invokestatic 60, 3) := by decide +kernel
theorem dX0_lengthen_41 : decode cX0_lengthen 41 = .ok (.putfield 9, 3) := by decide +kernel
theorem dX0_lengthen_44 : decode cX0_lengthen 44 = .ok (.aload_n 0, 1) := by decide +kernel
theorem dX0_lengthen_45 : decode cX0_lengthen 45 = .ok (.iload_n 2, 1) := by decide +kernel
theorem dX0_lengthen_46 : decode cX0_lengthen 46 = .ok (.putfield 15, 3) := by decide +kernel
theorem dX0_lengthen_49 : decode cX0_lengthen 49 = .ok (.return_, 1) := by decide +kernel
theorem dJA_copyB_0 : decode cJA_copyB 0 = .ok (.iload_n 1, 1) := by decide +kernel
theorem dJA_copyB_1 : decode cJA_copyB 1 = .ok (.aload_n 0, 1) := by decide +kernel
theorem dJA_copyB_2 : decode cJA_copyB 2 = .ok (.arraylength, 1) := by decide +kernel
theorem dJA_copyB_3 : decode cJA_copyB 3 = .ok (.if_icmp .ne 11, 3) := by decide +kernel
theorem dJA_copyB_6 : decode cJA_copyB 6 = .ok (.aload_n 0, 1) := by decide +kernel
theorem dJA_copyB_7 : decode cJA_copyB 7 = .ok (.invokevirtual 310, 3) := by decide +kernel
theorem dJA_copyB_10 : decode cJA_copyB 10 = .ok (.checkcast 311, 3) := by decide +kernel
theorem dJA_copyB_13 : decode cJA_copyB 13 = .ok (.areturn, 1) := by decide +kernel
theorem dJA_copyB_14 : decode cJA_copyB 14 = .ok (.iload_n 1, 1) := by decide +kernel
theorem dJA_copyB_15 : decode cJA_copyB 15 = .ok (.newarray .byte, 2) := by decide +kernel
theorem dJA_copyB_17 : decode cJA_copyB 17 = .ok (.astore_n 2, 1) := by decide +kernel
theorem dJA_copyB_18 : decode cJA_copyB 18 = .ok (.aload_n 0, 1) := by decide +kernel
theorem dJA_copyB_19 : decode cJA_copyB 19 = .ok (.iconst 0, 1) := by decide +kernel
theorem dJA_copyB_20 : decode cJA_copyB 20 = .ok (.aload_n 2, 1) := by decide +kernel
theorem dJA_copyB_21 : decode cJA_copyB 21 = .ok (.iconst 0, 1) := by decide +kernel
theorem dJA_copyB_22 : decode cJA_copyB 22 = .ok (.aload_n 0, 1) := by decide +kernel
theorem dJA_copyB_23 : decode cJA_copyB 23 = .ok (.arraylength, 1) := by decide +kernel
theorem dJA_copyB_24 : decode cJA_copyB 24 = .ok (.iload_n 1, 1) := by decide +kernel
theorem dJA_copyB_25 : decode cJA_copyB 25 = .ok (.invokestatic 304, 3) := by decide +kernel
theorem dJA_copyB_28 : decode cJA_copyB 28 = .ok (.invokestatic 150, 3) := by decide +kernel
theorem dJA_copyB_31 : decode cJA_copyB 31 = .ok (.aload_n 2, 1) := by decide +kernel
theorem dJA_copyB_32 : decode cJA_copyB 32 = .ok (.areturn, 1) := by decide +kernel
theorem dX0_set_0 : decode cX0_set 0 = .ok (.iload_n 1, 1) := by decide +kernel
theorem dX0_set_1 : decode cX0_set 1 = .ok (.ifCond .lt 20, 3) := by decide +kernel
theorem dX0_set_4 : decode cX0_set 4 = .ok (.iload_n 1, 1) := by decide +kernel
theorem dX0_set_5 : decode cX0_set 5 = .ok (.aload_n 0, 1) := by decide +kernel
theorem dX0_set_6 : decode cX0_set 6 = .ok (.getfield 9, 3) := by decide +kernel
theorem dX0_set_9 : decode cX0_set 9 = .ok (.arraylength, 1) := by decide +kernel
theorem dX0_set_10 : decode cX0_set 10 = .ok (.if_icmp .ge 11, 3) := by decide +kernel
theorem dX0_set_13 : decode cX0_set 13 = .ok (.aload_n 0, 1) := by decide +kernel
theorem dX0_set_14 : decode cX0_set 14 = .ok (.getfield 9, 3) := by decide +kernel
theorem dX0_set_17 : decode cX0_set 17 = .ok (.iload_n 1, 1) := by decide +kernel
theorem dX0_set_18 : decode cX0_set 18 = .ok (.iload_n 2, 1) := by decide +kernel
theorem dX0_set_19 : decode cX0_set 19 = .ok (.i2b, 1) := by decide +kernel
theorem dX0_set_20 : decode cX0_set 20 = .ok (.bastore, 1) := by decide +kernel
theorem dX0_set_21 : decode cX0_set 21 = .ok (.return_, 1) := by decide +kernel
theorem dX0_size_0 : decode cX0_size 0 = .ok (.aload_n 0, 1) := by decide +kernel
theorem dX0_size_1 : decode cX0_size 1 = .ok (.getfield 15, 3) := by decide +kernel
theorem dX0_size_4 : decode cX0_size 4 = .ok (.ireturn, 1) := by decide +kernel
theorem dX0_cut_0 : decode cX0_cut 0 = .ok (.iload_n 1, 1) := by decide +kernel
theorem dX0_cut_1 : decode cX0_cut 1 = .ok (.ifCond .lt 16, 3) := by decide +kernel
theorem dX0_cut_4 : decode cX0_cut 4 = .ok (.iload_n 1, 1) := by decide +kernel
theorem dX0_cut_5 : decode cX0_cut 5 = .ok (.aload_n 0, 1) := by decide +kernel
theorem dX0_cut_6 : decode cX0_cut 6 = .ok (.getfield 15, 3) := by decide +kernel
theorem dX0_cut_9 : decode cX0_cut 9 = .ok (.if_icmp .ge 8, 3) := by decide +kernel
theorem dX0_cut_12 : decode cX0_cut 12 = .ok (.aload_n 0, 1) := by decide +kernel
theorem dX0_cut_13 : decode cX0_cut 13 = .ok (.iload_n 1, 1) := by decide +kernel
theorem dX0_cut_14 : decode cX0_cut 14 = .ok (.putfield 15, 3) := by decide +kernel
theorem dX0_cut_17 : decode cX0_cut 17 = .ok (.return_, 1) := by decide +kernel
theorem dX0_become_0 : decode cX0_become 0 = .ok (.aload_n 0, 1) := by decide +kernel
theorem dX0_become_1 : decode cX0_become 1 = .ok (.iconst 0, 1) := by decide +kernel
theorem dX0_become_2 : decode cX0_become 2 = .ok (.invokevirtual 44, 3) := by decide +kernel
theorem dX0_become_5 : decode cX0_become 5 = .ok (.aload_n 0, 1) := by decide +kernel
theorem dX0_become_6 : decode cX0_become 6 = .ok (.aload_n 1, 1) := by decide +kernel
theorem dX0_become_7 : decode cX0_become 7 = .ok (.invokevirtual 47, 3) := by decide +kernel
theorem dX0_become_10 : decode cX0_become 10 = .ok (.return_, 1) := by decide +kernel
theorem dX0_putBehind_0 : decode cX0_putBehind 0 = .ok (.aload_n 0, 1) := by decide +kernel
theorem dX0_putBehind_1 : decode cX0_putBehind 1 = .ok (.getfield 15, 3) := by decide +kernel
theorem dX0_putBehind_4 : decode cX0_putBehind 4 = .ok (.istore_n 2, 1) := by decide +kernel
theorem dX0_putBehind_5 : decode cX0_putBehind 5 = .ok (.aload_n 0, 1) := by decide +kernel
theorem dX0_putBehind_6 : decode cX0_putBehind 6 = .ok (.aload_n 1, 1) := by decide +kernel
theorem dX0_putBehind_7 : decode cX0_putBehind 7 = .ok (.getfield 15, 3) := by decide +kernel
theorem dX0_putBehind_10 : decode cX0_putBehind 10 = .ok (.invokevirtual 19, 3) := by decide +kernel
theorem dX0_putBehind_13 : decode cX0_putBehind 13 = .ok (.ifCond .eq 24, 3) := by decide +kernel
theorem dX0_putBehind_16 : decode cX0_putBehind 16 = .ok (.aload_n 0, 1) := by decide +kernel
theorem dX0_putBehind_17 : decode cX0_putBehind 17 = .ok (.aload_n 1, 1) := by decide +kernel
theorem dX0_putBehind_18 : decode cX0_putBehind 18 = .ok (.getfield 15, 3) := by decide +kernel
theorem dX0_putBehind_21 : decode cX0_putBehind 21 = .ok (.invokevirtual 23, 3) := by decide +kernel
theorem dX0_putBehind_24 : decode cX0_putBehind 24 = .ok (.aload_n 0, 1) := by decide +kernel
theorem dX0_putBehind_25 : decode cX0_putBehind 25 = .ok (.aload_n 1, 1) := by decide +kernel
theorem dX0_putBehind_26 : decode cX0_putBehind 26 = .ok (.getfield 9, 3) := by decide +kernel
theorem dX0_putBehind_29 : decode cX0_putBehind 29 = .ok (.aload_n 1, 1) := by decide +kernel
theorem dX0_putBehind_30 : decode cX0_putBehind 30 = .ok (.getfield 15, 3) := by decide +kernel
theorem dX0_putBehind_33 : decode cX0_putBehind 33 = .ok (.iload_n 2, 1) := by decide +kernel
theorem dX0_putBehind_34 : decode cX0_putBehind 34 = .ok (.invokevirtual 40, 3) := by decide +kernel
theorem dX0_putBehind_37 : decode cX0_putBehind 37 = .ok (.return_, 1) := by decide +kernel
theorem dX0_layOver_0 : decode cX0_layOver 0 = .ok (.iload_n 2, 1) := by decide +kernel
theorem dX0_layOver_1 : decode cX0_layOver 1 = .ok (.ifCond .lt 35, 3) := by decide +kernel
theorem dX0_layOver_4 : decode cX0_layOver 4 = .ok (.iload_n 2, 1) := by decide +kernel
theorem dX0_layOver_5 : decode cX0_layOver 5 = .ok (.aload_n 1, 1) := by decide +kernel
theorem dX0_layOver_6 : decode cX0_layOver 6 = .ok (.arraylength, 1) := by decide +kernel
theorem dX0_layOver_7 : decode cX0_layOver 7 = .ok (.if_icmp .gt 29, 3) := by decide +kernel
theorem dX0_layOver_10 : decode cX0_layOver 10 = .ok (.iload_n 3, 1) := by decide +kernel
theorem dX0_layOver_11 : decode cX0_layOver 11 = .ok (.ifCond .lt 25, 3) := by decide +kernel
theorem dX0_layOver_14 : decode cX0_layOver 14 = .ok (.iload_n 3, 1) := by decide +kernel
theorem dX0_layOver_15 : decode cX0_layOver 15 = .ok (.aload_n 0, 1) := by decide +kernel
theorem dX0_layOver_16 : decode cX0_layOver 16 = .ok (.getfield 9, 3) := by decide +kernel
theorem dX0_layOver_19 : decode cX0_layOver 19 = .ok (.arraylength, 1) := by decide +kernel
theorem dX0_layOver_20 : decode cX0_layOver 20 = .ok (.iload_n 2, 1) := by decide +kernel
theorem dX0_layOver_21 : decode cX0_layOver 21 = .ok (.isub, 1) := by decide +kernel
theorem dX0_layOver_22 : decode cX0_layOver 22 = .ok (.if_icmp .gt 14, 3) := by decide +kernel
theorem dX0_layOver_25 : decode cX0_layOver 25 = .ok (.aload_n 1, 1) := by decide +kernel
theorem dX0_layOver_26 : decode cX0_layOver 26 = .ok (.iconst 0, 1) := by decide +kernel
theorem dX0_layOver_27 : decode cX0_layOver 27 = .ok (.aload_n 0, 1) := by decide +kernel
theorem dX0_layOver_28 : decode cX0_layOver 28 = .ok (.getfield 9, 3) := by decide +kernel
theorem dX0_layOver_31 : decode cX0_layOver 31 = .ok (.iload_n 3, 1) := by decide +kernel
theorem dX0_layOver_32 : decode cX0_layOver 32 = .ok (.iload_n 2, 1) := by decide +kernel
theorem dX0_layOver_33 : decode cX0_layOver 33 = .ok (.invokestatic 51, 3) := by decide +kernel
theorem dX0_layOver_36 : decode cX0_layOver 36 = .ok (.return_, 1) := by decide +kernel
theorem dX0_at_0 : decode cX0_at 0 = .ok (.iload_n 1, 1) := by decide +kernel
theorem dX0_at_1 : decode cX0_at 1 = .ok (.ifCond .lt 33, 3) := by decide +kernel
theorem dX0_at_4 : decode cX0_at 4 = .ok (.iload_n 1, 1) := by decide +kernel
theorem dX0_at_5 : decode cX0_at 5 = .ok (.aload_n 0, 1) := by decide +kernel
theorem dX0_at_6 : decode cX0_at 6 = .ok (.getfield 15, 3) := by decide +kernel
theorem dX0_at_9 : decode cX0_at 9 = .ok (.if_icmp .ge 25, 3) := by decide +kernel
theorem dX0_at_12 : decode cX0_at 12 = .ok (.iload_n 1, 1) := by decide +kernel
theorem dX0_at_13 : decode cX0_at 13 = .ok (.aload_n 0, 1) := by decide +kernel
theorem dX0_at_14 : decode cX0_at 14 = .ok (.getfield 9, 3) := by decide +kernel
theorem dX0_at_17 : decode cX0_at 17 = .ok (.arraylength, 1) := by decide +kernel
theorem dX0_at_18 : decode cX0_at 18 = .ok (.if_icmp .ge 16, 3) := by decide +kernel
theorem dX0_at_21 : decode cX0_at 21 = .ok (.aload_n 0, 1) := by decide +kernel
theorem dX0_at_22 : decode cX0_at 22 = .ok (.getfield 9, 3) := by decide +kernel
theorem dX0_at_25 : decode cX0_at 25 = .ok (.iload_n 1, 1) := by decide +kernel
theorem dX0_at_26 : decode cX0_at 26 = .ok (.baload, 1) := by decide +kernel
theorem dX0_at_27 : decode cX0_at 27 = .ok (.sipush 255, 3) := by decide +kernel
theorem dX0_at_30 : decode cX0_at 30 = .ok (.iand, 1) := by decide +kernel
theorem dX0_at_31 : decode cX0_at 31 = .ok (.goto 4, 3) := by decide +kernel
theorem dX0_at_34 : decode cX0_at 34 = .ok (.iconst 0, 1) := by decide +kernel
theorem dX0_at_35 : decode cX0_at 35 = .ok (.ireturn, 1) := by decide +kernel
theorem dJA_copyI_0 : decode cJA_copyI 0 = .ok (.iload_n 1, 1) := by decide +kernel
theorem dJA_copyI_1 : decode cJA_copyI 1 = .ok (.aload_n 0, 1) := by decide +kernel
theorem dJA_copyI_2 : decode cJA_copyI 2 = .ok (.arraylength, 1) := by decide +kernel
theorem dJA_copyI_3 : decode cJA_copyI 3 = .ok (.if_icmp .ne 11, 3) := by decide +kernel
theorem dJA_copyI_6 : decode cJA_copyI 6 = .ok (.aload_n 0, 1) := by decide +kernel
theorem dJA_copyI_7 : decode cJA_copyI 7 = .ok (.invokevirtual 316, 3) := by decide +kernel
theorem dJA_copyI_10 : decode cJA_copyI 10 = .ok (.checkcast 317, 3) := by decide +kernel
theorem dJA_copyI_13 : decode cJA_copyI 13 = .ok (.areturn, 1) := by decide +kernel
theorem dJA_copyI_14 : decode cJA_copyI 14 = .ok (.iload_n 1, 1) := by decide +kernel
theorem dJA_copyI_15 : decode cJA_copyI 15 = .ok (.newarray .int, 2) := by decide +kernel
theorem dJA_copyI_17 : decode cJA_copyI 17 = .ok (.astore_n 2, 1) := by decide +kernel
theorem dJA_copyI_18 : decode cJA_copyI 18 = .ok (.aload_n 0, 1) := by decide +kernel
theorem dJA_copyI_19 : decode cJA_copyI 19 = .ok (.iconst 0, 1) := by decide +kernel
theorem dJA_copyI_20 : decode cJA_copyI 20 = .ok (.aload_n 2, 1) := by decide +kernel
theorem dJA_copyI_21 : decode cJA_copyI 21 = .ok (.iconst 0, 1) := by decide +kernel
theorem dJA_copyI_22 : decode cJA_copyI 22 = .ok (.aload_n 0, 1) := by decide +kernel
theorem dJA_copyI_23 : decode cJA_copyI 23 = .ok (.arraylength, 1) := by decide +kernel
theorem dJA_copyI_24 : decode cJA_copyI 24 = .ok (.iload_n 1, 1) := by decide +kernel
theorem dJA_copyI_25 : decode cJA_copyI 25 = .ok (.invokestatic 304, 3) := by decide +kernel
theorem dJA_copyI_28 : decode cJA_copyI 28 = .ok (.invokestatic 150, 3) := by decide +kernel
theorem dJA_copyI_31 : decode cJA_copyI 31 = .ok (.aload_n 2, 1) := by decide +kernel
theorem dJA_copyI_32 : decode cJA_copyI 32 = .ok (.areturn, 1) := by decide +kernel
theorem dX0_putInFront_0 : decode cX0_putInFront 0 = .ok (.aload_n 0, 1) := by decide +kernel
theorem dX0_putInFront_1 : decode cX0_putInFront 1 = .ok (.getfield 15, 3) := by decide +kernel
theorem dX0_putInFront_4 : decode cX0_putInFront 4 = .ok (.istore_n 2, 1) := by decide +kernel
theorem dX0_putInFront_5 : decode cX0_putInFront 5 = .ok (.aload_n 1, 1) := by decide +kernel
theorem dX0_putInFront_6 : decode cX0_putInFront 6 = .ok (.getfield 15, 3) := by decide +kernel
theorem dX0_putInFront_9 : decode cX0_putInFront 9 = .ok (.istore_n 3, 1) := by decide +kernel
theorem dX0_putInFront_10 : decode cX0_putInFront 10 = .ok (.aload_n 0, 1) := by decide +kernel
theorem dX0_putInFront_11 : decode cX0_putInFront 11 = .ok (.iload_n 3, 1) := by decide +kernel
theorem dX0_putInFront_12 : decode cX0_putInFront 12 = .ok (.invokevirtual 19, 3) := by decide +kernel
theorem dX0_putInFront_15 : decode cX0_putInFront 15 = .ok (.ifCond .eq 28, 3) := by decide +kernel
theorem dX0_putInFront_18 : decode cX0_putInFront 18 = .ok (.aload_n 0, 1) := by decide +kernel
theorem dX0_putInFront_19 : decode cX0_putInFront 19 = .ok (.iload_n 3, 1) := by decide +kernel
theorem dX0_putInFront_20 : decode cX0_putInFront 20 = .ok (.invokevirtual 23, 3) := by decide +kernel
theorem dX0_putInFront_23 : decode cX0_putInFront 23 = .ok (.aload_n 0, 1) := by decide +kernel
theorem dX0_putInFront_24 : decode cX0_putInFront 24 = .ok (.aload_n 0, 1) := by decide +kernel
theorem dX0_putInFront_25 : decode cX0_putInFront 25 = .ok (.getfield 9, 3) := by decide +kernel
theorem dX0_putInFront_28 : decode cX0_putInFront 28 = .ok (.iload_n 2, 1) := by decide +kernel
theorem dX0_putInFront_29 : decode cX0_putInFront 29 = .ok (.iload_n 3, 1) := by decide +kernel
theorem dX0_putInFront_30 : decode cX0_putInFront 30 = .ok (.invokevirtual 40, 3) := by decide +kernel
theorem dX0_putInFront_33 : decode cX0_putInFront 33 = .ok (.aload_n 0, 1) := by decide +kernel
theorem dX0_putInFront_34 : decode cX0_putInFront 34 = .ok (.aload_n 1, 1) := by decide +kernel
theorem dX0_putInFront_35 : decode cX0_putInFront 35 = .ok (.getfield 9, 3) := by decide +kernel
theorem dX0_putInFront_38 : decode cX0_putInFront 38 = .ok (.iload_n 3, 1) := by decide +kernel
theorem dX0_putInFront_39 : decode cX0_putInFront 39 = .ok (.iconst 0, 1) := by decide +kernel
theorem dX0_putInFront_40 : decode cX0_putInFront 40 = .ok (.invokevirtual 40, 3) := by decide +kernel
theorem dX0_putInFront_43 : decode cX0_putInFront 43 = .ok (.return_, 1) := by decide +kernel
theorem dJI_compare_0 : decode cJI_compare 0 = .ok (.iload_n 0, 1) := by decide +kernel
theorem dJI_compare_1 : decode cJI_compare 1 = .ok (.iload_n 1, 1) := by decide +kernel
theorem dJI_compare_2 : decode cJI_compare 2 = .ok (.if_icmp .ge 7, 3) := by decide +kernel
theorem dJI_compare_5 : decode cJI_compare 5 = .ok (.iconst (-1), 1) := by decide +kernel
theorem dJI_compare_6 : decode cJI_compare 6 = .ok (.goto 13, 3) := by decide +kernel
theorem dJI_compare_9 : decode cJI_compare 9 = .ok (.iload_n 0, 1) := by decide +kernel
theorem dJI_compare_10 : decode cJI_compare 10 = .ok (.iload_n 1, 1) := by decide +kernel
theorem dJI_compare_11 : decode cJI_compare 11 = .ok (.if_icmp .ne 7, 3) := by decide +kernel
theorem dJI_compare_14 : decode cJI_compare 14 = .ok (.iconst 0, 1) := by decide +kernel
theorem dJI_compare_15 : decode cJI_compare 15 = .ok (.goto 4, 3) := by decide +kernel
theorem dJI_compare_18 : decode cJI_compare 18 = .ok (.iconst 1, 1) := by decide +kernel
theorem dJI_compare_19 : decode cJI_compare 19 = .ok (.ireturn, 1) := by decide +kernel
