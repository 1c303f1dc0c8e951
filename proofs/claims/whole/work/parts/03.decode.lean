theorem dX0_init_0 : decode cX0_init 0 = .ok (.aload_n 0, 1) := by decide +kernel
theorem dX0_init_1 : decode cX0_init 1 = .ok (.invokespecial 3, 3) := by decide +kernel
theorem dX0_init_4 : decode cX0_init 4 = .ok (.aload_n 0, 1) := by decide +kernel
theorem dX0_init_5 : decode cX0_init 5 = .ok (.iload_n 1, 1) := by decide +kernel
theorem dX0_init_6 : decode cX0_init 6 = .ok (.putfield 9, 3) := by decide +kernel
theorem dX0_init_9 : decode cX0_init 9 = .ok (.aload_n 0, 1) := by decide +kernel
theorem dX0_init_10 : decode cX0_init 10 = .ok (.iload_n 2, 1) := by decide +kernel
theorem dX0_init_11 : decode cX0_init 11 = .ok (.putfield 15, 3) := by decide +kernel
theorem dX0_init_14 : decode cX0_init 14 = .ok (.aload_n 0, 1) := by decide +kernel
theorem dX0_init_15 : decode cX0_init 15 = .ok (.iload_n 1, 1) := by decide +kernel
theorem dX0_init_16 : decode cX0_init 16 = .ok (.iload_n 2, 1) := by decide +kernel
theorem dX0_init_17 : decode cX0_init 17 = .ok (.imul, 1) := by decide +kernel
theorem dX0_init_18 : decode cX0_init 18 = .ok (.newarray .int, 2) := by decide +kernel
theorem dX0_init_20 : decode cX0_init 20 = .ok (.putfield 18, 3) := by decide +kernel
theorem dX0_init_23 : decode cX0_init 23 = .ok (.return_, 1) := by decide +kernel
theorem dX0_keep_0 : decode cX0_keep 0 = .ok (.iconst 0, 1) := by decide +kernel
theorem dX0_keep_1 : decode cX0_keep 1 = .ok (.istore_n 3, 1) := by decide +kernel
theorem dX0_keep_2 : decode cX0_keep 2 = .ok (.iload_n 3, 1) := by decide +kernel
theorem dX0_keep_3 : decode cX0_keep 3 = .ok (.aload_n 0, 1) := by decide +kernel
theorem dX0_keep_4 : decode cX0_keep 4 = .ok (.getfield 15, 3) := by decide +kernel
theorem dX0_keep_7 : decode cX0_keep 7 = .ok (.if_icmp .ge 30, 3) := by decide +kernel
theorem dX0_keep_10 : decode cX0_keep 10 = .ok (.aload_n 0, 1) := by decide +kernel
theorem dX0_keep_11 : decode cX0_keep 11 = .ok (.iload_n 3, 1) := by decide +kernel
theorem dX0_keep_12 : decode cX0_keep 12 = .ok (.iload_n 3, 1) := by decide +kernel
theorem dX0_keep_13 : decode cX0_keep 13 = .ok (.iload_n 2, 1) := by decide +kernel
theorem dX0_keep_14 : decode cX0_keep 14 = .ok (.if_icmp .ge 7, 3) := by decide +kernel
theorem dX0_keep_17 : decode cX0_keep 17 = .ok (.iload_n 1, 1) := by decide +kernel
theorem dX0_keep_18 : decode cX0_keep 18 = .ok (.goto 4, 3) := by decide +kernel
theorem dX0_keep_21 : decode cX0_keep 21 = .ok (.iconst 0, 1) := by decide +kernel
theorem dX0_keep_22 : decode cX0_keep 22 = .ok (.aload_n 0, 1) := by decide +kernel
theorem dX0_keep_23 : decode cX0_keep 23 = .ok (.getfield 9, 3) := by decide +kernel
theorem dX0_keep_26 : decode cX0_keep 26 = .ok (.bipush 32, 2) := by decide +kernel
theorem dX0_keep_28 : decode cX0_keep 28 = .ok (.invokevirtual 22, 3) := by decide +kernel
theorem dX0_keep_31 : decode cX0_keep 31 = .ok (.iinc 3 1, 3) := by decide +kernel
theorem dX0_keep_34 : decode cX0_keep 34 = .ok (.goto (-32), 3) := by decide +kernel
theorem dX0_keep_37 : decode cX0_keep 37 = .ok (.return_, 1) := by decide +kernel
theorem dX0_set_0 : decode cX0_set 0 = .ok (.iload_n 1, 1) := by decide +kernel
theorem dX0_set_1 : decode cX0_set 1 = .ok (.ifCond .lt 37, 3) := by decide +kernel
theorem dX0_set_4 : decode cX0_set 4 = .ok (.iload_n 1, 1) := by decide +kernel
theorem dX0_set_5 : decode cX0_set 5 = .ok (.aload_n 0, 1) := by decide +kernel
theorem dX0_set_6 : decode cX0_set 6 = .ok (.getfield 9, 3) := by decide +kernel
theorem dX0_set_9 : decode cX0_set 9 = .ok (.if_icmp .ge 29, 3) := by decide +kernel
theorem dX0_set_12 : decode cX0_set 12 = .ok (.iload_n 2, 1) := by decide +kernel
theorem dX0_set_13 : decode cX0_set 13 = .ok (.ifCond .lt 25, 3) := by decide +kernel
theorem dX0_set_16 : decode cX0_set 16 = .ok (.iload_n 2, 1) := by decide +kernel
theorem dX0_set_17 : decode cX0_set 17 = .ok (.aload_n 0, 1) := by decide +kernel
theorem dX0_set_18 : decode cX0_set 18 = .ok (.getfield 15, 3) := by decide +kernel
theorem dX0_set_21 : decode cX0_set 21 = .ok (.if_icmp .ge 17, 3) := by decide +kernel
theorem dX0_set_24 : decode cX0_set 24 = .ok (.aload_n 0, 1) := by decide +kernel
theorem dX0_set_25 : decode cX0_set 25 = .ok (.getfield 18, 3) := by decide +kernel
theorem dX0_set_28 : decode cX0_set 28 = .ok (.iload_n 2, 1) := by decide +kernel
theorem dX0_set_29 : decode cX0_set 29 = .ok (.aload_n 0, 1) := by decide +kernel
theorem dX0_set_30 : decode cX0_set 30 = .ok (.getfield 9, 3) := by decide +kernel
theorem dX0_set_33 : decode cX0_set 33 = .ok (.imul, 1) := by decide +kernel
theorem dX0_set_34 : decode cX0_set 34 = .ok (.iload_n 1, 1) := by decide +kernel
theorem dX0_set_35 : decode cX0_set 35 = .ok (.iadd, 1) := by decide +kernel
theorem dX0_set_36 : decode cX0_set 36 = .ok (.iload_n 3, 1) := by decide +kernel
theorem dX0_set_37 : decode cX0_set 37 = .ok (.iastore, 1) := by decide +kernel
theorem dX0_set_38 : decode cX0_set 38 = .ok (.return_, 1) := by decide +kernel
theorem dX0_fill_0 : decode cX0_fill 0 = .ok (.iload_n 1, 1) := by decide +kernel
theorem dX0_fill_1 : decode cX0_fill 1 = .ok (.ifCond .lt 53, 3) := by decide +kernel
theorem dX0_fill_4 : decode cX0_fill 4 = .ok (.iload_n 1, 1) := by decide +kernel
theorem dX0_fill_5 : decode cX0_fill 5 = .ok (.aload_n 0, 1) := by decide +kernel
theorem dX0_fill_6 : decode cX0_fill 6 = .ok (.getfield 15, 3) := by decide +kernel
theorem dX0_fill_9 : decode cX0_fill 9 = .ok (.if_icmp .ge 45, 3) := by decide +kernel
theorem dX0_fill_12 : decode cX0_fill 12 = .ok (.iload_n 2, 1) := by decide +kernel
theorem dX0_fill_13 : decode cX0_fill 13 = .ok (.ifCond .lt 41, 3) := by decide +kernel
theorem dX0_fill_16 : decode cX0_fill 16 = .ok (.iload_n 2, 1) := by decide +kernel
theorem dX0_fill_17 : decode cX0_fill 17 = .ok (.iload_n 3, 1) := by decide +kernel
theorem dX0_fill_18 : decode cX0_fill 18 = .ok (.if_icmp .ge 36, 3) := by decide +kernel
theorem dX0_fill_21 : decode cX0_fill 21 = .ok (.iload_n 3, 1) := by decide +kernel
theorem dX0_fill_22 : decode cX0_fill 22 = .ok (.aload_n 0, 1) := by decide +kernel
theorem dX0_fill_23 : decode cX0_fill 23 = .ok (.getfield 9, 3) := by decide +kernel
theorem dX0_fill_26 : decode cX0_fill 26 = .ok (.if_icmp .gt 28, 3) := by decide +kernel
theorem dX0_fill_29 : decode cX0_fill 29 = .ok (.aload_n 0, 1) := by decide +kernel
theorem dX0_fill_30 : decode cX0_fill 30 = .ok (.getfield 18, 3) := by decide +kernel
theorem dX0_fill_33 : decode cX0_fill 33 = .ok (.iload_n 1, 1) := by decide +kernel
theorem dX0_fill_34 : decode cX0_fill 34 = .ok (.aload_n 0, 1) := by decide +kernel
theorem dX0_fill_35 : decode cX0_fill 35 = .ok (.getfield 9, 3) := by decide +kernel
theorem dX0_fill_38 : decode cX0_fill 38 = .ok (.imul, 1) := by decide +kernel
theorem dX0_fill_39 : decode cX0_fill 39 = .ok (.iload_n 2, 1) := by decide +kernel
theorem dX0_fill_40 : decode cX0_fill 40 = .ok (.iadd, 1) := by decide +kernel
theorem dX0_fill_41 : decode cX0_fill 41 = .ok (.iload_n 1, 1) := by decide +kernel
theorem dX0_fill_42 : decode cX0_fill 42 = .ok (.aload_n 0, 1) := by decide +kernel
theorem dX0_fill_43 : decode cX0_fill 43 = .ok (.getfield 9, 3) := by decide +kernel
theorem dX0_fill_46 : decode cX0_fill 46 = .ok (.imul, 1) := by decide +kernel
theorem dX0_fill_47 : decode cX0_fill 47 = .ok (.iload_n 3, 1) := by decide +kernel
theorem dX0_fill_48 : decode cX0_fill 48 = .ok (.iadd, 1) := by decide +kernel
theorem dX0_fill_49 : decode cX0_fill 49 = .ok (.iload 4, 2) := by decide +kernel
theorem dX0_fill_51 : decode cX0_fill 51 = .ok (.invokestatic 26, 3) := by decide +kernel
theorem dX0_fill_54 : decode cX0_fill 54 = .ok (.return_, 1) := by decide +kernel
theorem dX0_give_0 : decode cX0_give 0 = .ok (.iload_n 1, 1) := by decide +kernel
theorem dX0_give_1 : decode cX0_give 1 = .ok (.ifCond .lt 54, 3) := by decide +kernel
theorem dX0_give_4 : decode cX0_give 4 = .ok (.iload_n 1, 1) := by decide +kernel
theorem dX0_give_5 : decode cX0_give 5 = .ok (.aload_n 0, 1) := by decide +kernel
theorem dX0_give_6 : decode cX0_give 6 = .ok (.getfield 15, 3) := by decide +kernel
theorem dX0_give_9 : decode cX0_give 9 = .ok (.if_icmp .ge 46, 3) := by decide +kernel
theorem dX0_give_12 : decode cX0_give 12 = .ok (.iload_n 2, 1) := by decide +kernel
theorem dX0_give_13 : decode cX0_give 13 = .ok (.ifCond .lt 42, 3) := by decide +kernel
theorem dX0_give_16 : decode cX0_give 16 = .ok (.iload_n 2, 1) := by decide +kernel
theorem dX0_give_17 : decode cX0_give 17 = .ok (.aload_n 0, 1) := by decide +kernel
theorem dX0_give_18 : decode cX0_give 18 = .ok (.getfield 9, 3) := by decide +kernel
theorem dX0_give_21 : decode cX0_give 21 = .ok (.if_icmp .gt 34, 3) := by decide +kernel
theorem dX0_give_24 : decode cX0_give 24 = .ok (.iload 4, 2) := by decide +kernel
theorem dX0_give_26 : decode cX0_give 26 = .ok (.ifCond .lt 29, 3) := by decide +kernel
theorem dX0_give_29 : decode cX0_give 29 = .ok (.iload 4, 2) := by decide +kernel
theorem dX0_give_31 : decode cX0_give 31 = .ok (.iload_n 2, 1) := by decide +kernel
theorem dX0_give_32 : decode cX0_give 32 = .ok (.iadd, 1) := by decide +kernel
theorem dX0_give_33 : decode cX0_give 33 = .ok (.aload_n 3, 1) := by decide +kernel
theorem dX0_give_34 : decode cX0_give 34 = .ok (.arraylength, 1) := by decide +kernel
theorem dX0_give_35 : decode cX0_give 35 = .ok (.if_icmp .gt 20, 3) := by decide +kernel
theorem dX0_give_38 : decode cX0_give 38 = .ok (.aload_n 0, 1) := by decide +kernel
theorem dX0_give_39 : decode cX0_give 39 = .ok (.getfield 18, 3) := by decide +kernel
theorem dX0_give_42 : decode cX0_give 42 = .ok (.iload_n 1, 1) := by decide +kernel
theorem dX0_give_43 : decode cX0_give 43 = .ok (.aload_n 0, 1) := by decide +kernel
theorem dX0_give_44 : decode cX0_give 44 = .ok (.getfield 9, 3) := by decide +kernel
theorem dX0_give_47 : decode cX0_give 47 = .ok (.imul, 1) := by decide +kernel
theorem dX0_give_48 : decode cX0_give 48 = .ok (.aload_n 3, 1) := by decide +kernel
theorem dX0_give_49 : decode cX0_give 49 = .ok (.iload 4, 2) := by decide +kernel
theorem dX0_give_51 : decode cX0_give 51 = .ok (.iload_n 2, 1) := by decide +kernel
theorem dX0_give_52 : decode cX0_give 52 = .ok (.invokestatic 31, 3) := by decide +kernel
theorem dX0_give_55 : decode cX0_give 55 = .ok (.return_, 1) := by decide +kernel
theorem dX0_moveRow_0 : decode cX0_moveRow 0 = .ok (.iload_n 1, 1) := by decide +kernel
theorem dX0_moveRow_1 : decode cX0_moveRow 1 = .ok (.ifCond .lt 50, 3) := by decide +kernel
theorem dX0_moveRow_4 : decode cX0_moveRow 4 = .ok (.iload_n 1, 1) := by decide +kernel
theorem dX0_moveRow_5 : decode cX0_moveRow 5 = .ok (.aload_n 0, 1) := by decide +kernel
theorem dX0_moveRow_6 : decode cX0_moveRow 6 = .ok (.getfield 15, 3) := by decide +kernel
theorem dX0_moveRow_9 : decode cX0_moveRow 9 = .ok (.if_icmp .ge 42, 3) := by decide +kernel
theorem dX0_moveRow_12 : decode cX0_moveRow 12 = .ok (.iload_n 2, 1) := by decide +kernel
theorem dX0_moveRow_13 : decode cX0_moveRow 13 = .ok (.ifCond .lt 38, 3) := by decide +kernel
theorem dX0_moveRow_16 : decode cX0_moveRow 16 = .ok (.iload_n 2, 1) := by decide +kernel
theorem dX0_moveRow_17 : decode cX0_moveRow 17 = .ok (.aload_n 0, 1) := by decide +kernel
theorem dX0_moveRow_18 : decode cX0_moveRow 18 = .ok (.getfield 15, 3) := by decide +kernel
theorem dX0_moveRow_21 : decode cX0_moveRow 21 = .ok (.if_icmp .ge 30, 3) := by decide +kernel
theorem dX0_moveRow_24 : decode cX0_moveRow 24 = .ok (.aload_n 0, 1) := by decide +kernel
theorem dX0_moveRow_25 : decode cX0_moveRow 25 = .ok (.getfield 18, 3) := by decide +kernel
theorem dX0_moveRow_28 : decode cX0_moveRow 28 = .ok (.iload_n 1, 1) := by decide +kernel
theorem dX0_moveRow_29 : decode cX0_moveRow 29 = .ok (.aload_n 0, 1) := by decide +kernel
theorem dX0_moveRow_30 : decode cX0_moveRow 30 = .ok (.getfield 9, 3) := by decide +kernel
theorem dX0_moveRow_33 : decode cX0_moveRow 33 = .ok (.imul, 1) := by decide +kernel
theorem dX0_moveRow_34 : decode cX0_moveRow 34 = .ok (.aload_n 0, 1) := by decide +kernel
theorem dX0_moveRow_35 : decode cX0_moveRow 35 = .ok (.getfield 18, 3) := by decide +kernel
theorem dX0_moveRow_38 : decode cX0_moveRow 38 = .ok (.iload_n 2, 1) := by decide +kernel
theorem dX0_moveRow_39 : decode cX0_moveRow 39 = .ok (.aload_n 0, 1) := by decide +kernel
theorem dX0_moveRow_40 : decode cX0_moveRow 40 = .ok (.getfield 9, 3) := by decide +kernel
theorem dX0_moveRow_43 : decode cX0_moveRow 43 = .ok (.imul, 1) := by decide +kernel
theorem dX0_moveRow_44 : decode cX0_moveRow 44 = .ok (.aload_n 0, 1) := by decide +kernel
theorem dX0_moveRow_45 : decode cX0_moveRow 45 = .ok (.getfield 9, 3) := by decide +kernel
theorem dX0_moveRow_48 : decode cX0_moveRow 48 = .ok (.invokestatic 31, 3) := by decide +kernel
theorem dX0_moveRow_51 : decode cX0_moveRow 51 = .ok (.return_, 1) := by decide +kernel
theorem dX0_moveCells_0 : decode cX0_moveCells 0 = .ok (.aload_n 0, 1) := by decide +kernel
theorem dX0_moveCells_1 : decode cX0_moveCells 1 = .ok (.getfield 9, 3) := by decide +kernel
theorem dX0_moveCells_4 : decode cX0_moveCells 4 = .ok (.iload_n 2, 1) := by decide +kernel
theorem dX0_moveCells_5 : decode cX0_moveCells 5 = .ok (.iload_n 3, 1) := by decide +kernel
theorem dX0_moveCells_6 : decode cX0_moveCells 6 = .ok (.invokestatic 37, 3) := by decide +kernel
theorem dX0_moveCells_9 : decode cX0_moveCells 9 = .ok (.isub, 1) := by decide +kernel
theorem dX0_moveCells_10 : decode cX0_moveCells 10 = .ok (.istore 5, 2) := by decide +kernel
theorem dX0_moveCells_12 : decode cX0_moveCells 12 = .ok (.iload_n 1, 1) := by decide +kernel
theorem dX0_moveCells_13 : decode cX0_moveCells 13 = .ok (.ifCond .lt 60, 3) := by decide +kernel
theorem dX0_moveCells_16 : decode cX0_moveCells 16 = .ok (.iload_n 1, 1) := by decide +kernel
theorem dX0_moveCells_17 : decode cX0_moveCells 17 = .ok (.aload_n 0, 1) := by decide +kernel
theorem dX0_moveCells_18 : decode cX0_moveCells 18 = .ok (.getfield 15, 3) := by decide +kernel
theorem dX0_moveCells_21 : decode cX0_moveCells 21 = .ok (.if_icmp .ge 52, 3) := by decide +kernel
theorem dX0_moveCells_24 : decode cX0_moveCells 24 = .ok (.iload_n 2, 1) := by decide +kernel
theorem dX0_moveCells_25 : decode cX0_moveCells 25 = .ok (.ifCond .lt 48, 3) := by decide +kernel
theorem dX0_moveCells_28 : decode cX0_moveCells 28 = .ok (.iload_n 3, 1) := by decide +kernel
theorem dX0_moveCells_29 : decode cX0_moveCells 29 = .ok (.ifCond .lt 44, 3) := by decide +kernel
theorem dX0_moveCells_32 : decode cX0_moveCells 32 = .ok (.iload 4, 2) := by decide +kernel
theorem dX0_moveCells_34 : decode cX0_moveCells 34 = .ok (.ifCond .lt 39, 3) := by decide +kernel
theorem dX0_moveCells_37 : decode cX0_moveCells 37 = .ok (.iload 4, 2) := by decide +kernel
theorem dX0_moveCells_39 : decode cX0_moveCells 39 = .ok (.iload 5, 2) := by decide +kernel
theorem dX0_moveCells_41 : decode cX0_moveCells 41 = .ok (.if_icmp .gt 32, 3) := by decide +kernel
theorem dX0_moveCells_44 : decode cX0_moveCells 44 = .ok (.aload_n 0, 1) := by decide +kernel
theorem dX0_moveCells_45 : decode cX0_moveCells 45 = .ok (.getfield 18, 3) := by decide +kernel
theorem dX0_moveCells_48 : decode cX0_moveCells 48 = .ok (.iload_n 1, 1) := by decide +kernel
theorem dX0_moveCells_49 : decode cX0_moveCells 49 = .ok (.aload_n 0, 1) := by decide +kernel
theorem dX0_moveCells_50 : decode cX0_moveCells 50 = .ok (.getfield 9, 3) := by decide +kernel
theorem dX0_moveCells_53 : decode cX0_moveCells 53 = .ok (.imul, 1) := by decide +kernel
theorem dX0_moveCells_54 : decode cX0_moveCells 54 = .ok (.iload_n 2, 1) := by decide +kernel
theorem dX0_moveCells_55 : decode cX0_moveCells 55 = .ok (.iadd, 1) := by decide +kernel
theorem dX0_moveCells_56 : decode cX0_moveCells 56 = .ok (.aload_n 0, 1) := by decide +kernel
theorem dX0_moveCells_57 : decode cX0_moveCells 57 = .ok (.getfield 18, 3) := by decide +kernel
theorem dX0_moveCells_60 : decode cX0_moveCells 60 = .ok (.iload_n 1, 1) := by decide +kernel
theorem dX0_moveCells_61 : decode cX0_moveCells 61 = .ok (.aload_n 0, 1) := by decide +kernel
theorem dX0_moveCells_62 : decode cX0_moveCells 62 = .ok (.getfield 9, 3) := by decide +kernel
theorem dX0_moveCells_65 : decode cX0_moveCells 65 = .ok (.imul, 1) := by decide +kernel
theorem dX0_moveCells_66 : decode cX0_moveCells 66 = .ok (.iload_n 3, 1) := by decide +kernel
theorem dX0_moveCells_67 : decode cX0_moveCells 67 = .ok (.iadd, 1) := by decide +kernel
theorem dX0_moveCells_68 : decode cX0_moveCells 68 = .ok (.iload 4, 2) := by decide +kernel
theorem dX0_moveCells_70 : decode cX0_moveCells 70 = .ok (.invokestatic 31, 3) := by decide +kernel
theorem dX0_moveCells_73 : decode cX0_moveCells 73 = .ok (.return_, 1) := by decide +kernel
theorem dX8_init_0 : decode cX8_init 0 = .ok (.aload_n 0, 1) := by decide +kernel
theorem dX8_init_1 : decode cX8_init 1 = .ok (.invokespecial 1, 3) := by decide +kernel
theorem dX8_init_4 : decode cX8_init 4 = .ok (.aload_n 0, 1) := by decide +kernel
theorem dX8_init_5 : decode cX8_init 5 = .ok (.bipush 64, 2) := by decide +kernel
theorem dX8_init_7 : decode cX8_init 7 = .ok (.newarray .int, 2) := by decide +kernel
theorem dX8_init_9 : decode cX8_init 9 = .ok (.putfield 9, 3) := by decide +kernel
theorem dX8_init_12 : decode cX8_init 12 = .ok (.return_, 1) := by decide +kernel
theorem dX8_add_0 : decode cX8_add 0 = .ok (.aload_n 0, 1) := by decide +kernel
theorem dX8_add_1 : decode cX8_add 1 = .ok (.getfield 9, 3) := by decide +kernel
theorem dX8_add_4 : decode cX8_add 4 = .ok (.aload_n 0, 1) := by decide +kernel
theorem dX8_add_5 : decode cX8_add 5 = .ok (.getfield 13, 3) := by decide +kernel
theorem dX8_add_8 : decode cX8_add 8 = .ok (.bipush 63, 2) := by decide +kernel
theorem dX8_add_10 : decode cX8_add 10 = .ok (.iand, 1) := by decide +kernel
theorem dX8_add_11 : decode cX8_add 11 = .ok (.iload_n 1, 1) := by decide +kernel
theorem dX8_add_12 : decode cX8_add 12 = .ok (.iastore, 1) := by decide +kernel
theorem dX8_add_13 : decode cX8_add 13 = .ok (.aload_n 0, 1) := by decide +kernel
theorem dX8_add_14 : decode cX8_add 14 = .ok (.dup, 1) := by decide +kernel
theorem dX8_add_15 : decode cX8_add 15 = .ok (.getfield 13, 3) := by decide +kernel
theorem dX8_add_18 : decode cX8_add 18 = .ok (.iconst 1, 1) := by decide +kernel
theorem dX8_add_19 : decode cX8_add 19 = .ok (.iadd, 1) := by decide +kernel
theorem dX8_add_20 : decode cX8_add 20 = .ok (.putfield 13, 3) := by decide +kernel
theorem dX8_add_23 : decode cX8_add 23 = .ok (.return_, 1) := by decide +kernel
theorem dX8_told_0 : decode cX8_told 0 = .ok (.aload_n 0, 1) := by decide +kernel
theorem dX8_told_1 : decode cX8_told 1 = .ok (.getfield 13, 3) := by decide +kernel
theorem dX8_told_4 : decode cX8_told 4 = .ok (.bipush 64, 2) := by decide +kernel
theorem dX8_told_6 : decode cX8_told 6 = .ok (.invokestatic 17, 3) := by decide +kernel
theorem dX8_told_9 : decode cX8_told 9 = .ok (.ireturn, 1) := by decide +kernel
theorem dX8_at_0 : decode cX8_at 0 = .ok (.aload_n 0, 1) := by decide +kernel
theorem dX8_at_1 : decode cX8_at 1 = .ok (.getfield 9, 3) := by decide +kernel
theorem dX8_at_4 : decode cX8_at 4 = .ok (.aload_n 0, 1) := by decide +kernel
theorem dX8_at_5 : decode cX8_at 5 = .ok (.getfield 13, 3) := by decide +kernel
theorem dX8_at_8 : decode cX8_at 8 = .ok (.aload_n 0, 1) := by decide +kernel
theorem dX8_at_9 : decode cX8_at 9 = .ok (.invokevirtual 23, 3) := by decide +kernel
theorem dX8_at_12 : decode cX8_at 12 = .ok (.isub, 1) := by decide +kernel
theorem dX8_at_13 : decode cX8_at 13 = .ok (.iload_n 1, 1) := by decide +kernel
theorem dX8_at_14 : decode cX8_at 14 = .ok (.iadd, 1) := by decide +kernel
theorem dX8_at_15 : decode cX8_at 15 = .ok (.bipush 63, 2) := by decide +kernel
theorem dX8_at_17 : decode cX8_at 17 = .ok (.iand, 1) := by decide +kernel
theorem dX8_at_18 : decode cX8_at 18 = .ok (.iaload, 1) := by decide +kernel
theorem dX8_at_19 : decode cX8_at 19 = .ok (.ireturn, 1) := by decide +kernel
theorem dX9_nearest_0 : decode cX9_nearest 0 = .ok (.iload_n 1, 1) := by decide +kernel
theorem dX9_nearest_1 : decode cX9_nearest 1 = .ok (.iload_n 2, 1) := by decide +kernel
theorem dX9_nearest_2 : decode cX9_nearest 2 = .ok (.iload_n 0, 1) := by decide +kernel
theorem dX9_nearest_3 : decode cX9_nearest 3 = .ok (.invokestatic 241, 3) := by decide +kernel
theorem dX9_nearest_6 : decode cX9_nearest 6 = .ok (.invokestatic 247, 3) := by decide +kernel
theorem dX9_nearest_9 : decode cX9_nearest 9 = .ok (.ireturn, 1) := by decide +kernel
theorem dJ7_rangeCheck_23922_0 : decode cJ7_rangeCheck_23922 0 = .ok (.iload_n 1, 1) := by decide +kernel
theorem dJ7_rangeCheck_23922_1 : decode cJ7_rangeCheck_23922 1 = .ok (.iload_n 2, 1) := by decide +kernel
theorem dJ7_rangeCheck_23922_2 : decode cJ7_rangeCheck_23922 2 = .ok (.if_icmp .le 44, 3) := by decide +kernel
theorem dJ7_rangeCheck_23922_5 : decode cJ7_rangeCheck_23922 5 = .ok (.new 43, 3) := by decide +kernel
theorem dJ7_rangeCheck_23922_8 : decode cJ7_rangeCheck_23922 8 = .ok (.dup, 1) := by decide +kernel
theorem dJ7_rangeCheck_23922_9 : decode cJ7_rangeCheck_23922 9 = .ok (.new 45, 3) := by decide +kernel
theorem dJ7_rangeCheck_23922_12 : decode cJ7_rangeCheck_23922 12 = .ok (.dup, 1) := by decide +kernel
theorem dJ7_rangeCheck_23922_13 : decode cJ7_rangeCheck_23922 13 = .ok (.invokespecial 47, 3) := by decide +kernel
theorem dJ7_rangeCheck_23922_16 : decode cJ7_rangeCheck_23922 16 = .ok (.ldc 48, 2) := by decide +kernel
theorem dJ7_rangeCheck_23922_18 : decode cJ7_rangeCheck_23922 18 = .ok (.invokevirtual 50, 3) := by decide +kernel
theorem dJ7_rangeCheck_23922_21 : decode cJ7_rangeCheck_23922 21 = .ok (.iload_n 1, 1) := by decide +kernel
theorem dJ7_rangeCheck_23922_22 : decode cJ7_rangeCheck_23922 22 = .ok (.invokevirtual 54, 3) := by decide +kernel
theorem dJ7_rangeCheck_23922_25 : decode cJ7_rangeCheck_23922 25 = .ok (.ldc 57, 2) := by decide +kernel
theorem dJ7_rangeCheck_23922_27 : decode cJ7_rangeCheck_23922 27 = .ok (.invokevirtual 50, 3) := by decide +kernel
theorem dJ7_rangeCheck_23922_30 : decode cJ7_rangeCheck_23922 30 = .ok (.iload_n 2, 1) := by decide +kernel
theorem dJ7_rangeCheck_23922_31 : decode cJ7_rangeCheck_23922 31 = .ok (.invokevirtual 54, 3) := by decide +kernel
theorem dJ7_rangeCheck_23922_34 : decode cJ7_rangeCheck_23922 34 = .ok (.ldc 59, 2) := by decide +kernel
theorem dJ7_rangeCheck_23922_36 : decode cJ7_rangeCheck_23922 36 = .ok (.invokevirtual 50, 3) := by decide +kernel
theorem dJ7_rangeCheck_23922_39 : decode cJ7_rangeCheck_23922 39 = .ok (.invokevirtual 61, 3) := by decide +kernel
theorem dJ7_rangeCheck_23922_42 : decode cJ7_rangeCheck_23922 42 = .ok (.invokespecial 65, 3) := by decide +kernel
theorem dJ7_rangeCheck_23922_45 : decode cJ7_rangeCheck_23922 45 = .ok (.athrow, 1) := by decide +kernel
theorem dJ7_rangeCheck_23922_46 : decode cJ7_rangeCheck_23922 46 = .ok (.iload_n 1, 1) := by decide +kernel
theorem dJ7_rangeCheck_23922_47 : decode cJ7_rangeCheck_23922 47 = .ok (.ifCond .ge 12, 3) := by decide +kernel
theorem dJ7_rangeCheck_23922_50 : decode cJ7_rangeCheck_23922 50 = .ok (.new 68, 3) := by decide +kernel
theorem dJ7_rangeCheck_23922_53 : decode cJ7_rangeCheck_23922 53 = .ok (.dup, 1) := by decide +kernel
theorem dJ7_rangeCheck_23922_54 : decode cJ7_rangeCheck_23922 54 = .ok (.iload_n 1, 1) := by decide +kernel
theorem dJ7_rangeCheck_23922_55 : decode cJ7_rangeCheck_23922 55 = .ok (.invokespecial 70, 3) := by decide +kernel
theorem dJ7_rangeCheck_23922_58 : decode cJ7_rangeCheck_23922 58 = .ok (.athrow, 1) := by decide +kernel
theorem dJ7_rangeCheck_23922_59 : decode cJ7_rangeCheck_23922 59 = .ok (.iload_n 2, 1) := by decide +kernel
theorem dJ7_rangeCheck_23922_60 : decode cJ7_rangeCheck_23922 60 = .ok (.iload_n 0, 1) := by decide +kernel
theorem dJ7_rangeCheck_23922_61 : decode cJ7_rangeCheck_23922 61 = .ok (.if_icmp .le 12, 3) := by decide +kernel
theorem dJ7_rangeCheck_23922_64 : decode cJ7_rangeCheck_23922 64 = .ok (.new 68, 3) := by decide +kernel
theorem dJ7_rangeCheck_23922_67 : decode cJ7_rangeCheck_23922 67 = .ok (.dup, 1) := by decide +kernel
theorem dJ7_rangeCheck_23922_68 : decode cJ7_rangeCheck_23922 68 = .ok (.iload_n 2, 1) := by decide +kernel
theorem dJ7_rangeCheck_23922_69 : decode cJ7_rangeCheck_23922 69 = .ok (.invokespecial 70, 3) := by decide +kernel
theorem dJ7_rangeCheck_23922_72 : decode cJ7_rangeCheck_23922 72 = .ok (.athrow, 1) := by decide +kernel
theorem dJ7_rangeCheck_23922_73 : decode cJ7_rangeCheck_23922 73 = .ok (.return_, 1) := by decide +kernel
theorem dJ7_fill_53178_0 : decode cJ7_fill_53178 0 = .ok (.iconst 0, 1) := by decide +kernel
theorem dJ7_fill_53178_1 : decode cJ7_fill_53178 1 = .ok (.istore_n 2, 1) := by decide +kernel
theorem dJ7_fill_53178_2 : decode cJ7_fill_53178 2 = .ok (.aload_n 0, 1) := by decide +kernel
theorem dJ7_fill_53178_3 : decode cJ7_fill_53178 3 = .ok (.arraylength, 1) := by decide +kernel
theorem dJ7_fill_53178_4 : decode cJ7_fill_53178 4 = .ok (.istore_n 3, 1) := by decide +kernel
theorem dJ7_fill_53178_5 : decode cJ7_fill_53178 5 = .ok (.iload_n 2, 1) := by decide +kernel
theorem dJ7_fill_53178_6 : decode cJ7_fill_53178 6 = .ok (.iload_n 3, 1) := by decide +kernel
theorem dJ7_fill_53178_7 : decode cJ7_fill_53178 7 = .ok (.if_icmp .ge 13, 3) := by decide +kernel
theorem dJ7_fill_53178_10 : decode cJ7_fill_53178 10 = .ok (.aload_n 0, 1) := by decide +kernel
theorem dJ7_fill_53178_11 : decode cJ7_fill_53178 11 = .ok (.iload_n 2, 1) := by decide +kernel
theorem dJ7_fill_53178_12 : decode cJ7_fill_53178 12 = .ok (.iload_n 1, 1) := by decide +kernel
theorem dJ7_fill_53178_13 : decode cJ7_fill_53178 13 = .ok (.iastore, 1) := by decide +kernel
theorem dJ7_fill_53178_14 : decode cJ7_fill_53178 14 = .ok (.iinc 2 1, 3) := by decide +kernel
theorem dJ7_fill_53178_17 : decode cJ7_fill_53178 17 = .ok (.goto (-12), 3) := by decide +kernel
theorem dJ7_fill_53178_20 : decode cJ7_fill_53178 20 = .ok (.return_, 1) := by decide +kernel
theorem dJ7_fill_fda19_0 : decode cJ7_fill_fda19 0 = .ok (.aload_n 0, 1) := by decide +kernel
theorem dJ7_fill_fda19_1 : decode cJ7_fill_fda19 1 = .ok (.arraylength, 1) := by decide +kernel
theorem dJ7_fill_fda19_2 : decode cJ7_fill_fda19 2 = .ok (.iload_n 1, 1) := by decide +kernel
theorem dJ7_fill_fda19_3 : decode cJ7_fill_fda19 3 = .ok (.iload_n 2, 1) := by decide +kernel
theorem dJ7_fill_fda19_4 : decode cJ7_fill_fda19 4 = .ok (.invokestatic 13, 3) := by decide +kernel
theorem dJ7_fill_fda19_7 : decode cJ7_fill_fda19 7 = .ok (.iload_n 1, 1) := by decide +kernel
theorem dJ7_fill_fda19_8 : decode cJ7_fill_fda19 8 = .ok (.istore 4, 2) := by decide +kernel
theorem dJ7_fill_fda19_10 : decode cJ7_fill_fda19 10 = .ok (.iload 4, 2) := by decide +kernel
theorem dJ7_fill_fda19_12 : decode cJ7_fill_fda19 12 = .ok (.iload_n 2, 1) := by decide +kernel
theorem dJ7_fill_fda19_13 : decode cJ7_fill_fda19 13 = .ok (.if_icmp .ge 14, 3) := by decide +kernel
theorem dJ7_fill_fda19_16 : decode cJ7_fill_fda19 16 = .ok (.aload_n 0, 1) := by decide +kernel
theorem dJ7_fill_fda19_17 : decode cJ7_fill_fda19 17 = .ok (.iload 4, 2) := by decide +kernel
theorem dJ7_fill_fda19_19 : decode cJ7_fill_fda19 19 = .ok (.iload_n 3, 1) := by decide +kernel
theorem dJ7_fill_fda19_20 : decode cJ7_fill_fda19 20 = .ok (.iastore, 1) := by decide +kernel
theorem dJ7_fill_fda19_21 : decode cJ7_fill_fda19 21 = .ok (.iinc 4 1, 3) := by decide +kernel
theorem dJ7_fill_fda19_24 : decode cJ7_fill_fda19 24 = .ok (.goto (-14), 3) := by decide +kernel
theorem dJ7_fill_fda19_27 : decode cJ7_fill_fda19 27 = .ok (.return_, 1) := by decide +kernel
