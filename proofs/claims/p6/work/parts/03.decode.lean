theorem dX0_init_0 : decode cX0_init 0 = .ok (.aload_n 0, 1) := by decide +kernel
theorem dX0_init_1 : decode cX0_init 1 = .ok (.invokespecial 3, 3) := by decide +kernel
theorem dX0_init_4 : decode cX0_init 4 = .ok (.aload_n 0, 1) := by decide +kernel
theorem dX0_init_5 : decode cX0_init 5 = .ok (.iload_n 1, 1) := by decide +kernel
theorem dX0_init_6 : decode cX0_init 6 = .ok (.putfield 9, 3) := by decide +kernel
theorem dX0_init_9 : decode cX0_init 9 = .ok (.aload_n 0, 1) := by decide +kernel
theorem dX0_init_10 : decode cX0_init 10 = .ok (.iload_n 2, 1) := by decide +kernel
theorem dX0_init_11 : decode cX0_init 11 = .ok (.putfield 15, 3) := by decide +kernel
theorem dX0_init_14 : decode cX0_init 14 = .ok (.aload_n 0, 1) := by decide +kernel
theorem dX0_init_15 : decode cX0_init 15 = .ok (.iload_n 1, 1) := by decide +kernel
theorem dX0_init_16 : decode cX0_init 16 = .ok (.iload_n 2, 1) := by decide +kernel
theorem dX0_init_17 : decode cX0_init 17 = .ok (.imul, 1) := by decide +kernel
theorem dX0_init_18 : decode cX0_init 18 = .ok (.newarray .int, 2) := by decide +kernel
theorem dX0_init_20 : decode cX0_init 20 = .ok (.putfield 18, 3) := by decide +kernel
theorem dX0_init_23 : decode cX0_init 23 = .ok (.return_, 1) := by decide +kernel
theorem dX0_keep_0 : decode cX0_keep 0 = .ok (.iconst 0, 1) := by decide +kernel
theorem dX0_keep_1 : decode cX0_keep 1 = .ok (.istore_n 3, 1) := by decide +kernel
theorem dX0_keep_2 : decode cX0_keep 2 = .ok (.iload_n 3, 1) := by decide +kernel
theorem dX0_keep_3 : decode cX0_keep 3 = .ok (.aload_n 0, 1) := by decide +kernel
theorem dX0_keep_4 : decode cX0_keep 4 = .ok (.getfield 15, 3) := by decide +kernel
theorem dX0_keep_7 : decode cX0_keep 7 = .ok (.if_icmp .ge 30, 3) := by decide +kernel
theorem dX0_keep_10 : decode cX0_keep 10 = .ok (.aload_n 0, 1) := by decide +kernel
theorem dX0_keep_11 : decode cX0_keep 11 = .ok (.iload_n 3, 1) := by decide +kernel
theorem dX0_keep_12 : decode cX0_keep 12 = .ok (.iload_n 3, 1) := by decide +kernel
theorem dX0_keep_13 : decode cX0_keep 13 = .ok (.iload_n 2, 1) := by decide +kernel
theorem dX0_keep_14 : decode cX0_keep 14 = .ok (.if_icmp .ge 7, 3) := by decide +kernel
theorem dX0_keep_17 : decode cX0_keep 17 = .ok (.iload_n 1, 1) := by decide +kernel
theorem dX0_keep_18 : decode cX0_keep 18 = .ok (.goto 4, 3) := by decide +kernel
theorem dX0_keep_21 : decode cX0_keep 21 = .ok (.iconst 0, 1) := by decide +kernel
theorem dX0_keep_22 : decode cX0_keep 22 = .ok (.aload_n 0, 1) := by decide +kernel
theorem dX0_keep_23 : decode cX0_keep 23 = .ok (.getfield 9, 3) := by decide +kernel
theorem dX0_keep_26 : decode cX0_keep 26 = .ok (.bipush 32, 2) := by decide +kernel
theorem dX0_keep_28 : decode cX0_keep 28 = .ok (.invokevirtual 22, 3) := by decide +kernel
theorem dX0_keep_31 : decode cX0_keep 31 = .ok (.iinc 3 1, 3) := by decide +kernel
theorem dX0_keep_34 : decode cX0_keep 34 = .ok (.goto (-32), 3) := by decide +kernel
theorem dX0_keep_37 : decode cX0_keep 37 = .ok (.return_, 1) := by decide +kernel
theorem dX0_set_0 : decode cX0_set 0 = .ok (.iload_n 1, 1) := by decide +kernel
theorem dX0_set_1 : decode cX0_set 1 = .ok (.ifCond .lt 37, 3) := by decide +kernel
theorem dX0_set_4 : decode cX0_set 4 = .ok (.iload_n 1, 1) := by decide +kernel
theorem dX0_set_5 : decode cX0_set 5 = .ok (.aload_n 0, 1) := by decide +kernel
theorem dX0_set_6 : decode cX0_set 6 = .ok (.getfield 9, 3) := by decide +kernel
theorem dX0_set_9 : decode cX0_set 9 = .ok (.if_icmp .ge 29, 3) := by decide +kernel
theorem dX0_set_12 : decode cX0_set 12 = .ok (.iload_n 2, 1) := by decide +kernel
theorem dX0_set_13 : decode cX0_set 13 = .ok (.ifCond .lt 25, 3) := by decide +kernel
theorem dX0_set_16 : decode cX0_set 16 = .ok (.iload_n 2, 1) := by decide +kernel
theorem dX0_set_17 : decode cX0_set 17 = .ok (.aload_n 0, 1) := by decide +kernel
theorem dX0_set_18 : decode cX0_set 18 = .ok (.getfield 15, 3) := by decide +kernel
theorem dX0_set_21 : decode cX0_set 21 = .ok (.if_icmp .ge 17, 3) := by decide +kernel
theorem dX0_set_24 : decode cX0_set 24 = .ok (.aload_n 0, 1) := by decide +kernel
theorem dX0_set_25 : decode cX0_set 25 = .ok (.getfield 18, 3) := by decide +kernel
theorem dX0_set_28 : decode cX0_set 28 = .ok (.iload_n 2, 1) := by decide +kernel
theorem dX0_set_29 : decode cX0_set 29 = .ok (.aload_n 0, 1) := by decide +kernel
theorem dX0_set_30 : decode cX0_set 30 = .ok (.getfield 9, 3) := by decide +kernel
theorem dX0_set_33 : decode cX0_set 33 = .ok (.imul, 1) := by decide +kernel
theorem dX0_set_34 : decode cX0_set 34 = .ok (.iload_n 1, 1) := by decide +kernel
theorem dX0_set_35 : decode cX0_set 35 = .ok (.iadd, 1) := by decide +kernel
theorem dX0_set_36 : decode cX0_set 36 = .ok (.iload_n 3, 1) := by decide +kernel
theorem dX0_set_37 : decode cX0_set 37 = .ok (.iastore, 1) := by decide +kernel
theorem dX0_set_38 : decode cX0_set 38 = .ok (.return_, 1) := by decide +kernel
theorem dX0_fill_0 : decode cX0_fill 0 = .ok (.iload_n 1, 1) := by decide +kernel
theorem dX0_fill_1 : decode cX0_fill 1 = .ok (.ifCond .lt 53, 3) := by decide +kernel
theorem dX0_fill_4 : decode cX0_fill 4 = .ok (.iload_n 1, 1) := by decide +kernel
theorem dX0_fill_5 : decode cX0_fill 5 = .ok (.aload_n 0, 1) := by decide +kernel
theorem dX0_fill_6 : decode cX0_fill 6 = .ok (.getfield 15, 3) := by decide +kernel
theorem dX0_fill_9 : decode cX0_fill 9 = .ok (.if_icmp .ge 45, 3) := by decide +kernel
theorem dX0_fill_12 : decode cX0_fill 12 = .ok (.iload_n 2, 1) := by decide +kernel
theorem dX0_fill_13 : decode cX0_fill 13 = .ok (.ifCond .lt 41, 3) := by decide +kernel
theorem dX0_fill_16 : decode cX0_fill 16 = .ok (.iload_n 2, 1) := by decide +kernel
theorem dX0_fill_17 : decode cX0_fill 17 = .ok (.iload_n 3, 1) := by decide +kernel
theorem dX0_fill_18 : decode cX0_fill 18 = .ok (.if_icmp .ge 36, 3) := by decide +kernel
theorem dX0_fill_21 : decode cX0_fill 21 = .ok (.iload_n 3, 1) := by decide +kernel
theorem dX0_fill_22 : decode cX0_fill 22 = .ok (.aload_n 0, 1) := by decide +kernel
theorem dX0_fill_23 : decode cX0_fill 23 = .ok (.getfield 9, 3) := by decide +kernel
theorem dX0_fill_26 : decode cX0_fill 26 = .ok (.if_icmp .gt 28, 3) := by decide +kernel
theorem dX0_fill_29 : decode cX0_fill 29 = .ok (.aload_n 0, 1) := by decide +kernel
theorem dX0_fill_30 : decode cX0_fill 30 = .ok (.getfield 18, 3) := by decide +kernel
theorem dX0_fill_33 : decode cX0_fill 33 = .ok (.iload_n 1, 1) := by decide +kernel
theorem dX0_fill_34 : decode cX0_fill 34 = .ok (.aload_n 0, 1) := by decide +kernel
theorem dX0_fill_35 : decode cX0_fill 35 = .ok (.getfield 9, 3) := by decide +kernel
theorem dX0_fill_38 : decode cX0_fill 38 = .ok (.imul, 1) := by decide +kernel
theorem dX0_fill_39 : decode cX0_fill 39 = .ok (.iload_n 2, 1) := by decide +kernel
theorem dX0_fill_40 : decode cX0_fill 40 = .ok (.iadd, 1) := by decide +kernel
theorem dX0_fill_41 : decode cX0_fill 41 = .ok (.iload_n 1, 1) := by decide +kernel
theorem dX0_fill_42 : decode cX0_fill 42 = .ok (.aload_n 0, 1) := by decide +kernel
theorem dX0_fill_43 : decode cX0_fill 43 = .ok (.getfield 9, 3) := by decide +kernel
theorem dX0_fill_46 : decode cX0_fill 46 = .ok (.imul, 1) := by decide +kernel
theorem dX0_fill_47 : decode cX0_fill 47 = .ok (.iload_n 3, 1) := by decide +kernel
theorem dX0_fill_48 : decode cX0_fill 48 = .ok (.iadd, 1) := by decide +kernel
theorem dX0_fill_49 : decode cX0_fill 49 = .ok (.iload 4, 2) := by decide +kernel
theorem dX0_fill_51 : decode cX0_fill 51 = .ok (.invokestatic 26, 3) := by decide +kernel
theorem dX0_fill_54 : decode cX0_fill 54 = .ok (.return_, 1) := by decide +kernel
theorem dX0_give_0 : decode cX0_give 0 = .ok (.iload_n 1, 1) := by decide +kernel
theorem dX0_give_1 : decode cX0_give 1 = .ok (.ifCond .lt 54, 3) := by decide +kernel
theorem dX0_give_4 : decode cX0_give 4 = .ok (.iload_n 1, 1) := by decide +kernel
theorem dX0_give_5 : decode cX0_give 5 = .ok (.aload_n 0, 1) := by decide +kernel
theorem dX0_give_6 : decode cX0_give 6 = .ok (.getfield 15, 3) := by decide +kernel
theorem dX0_give_9 : decode cX0_give 9 = .ok (.if_icmp .ge 46, 3) := by decide +kernel
theorem dX0_give_12 : decode cX0_give 12 = .ok (.iload_n 2, 1) := by decide +kernel
theorem dX0_give_13 : decode cX0_give 13 = .ok (.ifCond .lt 42, 3) := by decide +kernel
theorem dX0_give_16 : decode cX0_give 16 = .ok (.iload_n 2, 1) := by decide +kernel
theorem dX0_give_17 : decode cX0_give 17 = .ok (.aload_n 0, 1) := by decide +kernel
theorem dX0_give_18 : decode cX0_give 18 = .ok (.getfield 9, 3) := by decide +kernel
theorem dX0_give_21 : decode cX0_give 21 = .ok (.if_icmp .gt 34, 3) := by decide +kernel
theorem dX0_give_24 : decode cX0_give 24 = .ok (.iload 4, 2) := by decide +kernel
theorem dX0_give_26 : decode cX0_give 26 = .ok (.ifCond .lt 29, 3) := by decide +kernel
theorem dX0_give_29 : decode cX0_give 29 = .ok (.iload 4, 2) := by decide +kernel
theorem dX0_give_31 : decode cX0_give 31 = .ok (.iload_n 2, 1) := by decide +kernel
theorem dX0_give_32 : decode cX0_give 32 = .ok (.iadd, 1) := by decide +kernel
theorem dX0_give_33 : decode cX0_give 33 = .ok (.aload_n 3, 1) := by decide +kernel
theorem dX0_give_34 : decode cX0_give 34 = .ok (.arraylength, 1) := by decide +kernel
theorem dX0_give_35 : decode cX0_give 35 = .ok (.if_icmp .gt 20, 3) := by decide +kernel
theorem dX0_give_38 : decode cX0_give 38 = .ok (.aload_n 0, 1) := by decide +kernel
theorem dX0_give_39 : decode cX0_give 39 = .ok (.getfield 18, 3) := by decide +kernel
theorem dX0_give_42 : decode cX0_give 42 = .ok (.iload_n 1, 1) := by decide +kernel
theorem dX0_give_43 : decode cX0_give 43 = .ok (.aload_n 0, 1) := by decide +kernel
theorem dX0_give_44 : decode cX0_give 44 = .ok (.getfield 9, 3) := by decide +kernel
theorem dX0_give_47 : decode cX0_give 47 = .ok (.imul, 1) := by decide +kernel
theorem dX0_give_48 : decode cX0_give 48 = .ok (.aload_n 3, 1) := by decide +kernel
theorem dX0_give_49 : decode cX0_give 49 = .ok (.iload 4, 2) := by decide +kernel
theorem dX0_give_51 : decode cX0_give 51 = .ok (.iload_n 2, 1) := by decide +kernel
theorem dX0_give_52 : decode cX0_give 52 = .ok (.invokestatic 31, 3) := by decide +kernel
theorem dX0_give_55 : decode cX0_give 55 = .ok (.return_, 1) := by decide +kernel
theorem dX0_moveRow_0 : decode cX0_moveRow 0 = .ok (.iload_n 1, 1) := by decide +kernel
theorem dX0_moveRow_1 : decode cX0_moveRow 1 = .ok (.ifCond .lt 50, 3) := by decide +kernel
theorem dX0_moveRow_4 : decode cX0_moveRow 4 = .ok (.iload_n 1, 1) := by decide +kernel
theorem dX0_moveRow_5 : decode cX0_moveRow 5 = .ok (.aload_n 0, 1) := by decide +kernel
theorem dX0_moveRow_6 : decode cX0_moveRow 6 = .ok (.getfield 15, 3) := by decide +kernel
theorem dX0_moveRow_9 : decode cX0_moveRow 9 = .ok (.if_icmp .ge 42, 3) := by decide +kernel
theorem dX0_moveRow_12 : decode cX0_moveRow 12 = .ok (.iload_n 2, 1) := by decide +kernel
theorem dX0_moveRow_13 : decode cX0_moveRow 13 = .ok (.ifCond .lt 38, 3) := by decide +kernel
theorem dX0_moveRow_16 : decode cX0_moveRow 16 = .ok (.iload_n 2, 1) := by decide +kernel
theorem dX0_moveRow_17 : decode cX0_moveRow 17 = .ok (.aload_n 0, 1) := by decide +kernel
theorem dX0_moveRow_18 : decode cX0_moveRow 18 = .ok (.getfield 15, 3) := by decide +kernel
theorem dX0_moveRow_21 : decode cX0_moveRow 21 = .ok (.if_icmp .ge 30, 3) := by decide +kernel
theorem dX0_moveRow_24 : decode cX0_moveRow 24 = .ok (.aload_n 0, 1) := by decide +kernel
theorem dX0_moveRow_25 : decode cX0_moveRow 25 = .ok (.getfield 18, 3) := by decide +kernel
theorem dX0_moveRow_28 : decode cX0_moveRow 28 = .ok (.iload_n 1, 1) := by decide +kernel
theorem dX0_moveRow_29 : decode cX0_moveRow 29 = .ok (.aload_n 0, 1) := by decide +kernel
theorem dX0_moveRow_30 : decode cX0_moveRow 30 = .ok (.getfield 9, 3) := by decide +kernel
theorem dX0_moveRow_33 : decode cX0_moveRow 33 = .ok (.imul, 1) := by decide +kernel
theorem dX0_moveRow_34 : decode cX0_moveRow 34 = .ok (.aload_n 0, 1) := by decide +kernel
theorem dX0_moveRow_35 : decode cX0_moveRow 35 = .ok (.getfield 18, 3) := by decide +kernel
theorem dX0_moveRow_38 : decode cX0_moveRow 38 = .ok (.iload_n 2, 1) := by decide +kernel
theorem dX0_moveRow_39 : decode cX0_moveRow 39 = .ok (.aload_n 0, 1) := by decide +kernel
theorem dX0_moveRow_40 : decode cX0_moveRow 40 = .ok (.getfield 9, 3) := by decide +kernel
theorem dX0_moveRow_43 : decode cX0_moveRow 43 = .ok (.imul, 1) := by decide +kernel
theorem dX0_moveRow_44 : decode cX0_moveRow 44 = .ok (.aload_n 0, 1) := by decide +kernel
theorem dX0_moveRow_45 : decode cX0_moveRow 45 = .ok (.getfield 9, 3) := by decide +kernel
theorem dX0_moveRow_48 : decode cX0_moveRow 48 = .ok (.invokestatic 31, 3) := by decide +kernel
theorem dX0_moveRow_51 : decode cX0_moveRow 51 = .ok (.return_, 1) := by decide +kernel
theorem dX0_moveCells_0 : decode cX0_moveCells 0 = .ok (.aload_n 0, 1) := by decide +kernel
theorem dX0_moveCells_1 : decode cX0_moveCells 1 = .ok (.getfield 9, 3) := by decide +kernel
theorem dX0_moveCells_4 : decode cX0_moveCells 4 = .ok (.iload_n 2, 1) := by decide +kernel
theorem dX0_moveCells_5 : decode cX0_moveCells 5 = .ok (.iload_n 3, 1) := by decide +kernel
theorem dX0_moveCells_6 : decode cX0_moveCells 6 = .ok (.invokestatic 37, 3) := by decide +kernel
theorem dX0_moveCells_9 : decode cX0_moveCells 9 = .ok (.isub, 1) := by decide +kernel
theorem dX0_moveCells_10 : decode cX0_moveCells 10 = .ok (.istore 5, 2) := by decide +kernel
theorem dX0_moveCells_12 : decode cX0_moveCells 12 = .ok (.iload_n 1, 1) := by decide +kernel
theorem dX0_moveCells_13 : decode cX0_moveCells 13 = .ok (.ifCond .lt 60, 3) := by decide +kernel
theorem dX0_moveCells_16 : decode cX0_moveCells 16 = .ok (.iload_n 1, 1) := by decide +kernel
theorem dX0_moveCells_17 : decode cX0_moveCells 17 = .ok (.aload_n 0, 1) := by decide +kernel
theorem dX0_moveCells_18 : decode cX0_moveCells 18 = .ok (.getfield 15, 3) := by decide +kernel
theorem dX0_moveCells_21 : decode cX0_moveCells 21 = .ok (.if_icmp .ge 52, 3) := by decide +kernel
theorem dX0_moveCells_24 : decode cX0_moveCells 24 = .ok (.iload_n 2, 1) := by decide +kernel
theorem dX0_moveCells_25 : decode cX0_moveCells 25 = .ok (.ifCond .lt 48, 3) := by decide +kernel
theorem dX0_moveCells_28 : decode cX0_moveCells 28 = .ok (.iload_n 3, 1) := by decide +kernel
theorem dX0_moveCells_29 : decode cX0_moveCells 29 = .ok (.ifCond .lt 44, 3) := by decide +kernel
theorem dX0_moveCells_32 : decode cX0_moveCells 32 = .ok (.iload 4, 2) := by decide +kernel
theorem dX0_moveCells_34 : decode cX0_moveCells 34 = .ok (.ifCond .lt 39, 3) := by decide +kernel
theorem dX0_moveCells_37 : decode cX0_moveCells 37 = .ok (.iload 4, 2) := by decide +kernel
theorem dX0_moveCells_39 : decode cX0_moveCells 39 = .ok (.iload 5, 2) := by decide +kernel
theorem dX0_moveCells_41 : decode cX0_moveCells 41 = .ok (.if_icmp .gt 32, 3) := by decide +kernel
theorem dX0_moveCells_44 : decode cX0_moveCells 44 = .ok (.aload_n 0, 1) := by decide +kernel
theorem dX0_moveCells_45 : decode cX0_moveCells 45 = .ok (.getfield 18, 3) := by decide +kernel
theorem dX0_moveCells_48 : decode cX0_moveCells 48 = .ok (.iload_n 1, 1) := by decide +kernel
theorem dX0_moveCells_49 : decode cX0_moveCells 49 = .ok (.aload_n 0, 1) := by decide +kernel
theorem dX0_moveCells_50 : decode cX0_moveCells 50 = .ok (.getfield 9, 3) := by decide +kernel
theorem dX0_moveCells_53 : decode cX0_moveCells 53 = .ok (.imul, 1) := by decide +kernel
theorem dX0_moveCells_54 : decode cX0_moveCells 54 = .ok (.iload_n 2, 1) := by decide +kernel
theorem dX0_moveCells_55 : decode cX0_moveCells 55 = .ok (.iadd, 1) := by decide +kernel
theorem dX0_moveCells_56 : decode cX0_moveCells 56 = .ok (.aload_n 0, 1) := by decide +kernel
theorem dX0_moveCells_57 : decode cX0_moveCells 57 = .ok (.getfield 18, 3) := by decide +kernel
theorem dX0_moveCells_60 : decode cX0_moveCells 60 = .ok (.iload_n 1, 1) := by decide +kernel
theorem dX0_moveCells_61 : decode cX0_moveCells 61 = .ok (.aload_n 0, 1) := by decide +kernel
theorem dX0_moveCells_62 : decode cX0_moveCells 62 = .ok (.getfield 9, 3) := by decide +kernel
theorem dX0_moveCells_65 : decode cX0_moveCells 65 = .ok (.imul, 1) := by decide +kernel
theorem dX0_moveCells_66 : decode cX0_moveCells 66 = .ok (.iload_n 3, 1) := by decide +kernel
theorem dX0_moveCells_67 : decode cX0_moveCells 67 = .ok (.iadd, 1) := by decide +kernel
theorem dX0_moveCells_68 : decode cX0_moveCells 68 = .ok (.iload 4, 2) := by decide +kernel
theorem dX0_moveCells_70 : decode cX0_moveCells 70 = .ok (.invokestatic 31, 3) := by decide +kernel
theorem dX0_moveCells_73 : decode cX0_moveCells 73 = .ok (.return_, 1) := by decide +kernel
theorem dX1_init_0 : decode cX1_init 0 = .ok (.aload_n 0, 1) := by decide +kernel
theorem dX1_init_1 : decode cX1_init 1 = .ok (.invokespecial 3, 3) := by decide +kernel
theorem dX1_init_4 : decode cX1_init 4 = .ok (.aload_n 0, 1) := by decide +kernel
theorem dX1_init_5 : decode cX1_init 5 = .ok (.bipush 30, 2) := by decide +kernel
theorem dX1_init_7 : decode cX1_init 7 = .ok (.newarray .int, 2) := by decide +kernel
theorem dX1_init_9 : decode cX1_init 9 = .ok (.putfield 11, 3) := by decide +kernel
theorem dX1_init_12 : decode cX1_init 12 = .ok (.aload_n 0, 1) := by decide +kernel
theorem dX1_init_13 : decode cX1_init 13 = .ok (.iload_n 1, 1) := by decide +kernel
theorem dX1_init_14 : decode cX1_init 14 = .ok (.putfield 15, 3) := by decide +kernel
theorem dX1_init_17 : decode cX1_init 17 = .ok (.aload_n 0, 1) := by decide +kernel
theorem dX1_init_18 : decode cX1_init 18 = .ok (.bipush 30, 2) := by decide +kernel
theorem dX1_init_20 : decode cX1_init 20 = .ok (.iload_n 1, 1) := by decide +kernel
theorem dX1_init_21 : decode cX1_init 21 = .ok (.imul, 1) := by decide +kernel
theorem dX1_init_22 : decode cX1_init 22 = .ok (.newarray .int, 2) := by decide +kernel
theorem dX1_init_24 : decode cX1_init 24 = .ok (.putfield 19, 3) := by decide +kernel
theorem dX1_init_27 : decode cX1_init 27 = .ok (.return_, 1) := by decide +kernel
theorem dX1_forget_0 : decode cX1_forget 0 = .ok (.aload_n 0, 1) := by decide +kernel
theorem dX1_forget_1 : decode cX1_forget 1 = .ok (.iconst 0, 1) := by decide +kernel
theorem dX1_forget_2 : decode cX1_forget 2 = .ok (.putfield 22, 3) := by decide +kernel
theorem dX1_forget_5 : decode cX1_forget 5 = .ok (.aload_n 0, 1) := by decide +kernel
theorem dX1_forget_6 : decode cX1_forget 6 = .ok (.iconst 0, 1) := by decide +kernel
theorem dX1_forget_7 : decode cX1_forget 7 = .ok (.putfield 25, 3) := by decide +kernel
theorem dX1_forget_10 : decode cX1_forget 10 = .ok (.return_, 1) := by decide +kernel
theorem dX1_add_0 : decode cX1_add 0 = .ok (.aload_n 0, 1) := by decide +kernel
theorem dX1_add_1 : decode cX1_add 1 = .ok (.getfield 22, 3) := by decide +kernel
theorem dX1_add_4 : decode cX1_add 4 = .ok (.aload_n 0, 1) := by decide +kernel
theorem dX1_add_5 : decode cX1_add 5 = .ok (.getfield 25, 3) := by decide +kernel
theorem dX1_add_8 : decode cX1_add 8 = .ok (.iadd, 1) := by decide +kernel
theorem dX1_add_9 : decode cX1_add 9 = .ok (.bipush 30, 2) := by decide +kernel
theorem dX1_add_11 : decode cX1_add 11 = .ok (.irem, 1) := by decide +kernel
theorem dX1_add_12 : decode cX1_add 12 = .ok (.istore 4, 2) := by decide +kernel
theorem dX1_add_14 : decode cX1_add 14 = .ok (.aload_n 0, 1) := by decide +kernel
theorem dX1_add_15 : decode cX1_add 15 = .ok (.getfield 25, 3) := by decide +kernel
theorem dX1_add_18 : decode cX1_add 18 = .ok (.bipush 30, 2) := by decide +kernel
theorem dX1_add_20 : decode cX1_add 20 = .ok (.if_icmp .ge 16, 3) := by decide +kernel
theorem dX1_add_23 : decode cX1_add 23 = .ok (.aload_n 0, 1) := by decide +kernel
theorem dX1_add_24 : decode cX1_add 24 = .ok (.dup, 1) := by decide +kernel
theorem dX1_add_25 : decode cX1_add 25 = .ok (.getfield 25, 3) := by decide +kernel
theorem dX1_add_28 : decode cX1_add 28 = .ok (.iconst 1, 1) := by decide +kernel
theorem dX1_add_29 : decode cX1_add 29 = .ok (.iadd, 1) := by decide +kernel
theorem dX1_add_30 : decode cX1_add 30 = .ok (.putfield 25, 3) := by decide +kernel
theorem dX1_add_33 : decode cX1_add 33 = .ok (.goto 16, 3) := by decide +kernel
theorem dX1_add_36 : decode cX1_add 36 = .ok (.aload_n 0, 1) := by decide +kernel
theorem dX1_add_37 : decode cX1_add 37 = .ok (.aload_n 0, 1) := by decide +kernel
theorem dX1_add_38 : decode cX1_add 38 = .ok (.getfield 22, 3) := by decide +kernel
theorem dX1_add_41 : decode cX1_add 41 = .ok (.iconst 1, 1) := by decide +kernel
theorem dX1_add_42 : decode cX1_add 42 = .ok (.iadd, 1) := by decide +kernel
theorem dX1_add_43 : decode cX1_add 43 = .ok (.bipush 30, 2) := by decide +kernel
theorem dX1_add_45 : decode cX1_add 45 = .ok (.irem, 1) := by decide +kernel
theorem dX1_add_46 : decode cX1_add 46 = .ok (.putfield 22, 3) := by decide +kernel
theorem dX1_add_49 : decode cX1_add 49 = .ok (.aload_n 0, 1) := by decide +kernel
theorem dX1_add_50 : decode cX1_add 50 = .ok (.getfield 11, 3) := by decide +kernel
theorem dX1_add_53 : decode cX1_add 53 = .ok (.iload 4, 2) := by decide +kernel
theorem dX1_add_55 : decode cX1_add 55 = .ok (.iload_n 3, 1) := by decide +kernel
theorem dX1_add_56 : decode cX1_add 56 = .ok (.iastore, 1) := by decide +kernel
theorem dX1_add_57 : decode cX1_add 57 = .ok (.aload_n 1, 1) := by decide +kernel
theorem dX1_add_58 : decode cX1_add 58 = .ok (.iload_n 2, 1) := by decide +kernel
theorem dX1_add_59 : decode cX1_add 59 = .ok (.iload_n 3, 1) := by decide +kernel
theorem dX1_add_60 : decode cX1_add 60 = .ok (.aload_n 0, 1) := by decide +kernel
theorem dX1_add_61 : decode cX1_add 61 = .ok (.getfield 19, 3) := by decide +kernel
theorem dX1_add_64 : decode cX1_add 64 = .ok (.iload 4, 2) := by decide +kernel
theorem dX1_add_66 : decode cX1_add 66 = .ok (.aload_n 0, 1) := by decide +kernel
theorem dX1_add_67 : decode cX1_add 67 = .ok (.getfield 15, 3) := by decide +kernel
theorem dX1_add_70 : decode cX1_add 70 = .ok (.imul, 1) := by decide +kernel
theorem dX1_add_71 : decode cX1_add 71 = .ok (.invokevirtual 28, 3) := by decide +kernel
theorem dX1_add_74 : decode cX1_add 74 = .ok (.return_, 1) := by decide +kernel
theorem dX1_give_0 : decode cX1_give 0 = .ok (.iload_n 1, 1) := by decide +kernel
theorem dX1_give_1 : decode cX1_give 1 = .ok (.ifCond .lt 29, 3) := by decide +kernel
theorem dX1_give_4 : decode cX1_give 4 = .ok (.iload_n 1, 1) := by decide +kernel
theorem dX1_give_5 : decode cX1_give 5 = .ok (.aload_n 0, 1) := by decide +kernel
theorem dX1_give_6 : decode cX1_give 6 = .ok (.getfield 25, 3) := by decide +kernel
theorem dX1_give_9 : decode cX1_give 9 = .ok (.if_icmp .ge 21, 3) := by decide +kernel
theorem dX1_give_12 : decode cX1_give 12 = .ok (.iload 4, 2) := by decide +kernel
theorem dX1_give_14 : decode cX1_give 14 = .ok (.ifCond .lt 16, 3) := by decide +kernel
theorem dX1_give_17 : decode cX1_give 17 = .ok (.iload_n 2, 1) := by decide +kernel
theorem dX1_give_18 : decode cX1_give 18 = .ok (.ifCond .lt 12, 3) := by decide +kernel
theorem dX1_give_21 : decode cX1_give 21 = .ok (.iload 4, 2) := by decide +kernel
theorem dX1_give_23 : decode cX1_give 23 = .ok (.iload_n 2, 1) := by decide +kernel
theorem dX1_give_24 : decode cX1_give 24 = .ok (.iadd, 1) := by decide +kernel
theorem dX1_give_25 : decode cX1_give 25 = .ok (.aload_n 3, 1) := by decide +kernel
theorem dX1_give_26 : decode cX1_give 26 = .ok (.arraylength, 1) := by decide +kernel
theorem dX1_give_27 : decode cX1_give 27 = .ok (.if_icmp .le 4, 3) := by decide +kernel
theorem dX1_give_30 : decode cX1_give 30 = .ok (.return_, 1) := by decide +kernel
theorem dX1_give_31 : decode cX1_give 31 = .ok (.aload_n 0, 1) := by decide +kernel
theorem dX1_give_32 : decode cX1_give 32 = .ok (.getfield 22, 3) := by decide +kernel
theorem dX1_give_35 : decode cX1_give 35 = .ok (.iload_n 1, 1) := by decide +kernel
theorem dX1_give_36 : decode cX1_give 36 = .ok (.iadd, 1) := by decide +kernel
theorem dX1_give_37 : decode cX1_give 37 = .ok (.bipush 30, 2) := by decide +kernel
theorem dX1_give_39 : decode cX1_give 39 = .ok (.irem, 1) := by decide +kernel
theorem dX1_give_40 : decode cX1_give 40 = .ok (.istore 5, 2) := by decide +kernel
theorem dX1_give_42 : decode cX1_give 42 = .ok (.iload_n 2, 1) := by decide +kernel
theorem dX1_give_43 : decode cX1_give 43 = .ok (.aload_n 0, 1) := by decide +kernel
theorem dX1_give_44 : decode cX1_give 44 = .ok (.getfield 11, 3) := by decide +kernel
theorem dX1_give_47 : decode cX1_give 47 = .ok (.iload 5, 2) := by decide +kernel
theorem dX1_give_49 : decode cX1_give 49 = .ok (.iaload, 1) := by decide +kernel
theorem dX1_give_50 : decode cX1_give 50 = .ok (.invokestatic 34, 3) := by decide +kernel
theorem dX1_give_53 : decode cX1_give 53 = .ok (.istore 6, 2) := by decide +kernel
theorem dX1_give_55 : decode cX1_give 55 = .ok (.aload_n 0, 1) := by decide +kernel
theorem dX1_give_56 : decode cX1_give 56 = .ok (.getfield 19, 3) := by decide +kernel
theorem dX1_give_59 : decode cX1_give 59 = .ok (.iload 5, 2) := by decide +kernel
theorem dX1_give_61 : decode cX1_give 61 = .ok (.aload_n 0, 1) := by decide +kernel
theorem dX1_give_62 : decode cX1_give 62 = .ok (.getfield 15, 3) := by decide +kernel
theorem dX1_give_65 : decode cX1_give 65 = .ok (.imul, 1) := by decide +kernel
theorem dX1_give_66 : decode cX1_give 66 = .ok (.aload_n 3, 1) := by decide +kernel
theorem dX1_give_67 : decode cX1_give 67 = .ok (.iload 4, 2) := by decide +kernel
theorem dX1_give_69 : decode cX1_give 69 = .ok (.iload 6, 2) := by decide +kernel
theorem dX1_give_71 : decode cX1_give 71 = .ok (.invokestatic 40, 3) := by decide +kernel
theorem dX1_give_74 : decode cX1_give 74 = .ok (.aload_n 3, 1) := by decide +kernel
theorem dX1_give_75 : decode cX1_give 75 = .ok (.iload 4, 2) := by decide +kernel
theorem dX1_give_77 : decode cX1_give 77 = .ok (.iload 6, 2) := by decide +kernel
theorem dX1_give_79 : decode cX1_give 79 = .ok (.iadd, 1) := by decide +kernel
theorem dX1_give_80 : decode cX1_give 80 = .ok (.iload 4, 2) := by decide +kernel
theorem dX1_give_82 : decode cX1_give 82 = .ok (.iload_n 2, 1) := by decide +kernel
theorem dX1_give_83 : decode cX1_give 83 = .ok (.iadd, 1) := by decide +kernel
theorem dX1_give_84 : decode cX1_give 84 = .ok (.bipush 32, 2) := by decide +kernel
theorem dX1_give_86 : decode cX1_give 86 = .ok (.invokestatic 46, 3) := by decide +kernel
theorem dX1_give_89 : decode cX1_give 89 = .ok (.return_, 1) := by decide +kernel
theorem dX2_init_0 : decode cX2_init 0 = .ok (.aload_n 0, 1) := by decide +kernel
theorem dX2_init_1 : decode cX2_init 1 = .ok (.invokespecial 3, 3) := by decide +kernel
theorem dX2_init_4 : decode cX2_init 4 = .ok (.aload_n 0, 1) := by decide +kernel
theorem dX2_init_5 : decode cX2_init 5 = .ok (.bipush 8, 2) := by decide +kernel
theorem dX2_init_7 : decode cX2_init 7 = .ok (.anewarray 9, 3) := by decide +kernel
theorem dX2_init_10 : decode cX2_init 10 = .ok (.putfield 11, 3) := by decide +kernel
theorem dX2_init_13 : decode cX2_init 13 = .ok (.aload_n 0, 1) := by decide +kernel
theorem dX2_init_14 : decode cX2_init 14 = .ok (.new 9, 3) := by decide +kernel
theorem dX2_init_17 : decode cX2_init 17 = .ok (.dup, 1) := by decide +kernel
theorem dX2_init_18 : decode cX2_init 18 = .ok (.aconst_null, 1) := by decide +kernel
theorem dX2_init_19 : decode cX2_init 19 = .ok (.invokespecial 17, 3) := by decide +kernel
theorem dX2_init_22 : decode cX2_init 22 = .ok (.putfield 20, 3) := by decide +kernel
theorem dX2_init_25 : decode cX2_init 25 = .ok (.aload_n 0, 1) := by decide +kernel
theorem dX2_init_26 : decode cX2_init 26 = .ok (.getfield 20, 3) := by decide +kernel
theorem dX2_init_29 : decode cX2_init 29 = .ok (.iload_n 1, 1) := by decide +kernel
theorem dX2_init_30 : decode cX2_init 30 = .ok (.putfield 24, 3) := by decide +kernel
theorem dX2_init_33 : decode cX2_init 33 = .ok (.aload_n 0, 1) := by decide +kernel
theorem dX2_init_34 : decode cX2_init 34 = .ok (.getfield 20, 3) := by decide +kernel
theorem dX2_init_37 : decode cX2_init 37 = .ok (.iload_n 2, 1) := by decide +kernel
theorem dX2_init_38 : decode cX2_init 38 = .ok (.putfield 28, 3) := by decide +kernel
theorem dX2_init_41 : decode cX2_init 41 = .ok (.aload_n 0, 1) := by decide +kernel
theorem dX2_init_42 : decode cX2_init 42 = .ok (.getfield 11, 3) := by decide +kernel
theorem dX2_init_45 : decode cX2_init 45 = .ok (.iconst 0, 1) := by decide +kernel
theorem dX2_init_46 : decode cX2_init 46 = .ok (.aload_n 0, 1) := by decide +kernel
theorem dX2_init_47 : decode cX2_init 47 = .ok (.getfield 20, 3) := by decide +kernel
theorem dX2_init_50 : decode cX2_init 50 = .ok (.aastore, 1) := by decide +kernel
theorem dX2_init_51 : decode cX2_init 51 = .ok (.return_, 1) := by decide +kernel
theorem dX2_has_0 : decode cX2_has 0 = .ok (.iload_n 1, 1) := by decide +kernel
theorem dX2_has_1 : decode cX2_has 1 = .ok (.ifCond .lt 22, 3) := by decide +kernel
theorem dX2_has_4 : decode cX2_has 4 = .ok (.iload_n 1, 1) := by decide +kernel
theorem dX2_has_5 : decode cX2_has 5 = .ok (.bipush 8, 2) := by decide +kernel
theorem dX2_has_7 : decode cX2_has 7 = .ok (.if_icmp .ge 16, 3) := by decide +kernel
theorem dX2_has_10 : decode cX2_has 10 = .ok (.aload_n 0, 1) := by decide +kernel
theorem dX2_has_11 : decode cX2_has 11 = .ok (.getfield 11, 3) := by decide +kernel
theorem dX2_has_14 : decode cX2_has 14 = .ok (.iload_n 1, 1) := by decide +kernel
theorem dX2_has_15 : decode cX2_has 15 = .ok (.aaload, 1) := by decide +kernel
theorem dX2_has_16 : decode cX2_has 16 = .ok (.ifnull 7, 3) := by decide +kernel
theorem dX2_has_19 : decode cX2_has 19 = .ok (.iconst 1, 1) := by decide +kernel
theorem dX2_has_20 : decode cX2_has 20 = .ok (.goto 4, 3) := by decide +kernel
theorem dX2_has_23 : decode cX2_has 23 = .ok (.iconst 0, 1) := by decide +kernel
theorem dX2_has_24 : decode cX2_has 24 = .ok (.ireturn, 1) := by decide +kernel
theorem dX2_panes_0 : decode cX2_panes 0 = .ok (.iconst 0, 1) := by decide +kernel
theorem dX2_panes_1 : decode cX2_panes 1 = .ok (.istore_n 1, 1) := by decide +kernel
theorem dX2_panes_2 : decode cX2_panes 2 = .ok (.iconst 0, 1) := by decide +kernel
theorem dX2_panes_3 : decode cX2_panes 3 = .ok (.istore_n 2, 1) := by decide +kernel
theorem dX2_panes_4 : decode cX2_panes 4 = .ok (.iload_n 2, 1) := by decide +kernel
theorem dX2_panes_5 : decode cX2_panes 5 = .ok (.bipush 8, 2) := by decide +kernel
theorem dX2_panes_7 : decode cX2_panes 7 = .ok (.if_icmp .ge 25, 3) := by decide +kernel
theorem dX2_panes_10 : decode cX2_panes 10 = .ok (.iload_n 1, 1) := by decide +kernel
theorem dX2_panes_11 : decode cX2_panes 11 = .ok (.aload_n 0, 1) := by decide +kernel
theorem dX2_panes_12 : decode cX2_panes 12 = .ok (.iload_n 2, 1) := by decide +kernel
theorem dX2_panes_13 : decode cX2_panes 13 = .ok (.invokevirtual 31, 3) := by decide +kernel
theorem dX2_panes_16 : decode cX2_panes 16 = .ok (.ifCond .eq 7, 3) := by decide +kernel
theorem dX2_panes_19 : decode cX2_panes 19 = .ok (.iconst 1, 1) := by decide +kernel
theorem dX2_panes_20 : decode cX2_panes 20 = .ok (.goto 4, 3) := by decide +kernel
theorem dX2_panes_23 : decode cX2_panes 23 = .ok (.iconst 0, 1) := by decide +kernel
theorem dX2_panes_24 : decode cX2_panes 24 = .ok (.iadd, 1) := by decide +kernel
theorem dX2_panes_25 : decode cX2_panes 25 = .ok (.istore_n 1, 1) := by decide +kernel
theorem dX2_panes_26 : decode cX2_panes 26 = .ok (.iinc 2 1, 3) := by decide +kernel
theorem dX2_panes_29 : decode cX2_panes 29 = .ok (.goto (-25), 3) := by decide +kernel
theorem dX2_panes_32 : decode cX2_panes 32 = .ok (.iload_n 1, 1) := by decide +kernel
theorem dX2_panes_33 : decode cX2_panes 33 = .ok (.ireturn, 1) := by decide +kernel
theorem dX2_least_0 : decode cX2_least 0 = .ok (.iconst 0, 1) := by decide +kernel
theorem dX2_least_1 : decode cX2_least 1 = .ok (.istore_n 2, 1) := by decide +kernel
theorem dX2_least_2 : decode cX2_least 2 = .ok (.iload_n 2, 1) := by decide +kernel
theorem dX2_least_3 : decode cX2_least 3 = .ok (.bipush 8, 2) := by decide +kernel
theorem dX2_least_5 : decode cX2_least 5 = .ok (.if_icmp .ge 20, 3) := by decide +kernel
theorem dX2_least_8 : decode cX2_least 8 = .ok (.aload_n 0, 1) := by decide +kernel
theorem dX2_least_9 : decode cX2_least 9 = .ok (.iload_n 2, 1) := by decide +kernel
theorem dX2_least_10 : decode cX2_least 10 = .ok (.invokevirtual 31, 3) := by decide +kernel
theorem dX2_least_13 : decode cX2_least 13 = .ok (.iload_n 1, 1) := by decide +kernel
theorem dX2_least_14 : decode cX2_least 14 = .ok (.if_icmp .ne 5, 3) := by decide +kernel
theorem dX2_least_17 : decode cX2_least 17 = .ok (.iload_n 2, 1) := by decide +kernel
theorem dX2_least_18 : decode cX2_least 18 = .ok (.ireturn, 1) := by decide +kernel
theorem dX2_least_19 : decode cX2_least 19 = .ok (.iinc 2 1, 3) := by decide +kernel
theorem dX2_least_22 : decode cX2_least 22 = .ok (.goto (-20), 3) := by decide +kernel
theorem dX2_least_25 : decode cX2_least 25 = .ok (.iconst (-1), 1) := by decide +kernel
theorem dX2_least_26 : decode cX2_least 26 = .ok (.ireturn, 1) := by decide +kernel
theorem dX2_paneBehind_0 : decode cX2_paneBehind 0 = .ok (.iconst 1, 1) := by decide +kernel
theorem dX2_paneBehind_1 : decode cX2_paneBehind 1 = .ok (.istore_n 2, 1) := by decide +kernel
theorem dX2_paneBehind_2 : decode cX2_paneBehind 2 = .ok (.iload_n 2, 1) := by decide +kernel
theorem dX2_paneBehind_3 : decode cX2_paneBehind 3 = .ok (.bipush 8, 2) := by decide +kernel
theorem dX2_paneBehind_5 : decode cX2_paneBehind 5 = .ok (.if_icmp .ge 26, 3) := by decide +kernel
theorem dX2_paneBehind_8 : decode cX2_paneBehind 8 = .ok (.iload_n 1, 1) := by decide +kernel
theorem dX2_paneBehind_9 : decode cX2_paneBehind 9 = .ok (.iload_n 2, 1) := by decide +kernel
theorem dX2_paneBehind_10 : decode cX2_paneBehind 10 = .ok (.iadd, 1) := by decide +kernel
theorem dX2_paneBehind_11 : decode cX2_paneBehind 11 = .ok (.bipush 8, 2) := by decide +kernel
theorem dX2_paneBehind_13 : decode cX2_paneBehind 13 = .ok (.irem, 1) := by decide +kernel
theorem dX2_paneBehind_14 : decode cX2_paneBehind 14 = .ok (.istore_n 3, 1) := by decide +kernel
theorem dX2_paneBehind_15 : decode cX2_paneBehind 15 = .ok (.aload_n 0, 1) := by decide +kernel
theorem dX2_paneBehind_16 : decode cX2_paneBehind 16 = .ok (.iload_n 3, 1) := by decide +kernel
theorem dX2_paneBehind_17 : decode cX2_paneBehind 17 = .ok (.invokevirtual 31, 3) := by decide +kernel
theorem dX2_paneBehind_20 : decode cX2_paneBehind 20 = .ok (.ifCond .eq 5, 3) := by decide +kernel
theorem dX2_paneBehind_23 : decode cX2_paneBehind 23 = .ok (.iload_n 3, 1) := by decide +kernel
theorem dX2_paneBehind_24 : decode cX2_paneBehind 24 = .ok (.ireturn, 1) := by decide +kernel
theorem dX2_paneBehind_25 : decode cX2_paneBehind 25 = .ok (.iinc 2 1, 3) := by decide +kernel
theorem dX2_paneBehind_28 : decode cX2_paneBehind 28 = .ok (.goto (-26), 3) := by decide +kernel
theorem dX2_paneBehind_31 : decode cX2_paneBehind 31 = .ok (.iload_n 1, 1) := by decide +kernel
theorem dX2_paneBehind_32 : decode cX2_paneBehind 32 = .ok (.ireturn, 1) := by decide +kernel
theorem dX2_divide_0 : decode cX2_divide 0 = .ok (.aload_n 0, 1) := by decide +kernel
theorem dX2_divide_1 : decode cX2_divide 1 = .ok (.iconst 0, 1) := by decide +kernel
theorem dX2_divide_2 : decode cX2_divide 2 = .ok (.invokevirtual 35, 3) := by decide +kernel
theorem dX2_divide_5 : decode cX2_divide 5 = .ok (.istore_n 3, 1) := by decide +kernel
theorem dX2_divide_6 : decode cX2_divide 6 = .ok (.iload_n 3, 1) := by decide +kernel
theorem dX2_divide_7 : decode cX2_divide 7 = .ok (.iconst (-1), 1) := by decide +kernel
theorem dX2_divide_8 : decode cX2_divide 8 = .ok (.if_icmp .eq 25, 3) := by decide +kernel
theorem dX2_divide_11 : decode cX2_divide 11 = .ok (.aload_n 0, 1) := by decide +kernel
theorem dX2_divide_12 : decode cX2_divide 12 = .ok (.iload_n 1, 1) := by decide +kernel
theorem dX2_divide_13 : decode cX2_divide 13 = .ok (.invokevirtual 31, 3) := by decide +kernel
theorem dX2_divide_16 : decode cX2_divide 16 = .ok (.ifCond .eq 17, 3) := by decide +kernel
theorem dX2_divide_19 : decode cX2_divide 19 = .ok (.aload_n 0, 1) := by decide +kernel
theorem dX2_divide_20 : decode cX2_divide 20 = .ok (.getfield 11, 3) := by decide +kernel
theorem dX2_divide_23 : decode cX2_divide 23 = .ok (.iload_n 1, 1) := by decide +kernel
theorem dX2_divide_24 : decode cX2_divide 24 = .ok (.aaload, 1) := by decide +kernel
theorem dX2_divide_25 : decode cX2_divide 25 = .ok (.iload_n 2, 1) := by decide +kernel
theorem dX2_divide_26 : decode cX2_divide 26 = .ok (.invokevirtual 39, 3) := by decide +kernel
theorem dX2_divide_29 : decode cX2_divide 29 = .ok (.iconst 2, 1) := by decide +kernel
theorem dX2_divide_30 : decode cX2_divide 30 = .ok (.if_icmp .gt 5, 3) := by decide +kernel
theorem dX2_divide_33 : decode cX2_divide 33 = .ok (.iconst (-1), 1) := by decide +kernel
theorem dX2_divide_34 : decode cX2_divide 34 = .ok (.ireturn, 1) := by decide +kernel
theorem dX2_divide_35 : decode cX2_divide 35 = .ok (.aload_n 0, 1) := by decide +kernel
theorem dX2_divide_36 : decode cX2_divide 36 = .ok (.getfield 11, 3) := by decide +kernel
theorem dX2_divide_39 : decode cX2_divide 39 = .ok (.iload_n 1, 1) := by decide +kernel
theorem dX2_divide_40 : decode cX2_divide 40 = .ok (.aaload, 1) := by decide +kernel
theorem dX2_divide_41 : decode cX2_divide 41 = .ok (.astore 4, 2) := by decide +kernel
theorem dX2_divide_43 : decode cX2_divide 43 = .ok (.new 9, 3) := by decide +kernel
theorem dX2_divide_46 : decode cX2_divide 46 = .ok (.dup, 1) := by decide +kernel
theorem dX2_divide_47 : decode cX2_divide 47 = .ok (.aload 4, 2) := by decide +kernel
theorem dX2_divide_49 : decode cX2_divide 49 = .ok (.getfield 42, 3) := by decide +kernel
theorem dX2_divide_52 : decode cX2_divide 52 = .ok (.invokespecial 17, 3) := by decide +kernel
theorem dX2_divide_55 : decode cX2_divide 55 = .ok (.astore 5, 2) := by decide +kernel
theorem dX2_divide_57 : decode cX2_divide 57 = .ok (.aload_n 0, 1) := by decide +kernel
theorem dX2_divide_58 : decode cX2_divide 58 = .ok (.aload 4, 2) := by decide +kernel
theorem dX2_divide_60 : decode cX2_divide 60 = .ok (.aload 5, 2) := by decide +kernel
theorem dX2_divide_62 : decode cX2_divide 62 = .ok (.invokevirtual 45, 3) := by decide +kernel
theorem dX2_divide_65 : decode cX2_divide 65 = .ok (.aload 4, 2) := by decide +kernel
theorem dX2_divide_67 : decode cX2_divide 67 = .ok (.aload 5, 2) := by decide +kernel
theorem dX2_divide_69 : decode cX2_divide 69 = .ok (.putfield 42, 3) := by decide +kernel
theorem dX2_divide_72 : decode cX2_divide 72 = .ok (.aload 5, 2) := by decide +kernel
theorem dX2_divide_74 : decode cX2_divide 74 = .ok (.aload 4, 2) := by decide +kernel
theorem dX2_divide_76 : decode cX2_divide 76 = .ok (.putfield 49, 3) := by decide +kernel
theorem dX2_divide_79 : decode cX2_divide 79 = .ok (.aload 5, 2) := by decide +kernel
theorem dX2_divide_81 : decode cX2_divide 81 = .ok (.new 9, 3) := by decide +kernel
theorem dX2_divide_84 : decode cX2_divide 84 = .ok (.dup, 1) := by decide +kernel
theorem dX2_divide_85 : decode cX2_divide 85 = .ok (.aload 5, 2) := by decide +kernel
theorem dX2_divide_87 : decode cX2_divide 87 = .ok (.invokespecial 17, 3) := by decide +kernel
theorem dX2_divide_90 : decode cX2_divide 90 = .ok (.putfield 52, 3) := by decide +kernel
theorem dX2_divide_93 : decode cX2_divide 93 = .ok (.aload 5, 2) := by decide +kernel
theorem dX2_divide_95 : decode cX2_divide 95 = .ok (.iload_n 2, 1) := by decide +kernel
theorem dX2_divide_96 : decode cX2_divide 96 = .ok (.putfield 55, 3) := by decide +kernel
theorem dX2_divide_99 : decode cX2_divide 99 = .ok (.aload 5, 2) := by decide +kernel
theorem dX2_divide_101 : decode cX2_divide 101 = .ok (.aload 4, 2) := by decide +kernel
theorem dX2_divide_103 : decode cX2_divide 103 = .ok (.getfield 59, 3) := by decide +kernel
theorem dX2_divide_106 : decode cX2_divide 106 = .ok (.putfield 59, 3) := by decide +kernel
theorem dX2_divide_109 : decode cX2_divide 109 = .ok (.aload 5, 2) := by decide +kernel
theorem dX2_divide_111 : decode cX2_divide 111 = .ok (.aload 4, 2) := by decide +kernel
theorem dX2_divide_113 : decode cX2_divide 113 = .ok (.getfield 62, 3) := by decide +kernel
theorem dX2_divide_116 : decode cX2_divide 116 = .ok (.putfield 62, 3) := by decide +kernel
theorem dX2_divide_119 : decode cX2_divide 119 = .ok (.aload 5, 2) := by decide +kernel
theorem dX2_divide_121 : decode cX2_divide 121 = .ok (.aload 4, 2) := by decide +kernel
theorem dX2_divide_123 : decode cX2_divide 123 = .ok (.getfield 24, 3) := by decide +kernel
theorem dX2_divide_126 : decode cX2_divide 126 = .ok (.putfield 24, 3) := by decide +kernel
theorem dX2_divide_129 : decode cX2_divide 129 = .ok (.aload 5, 2) := by decide +kernel
theorem dX2_divide_131 : decode cX2_divide 131 = .ok (.aload 4, 2) := by decide +kernel
theorem dX2_divide_133 : decode cX2_divide 133 = .ok (.getfield 28, 3) := by decide +kernel
theorem dX2_divide_136 : decode cX2_divide 136 = .ok (.putfield 28, 3) := by decide +kernel
theorem dX2_divide_139 : decode cX2_divide 139 = .ok (.aload_n 0, 1) := by decide +kernel
theorem dX2_divide_140 : decode cX2_divide 140 = .ok (.getfield 11, 3) := by decide +kernel
theorem dX2_divide_143 : decode cX2_divide 143 = .ok (.iload_n 3, 1) := by decide +kernel
theorem dX2_divide_144 : decode cX2_divide 144 = .ok (.aload 5, 2) := by decide +kernel
theorem dX2_divide_146 : decode cX2_divide 146 = .ok (.getfield 52, 3) := by decide +kernel
theorem dX2_divide_149 : decode cX2_divide 149 = .ok (.aastore, 1) := by decide +kernel
theorem dX2_divide_150 : decode cX2_divide 150 = .ok (.aload 5, 2) := by decide +kernel
theorem dX2_divide_152 : decode cX2_divide 152 = .ok (.aload 5, 2) := by decide +kernel
theorem dX2_divide_154 : decode cX2_divide 154 = .ok (.iload_n 2, 1) := by decide +kernel
theorem dX2_divide_155 : decode cX2_divide 155 = .ok (.invokevirtual 39, 3) := by decide +kernel
theorem dX2_divide_158 : decode cX2_divide 158 = .ok (.iconst 1, 1) := by decide +kernel
theorem dX2_divide_159 : decode cX2_divide 159 = .ok (.isub, 1) := by decide +kernel
theorem dX2_divide_160 : decode cX2_divide 160 = .ok (.iconst 2, 1) := by decide +kernel
theorem dX2_divide_161 : decode cX2_divide 161 = .ok (.idiv, 1) := by decide +kernel
theorem dX2_divide_162 : decode cX2_divide 162 = .ok (.iconst 0, 1) := by decide +kernel
theorem dX2_divide_163 : decode cX2_divide 163 = .ok (.invokestatic 65, 3) := by decide +kernel
theorem dX2_divide_166 : decode cX2_divide 166 = .ok (.iload_n 3, 1) := by decide +kernel
theorem dX2_divide_167 : decode cX2_divide 167 = .ok (.ireturn, 1) := by decide +kernel
theorem dX2_remove_0 : decode cX2_remove 0 = .ok (.aload_n 0, 1) := by decide +kernel
theorem dX2_remove_1 : decode cX2_remove 1 = .ok (.iload_n 1, 1) := by decide +kernel
theorem dX2_remove_2 : decode cX2_remove 2 = .ok (.invokevirtual 31, 3) := by decide +kernel
theorem dX2_remove_5 : decode cX2_remove 5 = .ok (.ifCond .eq 12, 3) := by decide +kernel
theorem dX2_remove_8 : decode cX2_remove 8 = .ok (.aload_n 0, 1) := by decide +kernel
theorem dX2_remove_9 : decode cX2_remove 9 = .ok (.getfield 11, 3) := by decide +kernel
theorem dX2_remove_12 : decode cX2_remove 12 = .ok (.iload_n 1, 1) := by decide +kernel
theorem dX2_remove_13 : decode cX2_remove 13 = .ok (.aaload, 1) := by decide +kernel
theorem dX2_remove_14 : decode cX2_remove 14 = .ok (.goto 4, 3) := by decide +kernel
theorem dX2_remove_17 : decode cX2_remove 17 = .ok (.aconst_null, 1) := by decide +kernel
theorem dX2_remove_18 : decode cX2_remove 18 = .ok (.astore_n 2, 1) := by decide +kernel
theorem dX2_remove_19 : decode cX2_remove 19 = .ok (.aload_n 2, 1) := by decide +kernel
theorem dX2_remove_20 : decode cX2_remove 20 = .ok (.ifnonnull 7, 3) := by decide +kernel
theorem dX2_remove_23 : decode cX2_remove 23 = .ok (.aconst_null, 1) := by decide +kernel
theorem dX2_remove_24 : decode cX2_remove 24 = .ok (.goto 7, 3) := by decide +kernel
theorem dX2_remove_27 : decode cX2_remove 27 = .ok (.aload_n 2, 1) := by decide +kernel
theorem dX2_remove_28 : decode cX2_remove 28 = .ok (.getfield 42, 3) := by decide +kernel
theorem dX2_remove_31 : decode cX2_remove 31 = .ok (.astore_n 3, 1) := by decide +kernel
theorem dX2_remove_32 : decode cX2_remove 32 = .ok (.aload_n 3, 1) := by decide +kernel
theorem dX2_remove_33 : decode cX2_remove 33 = .ok (.ifnull 10, 3) := by decide +kernel
theorem dX2_remove_36 : decode cX2_remove 36 = .ok (.aload_n 3, 1) := by decide +kernel
theorem dX2_remove_37 : decode cX2_remove 37 = .ok (.invokevirtual 69, 3) := by decide +kernel
theorem dX2_remove_40 : decode cX2_remove 40 = .ok (.ifCond .ne 5, 3) := by decide +kernel
theorem dX2_remove_43 : decode cX2_remove 43 = .ok (.iconst 0, 1) := by decide +kernel
theorem dX2_remove_44 : decode cX2_remove 44 = .ok (.ireturn, 1) := by decide +kernel
theorem dX2_remove_45 : decode cX2_remove 45 = .ok (.aload_n 3, 1) := by decide +kernel
theorem dX2_remove_46 : decode cX2_remove 46 = .ok (.getfield 49, 3) := by decide +kernel
theorem dX2_remove_49 : decode cX2_remove 49 = .ok (.aload_n 2, 1) := by decide +kernel
theorem dX2_remove_50 : decode cX2_remove 50 = .ok (.if_acmp .ne 10, 3) := by decide +kernel
theorem dX2_remove_53 : decode cX2_remove 53 = .ok (.aload_n 3, 1) := by decide +kernel
theorem dX2_remove_54 : decode cX2_remove 54 = .ok (.getfield 52, 3) := by decide +kernel
theorem dX2_remove_57 : decode cX2_remove 57 = .ok (.goto 7, 3) := by decide +kernel
theorem dX2_remove_60 : decode cX2_remove 60 = .ok (.aload_n 3, 1) := by decide +kernel
theorem dX2_remove_61 : decode cX2_remove 61 = .ok (.getfield 49, 3) := by decide +kernel
theorem dX2_remove_64 : decode cX2_remove 64 = .ok (.astore 4, 2) := by decide +kernel
theorem dX2_remove_66 : decode cX2_remove 66 = .ok (.aload_n 0, 1) := by decide +kernel
theorem dX2_remove_67 : decode cX2_remove 67 = .ok (.aload_n 3, 1) := by decide +kernel
theorem dX2_remove_68 : decode cX2_remove 68 = .ok (.aload 4, 2) := by decide +kernel
theorem dX2_remove_70 : decode cX2_remove 70 = .ok (.invokevirtual 45, 3) := by decide +kernel
theorem dX2_remove_73 : decode cX2_remove 73 = .ok (.aload_n 0, 1) := by decide +kernel
theorem dX2_remove_74 : decode cX2_remove 74 = .ok (.getfield 11, 3) := by decide +kernel
theorem dX2_remove_77 : decode cX2_remove 77 = .ok (.iload_n 1, 1) := by decide +kernel
theorem dX2_remove_78 : decode cX2_remove 78 = .ok (.aconst_null, 1) := by decide +kernel
theorem dX2_remove_79 : decode cX2_remove 79 = .ok (.aastore, 1) := by decide +kernel
theorem dX2_remove_80 : decode cX2_remove 80 = .ok (.aload 4, 2) := by decide +kernel
theorem dX2_remove_82 : decode cX2_remove 82 = .ok (.aload_n 3, 1) := by decide +kernel
theorem dX2_remove_83 : decode cX2_remove 83 = .ok (.getfield 59, 3) := by decide +kernel
theorem dX2_remove_86 : decode cX2_remove 86 = .ok (.aload_n 3, 1) := by decide +kernel
theorem dX2_remove_87 : decode cX2_remove 87 = .ok (.getfield 62, 3) := by decide +kernel
theorem dX2_remove_90 : decode cX2_remove 90 = .ok (.aload_n 3, 1) := by decide +kernel
theorem dX2_remove_91 : decode cX2_remove 91 = .ok (.getfield 24, 3) := by decide +kernel
theorem dX2_remove_94 : decode cX2_remove 94 = .ok (.aload_n 3, 1) := by decide +kernel
theorem dX2_remove_95 : decode cX2_remove 95 = .ok (.getfield 28, 3) := by decide +kernel
theorem dX2_remove_98 : decode cX2_remove 98 = .ok (.iconst 0, 1) := by decide +kernel
theorem dX2_remove_99 : decode cX2_remove 99 = .ok (.invokestatic 73, 3) := by decide +kernel
theorem dX2_remove_102 : decode cX2_remove 102 = .ok (.iconst 1, 1) := by decide +kernel
theorem dX2_remove_103 : decode cX2_remove 103 = .ok (.ireturn, 1) := by decide +kernel
theorem dX2_drawBorders_0 : decode cX2_drawBorders 0 = .ok (.aload_n 0, 1) := by decide +kernel
theorem dX2_drawBorders_1 : decode cX2_drawBorders 1 = .ok (.getfield 20, 3) := by decide +kernel
theorem dX2_drawBorders_4 : decode cX2_drawBorders 4 = .ok (.aload_n 1, 1) := by decide +kernel
theorem dX2_drawBorders_5 : decode cX2_drawBorders 5 = .ok (.iload_n 2, 1) := by decide +kernel
theorem dX2_drawBorders_6 : decode cX2_drawBorders 6 = .ok (.iconst 0, 1) := by decide +kernel
theorem dX2_drawBorders_7 : decode cX2_drawBorders 7 = .ok (.invokestatic 77, 3) := by decide +kernel
theorem dX2_drawBorders_10 : decode cX2_drawBorders 10 = .ok (.return_, 1) := by decide +kernel
theorem dX2_exchange_0 : decode cX2_exchange 0 = .ok (.aload_n 1, 1) := by decide +kernel
theorem dX2_exchange_1 : decode cX2_exchange 1 = .ok (.getfield 42, 3) := by decide +kernel
theorem dX2_exchange_4 : decode cX2_exchange 4 = .ok (.astore_n 3, 1) := by decide +kernel
theorem dX2_exchange_5 : decode cX2_exchange 5 = .ok (.aload_n 2, 1) := by decide +kernel
theorem dX2_exchange_6 : decode cX2_exchange 6 = .ok (.aload_n 3, 1) := by decide +kernel
theorem dX2_exchange_7 : decode cX2_exchange 7 = .ok (.putfield 42, 3) := by decide +kernel
theorem dX2_exchange_10 : decode cX2_exchange 10 = .ok (.aload_n 3, 1) := by decide +kernel
theorem dX2_exchange_11 : decode cX2_exchange 11 = .ok (.ifnonnull 11, 3) := by decide +kernel
theorem dX2_exchange_14 : decode cX2_exchange 14 = .ok (.aload_n 0, 1) := by decide +kernel
theorem dX2_exchange_15 : decode cX2_exchange 15 = .ok (.aload_n 2, 1) := by decide +kernel
theorem dX2_exchange_16 : decode cX2_exchange 16 = .ok (.putfield 20, 3) := by decide +kernel
theorem dX2_exchange_19 : decode cX2_exchange 19 = .ok (.goto 24, 3) := by decide +kernel
theorem dX2_exchange_22 : decode cX2_exchange 22 = .ok (.aload_n 3, 1) := by decide +kernel
theorem dX2_exchange_23 : decode cX2_exchange 23 = .ok (.getfield 49, 3) := by decide +kernel
theorem dX2_exchange_26 : decode cX2_exchange 26 = .ok (.aload_n 1, 1) := by decide +kernel
theorem dX2_exchange_27 : decode cX2_exchange 27 = .ok (.if_acmp .ne 11, 3) := by decide +kernel
theorem dX2_exchange_30 : decode cX2_exchange 30 = .ok (.aload_n 3, 1) := by decide +kernel
theorem dX2_exchange_31 : decode cX2_exchange 31 = .ok (.aload_n 2, 1) := by decide +kernel
theorem dX2_exchange_32 : decode cX2_exchange 32 = .ok (.putfield 49, 3) := by decide +kernel
theorem dX2_exchange_35 : decode cX2_exchange 35 = .ok (.goto 8, 3) := by decide +kernel
theorem dX2_exchange_38 : decode cX2_exchange 38 = .ok (.aload_n 3, 1) := by decide +kernel
theorem dX2_exchange_39 : decode cX2_exchange 39 = .ok (.aload_n 2, 1) := by decide +kernel
theorem dX2_exchange_40 : decode cX2_exchange 40 = .ok (.putfield 52, 3) := by decide +kernel
theorem dX2_exchange_43 : decode cX2_exchange 43 = .ok (.return_, 1) := by decide +kernel
theorem dX2_place_0 : decode cX2_place 0 = .ok (.aload_n 0, 1) := by decide +kernel
theorem dX2_place_1 : decode cX2_place 1 = .ok (.aload_n 0, 1) := by decide +kernel
theorem dX2_place_2 : decode cX2_place 2 = .ok (.getfield 55, 3) := by decide +kernel
theorem dX2_place_5 : decode cX2_place 5 = .ok (.invokevirtual 39, 3) := by decide +kernel
theorem dX2_place_8 : decode cX2_place 8 = .ok (.istore 6, 2) := by decide +kernel
theorem dX2_place_10 : decode cX2_place 10 = .ok (.aload_n 0, 1) := by decide +kernel
theorem dX2_place_11 : decode cX2_place 11 = .ok (.iload_n 1, 1) := by decide +kernel
theorem dX2_place_12 : decode cX2_place 12 = .ok (.putfield 59, 3) := by decide +kernel
theorem dX2_place_15 : decode cX2_place 15 = .ok (.aload_n 0, 1) := by decide +kernel
theorem dX2_place_16 : decode cX2_place 16 = .ok (.iload_n 2, 1) := by decide +kernel
theorem dX2_place_17 : decode cX2_place 17 = .ok (.putfield 62, 3) := by decide +kernel
theorem dX2_place_20 : decode cX2_place 20 = .ok (.aload_n 0, 1) := by decide +kernel
theorem dX2_place_21 : decode cX2_place 21 = .ok (.iload_n 3, 1) := by decide +kernel
theorem dX2_place_22 : decode cX2_place 22 = .ok (.putfield 24, 3) := by decide +kernel
theorem dX2_place_25 : decode cX2_place 25 = .ok (.aload_n 0, 1) := by decide +kernel
theorem dX2_place_26 : decode cX2_place 26 = .ok (.iload 4, 2) := by decide +kernel
theorem dX2_place_28 : decode cX2_place 28 = .ok (.putfield 28, 3) := by decide +kernel
theorem dX2_place_31 : decode cX2_place 31 = .ok (.aload_n 0, 1) := by decide +kernel
theorem dX2_place_32 : decode cX2_place 32 = .ok (.invokevirtual 69, 3) := by decide +kernel
theorem dX2_place_35 : decode cX2_place 35 = .ok (.ifCond .eq 71, 3) := by decide +kernel
theorem dX2_place_38 : decode cX2_place 38 = .ok (.aload_n 0, 1) := by decide +kernel
theorem dX2_place_39 : decode cX2_place 39 = .ok (.aload_n 0, 1) := by decide +kernel
theorem dX2_place_40 : decode cX2_place 40 = .ok (.getfield 55, 3) := by decide +kernel
theorem dX2_place_43 : decode cX2_place 43 = .ok (.invokevirtual 39, 3) := by decide +kernel
theorem dX2_place_46 : decode cX2_place 46 = .ok (.istore 7, 2) := by decide +kernel
theorem dX2_place_48 : decode cX2_place 48 = .ok (.aload_n 0, 1) := by decide +kernel
theorem dX2_place_49 : decode cX2_place 49 = .ok (.getfield 49, 3) := by decide +kernel
theorem dX2_place_52 : decode cX2_place 52 = .ok (.aload_n 0, 1) := by decide +kernel
theorem dX2_place_53 : decode cX2_place 53 = .ok (.getfield 55, 3) := by decide +kernel
theorem dX2_place_56 : decode cX2_place 56 = .ok (.invokevirtual 39, 3) := by decide +kernel
theorem dX2_place_59 : decode cX2_place 59 = .ok (.istore 8, 2) := by decide +kernel
theorem dX2_place_61 : decode cX2_place 61 = .ok (.iload 6, 2) := by decide +kernel
theorem dX2_place_63 : decode cX2_place 63 = .ok (.iconst 1, 1) := by decide +kernel
theorem dX2_place_64 : decode cX2_place 64 = .ok (.if_icmp .le 18, 3) := by decide +kernel
theorem dX2_place_67 : decode cX2_place 67 = .ok (.iload 7, 2) := by decide +kernel
theorem dX2_place_69 : decode cX2_place 69 = .ok (.iconst 1, 1) := by decide +kernel
theorem dX2_place_70 : decode cX2_place 70 = .ok (.isub, 1) := by decide +kernel
theorem dX2_place_71 : decode cX2_place 71 = .ok (.iload 8, 2) := by decide +kernel
theorem dX2_place_73 : decode cX2_place 73 = .ok (.imul, 1) := by decide +kernel
theorem dX2_place_74 : decode cX2_place 74 = .ok (.iload 6, 2) := by decide +kernel
theorem dX2_place_76 : decode cX2_place 76 = .ok (.iconst 1, 1) := by decide +kernel
theorem dX2_place_77 : decode cX2_place 77 = .ok (.isub, 1) := by decide +kernel
theorem dX2_place_78 : decode cX2_place 78 = .ok (.idiv, 1) := by decide +kernel
theorem dX2_place_79 : decode cX2_place 79 = .ok (.goto 4, 3) := by decide +kernel
theorem dX2_place_82 : decode cX2_place 82 = .ok (.iconst 1, 1) := by decide +kernel
theorem dX2_place_83 : decode cX2_place 83 = .ok (.istore 9, 2) := by decide +kernel
theorem dX2_place_85 : decode cX2_place 85 = .ok (.aload_n 0, 1) := by decide +kernel
theorem dX2_place_86 : decode cX2_place 86 = .ok (.iconst 1, 1) := by decide +kernel
theorem dX2_place_87 : decode cX2_place 87 = .ok (.iload 7, 2) := by decide +kernel
theorem dX2_place_89 : decode cX2_place 89 = .ok (.iconst 2, 1) := by decide +kernel
theorem dX2_place_90 : decode cX2_place 90 = .ok (.isub, 1) := by decide +kernel
theorem dX2_place_91 : decode cX2_place 91 = .ok (.iload 9, 2) := by decide +kernel
theorem dX2_place_93 : decode cX2_place 93 = .ok (.invokestatic 81, 3) := by decide +kernel
theorem dX2_place_96 : decode cX2_place 96 = .ok (.invokestatic 87, 3) := by decide +kernel
theorem dX2_place_99 : decode cX2_place 99 = .ok (.iload 5, 2) := by decide +kernel
theorem dX2_place_101 : decode cX2_place 101 = .ok (.iconst 1, 1) := by decide +kernel
theorem dX2_place_102 : decode cX2_place 102 = .ok (.iadd, 1) := by decide +kernel
theorem dX2_place_103 : decode cX2_place 103 = .ok (.invokestatic 65, 3) := by decide +kernel
theorem dX2_place_106 : decode cX2_place 106 = .ok (.return_, 1) := by decide +kernel
theorem dX2_share_0 : decode cX2_share 0 = .ok (.aload_n 0, 1) := by decide +kernel
theorem dX2_share_1 : decode cX2_share 1 = .ok (.invokevirtual 69, 3) := by decide +kernel
theorem dX2_share_4 : decode cX2_share 4 = .ok (.ifCond .eq 9, 3) := by decide +kernel
theorem dX2_share_7 : decode cX2_share 7 = .ok (.iload_n 2, 1) := by decide +kernel
theorem dX2_share_8 : decode cX2_share 8 = .ok (.bipush 8, 2) := by decide +kernel
theorem dX2_share_10 : decode cX2_share 10 = .ok (.if_icmp .le 4, 3) := by decide +kernel
theorem dX2_share_13 : decode cX2_share 13 = .ok (.return_, 1) := by decide +kernel
theorem dX2_share_14 : decode cX2_share 14 = .ok (.aload_n 0, 1) := by decide +kernel
theorem dX2_share_15 : decode cX2_share 15 = .ok (.aload_n 0, 1) := by decide +kernel
theorem dX2_share_16 : decode cX2_share 16 = .ok (.getfield 55, 3) := by decide +kernel
theorem dX2_share_19 : decode cX2_share 19 = .ok (.invokevirtual 39, 3) := by decide +kernel
theorem dX2_share_22 : decode cX2_share 22 = .ok (.iconst 1, 1) := by decide +kernel
theorem dX2_share_23 : decode cX2_share 23 = .ok (.isub, 1) := by decide +kernel
theorem dX2_share_24 : decode cX2_share 24 = .ok (.iload_n 1, 1) := by decide +kernel
theorem dX2_share_25 : decode cX2_share 25 = .ok (.isub, 1) := by decide +kernel
theorem dX2_share_26 : decode cX2_share 26 = .ok (.istore_n 3, 1) := by decide +kernel
theorem dX2_share_27 : decode cX2_share 27 = .ok (.iload_n 1, 1) := by decide +kernel
theorem dX2_share_28 : decode cX2_share 28 = .ok (.iconst 1, 1) := by decide +kernel
theorem dX2_share_29 : decode cX2_share 29 = .ok (.iadd, 1) := by decide +kernel
theorem dX2_share_30 : decode cX2_share 30 = .ok (.istore 4, 2) := by decide +kernel
theorem dX2_share_32 : decode cX2_share 32 = .ok (.aload_n 0, 1) := by decide +kernel
theorem dX2_share_33 : decode cX2_share 33 = .ok (.getfield 55, 3) := by decide +kernel
theorem dX2_share_36 : decode cX2_share 36 = .ok (.ifCond .eq 51, 3) := by decide +kernel
theorem dX2_share_39 : decode cX2_share 39 = .ok (.aload_n 0, 1) := by decide +kernel
theorem dX2_share_40 : decode cX2_share 40 = .ok (.getfield 49, 3) := by decide +kernel
theorem dX2_share_43 : decode cX2_share 43 = .ok (.aload_n 0, 1) := by decide +kernel
theorem dX2_share_44 : decode cX2_share 44 = .ok (.getfield 59, 3) := by decide +kernel
theorem dX2_share_47 : decode cX2_share 47 = .ok (.aload_n 0, 1) := by decide +kernel
theorem dX2_share_48 : decode cX2_share 48 = .ok (.getfield 62, 3) := by decide +kernel
theorem dX2_share_51 : decode cX2_share 51 = .ok (.aload_n 0, 1) := by decide +kernel
theorem dX2_share_52 : decode cX2_share 52 = .ok (.getfield 24, 3) := by decide +kernel
theorem dX2_share_55 : decode cX2_share 55 = .ok (.iload_n 1, 1) := by decide +kernel
theorem dX2_share_56 : decode cX2_share 56 = .ok (.iload_n 2, 1) := by decide +kernel
theorem dX2_share_57 : decode cX2_share 57 = .ok (.invokestatic 73, 3) := by decide +kernel
theorem dX2_share_60 : decode cX2_share 60 = .ok (.aload_n 0, 1) := by decide +kernel
theorem dX2_share_61 : decode cX2_share 61 = .ok (.getfield 52, 3) := by decide +kernel
theorem dX2_share_64 : decode cX2_share 64 = .ok (.aload_n 0, 1) := by decide +kernel
theorem dX2_share_65 : decode cX2_share 65 = .ok (.getfield 59, 3) := by decide +kernel
theorem dX2_share_68 : decode cX2_share 68 = .ok (.aload_n 0, 1) := by decide +kernel
theorem dX2_share_69 : decode cX2_share 69 = .ok (.getfield 62, 3) := by decide +kernel
theorem dX2_share_72 : decode cX2_share 72 = .ok (.iload 4, 2) := by decide +kernel
theorem dX2_share_74 : decode cX2_share 74 = .ok (.iadd, 1) := by decide +kernel
theorem dX2_share_75 : decode cX2_share 75 = .ok (.aload_n 0, 1) := by decide +kernel
theorem dX2_share_76 : decode cX2_share 76 = .ok (.getfield 24, 3) := by decide +kernel
theorem dX2_share_79 : decode cX2_share 79 = .ok (.iload_n 3, 1) := by decide +kernel
theorem dX2_share_80 : decode cX2_share 80 = .ok (.iload_n 2, 1) := by decide +kernel
theorem dX2_share_81 : decode cX2_share 81 = .ok (.invokestatic 73, 3) := by decide +kernel
theorem dX2_share_84 : decode cX2_share 84 = .ok (.goto 48, 3) := by decide +kernel
theorem dX2_share_87 : decode cX2_share 87 = .ok (.aload_n 0, 1) := by decide +kernel
theorem dX2_share_88 : decode cX2_share 88 = .ok (.getfield 49, 3) := by decide +kernel
theorem dX2_share_91 : decode cX2_share 91 = .ok (.aload_n 0, 1) := by decide +kernel
theorem dX2_share_92 : decode cX2_share 92 = .ok (.getfield 59, 3) := by decide +kernel
theorem dX2_share_95 : decode cX2_share 95 = .ok (.aload_n 0, 1) := by decide +kernel
theorem dX2_share_96 : decode cX2_share 96 = .ok (.getfield 62, 3) := by decide +kernel
theorem dX2_share_99 : decode cX2_share 99 = .ok (.iload_n 1, 1) := by decide +kernel
theorem dX2_share_100 : decode cX2_share 100 = .ok (.aload_n 0, 1) := by decide +kernel
theorem dX2_share_101 : decode cX2_share 101 = .ok (.getfield 28, 3) := by decide +kernel
theorem dX2_share_104 : decode cX2_share 104 = .ok (.iload_n 2, 1) := by decide +kernel
theorem dX2_share_105 : decode cX2_share 105 = .ok (.invokestatic 73, 3) := by decide +kernel
theorem dX2_share_108 : decode cX2_share 108 = .ok (.aload_n 0, 1) := by decide +kernel
theorem dX2_share_109 : decode cX2_share 109 = .ok (.getfield 52, 3) := by decide +kernel
theorem dX2_share_112 : decode cX2_share 112 = .ok (.aload_n 0, 1) := by decide +kernel
theorem dX2_share_113 : decode cX2_share 113 = .ok (.getfield 59, 3) := by decide +kernel
theorem dX2_share_116 : decode cX2_share 116 = .ok (.iload 4, 2) := by decide +kernel
theorem dX2_share_118 : decode cX2_share 118 = .ok (.iadd, 1) := by decide +kernel
theorem dX2_share_119 : decode cX2_share 119 = .ok (.aload_n 0, 1) := by decide +kernel
theorem dX2_share_120 : decode cX2_share 120 = .ok (.getfield 62, 3) := by decide +kernel
theorem dX2_share_123 : decode cX2_share 123 = .ok (.iload_n 3, 1) := by decide +kernel
theorem dX2_share_124 : decode cX2_share 124 = .ok (.aload_n 0, 1) := by decide +kernel
theorem dX2_share_125 : decode cX2_share 125 = .ok (.getfield 28, 3) := by decide +kernel
theorem dX2_share_128 : decode cX2_share 128 = .ok (.iload_n 2, 1) := by decide +kernel
theorem dX2_share_129 : decode cX2_share 129 = .ok (.invokestatic 73, 3) := by decide +kernel
theorem dX2_share_132 : decode cX2_share 132 = .ok (.return_, 1) := by decide +kernel
theorem dX2_drawBorders__0 : decode cX2_drawBorders_ 0 = .ok (.aload_n 0, 1) := by decide +kernel
theorem dX2_drawBorders__1 : decode cX2_drawBorders_ 1 = .ok (.invokevirtual 69, 3) := by decide +kernel
theorem dX2_drawBorders__4 : decode cX2_drawBorders_ 4 = .ok (.ifCond .eq 39, 3) := by decide +kernel
theorem dX2_drawBorders__7 : decode cX2_drawBorders_ 7 = .ok (.iload_n 3, 1) := by decide +kernel
theorem dX2_drawBorders__8 : decode cX2_drawBorders_ 8 = .ok (.bipush 8, 2) := by decide +kernel
theorem dX2_drawBorders__10 : decode cX2_drawBorders_ 10 = .ok (.if_icmp .gt 33, 3) := by decide +kernel
theorem dX2_drawBorders__13 : decode cX2_drawBorders_ 13 = .ok (.aload_n 0, 1) := by decide +kernel
theorem dX2_drawBorders__14 : decode cX2_drawBorders_ 14 = .ok (.aload_n 1, 1) := by decide +kernel
theorem dX2_drawBorders__15 : decode cX2_drawBorders_ 15 = .ok (.iload_n 2, 1) := by decide +kernel
theorem dX2_drawBorders__16 : decode cX2_drawBorders_ 16 = .ok (.invokevirtual 90, 3) := by decide +kernel
theorem dX2_drawBorders__19 : decode cX2_drawBorders_ 19 = .ok (.aload_n 0, 1) := by decide +kernel
theorem dX2_drawBorders__20 : decode cX2_drawBorders_ 20 = .ok (.getfield 49, 3) := by decide +kernel
theorem dX2_drawBorders__23 : decode cX2_drawBorders_ 23 = .ok (.aload_n 1, 1) := by decide +kernel
theorem dX2_drawBorders__24 : decode cX2_drawBorders_ 24 = .ok (.iload_n 2, 1) := by decide +kernel
theorem dX2_drawBorders__25 : decode cX2_drawBorders_ 25 = .ok (.iload_n 3, 1) := by decide +kernel
theorem dX2_drawBorders__26 : decode cX2_drawBorders_ 26 = .ok (.iconst 1, 1) := by decide +kernel
theorem dX2_drawBorders__27 : decode cX2_drawBorders_ 27 = .ok (.iadd, 1) := by decide +kernel
theorem dX2_drawBorders__28 : decode cX2_drawBorders_ 28 = .ok (.invokestatic 77, 3) := by decide +kernel
theorem dX2_drawBorders__31 : decode cX2_drawBorders_ 31 = .ok (.aload_n 0, 1) := by decide +kernel
theorem dX2_drawBorders__32 : decode cX2_drawBorders_ 32 = .ok (.getfield 52, 3) := by decide +kernel
theorem dX2_drawBorders__35 : decode cX2_drawBorders_ 35 = .ok (.aload_n 1, 1) := by decide +kernel
theorem dX2_drawBorders__36 : decode cX2_drawBorders_ 36 = .ok (.iload_n 2, 1) := by decide +kernel
theorem dX2_drawBorders__37 : decode cX2_drawBorders_ 37 = .ok (.iload_n 3, 1) := by decide +kernel
theorem dX2_drawBorders__38 : decode cX2_drawBorders_ 38 = .ok (.iconst 1, 1) := by decide +kernel
theorem dX2_drawBorders__39 : decode cX2_drawBorders_ 39 = .ok (.iadd, 1) := by decide +kernel
theorem dX2_drawBorders__40 : decode cX2_drawBorders_ 40 = .ok (.invokestatic 77, 3) := by decide +kernel
theorem dX2_drawBorders__43 : decode cX2_drawBorders_ 43 = .ok (.return_, 1) := by decide +kernel
theorem dX3_init_0 : decode cX3_init 0 = .ok (.aload_n 0, 1) := by decide +kernel
theorem dX3_init_1 : decode cX3_init 1 = .ok (.invokespecial 3, 3) := by decide +kernel
theorem dX3_init_4 : decode cX3_init 4 = .ok (.aload_n 0, 1) := by decide +kernel
theorem dX3_init_5 : decode cX3_init 5 = .ok (.iconst 1, 1) := by decide +kernel
theorem dX3_init_6 : decode cX3_init 6 = .ok (.putfield 9, 3) := by decide +kernel
theorem dX3_init_9 : decode cX3_init 9 = .ok (.aload_n 0, 1) := by decide +kernel
theorem dX3_init_10 : decode cX3_init 10 = .ok (.iload_n 1, 1) := by decide +kernel
theorem dX3_init_11 : decode cX3_init 11 = .ok (.putfield 15, 3) := by decide +kernel
theorem dX3_init_14 : decode cX3_init 14 = .ok (.aload_n 0, 1) := by decide +kernel
theorem dX3_init_15 : decode cX3_init 15 = .ok (.iload_n 1, 1) := by decide +kernel
theorem dX3_init_16 : decode cX3_init 16 = .ok (.iload_n 2, 1) := by decide +kernel
theorem dX3_init_17 : decode cX3_init 17 = .ok (.imul, 1) := by decide +kernel
theorem dX3_init_18 : decode cX3_init 18 = .ok (.newarray .int, 2) := by decide +kernel
theorem dX3_init_20 : decode cX3_init 20 = .ok (.putfield 19, 3) := by decide +kernel
theorem dX3_init_23 : decode cX3_init 23 = .ok (.aload_n 0, 1) := by decide +kernel
theorem dX3_init_24 : decode cX3_init 24 = .ok (.getfield 19, 3) := by decide +kernel
theorem dX3_init_27 : decode cX3_init 27 = .ok (.bipush 32, 2) := by decide +kernel
theorem dX3_init_29 : decode cX3_init 29 = .ok (.invokestatic 23, 3) := by decide +kernel
theorem dX3_init_32 : decode cX3_init 32 = .ok (.aload_n 0, 1) := by decide +kernel
theorem dX3_init_33 : decode cX3_init 33 = .ok (.iload_n 1, 1) := by decide +kernel
theorem dX3_init_34 : decode cX3_init 34 = .ok (.iload_n 2, 1) := by decide +kernel
theorem dX3_init_35 : decode cX3_init 35 = .ok (.imul, 1) := by decide +kernel
theorem dX3_init_36 : decode cX3_init 36 = .ok (.bipush 17, 2) := by decide +kernel
theorem dX3_init_38 : decode cX3_init 38 = .ok (.imul, 1) := by decide +kernel
theorem dX3_init_39 : decode cX3_init 39 = .ok (.iload_n 2, 1) := by decide +kernel
theorem dX3_init_40 : decode cX3_init 40 = .ok (.iconst 1, 1) := by decide +kernel
theorem dX3_init_41 : decode cX3_init 41 = .ok (.iadd, 1) := by decide +kernel
theorem dX3_init_42 : decode cX3_init 42 = .ok (.bipush 8, 2) := by decide +kernel
theorem dX3_init_44 : decode cX3_init 44 = .ok (.imul, 1) := by decide +kernel
theorem dX3_init_45 : decode cX3_init 45 = .ok (.iadd, 1) := by decide +kernel
theorem dX3_init_46 : decode cX3_init 46 = .ok (.bipush 6, 2) := by decide +kernel
theorem dX3_init_48 : decode cX3_init 48 = .ok (.iadd, 1) := by decide +kernel
theorem dX3_init_49 : decode cX3_init 49 = .ok (.newarray .int, 2) := by decide +kernel
theorem dX3_init_51 : decode cX3_init 51 = .ok (.putfield 29, 3) := by decide +kernel
theorem dX3_init_54 : decode cX3_init 54 = .ok (.return_, 1) := by decide +kernel
theorem dX3_begin_0 : decode cX3_begin 0 = .ok (.aload_n 0, 1) := by decide +kernel
theorem dX3_begin_1 : decode cX3_begin 1 = .ok (.iconst 0, 1) := by decide +kernel
theorem dX3_begin_2 : decode cX3_begin 2 = .ok (.putfield 32, 3) := by decide +kernel
theorem dX3_begin_5 : decode cX3_begin 5 = .ok (.return_, 1) := by decide +kernel
theorem dX3_show_0 : decode cX3_show 0 = .ok (.iload_n 2, 1) := by decide +kernel
theorem dX3_show_1 : decode cX3_show 1 = .ok (.aload_n 0, 1) := by decide +kernel
theorem dX3_show_2 : decode cX3_show 2 = .ok (.getfield 15, 3) := by decide +kernel
theorem dX3_show_5 : decode cX3_show 5 = .ok (.imul, 1) := by decide +kernel
theorem dX3_show_6 : decode cX3_show 6 = .ok (.iload_n 1, 1) := by decide +kernel
theorem dX3_show_7 : decode cX3_show 7 = .ok (.iadd, 1) := by decide +kernel
theorem dX3_show_8 : decode cX3_show 8 = .ok (.istore 4, 2) := by decide +kernel
theorem dX3_show_10 : decode cX3_show 10 = .ok (.iload 4, 2) := by decide +kernel
theorem dX3_show_12 : decode cX3_show 12 = .ok (.ifCond .lt 24, 3) := by decide +kernel
theorem dX3_show_15 : decode cX3_show 15 = .ok (.iload 4, 2) := by decide +kernel
theorem dX3_show_17 : decode cX3_show 17 = .ok (.aload_n 0, 1) := by decide +kernel
theorem dX3_show_18 : decode cX3_show 18 = .ok (.getfield 19, 3) := by decide +kernel
theorem dX3_show_21 : decode cX3_show 21 = .ok (.arraylength, 1) := by decide +kernel
theorem dX3_show_22 : decode cX3_show 22 = .ok (.if_icmp .ge 14, 3) := by decide +kernel
theorem dX3_show_25 : decode cX3_show 25 = .ok (.aload_n 0, 1) := by decide +kernel
theorem dX3_show_26 : decode cX3_show 26 = .ok (.getfield 19, 3) := by decide +kernel
theorem dX3_show_29 : decode cX3_show 29 = .ok (.iload 4, 2) := by decide +kernel
theorem dX3_show_31 : decode cX3_show 31 = .ok (.iaload, 1) := by decide +kernel
theorem dX3_show_32 : decode cX3_show 32 = .ok (.iload_n 3, 1) := by decide +kernel
theorem dX3_show_33 : decode cX3_show 33 = .ok (.if_icmp .ne 4, 3) := by decide +kernel
theorem dX3_show_36 : decode cX3_show 36 = .ok (.return_, 1) := by decide +kernel
theorem dX3_show_37 : decode cX3_show 37 = .ok (.aload_n 0, 1) := by decide +kernel
theorem dX3_show_38 : decode cX3_show 38 = .ok (.getfield 19, 3) := by decide +kernel
theorem dX3_show_41 : decode cX3_show 41 = .ok (.iload 4, 2) := by decide +kernel
theorem dX3_show_43 : decode cX3_show 43 = .ok (.iload_n 3, 1) := by decide +kernel
theorem dX3_show_44 : decode cX3_show 44 = .ok (.iastore, 1) := by decide +kernel
theorem dX3_show_45 : decode cX3_show 45 = .ok (.aload_n 0, 1) := by decide +kernel
theorem dX3_show_46 : decode cX3_show 46 = .ok (.iload_n 1, 1) := by decide +kernel
theorem dX3_show_47 : decode cX3_show 47 = .ok (.iload_n 2, 1) := by decide +kernel
theorem dX3_show_48 : decode cX3_show 48 = .ok (.invokevirtual 35, 3) := by decide +kernel
theorem dX3_show_51 : decode cX3_show 51 = .ok (.aload_n 0, 1) := by decide +kernel
theorem dX3_show_52 : decode cX3_show 52 = .ok (.iload_n 3, 1) := by decide +kernel
theorem dX3_show_53 : decode cX3_show 53 = .ok (.sipush 128, 3) := by decide +kernel
theorem dX3_show_56 : decode cX3_show 56 = .ok (.idiv, 1) := by decide +kernel
theorem dX3_show_57 : decode cX3_show 57 = .ok (.invokevirtual 39, 3) := by decide +kernel
theorem dX3_show_60 : decode cX3_show 60 = .ok (.aload_n 0, 1) := by decide +kernel
theorem dX3_show_61 : decode cX3_show 61 = .ok (.iload_n 3, 1) := by decide +kernel
theorem dX3_show_62 : decode cX3_show 62 = .ok (.sipush 128, 3) := by decide +kernel
theorem dX3_show_65 : decode cX3_show 65 = .ok (.irem, 1) := by decide +kernel
theorem dX3_show_66 : decode cX3_show 66 = .ok (.invokevirtual 43, 3) := by decide +kernel
theorem dX3_show_69 : decode cX3_show 69 = .ok (.aload_n 0, 1) := by decide +kernel
theorem dX3_show_70 : decode cX3_show 70 = .ok (.iload_n 1, 1) := by decide +kernel
theorem dX3_show_71 : decode cX3_show 71 = .ok (.aload_n 0, 1) := by decide +kernel
theorem dX3_show_72 : decode cX3_show 72 = .ok (.getfield 15, 3) := by decide +kernel
theorem dX3_show_75 : decode cX3_show 75 = .ok (.iconst 1, 1) := by decide +kernel
theorem dX3_show_76 : decode cX3_show 76 = .ok (.isub, 1) := by decide +kernel
theorem dX3_show_77 : decode cX3_show 77 = .ok (.if_icmp .ne 7, 3) := by decide +kernel
theorem dX3_show_80 : decode cX3_show 80 = .ok (.iconst (-1), 1) := by decide +kernel
theorem dX3_show_81 : decode cX3_show 81 = .ok (.goto 6, 3) := by decide +kernel
theorem dX3_show_84 : decode cX3_show 84 = .ok (.iload_n 1, 1) := by decide +kernel
theorem dX3_show_85 : decode cX3_show 85 = .ok (.iconst 1, 1) := by decide +kernel
theorem dX3_show_86 : decode cX3_show 86 = .ok (.iadd, 1) := by decide +kernel
theorem dX3_show_87 : decode cX3_show 87 = .ok (.putfield 46, 3) := by decide +kernel
theorem dX3_show_90 : decode cX3_show 90 = .ok (.return_, 1) := by decide +kernel
theorem dX3_end_0 : decode cX3_end 0 = .ok (.iload_n 3, 1) := by decide +kernel
theorem dX3_end_1 : decode cX3_end 1 = .ok (.ifCond .eq 9, 3) := by decide +kernel
theorem dX3_end_4 : decode cX3_end 4 = .ok (.aload_n 0, 1) := by decide +kernel
theorem dX3_end_5 : decode cX3_end 5 = .ok (.iload_n 1, 1) := by decide +kernel
theorem dX3_end_6 : decode cX3_end 6 = .ok (.iload_n 2, 1) := by decide +kernel
theorem dX3_end_7 : decode cX3_end 7 = .ok (.invokevirtual 35, 3) := by decide +kernel
theorem dX3_end_10 : decode cX3_end 10 = .ok (.iload_n 3, 1) := by decide +kernel
theorem dX3_end_11 : decode cX3_end 11 = .ok (.aload_n 0, 1) := by decide +kernel
theorem dX3_end_12 : decode cX3_end 12 = .ok (.getfield 9, 3) := by decide +kernel
theorem dX3_end_15 : decode cX3_end 15 = .ok (.if_icmp .eq 38, 3) := by decide +kernel
theorem dX3_end_18 : decode cX3_end 18 = .ok (.aload_n 0, 1) := by decide +kernel
theorem dX3_end_19 : decode cX3_end 19 = .ok (.iload_n 3, 1) := by decide +kernel
theorem dX3_end_20 : decode cX3_end 20 = .ok (.putfield 9, 3) := by decide +kernel
theorem dX3_end_23 : decode cX3_end 23 = .ok (.aload_n 0, 1) := by decide +kernel
theorem dX3_end_24 : decode cX3_end 24 = .ok (.bipush 63, 2) := by decide +kernel
theorem dX3_end_26 : decode cX3_end 26 = .ok (.invokevirtual 49, 3) := by decide +kernel
theorem dX3_end_29 : decode cX3_end 29 = .ok (.aload_n 0, 1) := by decide +kernel
theorem dX3_end_30 : decode cX3_end 30 = .ok (.bipush 25, 2) := by decide +kernel
theorem dX3_end_32 : decode cX3_end 32 = .ok (.invokevirtual 52, 3) := by decide +kernel
theorem dX3_end_35 : decode cX3_end 35 = .ok (.aload_n 0, 1) := by decide +kernel
theorem dX3_end_36 : decode cX3_end 36 = .ok (.aload_n 0, 1) := by decide +kernel
theorem dX3_end_37 : decode cX3_end 37 = .ok (.getfield 9, 3) := by decide +kernel
theorem dX3_end_40 : decode cX3_end 40 = .ok (.ifCond .eq 8, 3) := by decide +kernel
theorem dX3_end_43 : decode cX3_end 43 = .ok (.bipush 104, 2) := by decide +kernel
theorem dX3_end_45 : decode cX3_end 45 = .ok (.goto 5, 3) := by decide +kernel
theorem dX3_end_48 : decode cX3_end 48 = .ok (.bipush 108, 2) := by decide +kernel
theorem dX3_end_50 : decode cX3_end 50 = .ok (.invokevirtual 43, 3) := by decide +kernel
theorem dX3_end_53 : decode cX3_end 53 = .ok (.return_, 1) := by decide +kernel
theorem dX3_moveTo_0 : decode cX3_moveTo 0 = .ok (.aload_n 0, 1) := by decide +kernel
theorem dX3_moveTo_1 : decode cX3_moveTo 1 = .ok (.getfield 46, 3) := by decide +kernel
theorem dX3_moveTo_4 : decode cX3_moveTo 4 = .ok (.iload_n 1, 1) := by decide +kernel
theorem dX3_moveTo_5 : decode cX3_moveTo 5 = .ok (.if_icmp .ne 11, 3) := by decide +kernel
theorem dX3_moveTo_8 : decode cX3_moveTo 8 = .ok (.aload_n 0, 1) := by decide +kernel
theorem dX3_moveTo_9 : decode cX3_moveTo 9 = .ok (.getfield 55, 3) := by decide +kernel
theorem dX3_moveTo_12 : decode cX3_moveTo 12 = .ok (.iload_n 2, 1) := by decide +kernel
theorem dX3_moveTo_13 : decode cX3_moveTo 13 = .ok (.if_icmp .eq 57, 3) := by decide +kernel
theorem dX3_moveTo_16 : decode cX3_moveTo 16 = .ok (.aload_n 0, 1) := by decide +kernel
theorem dX3_moveTo_17 : decode cX3_moveTo 17 = .ok (.iload_n 1, 1) := by decide +kernel
theorem dX3_moveTo_18 : decode cX3_moveTo 18 = .ok (.putfield 46, 3) := by decide +kernel
theorem dX3_moveTo_21 : decode cX3_moveTo 21 = .ok (.aload_n 0, 1) := by decide +kernel
theorem dX3_moveTo_22 : decode cX3_moveTo 22 = .ok (.iload_n 2, 1) := by decide +kernel
theorem dX3_moveTo_23 : decode cX3_moveTo 23 = .ok (.putfield 55, 3) := by decide +kernel
theorem dX3_moveTo_26 : decode cX3_moveTo 26 = .ok (.aload_n 0, 1) := by decide +kernel
theorem dX3_moveTo_27 : decode cX3_moveTo 27 = .ok (.bipush 27, 2) := by decide +kernel
theorem dX3_moveTo_29 : decode cX3_moveTo 29 = .ok (.invokevirtual 43, 3) := by decide +kernel
theorem dX3_moveTo_32 : decode cX3_moveTo 32 = .ok (.aload_n 0, 1) := by decide +kernel
theorem dX3_moveTo_33 : decode cX3_moveTo 33 = .ok (.bipush 91, 2) := by decide +kernel
theorem dX3_moveTo_35 : decode cX3_moveTo 35 = .ok (.invokevirtual 43, 3) := by decide +kernel
theorem dX3_moveTo_38 : decode cX3_moveTo 38 = .ok (.aload_n 0, 1) := by decide +kernel
theorem dX3_moveTo_39 : decode cX3_moveTo 39 = .ok (.aload_n 0, 1) := by decide +kernel
theorem dX3_moveTo_40 : decode cX3_moveTo 40 = .ok (.getfield 55, 3) := by decide +kernel
theorem dX3_moveTo_43 : decode cX3_moveTo 43 = .ok (.iconst 1, 1) := by decide +kernel
theorem dX3_moveTo_44 : decode cX3_moveTo 44 = .ok (.iadd, 1) := by decide +kernel
theorem dX3_moveTo_45 : decode cX3_moveTo 45 = .ok (.invokevirtual 52, 3) := by decide +kernel
theorem dX3_moveTo_48 : decode cX3_moveTo 48 = .ok (.aload_n 0, 1) := by decide +kernel
theorem dX3_moveTo_49 : decode cX3_moveTo 49 = .ok (.bipush 59, 2) := by decide +kernel
theorem dX3_moveTo_51 : decode cX3_moveTo 51 = .ok (.invokevirtual 43, 3) := by decide +kernel
theorem dX3_moveTo_54 : decode cX3_moveTo 54 = .ok (.aload_n 0, 1) := by decide +kernel
theorem dX3_moveTo_55 : decode cX3_moveTo 55 = .ok (.aload_n 0, 1) := by decide +kernel
theorem dX3_moveTo_56 : decode cX3_moveTo 56 = .ok (.getfield 46, 3) := by decide +kernel
theorem dX3_moveTo_59 : decode cX3_moveTo 59 = .ok (.iconst 1, 1) := by decide +kernel
theorem dX3_moveTo_60 : decode cX3_moveTo 60 = .ok (.iadd, 1) := by decide +kernel
theorem dX3_moveTo_61 : decode cX3_moveTo 61 = .ok (.invokevirtual 52, 3) := by decide +kernel
theorem dX3_moveTo_64 : decode cX3_moveTo 64 = .ok (.aload_n 0, 1) := by decide +kernel
theorem dX3_moveTo_65 : decode cX3_moveTo 65 = .ok (.bipush 72, 2) := by decide +kernel
theorem dX3_moveTo_67 : decode cX3_moveTo 67 = .ok (.invokevirtual 43, 3) := by decide +kernel
theorem dX3_moveTo_70 : decode cX3_moveTo 70 = .ok (.return_, 1) := by decide +kernel
theorem dX3_takePen_0 : decode cX3_takePen 0 = .ok (.aload_n 0, 1) := by decide +kernel
theorem dX3_takePen_1 : decode cX3_takePen 1 = .ok (.getfield 58, 3) := by decide +kernel
theorem dX3_takePen_4 : decode cX3_takePen 4 = .ok (.iload_n 1, 1) := by decide +kernel
theorem dX3_takePen_5 : decode cX3_takePen 5 = .ok (.if_icmp .eq 133, 3) := by decide +kernel
theorem dX3_takePen_8 : decode cX3_takePen 8 = .ok (.aload_n 0, 1) := by decide +kernel
theorem dX3_takePen_9 : decode cX3_takePen 9 = .ok (.iload_n 1, 1) := by decide +kernel
theorem dX3_takePen_10 : decode cX3_takePen 10 = .ok (.putfield 58, 3) := by decide +kernel
theorem dX3_takePen_13 : decode cX3_takePen 13 = .ok (.aload_n 0, 1) := by decide +kernel
theorem dX3_takePen_14 : decode cX3_takePen 14 = .ok (.bipush 48, 2) := by decide +kernel
theorem dX3_takePen_16 : decode cX3_takePen 16 = .ok (.invokevirtual 49, 3) := by decide +kernel
theorem dX3_takePen_19 : decode cX3_takePen 19 = .ok (.aload_n 0, 1) := by decide +kernel
theorem dX3_takePen_20 : decode cX3_takePen 20 = .ok (.aload_n 0, 1) := by decide +kernel
theorem dX3_takePen_21 : decode cX3_takePen 21 = .ok (.getfield 58, 3) := by decide +kernel
theorem dX3_takePen_24 : decode cX3_takePen 24 = .ok (.iconst 1, 1) := by decide +kernel
theorem dX3_takePen_25 : decode cX3_takePen 25 = .ok (.iand, 1) := by decide +kernel
theorem dX3_takePen_26 : decode cX3_takePen 26 = .ok (.ifCond .eq 7, 3) := by decide +kernel
theorem dX3_takePen_29 : decode cX3_takePen 29 = .ok (.iconst 1, 1) := by decide +kernel
theorem dX3_takePen_30 : decode cX3_takePen 30 = .ok (.goto 4, 3) := by decide +kernel
theorem dX3_takePen_33 : decode cX3_takePen 33 = .ok (.iconst 0, 1) := by decide +kernel
theorem dX3_takePen_34 : decode cX3_takePen 34 = .ok (.iconst 1, 1) := by decide +kernel
theorem dX3_takePen_35 : decode cX3_takePen 35 = .ok (.invokevirtual 61, 3) := by decide +kernel
theorem dX3_takePen_38 : decode cX3_takePen 38 = .ok (.aload_n 0, 1) := by decide +kernel
theorem dX3_takePen_39 : decode cX3_takePen 39 = .ok (.aload_n 0, 1) := by decide +kernel
theorem dX3_takePen_40 : decode cX3_takePen 40 = .ok (.getfield 58, 3) := by decide +kernel
theorem dX3_takePen_43 : decode cX3_takePen 43 = .ok (.iconst 2, 1) := by decide +kernel
theorem dX3_takePen_44 : decode cX3_takePen 44 = .ok (.iand, 1) := by decide +kernel
theorem dX3_takePen_45 : decode cX3_takePen 45 = .ok (.ifCond .eq 7, 3) := by decide +kernel
theorem dX3_takePen_48 : decode cX3_takePen 48 = .ok (.iconst 1, 1) := by decide +kernel
theorem dX3_takePen_49 : decode cX3_takePen 49 = .ok (.goto 4, 3) := by decide +kernel
theorem dX3_takePen_52 : decode cX3_takePen 52 = .ok (.iconst 0, 1) := by decide +kernel
theorem dX3_takePen_53 : decode cX3_takePen 53 = .ok (.iconst 4, 1) := by decide +kernel
theorem dX3_takePen_54 : decode cX3_takePen 54 = .ok (.invokevirtual 61, 3) := by decide +kernel
theorem dX3_takePen_57 : decode cX3_takePen 57 = .ok (.aload_n 0, 1) := by decide +kernel
theorem dX3_takePen_58 : decode cX3_takePen 58 = .ok (.aload_n 0, 1) := by decide +kernel
theorem dX3_takePen_59 : decode cX3_takePen 59 = .ok (.getfield 58, 3) := by decide +kernel
theorem dX3_takePen_62 : decode cX3_takePen 62 = .ok (.iconst 4, 1) := by decide +kernel
theorem dX3_takePen_63 : decode cX3_takePen 63 = .ok (.iand, 1) := by decide +kernel
theorem dX3_takePen_64 : decode cX3_takePen 64 = .ok (.ifCond .eq 7, 3) := by decide +kernel
theorem dX3_takePen_67 : decode cX3_takePen 67 = .ok (.iconst 1, 1) := by decide +kernel
theorem dX3_takePen_68 : decode cX3_takePen 68 = .ok (.goto 4, 3) := by decide +kernel
theorem dX3_takePen_71 : decode cX3_takePen 71 = .ok (.iconst 0, 1) := by decide +kernel
theorem dX3_takePen_72 : decode cX3_takePen 72 = .ok (.bipush 7, 2) := by decide +kernel
theorem dX3_takePen_74 : decode cX3_takePen 74 = .ok (.invokevirtual 61, 3) := by decide +kernel
theorem dX3_takePen_77 : decode cX3_takePen 77 = .ok (.aload_n 0, 1) := by decide +kernel
theorem dX3_takePen_78 : decode cX3_takePen 78 = .ok (.getfield 58, 3) := by decide +kernel
theorem dX3_takePen_81 : decode cX3_takePen 81 = .ok (.iconst 4, 1) := by decide +kernel
theorem dX3_takePen_82 : decode cX3_takePen 82 = .ok (.ishr, 1) := by decide +kernel
theorem dX3_takePen_83 : decode cX3_takePen 83 = .ok (.bipush 15, 2) := by decide +kernel
theorem dX3_takePen_85 : decode cX3_takePen 85 = .ok (.iand, 1) := by decide +kernel
theorem dX3_takePen_86 : decode cX3_takePen 86 = .ok (.istore_n 2, 1) := by decide +kernel
theorem dX3_takePen_87 : decode cX3_takePen 87 = .ok (.aload_n 0, 1) := by decide +kernel
theorem dX3_takePen_88 : decode cX3_takePen 88 = .ok (.iload_n 2, 1) := by decide +kernel
theorem dX3_takePen_89 : decode cX3_takePen 89 = .ok (.ifCond .eq 7, 3) := by decide +kernel
theorem dX3_takePen_92 : decode cX3_takePen 92 = .ok (.iconst 1, 1) := by decide +kernel
theorem dX3_takePen_93 : decode cX3_takePen 93 = .ok (.goto 4, 3) := by decide +kernel
theorem dX3_takePen_96 : decode cX3_takePen 96 = .ok (.iconst 0, 1) := by decide +kernel
theorem dX3_takePen_97 : decode cX3_takePen 97 = .ok (.bipush 29, 2) := by decide +kernel
theorem dX3_takePen_99 : decode cX3_takePen 99 = .ok (.iload_n 2, 1) := by decide +kernel
theorem dX3_takePen_100 : decode cX3_takePen 100 = .ok (.iadd, 1) := by decide +kernel
theorem dX3_takePen_101 : decode cX3_takePen 101 = .ok (.invokevirtual 61, 3) := by decide +kernel
theorem dX3_takePen_104 : decode cX3_takePen 104 = .ok (.aload_n 0, 1) := by decide +kernel
theorem dX3_takePen_105 : decode cX3_takePen 105 = .ok (.getfield 58, 3) := by decide +kernel
theorem dX3_takePen_108 : decode cX3_takePen 108 = .ok (.bipush 8, 2) := by decide +kernel
theorem dX3_takePen_110 : decode cX3_takePen 110 = .ok (.ishr, 1) := by decide +kernel
theorem dX3_takePen_111 : decode cX3_takePen 111 = .ok (.bipush 15, 2) := by decide +kernel
theorem dX3_takePen_113 : decode cX3_takePen 113 = .ok (.iand, 1) := by decide +kernel
theorem dX3_takePen_114 : decode cX3_takePen 114 = .ok (.istore_n 3, 1) := by decide +kernel
theorem dX3_takePen_115 : decode cX3_takePen 115 = .ok (.aload_n 0, 1) := by decide +kernel
theorem dX3_takePen_116 : decode cX3_takePen 116 = .ok (.iload_n 3, 1) := by decide +kernel
theorem dX3_takePen_117 : decode cX3_takePen 117 = .ok (.ifCond .eq 7, 3) := by decide +kernel
theorem dX3_takePen_120 : decode cX3_takePen 120 = .ok (.iconst 1, 1) := by decide +kernel
theorem dX3_takePen_121 : decode cX3_takePen 121 = .ok (.goto 4, 3) := by decide +kernel
theorem dX3_takePen_124 : decode cX3_takePen 124 = .ok (.iconst 0, 1) := by decide +kernel
theorem dX3_takePen_125 : decode cX3_takePen 125 = .ok (.bipush 39, 2) := by decide +kernel
theorem dX3_takePen_127 : decode cX3_takePen 127 = .ok (.iload_n 3, 1) := by decide +kernel
theorem dX3_takePen_128 : decode cX3_takePen 128 = .ok (.iadd, 1) := by decide +kernel
theorem dX3_takePen_129 : decode cX3_takePen 129 = .ok (.invokevirtual 61, 3) := by decide +kernel
theorem dX3_takePen_132 : decode cX3_takePen 132 = .ok (.aload_n 0, 1) := by decide +kernel
theorem dX3_takePen_133 : decode cX3_takePen 133 = .ok (.bipush 109, 2) := by decide +kernel
theorem dX3_takePen_135 : decode cX3_takePen 135 = .ok (.invokevirtual 43, 3) := by decide +kernel
theorem dX3_takePen_138 : decode cX3_takePen 138 = .ok (.return_, 1) := by decide +kernel
theorem dX3_beginSequence_0 : decode cX3_beginSequence 0 = .ok (.aload_n 0, 1) := by decide +kernel
theorem dX3_beginSequence_1 : decode cX3_beginSequence 1 = .ok (.bipush 27, 2) := by decide +kernel
theorem dX3_beginSequence_3 : decode cX3_beginSequence 3 = .ok (.invokevirtual 43, 3) := by decide +kernel
theorem dX3_beginSequence_6 : decode cX3_beginSequence 6 = .ok (.aload_n 0, 1) := by decide +kernel
theorem dX3_beginSequence_7 : decode cX3_beginSequence 7 = .ok (.bipush 91, 2) := by decide +kernel
theorem dX3_beginSequence_9 : decode cX3_beginSequence 9 = .ok (.invokevirtual 43, 3) := by decide +kernel
theorem dX3_beginSequence_12 : decode cX3_beginSequence 12 = .ok (.aload_n 0, 1) := by decide +kernel
theorem dX3_beginSequence_13 : decode cX3_beginSequence 13 = .ok (.iload_n 1, 1) := by decide +kernel
theorem dX3_beginSequence_14 : decode cX3_beginSequence 14 = .ok (.invokevirtual 43, 3) := by decide +kernel
theorem dX3_beginSequence_17 : decode cX3_beginSequence 17 = .ok (.return_, 1) := by decide +kernel
theorem dX3_putPart_0 : decode cX3_putPart 0 = .ok (.iload_n 1, 1) := by decide +kernel
theorem dX3_putPart_1 : decode cX3_putPart 1 = .ok (.ifCond .eq 14, 3) := by decide +kernel
theorem dX3_putPart_4 : decode cX3_putPart 4 = .ok (.aload_n 0, 1) := by decide +kernel
theorem dX3_putPart_5 : decode cX3_putPart 5 = .ok (.bipush 59, 2) := by decide +kernel
theorem dX3_putPart_7 : decode cX3_putPart 7 = .ok (.invokevirtual 43, 3) := by decide +kernel
theorem dX3_putPart_10 : decode cX3_putPart 10 = .ok (.aload_n 0, 1) := by decide +kernel
theorem dX3_putPart_11 : decode cX3_putPart 11 = .ok (.iload_n 2, 1) := by decide +kernel
theorem dX3_putPart_12 : decode cX3_putPart 12 = .ok (.invokevirtual 52, 3) := by decide +kernel
theorem dX3_putPart_15 : decode cX3_putPart 15 = .ok (.return_, 1) := by decide +kernel
theorem dX3_putNumber_0 : decode cX3_putNumber 0 = .ok (.iload_n 1, 1) := by decide +kernel
theorem dX3_putNumber_1 : decode cX3_putNumber 1 = .ok (.bipush 10, 2) := by decide +kernel
theorem dX3_putNumber_3 : decode cX3_putNumber 3 = .ok (.if_icmp .lt 14, 3) := by decide +kernel
theorem dX3_putNumber_6 : decode cX3_putNumber 6 = .ok (.aload_n 0, 1) := by decide +kernel
theorem dX3_putNumber_7 : decode cX3_putNumber 7 = .ok (.bipush 48, 2) := by decide +kernel
theorem dX3_putNumber_9 : decode cX3_putNumber 9 = .ok (.iload_n 1, 1) := by decide +kernel
theorem dX3_putNumber_10 : decode cX3_putNumber 10 = .ok (.bipush 10, 2) := by decide +kernel
theorem dX3_putNumber_12 : decode cX3_putNumber 12 = .ok (.idiv, 1) := by decide +kernel
theorem dX3_putNumber_13 : decode cX3_putNumber 13 = .ok (.iadd, 1) := by decide +kernel
theorem dX3_putNumber_14 : decode cX3_putNumber 14 = .ok (.invokevirtual 43, 3) := by decide +kernel
theorem dX3_putNumber_17 : decode cX3_putNumber 17 = .ok (.aload_n 0, 1) := by decide +kernel
theorem dX3_putNumber_18 : decode cX3_putNumber 18 = .ok (.bipush 48, 2) := by decide +kernel
theorem dX3_putNumber_20 : decode cX3_putNumber 20 = .ok (.iload_n 1, 1) := by decide +kernel
theorem dX3_putNumber_21 : decode cX3_putNumber 21 = .ok (.bipush 10, 2) := by decide +kernel
theorem dX3_putNumber_23 : decode cX3_putNumber 23 = .ok (.irem, 1) := by decide +kernel
theorem dX3_putNumber_24 : decode cX3_putNumber 24 = .ok (.iadd, 1) := by decide +kernel
theorem dX3_putNumber_25 : decode cX3_putNumber 25 = .ok (.invokevirtual 43, 3) := by decide +kernel
theorem dX3_putNumber_28 : decode cX3_putNumber 28 = .ok (.return_, 1) := by decide +kernel
theorem dX3_put_0 : decode cX3_put 0 = .ok (.aload_n 0, 1) := by decide +kernel
theorem dX3_put_1 : decode cX3_put 1 = .ok (.getfield 32, 3) := by decide +kernel
theorem dX3_put_4 : decode cX3_put 4 = .ok (.aload_n 0, 1) := by decide +kernel
theorem dX3_put_5 : decode cX3_put 5 = .ok (.getfield 29, 3) := by decide +kernel
theorem dX3_put_8 : decode cX3_put 8 = .ok (.arraylength, 1) := by decide +kernel
theorem dX3_put_9 : decode cX3_put 9 = .ok (.if_icmp .ge 23, 3) := by decide +kernel
theorem dX3_put_12 : decode cX3_put 12 = .ok (.aload_n 0, 1) := by decide +kernel
theorem dX3_put_13 : decode cX3_put 13 = .ok (.getfield 29, 3) := by decide +kernel
theorem dX3_put_16 : decode cX3_put 16 = .ok (.aload_n 0, 1) := by decide +kernel
theorem dX3_put_17 : decode cX3_put 17 = .ok (.getfield 32, 3) := by decide +kernel
theorem dX3_put_20 : decode cX3_put 20 = .ok (.iload_n 1, 1) := by decide +kernel
theorem dX3_put_21 : decode cX3_put 21 = .ok (.iastore, 1) := by decide +kernel
theorem dX3_put_22 : decode cX3_put 22 = .ok (.aload_n 0, 1) := by decide +kernel
theorem dX3_put_23 : decode cX3_put 23 = .ok (.dup, 1) := by decide +kernel
theorem dX3_put_24 : decode cX3_put 24 = .ok (.getfield 32, 3) := by decide +kernel
theorem dX3_put_27 : decode cX3_put 27 = .ok (.iconst 1, 1) := by decide +kernel
theorem dX3_put_28 : decode cX3_put 28 = .ok (.iadd, 1) := by decide +kernel
theorem dX3_put_29 : decode cX3_put 29 = .ok (.putfield 32, 3) := by decide +kernel
theorem dX3_put_32 : decode cX3_put 32 = .ok (.return_, 1) := by decide +kernel
theorem dX4_init_0 : decode cX4_init 0 = .ok (.aload_n 0, 1) := by decide +kernel
theorem dX4_init_1 : decode cX4_init 1 = .ok (.invokespecial 1, 3) := by decide +kernel
theorem dX4_init_4 : decode cX4_init 4 = .ok (.aload_n 0, 1) := by decide +kernel
theorem dX4_init_5 : decode cX4_init 5 = .ok (.new 7, 3) := by decide +kernel
theorem dX4_init_8 : decode cX4_init 8 = .ok (.dup, 1) := by decide +kernel
theorem dX4_init_9 : decode cX4_init 9 = .ok (.invokespecial 9, 3) := by decide +kernel
theorem dX4_init_12 : decode cX4_init 12 = .ok (.putfield 10, 3) := by decide +kernel
theorem dX4_init_15 : decode cX4_init 15 = .ok (.aload_n 0, 1) := by decide +kernel
theorem dX4_init_16 : decode cX4_init 16 = .ok (.new 16, 3) := by decide +kernel
theorem dX4_init_19 : decode cX4_init 19 = .ok (.dup, 1) := by decide +kernel
theorem dX4_init_20 : decode cX4_init 20 = .ok (.iload_n 1, 1) := by decide +kernel
theorem dX4_init_21 : decode cX4_init 21 = .ok (.iload_n 2, 1) := by decide +kernel
theorem dX4_init_22 : decode cX4_init 22 = .ok (.invokespecial 18, 3) := by decide +kernel
theorem dX4_init_25 : decode cX4_init 25 = .ok (.putfield 21, 3) := by decide +kernel
theorem dX4_init_28 : decode cX4_init 28 = .ok (.aload_n 0, 1) := by decide +kernel
theorem dX4_init_29 : decode cX4_init 29 = .ok (.new 25, 3) := by decide +kernel
theorem dX4_init_32 : decode cX4_init 32 = .ok (.dup, 1) := by decide +kernel
theorem dX4_init_33 : decode cX4_init 33 = .ok (.aload_n 0, 1) := by decide +kernel
theorem dX4_init_34 : decode cX4_init 34 = .ok (.getfield 21, 3) := by decide +kernel
theorem dX4_init_37 : decode cX4_init 37 = .ok (.invokespecial 27, 3) := by decide +kernel
theorem dX4_init_40 : decode cX4_init 40 = .ok (.putfield 30, 3) := by decide +kernel
theorem dX4_init_43 : decode cX4_init 43 = .ok (.return_, 1) := by decide +kernel
theorem dX4_begin_0 : decode cX4_begin 0 = .ok (.aload_n 0, 1) := by decide +kernel
theorem dX4_begin_1 : decode cX4_begin 1 = .ok (.getfield 21, 3) := by decide +kernel
theorem dX4_begin_4 : decode cX4_begin 4 = .ok (.invokevirtual 34, 3) := by decide +kernel
theorem dX4_begin_7 : decode cX4_begin 7 = .ok (.aload_n 0, 1) := by decide +kernel
theorem dX4_begin_8 : decode cX4_begin 8 = .ok (.getfield 30, 3) := by decide +kernel
theorem dX4_begin_11 : decode cX4_begin 11 = .ok (.invokevirtual 37, 3) := by decide +kernel
theorem dX4_begin_14 : decode cX4_begin 14 = .ok (.aload_n 0, 1) := by decide +kernel
theorem dX4_begin_15 : decode cX4_begin 15 = .ok (.getfield 10, 3) := by decide +kernel
theorem dX4_begin_18 : decode cX4_begin 18 = .ok (.iconst 0, 1) := by decide +kernel
theorem dX4_begin_19 : decode cX4_begin 19 = .ok (.putfield 38, 3) := by decide +kernel
theorem dX4_begin_22 : decode cX4_begin 22 = .ok (.aload_n 0, 1) := by decide +kernel
theorem dX4_begin_23 : decode cX4_begin 23 = .ok (.iconst 0, 1) := by decide +kernel
theorem dX4_begin_24 : decode cX4_begin 24 = .ok (.invokevirtual 42, 3) := by decide +kernel
theorem dX4_begin_27 : decode cX4_begin 27 = .ok (.return_, 1) := by decide +kernel
theorem dX4_press_0 : decode cX4_press 0 = .ok (.aload_n 0, 1) := by decide +kernel
theorem dX4_press_1 : decode cX4_press 1 = .ok (.getfield 46, 3) := by decide +kernel
theorem dX4_press_4 : decode cX4_press 4 = .ok (.ifCond .ne 14, 3) := by decide +kernel
theorem dX4_press_7 : decode cX4_press 7 = .ok (.aload_n 0, 1) := by decide +kernel
theorem dX4_press_8 : decode cX4_press 8 = .ok (.getfield 10, 3) := by decide +kernel
theorem dX4_press_11 : decode cX4_press 11 = .ok (.iload_n 1, 1) := by decide +kernel
theorem dX4_press_12 : decode cX4_press 12 = .ok (.invokevirtual 50, 3) := by decide +kernel
theorem dX4_press_15 : decode cX4_press 15 = .ok (.goto 42, 3) := by decide +kernel
theorem dX4_press_18 : decode cX4_press 18 = .ok (.iload_n 1, 1) := by decide +kernel
theorem dX4_press_19 : decode cX4_press 19 = .ok (.bipush 107, 2) := by decide +kernel
theorem dX4_press_21 : decode cX4_press 21 = .ok (.if_icmp .ne 11, 3) := by decide +kernel
theorem dX4_press_24 : decode cX4_press 24 = .ok (.aload_n 0, 1) := by decide +kernel
theorem dX4_press_25 : decode cX4_press 25 = .ok (.iconst 1, 1) := by decide +kernel
theorem dX4_press_26 : decode cX4_press 26 = .ok (.invokevirtual 54, 3) := by decide +kernel
theorem dX4_press_29 : decode cX4_press 29 = .ok (.goto 28, 3) := by decide +kernel
theorem dX4_press_32 : decode cX4_press 32 = .ok (.iload_n 1, 1) := by decide +kernel
theorem dX4_press_33 : decode cX4_press 33 = .ok (.bipush 106, 2) := by decide +kernel
theorem dX4_press_35 : decode cX4_press 35 = .ok (.if_icmp .ne 11, 3) := by decide +kernel
theorem dX4_press_38 : decode cX4_press 38 = .ok (.aload_n 0, 1) := by decide +kernel
theorem dX4_press_39 : decode cX4_press 39 = .ok (.iconst (-1), 1) := by decide +kernel
theorem dX4_press_40 : decode cX4_press 40 = .ok (.invokevirtual 54, 3) := by decide +kernel
theorem dX4_press_43 : decode cX4_press 43 = .ok (.goto 14, 3) := by decide +kernel
theorem dX4_press_46 : decode cX4_press 46 = .ok (.iload_n 1, 1) := by decide +kernel
theorem dX4_press_47 : decode cX4_press 47 = .ok (.bipush 113, 2) := by decide +kernel
theorem dX4_press_49 : decode cX4_press 49 = .ok (.if_icmp .ne 8, 3) := by decide +kernel
theorem dX4_press_52 : decode cX4_press 52 = .ok (.aload_n 0, 1) := by decide +kernel
theorem dX4_press_53 : decode cX4_press 53 = .ok (.iconst 0, 1) := by decide +kernel
theorem dX4_press_54 : decode cX4_press 54 = .ok (.invokevirtual 42, 3) := by decide +kernel
theorem dX4_press_57 : decode cX4_press 57 = .ok (.return_, 1) := by decide +kernel
theorem dX4_setCopyMode_0 : decode cX4_setCopyMode 0 = .ok (.iload_n 1, 1) := by decide +kernel
theorem dX4_setCopyMode_1 : decode cX4_setCopyMode 1 = .ok (.aload_n 0, 1) := by decide +kernel
theorem dX4_setCopyMode_2 : decode cX4_setCopyMode 2 = .ok (.getfield 46, 3) := by decide +kernel
theorem dX4_setCopyMode_5 : decode cX4_setCopyMode 5 = .ok (.if_icmp .eq 13, 3) := by decide +kernel
theorem dX4_setCopyMode_8 : decode cX4_setCopyMode 8 = .ok (.aload_n 0, 1) := by decide +kernel
theorem dX4_setCopyMode_9 : decode cX4_setCopyMode 9 = .ok (.iload_n 1, 1) := by decide +kernel
theorem dX4_setCopyMode_10 : decode cX4_setCopyMode 10 = .ok (.putfield 46, 3) := by decide +kernel
theorem dX4_setCopyMode_13 : decode cX4_setCopyMode 13 = .ok (.aload_n 0, 1) := by decide +kernel
theorem dX4_setCopyMode_14 : decode cX4_setCopyMode 14 = .ok (.iconst 0, 1) := by decide +kernel
theorem dX4_setCopyMode_15 : decode cX4_setCopyMode 15 = .ok (.putfield 57, 3) := by decide +kernel
theorem dX4_setCopyMode_18 : decode cX4_setCopyMode 18 = .ok (.return_, 1) := by decide +kernel
theorem dX4_offsetNow_0 : decode cX4_offsetNow 0 = .ok (.aload_n 0, 1) := by decide +kernel
theorem dX4_offsetNow_1 : decode cX4_offsetNow 1 = .ok (.getfield 57, 3) := by decide +kernel
theorem dX4_offsetNow_4 : decode cX4_offsetNow 4 = .ok (.aload_n 0, 1) := by decide +kernel
theorem dX4_offsetNow_5 : decode cX4_offsetNow 5 = .ok (.getfield 21, 3) := by decide +kernel
theorem dX4_offsetNow_8 : decode cX4_offsetNow 8 = .ok (.getfield 60, 3) := by decide +kernel
theorem dX4_offsetNow_11 : decode cX4_offsetNow 11 = .ok (.getfield 64, 3) := by decide +kernel
theorem dX4_offsetNow_14 : decode cX4_offsetNow 14 = .ok (.invokestatic 69, 3) := by decide +kernel
theorem dX4_offsetNow_17 : decode cX4_offsetNow 17 = .ok (.ireturn, 1) := by decide +kernel
theorem dX4_look_0 : decode cX4_look 0 = .ok (.aload_n 0, 1) := by decide +kernel
theorem dX4_look_1 : decode cX4_look 1 = .ok (.getfield 46, 3) := by decide +kernel
theorem dX4_look_4 : decode cX4_look 4 = .ok (.ifCond .eq 34, 3) := by decide +kernel
theorem dX4_look_7 : decode cX4_look 7 = .ok (.aload_n 0, 1) := by decide +kernel
theorem dX4_look_8 : decode cX4_look 8 = .ok (.invokevirtual 75, 3) := by decide +kernel
theorem dX4_look_11 : decode cX4_look 11 = .ok (.istore_n 2, 1) := by decide +kernel
theorem dX4_look_12 : decode cX4_look 12 = .ok (.aload_n 0, 1) := by decide +kernel
theorem dX4_look_13 : decode cX4_look 13 = .ok (.getfield 21, 3) := by decide +kernel
theorem dX4_look_16 : decode cX4_look 16 = .ok (.getfield 60, 3) := by decide +kernel
theorem dX4_look_19 : decode cX4_look 19 = .ok (.getfield 64, 3) := by decide +kernel
theorem dX4_look_22 : decode cX4_look 22 = .ok (.istore_n 3, 1) := by decide +kernel
theorem dX4_look_23 : decode cX4_look 23 = .ok (.aload_n 0, 1) := by decide +kernel
theorem dX4_look_24 : decode cX4_look 24 = .ok (.iload_n 2, 1) := by decide +kernel
theorem dX4_look_25 : decode cX4_look 25 = .ok (.iload_n 1, 1) := by decide +kernel
theorem dX4_look_26 : decode cX4_look 26 = .ok (.iload_n 2, 1) := by decide +kernel
theorem dX4_look_27 : decode cX4_look 27 = .ok (.ineg, 1) := by decide +kernel
theorem dX4_look_28 : decode cX4_look 28 = .ok (.iload_n 3, 1) := by decide +kernel
theorem dX4_look_29 : decode cX4_look 29 = .ok (.iload_n 2, 1) := by decide +kernel
theorem dX4_look_30 : decode cX4_look 30 = .ok (.isub, 1) := by decide +kernel
theorem dX4_look_31 : decode cX4_look 31 = .ok (.invokestatic 79, 3) := by decide +kernel
theorem dX4_look_34 : decode cX4_look 34 = .ok (.iadd, 1) := by decide +kernel
theorem dX4_look_35 : decode cX4_look 35 = .ok (.putfield 57, 3) := by decide +kernel
theorem dX4_look_38 : decode cX4_look 38 = .ok (.return_, 1) := by decide +kernel
theorem dX4_seesCursor_0 : decode cX4_seesCursor 0 = .ok (.aload_n 0, 1) := by decide +kernel
theorem dX4_seesCursor_1 : decode cX4_seesCursor 1 = .ok (.getfield 21, 3) := by decide +kernel
theorem dX4_seesCursor_4 : decode cX4_seesCursor 4 = .ok (.getfield 85, 3) := by decide +kernel
theorem dX4_seesCursor_7 : decode cX4_seesCursor 7 = .ok (.ifCond .eq 14, 3) := by decide +kernel
theorem dX4_seesCursor_10 : decode cX4_seesCursor 10 = .ok (.aload_n 0, 1) := by decide +kernel
theorem dX4_seesCursor_11 : decode cX4_seesCursor 11 = .ok (.getfield 46, 3) := by decide +kernel
theorem dX4_seesCursor_14 : decode cX4_seesCursor 14 = .ok (.ifCond .ne 7, 3) := by decide +kernel
theorem dX4_seesCursor_17 : decode cX4_seesCursor 17 = .ok (.iconst 1, 1) := by decide +kernel
theorem dX4_seesCursor_18 : decode cX4_seesCursor 18 = .ok (.goto 4, 3) := by decide +kernel
theorem dX4_seesCursor_21 : decode cX4_seesCursor 21 = .ok (.iconst 0, 1) := by decide +kernel
theorem dX4_seesCursor_22 : decode cX4_seesCursor 22 = .ok (.ireturn, 1) := by decide +kernel
theorem dX4_viewRow_0 : decode cX4_viewRow 0 = .ok (.aload_n 0, 1) := by decide +kernel
theorem dX4_viewRow_1 : decode cX4_viewRow 1 = .ok (.invokevirtual 75, 3) := by decide +kernel
theorem dX4_viewRow_4 : decode cX4_viewRow 4 = .ok (.istore 4, 2) := by decide +kernel
theorem dX4_viewRow_6 : decode cX4_viewRow 6 = .ok (.iload_n 1, 1) := by decide +kernel
theorem dX4_viewRow_7 : decode cX4_viewRow 7 = .ok (.iload 4, 2) := by decide +kernel
theorem dX4_viewRow_9 : decode cX4_viewRow 9 = .ok (.if_icmp .ge 40, 3) := by decide +kernel
theorem dX4_viewRow_12 : decode cX4_viewRow 12 = .ok (.aload_n 0, 1) := by decide +kernel
theorem dX4_viewRow_13 : decode cX4_viewRow 13 = .ok (.getfield 21, 3) := by decide +kernel
theorem dX4_viewRow_16 : decode cX4_viewRow 16 = .ok (.getfield 60, 3) := by decide +kernel
theorem dX4_viewRow_19 : decode cX4_viewRow 19 = .ok (.aload_n 0, 1) := by decide +kernel
theorem dX4_viewRow_20 : decode cX4_viewRow 20 = .ok (.getfield 21, 3) := by decide +kernel
theorem dX4_viewRow_23 : decode cX4_viewRow 23 = .ok (.getfield 60, 3) := by decide +kernel
theorem dX4_viewRow_26 : decode cX4_viewRow 26 = .ok (.getfield 64, 3) := by decide +kernel
theorem dX4_viewRow_29 : decode cX4_viewRow 29 = .ok (.iload 4, 2) := by decide +kernel
theorem dX4_viewRow_31 : decode cX4_viewRow 31 = .ok (.isub, 1) := by decide +kernel
theorem dX4_viewRow_32 : decode cX4_viewRow 32 = .ok (.iload_n 1, 1) := by decide +kernel
theorem dX4_viewRow_33 : decode cX4_viewRow 33 = .ok (.iadd, 1) := by decide +kernel
theorem dX4_viewRow_34 : decode cX4_viewRow 34 = .ok (.aload_n 0, 1) := by decide +kernel
theorem dX4_viewRow_35 : decode cX4_viewRow 35 = .ok (.getfield 21, 3) := by decide +kernel
theorem dX4_viewRow_38 : decode cX4_viewRow 38 = .ok (.getfield 88, 3) := by decide +kernel
theorem dX4_viewRow_41 : decode cX4_viewRow 41 = .ok (.aload_n 2, 1) := by decide +kernel
theorem dX4_viewRow_42 : decode cX4_viewRow 42 = .ok (.iload_n 3, 1) := by decide +kernel
theorem dX4_viewRow_43 : decode cX4_viewRow 43 = .ok (.invokevirtual 91, 3) := by decide +kernel
theorem dX4_viewRow_46 : decode cX4_viewRow 46 = .ok (.goto 26, 3) := by decide +kernel
theorem dX4_viewRow_49 : decode cX4_viewRow 49 = .ok (.aload_n 0, 1) := by decide +kernel
theorem dX4_viewRow_50 : decode cX4_viewRow 50 = .ok (.getfield 21, 3) := by decide +kernel
theorem dX4_viewRow_53 : decode cX4_viewRow 53 = .ok (.invokevirtual 95, 3) := by decide +kernel
theorem dX4_viewRow_56 : decode cX4_viewRow 56 = .ok (.iload_n 1, 1) := by decide +kernel
theorem dX4_viewRow_57 : decode cX4_viewRow 57 = .ok (.iload 4, 2) := by decide +kernel
theorem dX4_viewRow_59 : decode cX4_viewRow 59 = .ok (.isub, 1) := by decide +kernel
theorem dX4_viewRow_60 : decode cX4_viewRow 60 = .ok (.aload_n 0, 1) := by decide +kernel
theorem dX4_viewRow_61 : decode cX4_viewRow 61 = .ok (.getfield 21, 3) := by decide +kernel
theorem dX4_viewRow_64 : decode cX4_viewRow 64 = .ok (.getfield 88, 3) := by decide +kernel
theorem dX4_viewRow_67 : decode cX4_viewRow 67 = .ok (.aload_n 2, 1) := by decide +kernel
theorem dX4_viewRow_68 : decode cX4_viewRow 68 = .ok (.iload_n 3, 1) := by decide +kernel
theorem dX4_viewRow_69 : decode cX4_viewRow 69 = .ok (.invokevirtual 99, 3) := by decide +kernel
theorem dX4_viewRow_72 : decode cX4_viewRow 72 = .ok (.return_, 1) := by decide +kernel
theorem dX5_init_0 : decode cX5_init 0 = .ok (.aload_n 0, 1) := by decide +kernel
theorem dX5_init_1 : decode cX5_init 1 = .ok (.invokespecial 1, 3) := by decide +kernel
theorem dX5_init_4 : decode cX5_init 4 = .ok (.aload_n 0, 1) := by decide +kernel
theorem dX5_init_5 : decode cX5_init 5 = .ok (.aload_n 1, 1) := by decide +kernel
theorem dX5_init_6 : decode cX5_init 6 = .ok (.putfield 7, 3) := by decide +kernel
theorem dX5_init_9 : decode cX5_init 9 = .ok (.return_, 1) := by decide +kernel
theorem dX5_length_0 : decode cX5_length 0 = .ok (.iload_n 1, 1) := by decide +kernel
theorem dX5_length_1 : decode cX5_length 1 = .ok (.ifCond .eq 10, 3) := by decide +kernel
theorem dX5_length_4 : decode cX5_length 4 = .ok (.aload_n 0, 1) := by decide +kernel
theorem dX5_length_5 : decode cX5_length 5 = .ok (.getfield 13, 3) := by decide +kernel
theorem dX5_length_8 : decode cX5_length 8 = .ok (.goto 7, 3) := by decide +kernel
theorem dX5_length_11 : decode cX5_length 11 = .ok (.aload_n 0, 1) := by decide +kernel
theorem dX5_length_12 : decode cX5_length 12 = .ok (.getfield 17, 3) := by decide +kernel
theorem dX5_length_15 : decode cX5_length 15 = .ok (.ireturn, 1) := by decide +kernel
theorem dX5_isSplit_0 : decode cX5_isSplit 0 = .ok (.aload_n 0, 1) := by decide +kernel
theorem dX5_isSplit_1 : decode cX5_isSplit 1 = .ok (.getfield 20, 3) := by decide +kernel
theorem dX5_isSplit_4 : decode cX5_isSplit 4 = .ok (.ifnull 14, 3) := by decide +kernel
theorem dX5_isSplit_7 : decode cX5_isSplit 7 = .ok (.aload_n 0, 1) := by decide +kernel
theorem dX5_isSplit_8 : decode cX5_isSplit 8 = .ok (.getfield 23, 3) := by decide +kernel
theorem dX5_isSplit_11 : decode cX5_isSplit 11 = .ok (.ifnull 7, 3) := by decide +kernel
theorem dX5_isSplit_14 : decode cX5_isSplit 14 = .ok (.iconst 1, 1) := by decide +kernel
theorem dX5_isSplit_15 : decode cX5_isSplit 15 = .ok (.goto 4, 3) := by decide +kernel
theorem dX5_isSplit_18 : decode cX5_isSplit 18 = .ok (.iconst 0, 1) := by decide +kernel
theorem dX5_isSplit_19 : decode cX5_isSplit 19 = .ok (.ireturn, 1) := by decide +kernel
theorem dX5_drawBorder_0 : decode cX5_drawBorder 0 = .ok (.aload_n 0, 1) := by decide +kernel
theorem dX5_drawBorder_1 : decode cX5_drawBorder 1 = .ok (.invokevirtual 26, 3) := by decide +kernel
theorem dX5_drawBorder_4 : decode cX5_drawBorder 4 = .ok (.ifCond .ne 4, 3) := by decide +kernel
theorem dX5_drawBorder_7 : decode cX5_drawBorder 7 = .ok (.return_, 1) := by decide +kernel
theorem dX5_drawBorder_8 : decode cX5_drawBorder 8 = .ok (.aload_n 0, 1) := by decide +kernel
theorem dX5_drawBorder_9 : decode cX5_drawBorder 9 = .ok (.getfield 30, 3) := by decide +kernel
theorem dX5_drawBorder_12 : decode cX5_drawBorder 12 = .ok (.ifCond .eq 7, 3) := by decide +kernel
theorem dX5_drawBorder_15 : decode cX5_drawBorder 15 = .ok (.iconst 1, 1) := by decide +kernel
theorem dX5_drawBorder_16 : decode cX5_drawBorder 16 = .ok (.goto 4, 3) := by decide +kernel
theorem dX5_drawBorder_19 : decode cX5_drawBorder 19 = .ok (.iload_n 2, 1) := by decide +kernel
theorem dX5_drawBorder_20 : decode cX5_drawBorder 20 = .ok (.istore_n 3, 1) := by decide +kernel
theorem dX5_drawBorder_21 : decode cX5_drawBorder 21 = .ok (.aload_n 0, 1) := by decide +kernel
theorem dX5_drawBorder_22 : decode cX5_drawBorder 22 = .ok (.getfield 30, 3) := by decide +kernel
theorem dX5_drawBorder_25 : decode cX5_drawBorder 25 = .ok (.ifCond .eq 10, 3) := by decide +kernel
theorem dX5_drawBorder_28 : decode cX5_drawBorder 28 = .ok (.aload_n 0, 1) := by decide +kernel
theorem dX5_drawBorder_29 : decode cX5_drawBorder 29 = .ok (.getfield 17, 3) := by decide +kernel
theorem dX5_drawBorder_32 : decode cX5_drawBorder 32 = .ok (.goto 7, 3) := by decide +kernel
theorem dX5_drawBorder_35 : decode cX5_drawBorder 35 = .ok (.aload_n 0, 1) := by decide +kernel
theorem dX5_drawBorder_36 : decode cX5_drawBorder 36 = .ok (.getfield 13, 3) := by decide +kernel
theorem dX5_drawBorder_39 : decode cX5_drawBorder 39 = .ok (.istore 4, 2) := by decide +kernel
theorem dX5_drawBorder_41 : decode cX5_drawBorder 41 = .ok (.aload_n 0, 1) := by decide +kernel
theorem dX5_drawBorder_42 : decode cX5_drawBorder 42 = .ok (.getfield 30, 3) := by decide +kernel
theorem dX5_drawBorder_45 : decode cX5_drawBorder 45 = .ok (.ifCond .eq 25, 3) := by decide +kernel
theorem dX5_drawBorder_48 : decode cX5_drawBorder 48 = .ok (.aload_n 0, 1) := by decide +kernel
theorem dX5_drawBorder_49 : decode cX5_drawBorder 49 = .ok (.getfield 34, 3) := by decide +kernel
theorem dX5_drawBorder_52 : decode cX5_drawBorder 52 = .ok (.aload_n 0, 1) := by decide +kernel
theorem dX5_drawBorder_53 : decode cX5_drawBorder 53 = .ok (.getfield 20, 3) := by decide +kernel
theorem dX5_drawBorder_56 : decode cX5_drawBorder 56 = .ok (.getfield 13, 3) := by decide +kernel
theorem dX5_drawBorder_59 : decode cX5_drawBorder 59 = .ok (.iadd, 1) := by decide +kernel
theorem dX5_drawBorder_60 : decode cX5_drawBorder 60 = .ok (.iload_n 2, 1) := by decide +kernel
theorem dX5_drawBorder_61 : decode cX5_drawBorder 61 = .ok (.imul, 1) := by decide +kernel
theorem dX5_drawBorder_62 : decode cX5_drawBorder 62 = .ok (.aload_n 0, 1) := by decide +kernel
theorem dX5_drawBorder_63 : decode cX5_drawBorder 63 = .ok (.getfield 37, 3) := by decide +kernel
theorem dX5_drawBorder_66 : decode cX5_drawBorder 66 = .ok (.iadd, 1) := by decide +kernel
theorem dX5_drawBorder_67 : decode cX5_drawBorder 67 = .ok (.goto 22, 3) := by decide +kernel
theorem dX5_drawBorder_70 : decode cX5_drawBorder 70 = .ok (.aload_n 0, 1) := by decide +kernel
theorem dX5_drawBorder_71 : decode cX5_drawBorder 71 = .ok (.getfield 34, 3) := by decide +kernel
theorem dX5_drawBorder_74 : decode cX5_drawBorder 74 = .ok (.iload_n 2, 1) := by decide +kernel
theorem dX5_drawBorder_75 : decode cX5_drawBorder 75 = .ok (.imul, 1) := by decide +kernel
theorem dX5_drawBorder_76 : decode cX5_drawBorder 76 = .ok (.aload_n 0, 1) := by decide +kernel
theorem dX5_drawBorder_77 : decode cX5_drawBorder 77 = .ok (.getfield 37, 3) := by decide +kernel
theorem dX5_drawBorder_80 : decode cX5_drawBorder 80 = .ok (.iadd, 1) := by decide +kernel
theorem dX5_drawBorder_81 : decode cX5_drawBorder 81 = .ok (.aload_n 0, 1) := by decide +kernel
theorem dX5_drawBorder_82 : decode cX5_drawBorder 82 = .ok (.getfield 20, 3) := by decide +kernel
theorem dX5_drawBorder_85 : decode cX5_drawBorder 85 = .ok (.getfield 17, 3) := by decide +kernel
theorem dX5_drawBorder_88 : decode cX5_drawBorder 88 = .ok (.iadd, 1) := by decide +kernel
theorem dX5_drawBorder_89 : decode cX5_drawBorder 89 = .ok (.istore 5, 2) := by decide +kernel
theorem dX5_drawBorder_91 : decode cX5_drawBorder 91 = .ok (.iconst 0, 1) := by decide +kernel
theorem dX5_drawBorder_92 : decode cX5_drawBorder 92 = .ok (.istore 6, 2) := by decide +kernel
theorem dX5_drawBorder_94 : decode cX5_drawBorder 94 = .ok (.iload 6, 2) := by decide +kernel
theorem dX5_drawBorder_96 : decode cX5_drawBorder 96 = .ok (.iload 4, 2) := by decide +kernel
theorem dX5_drawBorder_98 : decode cX5_drawBorder 98 = .ok (.if_icmp .ge 45, 3) := by decide +kernel
theorem dX5_drawBorder_101 : decode cX5_drawBorder 101 = .ok (.iload 5, 2) := by decide +kernel
theorem dX5_drawBorder_103 : decode cX5_drawBorder 103 = .ok (.ifCond .lt 40, 3) := by decide +kernel
theorem dX5_drawBorder_106 : decode cX5_drawBorder 106 = .ok (.iload 5, 2) := by decide +kernel
theorem dX5_drawBorder_108 : decode cX5_drawBorder 108 = .ok (.aload_n 1, 1) := by decide +kernel
theorem dX5_drawBorder_109 : decode cX5_drawBorder 109 = .ok (.arraylength, 1) := by decide +kernel
theorem dX5_drawBorder_110 : decode cX5_drawBorder 110 = .ok (.if_icmp .ge 33, 3) := by decide +kernel
theorem dX5_drawBorder_113 : decode cX5_drawBorder 113 = .ok (.aload_n 1, 1) := by decide +kernel
theorem dX5_drawBorder_114 : decode cX5_drawBorder 114 = .ok (.iload 5, 2) := by decide +kernel
theorem dX5_drawBorder_116 : decode cX5_drawBorder 116 = .ok (.aload_n 0, 1) := by decide +kernel
theorem dX5_drawBorder_117 : decode cX5_drawBorder 117 = .ok (.getfield 30, 3) := by decide +kernel
theorem dX5_drawBorder_120 : decode cX5_drawBorder 120 = .ok (.ifCond .eq 8, 3) := by decide +kernel
theorem dX5_drawBorder_123 : decode cX5_drawBorder 123 = .ok (.bipush 45, 2) := by decide +kernel
theorem dX5_drawBorder_125 : decode cX5_drawBorder 125 = .ok (.goto 5, 3) := by decide +kernel
theorem dX5_drawBorder_128 : decode cX5_drawBorder 128 = .ok (.bipush 124, 2) := by decide +kernel
theorem dX5_drawBorder_130 : decode cX5_drawBorder 130 = .ok (.iastore, 1) := by decide +kernel
theorem dX5_drawBorder_131 : decode cX5_drawBorder 131 = .ok (.iload 5, 2) := by decide +kernel
theorem dX5_drawBorder_133 : decode cX5_drawBorder 133 = .ok (.iload_n 3, 1) := by decide +kernel
theorem dX5_drawBorder_134 : decode cX5_drawBorder 134 = .ok (.iadd, 1) := by decide +kernel
theorem dX5_drawBorder_135 : decode cX5_drawBorder 135 = .ok (.istore 5, 2) := by decide +kernel
theorem dX5_drawBorder_137 : decode cX5_drawBorder 137 = .ok (.iinc 6 1, 3) := by decide +kernel
theorem dX5_drawBorder_140 : decode cX5_drawBorder 140 = .ok (.goto (-46), 3) := by decide +kernel
theorem dX5_drawBorder_143 : decode cX5_drawBorder 143 = .ok (.return_, 1) := by decide +kernel
theorem dX6_init_0 : decode cX6_init 0 = .ok (.aload_n 0, 1) := by decide +kernel
theorem dX6_init_1 : decode cX6_init 1 = .ok (.invokespecial 1, 3) := by decide +kernel
theorem dX6_init_4 : decode cX6_init 4 = .ok (.aload_n 0, 1) := by decide +kernel
theorem dX6_init_5 : decode cX6_init 5 = .ok (.iconst 4, 1) := by decide +kernel
theorem dX6_init_6 : decode cX6_init 6 = .ok (.newarray .int, 2) := by decide +kernel
theorem dX6_init_8 : decode cX6_init 8 = .ok (.putfield 9, 3) := by decide +kernel
theorem dX6_init_11 : decode cX6_init 11 = .ok (.aload_n 0, 1) := by decide +kernel
theorem dX6_init_12 : decode cX6_init 12 = .ok (.aload_n 1, 1) := by decide +kernel
theorem dX6_init_13 : decode cX6_init 13 = .ok (.putfield 13, 3) := by decide +kernel
theorem dX6_init_16 : decode cX6_init 16 = .ok (.return_, 1) := by decide +kernel
theorem dX6_reset_0 : decode cX6_reset 0 = .ok (.aload_n 0, 1) := by decide +kernel
theorem dX6_reset_1 : decode cX6_reset 1 = .ok (.iconst 0, 1) := by decide +kernel
theorem dX6_reset_2 : decode cX6_reset 2 = .ok (.putfield 17, 3) := by decide +kernel
theorem dX6_reset_5 : decode cX6_reset 5 = .ok (.return_, 1) := by decide +kernel
theorem dX6_take_0 : decode cX6_take 0 = .ok (.iload_n 1, 1) := by decide +kernel
theorem dX6_take_1 : decode cX6_take 1 = .ok (.lookupswitch 123 #[(8, 51), (9, 77), (10, 87), (13, 97), (27, 115)], 51) := by decide +kernel
theorem dX6_take_52 : decode cX6_take 52 = .ok (.aload_n 0, 1) := by decide +kernel
theorem dX6_take_53 : decode cX6_take 53 = .ok (.getfield 13, 3) := by decide +kernel
theorem dX6_take_56 : decode cX6_take 56 = .ok (.aload_n 0, 1) := by decide +kernel
theorem dX6_take_57 : decode cX6_take 57 = .ok (.getfield 13, 3) := by decide +kernel
theorem dX6_take_60 : decode cX6_take 60 = .ok (.getfield 21, 3) := by decide +kernel
theorem dX6_take_63 : decode cX6_take 63 = .ok (.iconst 1, 1) := by decide +kernel
theorem dX6_take_64 : decode cX6_take 64 = .ok (.isub, 1) := by decide +kernel
theorem dX6_take_65 : decode cX6_take 65 = .ok (.aload_n 0, 1) := by decide +kernel
theorem dX6_take_66 : decode cX6_take 66 = .ok (.getfield 13, 3) := by decide +kernel
theorem dX6_take_69 : decode cX6_take 69 = .ok (.getfield 26, 3) := by decide +kernel
theorem dX6_take_72 : decode cX6_take 72 = .ok (.invokevirtual 29, 3) := by decide +kernel
theorem dX6_take_75 : decode cX6_take 75 = .ok (.goto 129, 3) := by decide +kernel
theorem dX6_take_78 : decode cX6_take 78 = .ok (.aload_n 0, 1) := by decide +kernel
theorem dX6_take_79 : decode cX6_take 79 = .ok (.getfield 13, 3) := by decide +kernel
theorem dX6_take_82 : decode cX6_take 82 = .ok (.invokevirtual 33, 3) := by decide +kernel
theorem dX6_take_85 : decode cX6_take 85 = .ok (.goto 119, 3) := by decide +kernel
theorem dX6_take_88 : decode cX6_take 88 = .ok (.aload_n 0, 1) := by decide +kernel
theorem dX6_take_89 : decode cX6_take 89 = .ok (.getfield 13, 3) := by decide +kernel
theorem dX6_take_92 : decode cX6_take 92 = .ok (.invokevirtual 36, 3) := by decide +kernel
theorem dX6_take_95 : decode cX6_take 95 = .ok (.goto 109, 3) := by decide +kernel
theorem dX6_take_98 : decode cX6_take 98 = .ok (.aload_n 0, 1) := by decide +kernel
theorem dX6_take_99 : decode cX6_take 99 = .ok (.getfield 13, 3) := by decide +kernel
theorem dX6_take_102 : decode cX6_take 102 = .ok (.iconst 0, 1) := by decide +kernel
theorem dX6_take_103 : decode cX6_take 103 = .ok (.aload_n 0, 1) := by decide +kernel
theorem dX6_take_104 : decode cX6_take 104 = .ok (.getfield 13, 3) := by decide +kernel
theorem dX6_take_107 : decode cX6_take 107 = .ok (.getfield 26, 3) := by decide +kernel
theorem dX6_take_110 : decode cX6_take 110 = .ok (.invokevirtual 29, 3) := by decide +kernel
theorem dX6_take_113 : decode cX6_take 113 = .ok (.goto 91, 3) := by decide +kernel
theorem dX6_take_116 : decode cX6_take 116 = .ok (.aload_n 0, 1) := by decide +kernel
theorem dX6_take_117 : decode cX6_take 117 = .ok (.iconst 1, 1) := by decide +kernel
theorem dX6_take_118 : decode cX6_take 118 = .ok (.putfield 17, 3) := by decide +kernel
theorem dX6_take_121 : decode cX6_take 121 = .ok (.goto 83, 3) := by decide +kernel
theorem dX6_take_124 : decode cX6_take 124 = .ok (.aload_n 0, 1) := by decide +kernel
theorem dX6_take_125 : decode cX6_take 125 = .ok (.getfield 17, 3) := by decide +kernel
theorem dX6_take_128 : decode cX6_take 128 = .ok (.iconst 2, 1) := by decide +kernel
theorem dX6_take_129 : decode cX6_take 129 = .ok (.if_icmp .ne 23, 3) := by decide +kernel
theorem dX6_take_132 : decode cX6_take 132 = .ok (.aload_n 0, 1) := by decide +kernel
theorem dX6_take_133 : decode cX6_take 133 = .ok (.iload_n 1, 1) := by decide +kernel
theorem dX6_take_134 : decode cX6_take 134 = .ok (.bipush 63, 2) := by decide +kernel
theorem dX6_take_136 : decode cX6_take 136 = .ok (.if_icmp .ne 7, 3) := by decide +kernel
theorem dX6_take_139 : decode cX6_take 139 = .ok (.iconst 1, 1) := by decide +kernel
theorem dX6_take_140 : decode cX6_take 140 = .ok (.goto 4, 3) := by decide +kernel
theorem dX6_take_143 : decode cX6_take 143 = .ok (.iconst 0, 1) := by decide +kernel
theorem dX6_take_144 : decode cX6_take 144 = .ok (.putfield 39, 3) := by decide +kernel
theorem dX6_take_147 : decode cX6_take 147 = .ok (.aload_n 0, 1) := by decide +kernel
theorem dX6_take_148 : decode cX6_take 148 = .ok (.iconst 3, 1) := by decide +kernel
theorem dX6_take_149 : decode cX6_take 149 = .ok (.putfield 17, 3) := by decide +kernel
theorem dX6_take_152 : decode cX6_take 152 = .ok (.aload_n 0, 1) := by decide +kernel
theorem dX6_take_153 : decode cX6_take 153 = .ok (.getfield 17, 3) := by decide +kernel
theorem dX6_take_156 : decode cX6_take 156 = .ok (.iconst 3, 1) := by decide +kernel
theorem dX6_take_157 : decode cX6_take 157 = .ok (.if_icmp .ne 11, 3) := by decide +kernel
theorem dX6_take_160 : decode cX6_take 160 = .ok (.aload_n 0, 1) := by decide +kernel
theorem dX6_take_161 : decode cX6_take 161 = .ok (.iload_n 1, 1) := by decide +kernel
theorem dX6_take_162 : decode cX6_take 162 = .ok (.invokevirtual 43, 3) := by decide +kernel
theorem dX6_take_165 : decode cX6_take 165 = .ok (.goto 39, 3) := by decide +kernel
theorem dX6_take_168 : decode cX6_take 168 = .ok (.aload_n 0, 1) := by decide +kernel
theorem dX6_take_169 : decode cX6_take 169 = .ok (.getfield 17, 3) := by decide +kernel
theorem dX6_take_172 : decode cX6_take 172 = .ok (.iconst 1, 1) := by decide +kernel
theorem dX6_take_173 : decode cX6_take 173 = .ok (.if_icmp .ne 11, 3) := by decide +kernel
theorem dX6_take_176 : decode cX6_take 176 = .ok (.aload_n 0, 1) := by decide +kernel
theorem dX6_take_177 : decode cX6_take 177 = .ok (.iload_n 1, 1) := by decide +kernel
theorem dX6_take_178 : decode cX6_take 178 = .ok (.invokevirtual 47, 3) := by decide +kernel
theorem dX6_take_181 : decode cX6_take 181 = .ok (.goto 23, 3) := by decide +kernel
theorem dX6_take_184 : decode cX6_take 184 = .ok (.iload_n 1, 1) := by decide +kernel
theorem dX6_take_185 : decode cX6_take 185 = .ok (.bipush 32, 2) := by decide +kernel
theorem dX6_take_187 : decode cX6_take 187 = .ok (.if_icmp .lt 17, 3) := by decide +kernel
theorem dX6_take_190 : decode cX6_take 190 = .ok (.iload_n 1, 1) := by decide +kernel
theorem dX6_take_191 : decode cX6_take 191 = .ok (.bipush 126, 2) := by decide +kernel
theorem dX6_take_193 : decode cX6_take 193 = .ok (.if_icmp .gt 11, 3) := by decide +kernel
theorem dX6_take_196 : decode cX6_take 196 = .ok (.aload_n 0, 1) := by decide +kernel
theorem dX6_take_197 : decode cX6_take 197 = .ok (.getfield 13, 3) := by decide +kernel
theorem dX6_take_200 : decode cX6_take 200 = .ok (.iload_n 1, 1) := by decide +kernel
theorem dX6_take_201 : decode cX6_take 201 = .ok (.invokevirtual 50, 3) := by decide +kernel
theorem dX6_take_204 : decode cX6_take 204 = .ok (.return_, 1) := by decide +kernel
theorem dX6_takeShort_0 : decode cX6_takeShort 0 = .ok (.aload_n 0, 1) := by decide +kernel
theorem dX6_takeShort_1 : decode cX6_takeShort 1 = .ok (.iconst 0, 1) := by decide +kernel
theorem dX6_takeShort_2 : decode cX6_takeShort 2 = .ok (.putfield 17, 3) := by decide +kernel
theorem dX6_takeShort_5 : decode cX6_takeShort 5 = .ok (.iload_n 1, 1) := by decide +kernel
theorem dX6_takeShort_6 : decode cX6_takeShort 6 = .ok (.lookupswitch 115 #[(55, 58), (56, 68), (68, 78), (77, 88), (91, 108), (99, 98)], 58) := by decide +kernel
theorem dX6_takeShort_64 : decode cX6_takeShort 64 = .ok (.aload_n 0, 1) := by decide +kernel
theorem dX6_takeShort_65 : decode cX6_takeShort 65 = .ok (.getfield 13, 3) := by decide +kernel
theorem dX6_takeShort_68 : decode cX6_takeShort 68 = .ok (.invokevirtual 53, 3) := by decide +kernel
theorem dX6_takeShort_71 : decode cX6_takeShort 71 = .ok (.goto 50, 3) := by decide +kernel
theorem dX6_takeShort_74 : decode cX6_takeShort 74 = .ok (.aload_n 0, 1) := by decide +kernel
theorem dX6_takeShort_75 : decode cX6_takeShort 75 = .ok (.getfield 13, 3) := by decide +kernel
theorem dX6_takeShort_78 : decode cX6_takeShort 78 = .ok (.invokevirtual 56, 3) := by decide +kernel
theorem dX6_takeShort_81 : decode cX6_takeShort 81 = .ok (.goto 40, 3) := by decide +kernel
theorem dX6_takeShort_84 : decode cX6_takeShort 84 = .ok (.aload_n 0, 1) := by decide +kernel
theorem dX6_takeShort_85 : decode cX6_takeShort 85 = .ok (.getfield 13, 3) := by decide +kernel
theorem dX6_takeShort_88 : decode cX6_takeShort 88 = .ok (.invokevirtual 36, 3) := by decide +kernel
theorem dX6_takeShort_91 : decode cX6_takeShort 91 = .ok (.goto 30, 3) := by decide +kernel
theorem dX6_takeShort_94 : decode cX6_takeShort 94 = .ok (.aload_n 0, 1) := by decide +kernel
theorem dX6_takeShort_95 : decode cX6_takeShort 95 = .ok (.getfield 13, 3) := by decide +kernel
theorem dX6_takeShort_98 : decode cX6_takeShort 98 = .ok (.invokevirtual 59, 3) := by decide +kernel
theorem dX6_takeShort_101 : decode cX6_takeShort 101 = .ok (.goto 20, 3) := by decide +kernel
theorem dX6_takeShort_104 : decode cX6_takeShort 104 = .ok (.aload_n 0, 1) := by decide +kernel
theorem dX6_takeShort_105 : decode cX6_takeShort 105 = .ok (.getfield 13, 3) := by decide +kernel
theorem dX6_takeShort_108 : decode cX6_takeShort 108 = .ok (.invokevirtual 62, 3) := by decide +kernel
theorem dX6_takeShort_111 : decode cX6_takeShort 111 = .ok (.goto 10, 3) := by decide +kernel
theorem dX6_takeShort_114 : decode cX6_takeShort 114 = .ok (.aload_n 0, 1) := by decide +kernel
theorem dX6_takeShort_115 : decode cX6_takeShort 115 = .ok (.invokevirtual 65, 3) := by decide +kernel
theorem dX6_takeShort_118 : decode cX6_takeShort 118 = .ok (.goto 3, 3) := by decide +kernel
theorem dX6_takeShort_121 : decode cX6_takeShort 121 = .ok (.return_, 1) := by decide +kernel
theorem dX6_beginLonger_0 : decode cX6_beginLonger 0 = .ok (.aload_n 0, 1) := by decide +kernel
theorem dX6_beginLonger_1 : decode cX6_beginLonger 1 = .ok (.iconst 2, 1) := by decide +kernel
theorem dX6_beginLonger_2 : decode cX6_beginLonger 2 = .ok (.putfield 17, 3) := by decide +kernel
theorem dX6_beginLonger_5 : decode cX6_beginLonger 5 = .ok (.aload_n 0, 1) := by decide +kernel
theorem dX6_beginLonger_6 : decode cX6_beginLonger 6 = .ok (.getfield 9, 3) := by decide +kernel
theorem dX6_beginLonger_9 : decode cX6_beginLonger 9 = .ok (.iconst 0, 1) := by decide +kernel
theorem dX6_beginLonger_10 : decode cX6_beginLonger 10 = .ok (.invokestatic 68, 3) := by decide +kernel
theorem dX6_beginLonger_13 : decode cX6_beginLonger 13 = .ok (.aload_n 0, 1) := by decide +kernel
theorem dX6_beginLonger_14 : decode cX6_beginLonger 14 = .ok (.iconst 0, 1) := by decide +kernel
theorem dX6_beginLonger_15 : decode cX6_beginLonger 15 = .ok (.putfield 74, 3) := by decide +kernel
theorem dX6_beginLonger_18 : decode cX6_beginLonger 18 = .ok (.aload_n 0, 1) := by decide +kernel
theorem dX6_beginLonger_19 : decode cX6_beginLonger 19 = .ok (.iconst 0, 1) := by decide +kernel
theorem dX6_beginLonger_20 : decode cX6_beginLonger 20 = .ok (.putfield 77, 3) := by decide +kernel
theorem dX6_beginLonger_23 : decode cX6_beginLonger 23 = .ok (.return_, 1) := by decide +kernel
theorem dX6_takeLonger_0 : decode cX6_takeLonger 0 = .ok (.iload_n 1, 1) := by decide +kernel
theorem dX6_takeLonger_1 : decode cX6_takeLonger 1 = .ok (.bipush 48, 2) := by decide +kernel
theorem dX6_takeLonger_3 : decode cX6_takeLonger 3 = .ok (.if_icmp .lt 20, 3) := by decide +kernel
theorem dX6_takeLonger_6 : decode cX6_takeLonger 6 = .ok (.iload_n 1, 1) := by decide +kernel
theorem dX6_takeLonger_7 : decode cX6_takeLonger 7 = .ok (.bipush 57, 2) := by decide +kernel
theorem dX6_takeLonger_9 : decode cX6_takeLonger 9 = .ok (.if_icmp .gt 14, 3) := by decide +kernel
theorem dX6_takeLonger_12 : decode cX6_takeLonger 12 = .ok (.aload_n 0, 1) := by decide +kernel
theorem dX6_takeLonger_13 : decode cX6_takeLonger 13 = .ok (.iload_n 1, 1) := by decide +kernel
theorem dX6_takeLonger_14 : decode cX6_takeLonger 14 = .ok (.bipush 48, 2) := by decide +kernel
theorem dX6_takeLonger_16 : decode cX6_takeLonger 16 = .ok (.isub, 1) := by decide +kernel
theorem dX6_takeLonger_17 : decode cX6_takeLonger 17 = .ok (.invokevirtual 80, 3) := by decide +kernel
theorem dX6_takeLonger_20 : decode cX6_takeLonger 20 = .ok (.goto 73, 3) := by decide +kernel
theorem dX6_takeLonger_23 : decode cX6_takeLonger 23 = .ok (.iload_n 1, 1) := by decide +kernel
theorem dX6_takeLonger_24 : decode cX6_takeLonger 24 = .ok (.bipush 59, 2) := by decide +kernel
theorem dX6_takeLonger_26 : decode cX6_takeLonger 26 = .ok (.if_icmp .ne 25, 3) := by decide +kernel
theorem dX6_takeLonger_29 : decode cX6_takeLonger 29 = .ok (.aload_n 0, 1) := by decide +kernel
theorem dX6_takeLonger_30 : decode cX6_takeLonger 30 = .ok (.iconst 4, 1) := by decide +kernel
theorem dX6_takeLonger_31 : decode cX6_takeLonger 31 = .ok (.aload_n 0, 1) := by decide +kernel
theorem dX6_takeLonger_32 : decode cX6_takeLonger 32 = .ok (.getfield 74, 3) := by decide +kernel
theorem dX6_takeLonger_35 : decode cX6_takeLonger 35 = .ok (.iconst 1, 1) := by decide +kernel
theorem dX6_takeLonger_36 : decode cX6_takeLonger 36 = .ok (.iadd, 1) := by decide +kernel
theorem dX6_takeLonger_37 : decode cX6_takeLonger 37 = .ok (.invokestatic 83, 3) := by decide +kernel
theorem dX6_takeLonger_40 : decode cX6_takeLonger 40 = .ok (.putfield 74, 3) := by decide +kernel
theorem dX6_takeLonger_43 : decode cX6_takeLonger 43 = .ok (.aload_n 0, 1) := by decide +kernel
theorem dX6_takeLonger_44 : decode cX6_takeLonger 44 = .ok (.iconst 0, 1) := by decide +kernel
theorem dX6_takeLonger_45 : decode cX6_takeLonger 45 = .ok (.putfield 77, 3) := by decide +kernel
theorem dX6_takeLonger_48 : decode cX6_takeLonger 48 = .ok (.goto 45, 3) := by decide +kernel
theorem dX6_takeLonger_51 : decode cX6_takeLonger 51 = .ok (.iload_n 1, 1) := by decide +kernel
theorem dX6_takeLonger_52 : decode cX6_takeLonger 52 = .ok (.bipush 64, 2) := by decide +kernel
theorem dX6_takeLonger_54 : decode cX6_takeLonger 54 = .ok (.if_icmp .lt 39, 3) := by decide +kernel
theorem dX6_takeLonger_57 : decode cX6_takeLonger 57 = .ok (.iload_n 1, 1) := by decide +kernel
theorem dX6_takeLonger_58 : decode cX6_takeLonger 58 = .ok (.bipush 126, 2) := by decide +kernel
theorem dX6_takeLonger_60 : decode cX6_takeLonger 60 = .ok (.if_icmp .gt 33, 3) := by decide +kernel
theorem dX6_takeLonger_63 : decode cX6_takeLonger 63 = .ok (.aload_n 0, 1) := by decide +kernel
theorem dX6_takeLonger_64 : decode cX6_takeLonger 64 = .ok (.iconst 0, 1) := by decide +kernel
theorem dX6_takeLonger_65 : decode cX6_takeLonger 65 = .ok (.putfield 17, 3) := by decide +kernel
theorem dX6_takeLonger_68 : decode cX6_takeLonger 68 = .ok (.aload_n 0, 1) := by decide +kernel
theorem dX6_takeLonger_69 : decode cX6_takeLonger 69 = .ok (.iload_n 1, 1) := by decide +kernel
theorem dX6_takeLonger_70 : decode cX6_takeLonger 70 = .ok (.invokevirtual 89, 3) := by decide +kernel
theorem dX6_takeLonger_73 : decode cX6_takeLonger 73 = .ok (.aload_n 0, 1) := by decide +kernel
theorem dX6_takeLonger_74 : decode cX6_takeLonger 74 = .ok (.getfield 39, 3) := by decide +kernel
theorem dX6_takeLonger_77 : decode cX6_takeLonger 77 = .ok (.ifCond .eq 11, 3) := by decide +kernel
theorem dX6_takeLonger_80 : decode cX6_takeLonger 80 = .ok (.aload_n 0, 1) := by decide +kernel
theorem dX6_takeLonger_81 : decode cX6_takeLonger 81 = .ok (.iload_n 1, 1) := by decide +kernel
theorem dX6_takeLonger_82 : decode cX6_takeLonger 82 = .ok (.invokevirtual 92, 3) := by decide +kernel
theorem dX6_takeLonger_85 : decode cX6_takeLonger 85 = .ok (.goto 8, 3) := by decide +kernel
theorem dX6_takeLonger_88 : decode cX6_takeLonger 88 = .ok (.aload_n 0, 1) := by decide +kernel
theorem dX6_takeLonger_89 : decode cX6_takeLonger 89 = .ok (.iload_n 1, 1) := by decide +kernel
theorem dX6_takeLonger_90 : decode cX6_takeLonger 90 = .ok (.invokevirtual 95, 3) := by decide +kernel
theorem dX6_takeLonger_93 : decode cX6_takeLonger 93 = .ok (.return_, 1) := by decide +kernel
theorem dX6_endWait_0 : decode cX6_endWait 0 = .ok (.iload_n 1, 1) := by decide +kernel
theorem dX6_endWait_1 : decode cX6_endWait 1 = .ok (.tableswitch 230 64 114 #[219, 219, 219, 219, 219, 230, 230, 219, 219, 230, 219, 219, 219, 219, 230, 230, 219, 230, 230, 219, 219, 230, 230, 230, 219, 230, 230, 230, 230, 230, 230, 230, 230, 230, 230, 230, 219, 230, 219, 230, 230, 230, 230, 230, 230, 230, 230, 230, 230, 230, 219], 219) := by decide +kernel
theorem dX6_endWait_220 : decode cX6_endWait 220 = .ok (.aload_n 0, 1) := by decide +kernel
theorem dX6_endWait_221 : decode cX6_endWait 221 = .ok (.getfield 13, 3) := by decide +kernel
theorem dX6_endWait_224 : decode cX6_endWait 224 = .ok (.iconst 0, 1) := by decide +kernel
theorem dX6_endWait_225 : decode cX6_endWait 225 = .ok (.putfield 98, 3) := by decide +kernel
theorem dX6_endWait_228 : decode cX6_endWait 228 = .ok (.goto 3, 3) := by decide +kernel
theorem dX6_endWait_231 : decode cX6_endWait 231 = .ok (.return_, 1) := by decide +kernel
theorem dX6_takeDigit_0 : decode cX6_takeDigit 0 = .ok (.aload_n 0, 1) := by decide +kernel
theorem dX6_takeDigit_1 : decode cX6_takeDigit 1 = .ok (.getfield 74, 3) := by decide +kernel
theorem dX6_takeDigit_4 : decode cX6_takeDigit 4 = .ok (.iconst 4, 1) := by decide +kernel
theorem dX6_takeDigit_5 : decode cX6_takeDigit 5 = .ok (.if_icmp .ge 37, 3) := by decide +kernel
theorem dX6_takeDigit_8 : decode cX6_takeDigit 8 = .ok (.aload_n 0, 1) := by decide +kernel
theorem dX6_takeDigit_9 : decode cX6_takeDigit 9 = .ok (.getfield 9, 3) := by decide +kernel
theorem dX6_takeDigit_12 : decode cX6_takeDigit 12 = .ok (.aload_n 0, 1) := by decide +kernel
theorem dX6_takeDigit_13 : decode cX6_takeDigit 13 = .ok (.getfield 74, 3) := by decide +kernel
theorem dX6_takeDigit_16 : decode cX6_takeDigit 16 = .ok (.sipush 999, 3) := by decide +kernel
theorem dX6_takeDigit_19 : decode cX6_takeDigit 19 = .ok (.aload_n 0, 1) := by decide +kernel
theorem dX6_takeDigit_20 : decode cX6_takeDigit 20 = .ok (.getfield 9, 3) := by decide +kernel
theorem dX6_takeDigit_23 : decode cX6_takeDigit 23 = .ok (.aload_n 0, 1) := by decide +kernel
theorem dX6_takeDigit_24 : decode cX6_takeDigit 24 = .ok (.getfield 74, 3) := by decide +kernel
theorem dX6_takeDigit_27 : decode cX6_takeDigit 27 = .ok (.iaload, 1) := by decide +kernel
theorem dX6_takeDigit_28 : decode cX6_takeDigit 28 = .ok (.bipush 10, 2) := by decide +kernel
theorem dX6_takeDigit_30 : decode cX6_takeDigit 30 = .ok (.imul, 1) := by decide +kernel
theorem dX6_takeDigit_31 : decode cX6_takeDigit 31 = .ok (.iload_n 1, 1) := by decide +kernel
theorem dX6_takeDigit_32 : decode cX6_takeDigit 32 = .ok (.iadd, 1) := by decide +kernel
theorem dX6_takeDigit_33 : decode cX6_takeDigit 33 = .ok (.invokestatic 83, 3) := by decide +kernel
theorem dX6_takeDigit_36 : decode cX6_takeDigit 36 = .ok (.iastore, 1) := by decide +kernel
theorem dX6_takeDigit_37 : decode cX6_takeDigit 37 = .ok (.aload_n 0, 1) := by decide +kernel
theorem dX6_takeDigit_38 : decode cX6_takeDigit 38 = .ok (.iconst 1, 1) := by decide +kernel
theorem dX6_takeDigit_39 : decode cX6_takeDigit 39 = .ok (.putfield 77, 3) := by decide +kernel
theorem dX6_takeDigit_42 : decode cX6_takeDigit 42 = .ok (.return_, 1) := by decide +kernel
theorem dX6_doAsked_0 : decode cX6_doAsked 0 = .ok (.iload_n 1, 1) := by decide +kernel
theorem dX6_doAsked_1 : decode cX6_doAsked 1 = .ok (.bipush 104, 2) := by decide +kernel
theorem dX6_doAsked_3 : decode cX6_doAsked 3 = .ok (.if_icmp .eq 10, 3) := by decide +kernel
theorem dX6_doAsked_6 : decode cX6_doAsked 6 = .ok (.iload_n 1, 1) := by decide +kernel
theorem dX6_doAsked_7 : decode cX6_doAsked 7 = .ok (.bipush 108, 2) := by decide +kernel
theorem dX6_doAsked_9 : decode cX6_doAsked 9 = .ok (.if_icmp .eq 4, 3) := by decide +kernel
theorem dX6_doAsked_12 : decode cX6_doAsked 12 = .ok (.return_, 1) := by decide +kernel
theorem dX6_doAsked_13 : decode cX6_doAsked 13 = .ok (.iload_n 1, 1) := by decide +kernel
theorem dX6_doAsked_14 : decode cX6_doAsked 14 = .ok (.bipush 104, 2) := by decide +kernel
theorem dX6_doAsked_16 : decode cX6_doAsked 16 = .ok (.if_icmp .ne 7, 3) := by decide +kernel
theorem dX6_doAsked_19 : decode cX6_doAsked 19 = .ok (.iconst 1, 1) := by decide +kernel
theorem dX6_doAsked_20 : decode cX6_doAsked 20 = .ok (.goto 4, 3) := by decide +kernel
theorem dX6_doAsked_23 : decode cX6_doAsked 23 = .ok (.iconst 0, 1) := by decide +kernel
theorem dX6_doAsked_24 : decode cX6_doAsked 24 = .ok (.istore_n 2, 1) := by decide +kernel
theorem dX6_doAsked_25 : decode cX6_doAsked 25 = .ok (.aload_n 0, 1) := by decide +kernel
theorem dX6_doAsked_26 : decode cX6_doAsked 26 = .ok (.getfield 9, 3) := by decide +kernel
theorem dX6_doAsked_29 : decode cX6_doAsked 29 = .ok (.iconst 0, 1) := by decide +kernel
theorem dX6_doAsked_30 : decode cX6_doAsked 30 = .ok (.iaload, 1) := by decide +kernel
theorem dX6_doAsked_31 : decode cX6_doAsked 31 = .ok (.lookupswitch 66 #[(7, 33), (25, 44), (47, 55)], 33) := by decide +kernel
theorem dX6_doAsked_64 : decode cX6_doAsked 64 = .ok (.aload_n 0, 1) := by decide +kernel
theorem dX6_doAsked_65 : decode cX6_doAsked 65 = .ok (.getfield 13, 3) := by decide +kernel
theorem dX6_doAsked_68 : decode cX6_doAsked 68 = .ok (.iload_n 2, 1) := by decide +kernel
theorem dX6_doAsked_69 : decode cX6_doAsked 69 = .ok (.putfield 101, 3) := by decide +kernel
theorem dX6_doAsked_72 : decode cX6_doAsked 72 = .ok (.goto 25, 3) := by decide +kernel
theorem dX6_doAsked_75 : decode cX6_doAsked 75 = .ok (.aload_n 0, 1) := by decide +kernel
theorem dX6_doAsked_76 : decode cX6_doAsked 76 = .ok (.getfield 13, 3) := by decide +kernel
theorem dX6_doAsked_79 : decode cX6_doAsked 79 = .ok (.iload_n 2, 1) := by decide +kernel
theorem dX6_doAsked_80 : decode cX6_doAsked 80 = .ok (.putfield 104, 3) := by decide +kernel
theorem dX6_doAsked_83 : decode cX6_doAsked 83 = .ok (.goto 14, 3) := by decide +kernel
theorem dX6_doAsked_86 : decode cX6_doAsked 86 = .ok (.aload_n 0, 1) := by decide +kernel
theorem dX6_doAsked_87 : decode cX6_doAsked 87 = .ok (.getfield 13, 3) := by decide +kernel
theorem dX6_doAsked_90 : decode cX6_doAsked 90 = .ok (.iload_n 2, 1) := by decide +kernel
theorem dX6_doAsked_91 : decode cX6_doAsked 91 = .ok (.invokevirtual 107, 3) := by decide +kernel
theorem dX6_doAsked_94 : decode cX6_doAsked 94 = .ok (.goto 3, 3) := by decide +kernel
theorem dX6_doAsked_97 : decode cX6_doAsked 97 = .ok (.return_, 1) := by decide +kernel
theorem dX6_doLonger_0 : decode cX6_doLonger 0 = .ok (.iconst 1, 1) := by decide +kernel
theorem dX6_doLonger_1 : decode cX6_doLonger 1 = .ok (.aload_n 0, 1) := by decide +kernel
theorem dX6_doLonger_2 : decode cX6_doLonger 2 = .ok (.getfield 9, 3) := by decide +kernel
theorem dX6_doLonger_5 : decode cX6_doLonger 5 = .ok (.iconst 0, 1) := by decide +kernel
theorem dX6_doLonger_6 : decode cX6_doLonger 6 = .ok (.iaload, 1) := by decide +kernel
theorem dX6_doLonger_7 : decode cX6_doLonger 7 = .ok (.invokestatic 111, 3) := by decide +kernel
theorem dX6_doLonger_10 : decode cX6_doLonger 10 = .ok (.istore_n 2, 1) := by decide +kernel
theorem dX6_doLonger_11 : decode cX6_doLonger 11 = .ok (.iload_n 1, 1) := by decide +kernel
theorem dX6_doLonger_12 : decode cX6_doLonger 12 = .ok (.tableswitch 540 64 114 #[443, 220, 246, 272, 298, 540, 540, 324, 364, 540, 389, 405, 421, 432, 540, 540, 454, 540, 540, 476, 487, 540, 540, 540, 465, 540, 540, 540, 540, 540, 540, 540, 540, 540, 540, 540, 344, 540, 364, 540, 522, 540, 540, 540, 522, 515, 540, 540, 540, 540, 498], 220) := by decide +kernel
theorem dX6_doLonger_232 : decode cX6_doLonger 232 = .ok (.aload_n 0, 1) := by decide +kernel
theorem dX6_doLonger_233 : decode cX6_doLonger 233 = .ok (.getfield 13, 3) := by decide +kernel
theorem dX6_doLonger_236 : decode cX6_doLonger 236 = .ok (.aload_n 0, 1) := by decide +kernel
theorem dX6_doLonger_237 : decode cX6_doLonger 237 = .ok (.getfield 13, 3) := by decide +kernel
theorem dX6_doLonger_240 : decode cX6_doLonger 240 = .ok (.getfield 21, 3) := by decide +kernel
theorem dX6_doLonger_243 : decode cX6_doLonger 243 = .ok (.aload_n 0, 1) := by decide +kernel
theorem dX6_doLonger_244 : decode cX6_doLonger 244 = .ok (.getfield 13, 3) := by decide +kernel
theorem dX6_doLonger_247 : decode cX6_doLonger 247 = .ok (.getfield 26, 3) := by decide +kernel
theorem dX6_doLonger_250 : decode cX6_doLonger 250 = .ok (.iload_n 2, 1) := by decide +kernel
theorem dX6_doLonger_251 : decode cX6_doLonger 251 = .ok (.isub, 1) := by decide +kernel
theorem dX6_doLonger_252 : decode cX6_doLonger 252 = .ok (.invokevirtual 29, 3) := by decide +kernel
theorem dX6_doLonger_255 : decode cX6_doLonger 255 = .ok (.goto 297, 3) := by decide +kernel
theorem dX6_doLonger_258 : decode cX6_doLonger 258 = .ok (.aload_n 0, 1) := by decide +kernel
theorem dX6_doLonger_259 : decode cX6_doLonger 259 = .ok (.getfield 13, 3) := by decide +kernel
theorem dX6_doLonger_262 : decode cX6_doLonger 262 = .ok (.aload_n 0, 1) := by decide +kernel
theorem dX6_doLonger_263 : decode cX6_doLonger 263 = .ok (.getfield 13, 3) := by decide +kernel
theorem dX6_doLonger_266 : decode cX6_doLonger 266 = .ok (.getfield 21, 3) := by decide +kernel
theorem dX6_doLonger_269 : decode cX6_doLonger 269 = .ok (.aload_n 0, 1) := by decide +kernel
theorem dX6_doLonger_270 : decode cX6_doLonger 270 = .ok (.getfield 13, 3) := by decide +kernel
theorem dX6_doLonger_273 : decode cX6_doLonger 273 = .ok (.getfield 26, 3) := by decide +kernel
theorem dX6_doLonger_276 : decode cX6_doLonger 276 = .ok (.iload_n 2, 1) := by decide +kernel
theorem dX6_doLonger_277 : decode cX6_doLonger 277 = .ok (.iadd, 1) := by decide +kernel
theorem dX6_doLonger_278 : decode cX6_doLonger 278 = .ok (.invokevirtual 29, 3) := by decide +kernel
theorem dX6_doLonger_281 : decode cX6_doLonger 281 = .ok (.goto 271, 3) := by decide +kernel
theorem dX6_doLonger_284 : decode cX6_doLonger 284 = .ok (.aload_n 0, 1) := by decide +kernel
theorem dX6_doLonger_285 : decode cX6_doLonger 285 = .ok (.getfield 13, 3) := by decide +kernel
theorem dX6_doLonger_288 : decode cX6_doLonger 288 = .ok (.aload_n 0, 1) := by decide +kernel
theorem dX6_doLonger_289 : decode cX6_doLonger 289 = .ok (.getfield 13, 3) := by decide +kernel
theorem dX6_doLonger_292 : decode cX6_doLonger 292 = .ok (.getfield 21, 3) := by decide +kernel
theorem dX6_doLonger_295 : decode cX6_doLonger 295 = .ok (.iload_n 2, 1) := by decide +kernel
theorem dX6_doLonger_296 : decode cX6_doLonger 296 = .ok (.iadd, 1) := by decide +kernel
theorem dX6_doLonger_297 : decode cX6_doLonger 297 = .ok (.aload_n 0, 1) := by decide +kernel
theorem dX6_doLonger_298 : decode cX6_doLonger 298 = .ok (.getfield 13, 3) := by decide +kernel
theorem dX6_doLonger_301 : decode cX6_doLonger 301 = .ok (.getfield 26, 3) := by decide +kernel
theorem dX6_doLonger_304 : decode cX6_doLonger 304 = .ok (.invokevirtual 29, 3) := by decide +kernel
theorem dX6_doLonger_307 : decode cX6_doLonger 307 = .ok (.goto 245, 3) := by decide +kernel
theorem dX6_doLonger_310 : decode cX6_doLonger 310 = .ok (.aload_n 0, 1) := by decide +kernel
theorem dX6_doLonger_311 : decode cX6_doLonger 311 = .ok (.getfield 13, 3) := by decide +kernel
theorem dX6_doLonger_314 : decode cX6_doLonger 314 = .ok (.aload_n 0, 1) := by decide +kernel
theorem dX6_doLonger_315 : decode cX6_doLonger 315 = .ok (.getfield 13, 3) := by decide +kernel
theorem dX6_doLonger_318 : decode cX6_doLonger 318 = .ok (.getfield 21, 3) := by decide +kernel
theorem dX6_doLonger_321 : decode cX6_doLonger 321 = .ok (.iload_n 2, 1) := by decide +kernel
theorem dX6_doLonger_322 : decode cX6_doLonger 322 = .ok (.isub, 1) := by decide +kernel
theorem dX6_doLonger_323 : decode cX6_doLonger 323 = .ok (.aload_n 0, 1) := by decide +kernel
theorem dX6_doLonger_324 : decode cX6_doLonger 324 = .ok (.getfield 13, 3) := by decide +kernel
theorem dX6_doLonger_327 : decode cX6_doLonger 327 = .ok (.getfield 26, 3) := by decide +kernel
theorem dX6_doLonger_330 : decode cX6_doLonger 330 = .ok (.invokevirtual 29, 3) := by decide +kernel
theorem dX6_doLonger_333 : decode cX6_doLonger 333 = .ok (.goto 219, 3) := by decide +kernel
theorem dX6_doLonger_336 : decode cX6_doLonger 336 = .ok (.aload_n 0, 1) := by decide +kernel
theorem dX6_doLonger_337 : decode cX6_doLonger 337 = .ok (.getfield 13, 3) := by decide +kernel
theorem dX6_doLonger_340 : decode cX6_doLonger 340 = .ok (.iload_n 2, 1) := by decide +kernel
theorem dX6_doLonger_341 : decode cX6_doLonger 341 = .ok (.iconst 1, 1) := by decide +kernel
theorem dX6_doLonger_342 : decode cX6_doLonger 342 = .ok (.isub, 1) := by decide +kernel
theorem dX6_doLonger_343 : decode cX6_doLonger 343 = .ok (.aload_n 0, 1) := by decide +kernel
theorem dX6_doLonger_344 : decode cX6_doLonger 344 = .ok (.getfield 13, 3) := by decide +kernel
theorem dX6_doLonger_347 : decode cX6_doLonger 347 = .ok (.getfield 26, 3) := by decide +kernel
theorem dX6_doLonger_350 : decode cX6_doLonger 350 = .ok (.invokevirtual 29, 3) := by decide +kernel
theorem dX6_doLonger_353 : decode cX6_doLonger 353 = .ok (.goto 199, 3) := by decide +kernel
theorem dX6_doLonger_356 : decode cX6_doLonger 356 = .ok (.aload_n 0, 1) := by decide +kernel
theorem dX6_doLonger_357 : decode cX6_doLonger 357 = .ok (.getfield 13, 3) := by decide +kernel
theorem dX6_doLonger_360 : decode cX6_doLonger 360 = .ok (.aload_n 0, 1) := by decide +kernel
theorem dX6_doLonger_361 : decode cX6_doLonger 361 = .ok (.getfield 13, 3) := by decide +kernel
theorem dX6_doLonger_364 : decode cX6_doLonger 364 = .ok (.getfield 21, 3) := by decide +kernel
theorem dX6_doLonger_367 : decode cX6_doLonger 367 = .ok (.iload_n 2, 1) := by decide +kernel
theorem dX6_doLonger_368 : decode cX6_doLonger 368 = .ok (.iconst 1, 1) := by decide +kernel
theorem dX6_doLonger_369 : decode cX6_doLonger 369 = .ok (.isub, 1) := by decide +kernel
theorem dX6_doLonger_370 : decode cX6_doLonger 370 = .ok (.invokevirtual 29, 3) := by decide +kernel
theorem dX6_doLonger_373 : decode cX6_doLonger 373 = .ok (.goto 179, 3) := by decide +kernel
theorem dX6_doLonger_376 : decode cX6_doLonger 376 = .ok (.aload_n 0, 1) := by decide +kernel
theorem dX6_doLonger_377 : decode cX6_doLonger 377 = .ok (.getfield 13, 3) := by decide +kernel
theorem dX6_doLonger_380 : decode cX6_doLonger 380 = .ok (.iconst 1, 1) := by decide +kernel
theorem dX6_doLonger_381 : decode cX6_doLonger 381 = .ok (.aload_n 0, 1) := by decide +kernel
theorem dX6_doLonger_382 : decode cX6_doLonger 382 = .ok (.getfield 9, 3) := by decide +kernel
theorem dX6_doLonger_385 : decode cX6_doLonger 385 = .ok (.iconst 1, 1) := by decide +kernel
theorem dX6_doLonger_386 : decode cX6_doLonger 386 = .ok (.iaload, 1) := by decide +kernel
theorem dX6_doLonger_387 : decode cX6_doLonger 387 = .ok (.invokestatic 111, 3) := by decide +kernel
theorem dX6_doLonger_390 : decode cX6_doLonger 390 = .ok (.iconst 1, 1) := by decide +kernel
theorem dX6_doLonger_391 : decode cX6_doLonger 391 = .ok (.isub, 1) := by decide +kernel
theorem dX6_doLonger_392 : decode cX6_doLonger 392 = .ok (.iload_n 2, 1) := by decide +kernel
theorem dX6_doLonger_393 : decode cX6_doLonger 393 = .ok (.iconst 1, 1) := by decide +kernel
theorem dX6_doLonger_394 : decode cX6_doLonger 394 = .ok (.isub, 1) := by decide +kernel
theorem dX6_doLonger_395 : decode cX6_doLonger 395 = .ok (.invokevirtual 29, 3) := by decide +kernel
theorem dX6_doLonger_398 : decode cX6_doLonger 398 = .ok (.goto 154, 3) := by decide +kernel
theorem dX6_doLonger_401 : decode cX6_doLonger 401 = .ok (.aload_n 0, 1) := by decide +kernel
theorem dX6_doLonger_402 : decode cX6_doLonger 402 = .ok (.getfield 13, 3) := by decide +kernel
theorem dX6_doLonger_405 : decode cX6_doLonger 405 = .ok (.aload_n 0, 1) := by decide +kernel
theorem dX6_doLonger_406 : decode cX6_doLonger 406 = .ok (.getfield 9, 3) := by decide +kernel
theorem dX6_doLonger_409 : decode cX6_doLonger 409 = .ok (.iconst 0, 1) := by decide +kernel
theorem dX6_doLonger_410 : decode cX6_doLonger 410 = .ok (.iaload, 1) := by decide +kernel
theorem dX6_doLonger_411 : decode cX6_doLonger 411 = .ok (.invokevirtual 114, 3) := by decide +kernel
theorem dX6_doLonger_414 : decode cX6_doLonger 414 = .ok (.goto 138, 3) := by decide +kernel
theorem dX6_doLonger_417 : decode cX6_doLonger 417 = .ok (.aload_n 0, 1) := by decide +kernel
theorem dX6_doLonger_418 : decode cX6_doLonger 418 = .ok (.getfield 13, 3) := by decide +kernel
theorem dX6_doLonger_421 : decode cX6_doLonger 421 = .ok (.aload_n 0, 1) := by decide +kernel
theorem dX6_doLonger_422 : decode cX6_doLonger 422 = .ok (.getfield 9, 3) := by decide +kernel
theorem dX6_doLonger_425 : decode cX6_doLonger 425 = .ok (.iconst 0, 1) := by decide +kernel
theorem dX6_doLonger_426 : decode cX6_doLonger 426 = .ok (.iaload, 1) := by decide +kernel
theorem dX6_doLonger_427 : decode cX6_doLonger 427 = .ok (.invokevirtual 117, 3) := by decide +kernel
theorem dX6_doLonger_430 : decode cX6_doLonger 430 = .ok (.goto 122, 3) := by decide +kernel
theorem dX6_doLonger_433 : decode cX6_doLonger 433 = .ok (.aload_n 0, 1) := by decide +kernel
theorem dX6_doLonger_434 : decode cX6_doLonger 434 = .ok (.getfield 13, 3) := by decide +kernel
theorem dX6_doLonger_437 : decode cX6_doLonger 437 = .ok (.iload_n 2, 1) := by decide +kernel
theorem dX6_doLonger_438 : decode cX6_doLonger 438 = .ok (.invokevirtual 120, 3) := by decide +kernel
theorem dX6_doLonger_441 : decode cX6_doLonger 441 = .ok (.goto 111, 3) := by decide +kernel
theorem dX6_doLonger_444 : decode cX6_doLonger 444 = .ok (.aload_n 0, 1) := by decide +kernel
theorem dX6_doLonger_445 : decode cX6_doLonger 445 = .ok (.getfield 13, 3) := by decide +kernel
theorem dX6_doLonger_448 : decode cX6_doLonger 448 = .ok (.iload_n 2, 1) := by decide +kernel
theorem dX6_doLonger_449 : decode cX6_doLonger 449 = .ok (.invokevirtual 123, 3) := by decide +kernel
theorem dX6_doLonger_452 : decode cX6_doLonger 452 = .ok (.goto 100, 3) := by decide +kernel
theorem dX6_doLonger_455 : decode cX6_doLonger 455 = .ok (.aload_n 0, 1) := by decide +kernel
theorem dX6_doLonger_456 : decode cX6_doLonger 456 = .ok (.getfield 13, 3) := by decide +kernel
theorem dX6_doLonger_459 : decode cX6_doLonger 459 = .ok (.iload_n 2, 1) := by decide +kernel
theorem dX6_doLonger_460 : decode cX6_doLonger 460 = .ok (.invokevirtual 126, 3) := by decide +kernel
theorem dX6_doLonger_463 : decode cX6_doLonger 463 = .ok (.goto 89, 3) := by decide +kernel
theorem dX6_doLonger_466 : decode cX6_doLonger 466 = .ok (.aload_n 0, 1) := by decide +kernel
theorem dX6_doLonger_467 : decode cX6_doLonger 467 = .ok (.getfield 13, 3) := by decide +kernel
theorem dX6_doLonger_470 : decode cX6_doLonger 470 = .ok (.iload_n 2, 1) := by decide +kernel
theorem dX6_doLonger_471 : decode cX6_doLonger 471 = .ok (.invokevirtual 129, 3) := by decide +kernel
theorem dX6_doLonger_474 : decode cX6_doLonger 474 = .ok (.goto 78, 3) := by decide +kernel
theorem dX6_doLonger_477 : decode cX6_doLonger 477 = .ok (.aload_n 0, 1) := by decide +kernel
theorem dX6_doLonger_478 : decode cX6_doLonger 478 = .ok (.getfield 13, 3) := by decide +kernel
theorem dX6_doLonger_481 : decode cX6_doLonger 481 = .ok (.iload_n 2, 1) := by decide +kernel
theorem dX6_doLonger_482 : decode cX6_doLonger 482 = .ok (.invokevirtual 132, 3) := by decide +kernel
theorem dX6_doLonger_485 : decode cX6_doLonger 485 = .ok (.goto 67, 3) := by decide +kernel
theorem dX6_doLonger_488 : decode cX6_doLonger 488 = .ok (.aload_n 0, 1) := by decide +kernel
theorem dX6_doLonger_489 : decode cX6_doLonger 489 = .ok (.getfield 13, 3) := by decide +kernel
theorem dX6_doLonger_492 : decode cX6_doLonger 492 = .ok (.iload_n 2, 1) := by decide +kernel
theorem dX6_doLonger_493 : decode cX6_doLonger 493 = .ok (.invokevirtual 135, 3) := by decide +kernel
theorem dX6_doLonger_496 : decode cX6_doLonger 496 = .ok (.goto 56, 3) := by decide +kernel
theorem dX6_doLonger_499 : decode cX6_doLonger 499 = .ok (.aload_n 0, 1) := by decide +kernel
theorem dX6_doLonger_500 : decode cX6_doLonger 500 = .ok (.getfield 13, 3) := by decide +kernel
theorem dX6_doLonger_503 : decode cX6_doLonger 503 = .ok (.iload_n 2, 1) := by decide +kernel
theorem dX6_doLonger_504 : decode cX6_doLonger 504 = .ok (.invokevirtual 138, 3) := by decide +kernel
theorem dX6_doLonger_507 : decode cX6_doLonger 507 = .ok (.goto 45, 3) := by decide +kernel
theorem dX6_doLonger_510 : decode cX6_doLonger 510 = .ok (.aload_n 0, 1) := by decide +kernel
theorem dX6_doLonger_511 : decode cX6_doLonger 511 = .ok (.getfield 13, 3) := by decide +kernel
theorem dX6_doLonger_514 : decode cX6_doLonger 514 = .ok (.iload_n 2, 1) := by decide +kernel
theorem dX6_doLonger_515 : decode cX6_doLonger 515 = .ok (.aload_n 0, 1) := by decide +kernel
theorem dX6_doLonger_516 : decode cX6_doLonger 516 = .ok (.getfield 9, 3) := by decide +kernel
theorem dX6_doLonger_519 : decode cX6_doLonger 519 = .ok (.iconst 1, 1) := by decide +kernel
theorem dX6_doLonger_520 : decode cX6_doLonger 520 = .ok (.iaload, 1) := by decide +kernel
theorem dX6_doLonger_521 : decode cX6_doLonger 521 = .ok (.invokevirtual 141, 3) := by decide +kernel
theorem dX6_doLonger_524 : decode cX6_doLonger 524 = .ok (.goto 28, 3) := by decide +kernel
theorem dX6_doLonger_527 : decode cX6_doLonger 527 = .ok (.aload_n 0, 1) := by decide +kernel
theorem dX6_doLonger_528 : decode cX6_doLonger 528 = .ok (.invokevirtual 144, 3) := by decide +kernel
theorem dX6_doLonger_531 : decode cX6_doLonger 531 = .ok (.goto 21, 3) := by decide +kernel
theorem dX6_doLonger_534 : decode cX6_doLonger 534 = .ok (.aload_n 0, 1) := by decide +kernel
theorem dX6_doLonger_535 : decode cX6_doLonger 535 = .ok (.iload_n 1, 1) := by decide +kernel
theorem dX6_doLonger_536 : decode cX6_doLonger 536 = .ok (.bipush 104, 2) := by decide +kernel
theorem dX6_doLonger_538 : decode cX6_doLonger 538 = .ok (.if_icmp .ne 7, 3) := by decide +kernel
theorem dX6_doLonger_541 : decode cX6_doLonger 541 = .ok (.iconst 1, 1) := by decide +kernel
theorem dX6_doLonger_542 : decode cX6_doLonger 542 = .ok (.goto 4, 3) := by decide +kernel
theorem dX6_doLonger_545 : decode cX6_doLonger 545 = .ok (.iconst 0, 1) := by decide +kernel
theorem dX6_doLonger_546 : decode cX6_doLonger 546 = .ok (.invokevirtual 147, 3) := by decide +kernel
theorem dX6_doLonger_549 : decode cX6_doLonger 549 = .ok (.goto 3, 3) := by decide +kernel
theorem dX6_doLonger_552 : decode cX6_doLonger 552 = .ok (.return_, 1) := by decide +kernel
theorem dX6_setInsertMode_0 : decode cX6_setInsertMode 0 = .ok (.aload_n 0, 1) := by decide +kernel
theorem dX6_setInsertMode_1 : decode cX6_setInsertMode 1 = .ok (.getfield 9, 3) := by decide +kernel
theorem dX6_setInsertMode_4 : decode cX6_setInsertMode 4 = .ok (.iconst 0, 1) := by decide +kernel
theorem dX6_setInsertMode_5 : decode cX6_setInsertMode 5 = .ok (.iaload, 1) := by decide +kernel
theorem dX6_setInsertMode_6 : decode cX6_setInsertMode 6 = .ok (.iconst 4, 1) := by decide +kernel
theorem dX6_setInsertMode_7 : decode cX6_setInsertMode 7 = .ok (.if_icmp .ne 11, 3) := by decide +kernel
theorem dX6_setInsertMode_10 : decode cX6_setInsertMode 10 = .ok (.aload_n 0, 1) := by decide +kernel
theorem dX6_setInsertMode_11 : decode cX6_setInsertMode 11 = .ok (.getfield 13, 3) := by decide +kernel
theorem dX6_setInsertMode_14 : decode cX6_setInsertMode 14 = .ok (.iload_n 1, 1) := by decide +kernel
theorem dX6_setInsertMode_15 : decode cX6_setInsertMode 15 = .ok (.putfield 150, 3) := by decide +kernel
theorem dX6_setInsertMode_18 : decode cX6_setInsertMode 18 = .ok (.return_, 1) := by decide +kernel
theorem dX6_setPen_0 : decode cX6_setPen 0 = .ok (.aload_n 0, 1) := by decide +kernel
theorem dX6_setPen_1 : decode cX6_setPen 1 = .ok (.getfield 77, 3) := by decide +kernel
theorem dX6_setPen_4 : decode cX6_setPen 4 = .ok (.ifCond .eq 12, 3) := by decide +kernel
theorem dX6_setPen_7 : decode cX6_setPen 7 = .ok (.aload_n 0, 1) := by decide +kernel
theorem dX6_setPen_8 : decode cX6_setPen 8 = .ok (.getfield 74, 3) := by decide +kernel
theorem dX6_setPen_11 : decode cX6_setPen 11 = .ok (.iconst 1, 1) := by decide +kernel
theorem dX6_setPen_12 : decode cX6_setPen 12 = .ok (.iadd, 1) := by decide +kernel
theorem dX6_setPen_13 : decode cX6_setPen 13 = .ok (.goto 7, 3) := by decide +kernel
theorem dX6_setPen_16 : decode cX6_setPen 16 = .ok (.aload_n 0, 1) := by decide +kernel
theorem dX6_setPen_17 : decode cX6_setPen 17 = .ok (.getfield 74, 3) := by decide +kernel
theorem dX6_setPen_20 : decode cX6_setPen 20 = .ok (.istore_n 1, 1) := by decide +kernel
theorem dX6_setPen_21 : decode cX6_setPen 21 = .ok (.iload_n 1, 1) := by decide +kernel
theorem dX6_setPen_22 : decode cX6_setPen 22 = .ok (.ifCond .ne 7, 3) := by decide +kernel
theorem dX6_setPen_25 : decode cX6_setPen 25 = .ok (.iconst 0, 1) := by decide +kernel
theorem dX6_setPen_26 : decode cX6_setPen 26 = .ok (.goto 10, 3) := by decide +kernel
theorem dX6_setPen_29 : decode cX6_setPen 29 = .ok (.aload_n 0, 1) := by decide +kernel
theorem dX6_setPen_30 : decode cX6_setPen 30 = .ok (.getfield 13, 3) := by decide +kernel
theorem dX6_setPen_33 : decode cX6_setPen 33 = .ok (.getfield 153, 3) := by decide +kernel
theorem dX6_setPen_36 : decode cX6_setPen 36 = .ok (.istore_n 2, 1) := by decide +kernel
theorem dX6_setPen_37 : decode cX6_setPen 37 = .ok (.iconst 0, 1) := by decide +kernel
theorem dX6_setPen_38 : decode cX6_setPen 38 = .ok (.istore_n 3, 1) := by decide +kernel
theorem dX6_setPen_39 : decode cX6_setPen 39 = .ok (.iload_n 3, 1) := by decide +kernel
theorem dX6_setPen_40 : decode cX6_setPen 40 = .ok (.iconst 4, 1) := by decide +kernel
theorem dX6_setPen_41 : decode cX6_setPen 41 = .ok (.if_icmp .ge 25, 3) := by decide +kernel
theorem dX6_setPen_44 : decode cX6_setPen 44 = .ok (.iload_n 3, 1) := by decide +kernel
theorem dX6_setPen_45 : decode cX6_setPen 45 = .ok (.iload_n 1, 1) := by decide +kernel
theorem dX6_setPen_46 : decode cX6_setPen 46 = .ok (.if_icmp .ge 20, 3) := by decide +kernel
theorem dX6_setPen_49 : decode cX6_setPen 49 = .ok (.iload_n 2, 1) := by decide +kernel
theorem dX6_setPen_50 : decode cX6_setPen 50 = .ok (.aload_n 0, 1) := by decide +kernel
theorem dX6_setPen_51 : decode cX6_setPen 51 = .ok (.getfield 9, 3) := by decide +kernel
theorem dX6_setPen_54 : decode cX6_setPen 54 = .ok (.iload_n 3, 1) := by decide +kernel
theorem dX6_setPen_55 : decode cX6_setPen 55 = .ok (.iaload, 1) := by decide +kernel
theorem dX6_setPen_56 : decode cX6_setPen 56 = .ok (.invokestatic 156, 3) := by decide +kernel
theorem dX6_setPen_59 : decode cX6_setPen 59 = .ok (.istore_n 2, 1) := by decide +kernel
theorem dX6_setPen_60 : decode cX6_setPen 60 = .ok (.iinc 3 1, 3) := by decide +kernel
theorem dX6_setPen_63 : decode cX6_setPen 63 = .ok (.goto (-24), 3) := by decide +kernel
theorem dX6_setPen_66 : decode cX6_setPen 66 = .ok (.aload_n 0, 1) := by decide +kernel
theorem dX6_setPen_67 : decode cX6_setPen 67 = .ok (.getfield 13, 3) := by decide +kernel
theorem dX6_setPen_70 : decode cX6_setPen 70 = .ok (.iload_n 2, 1) := by decide +kernel
theorem dX6_setPen_71 : decode cX6_setPen 71 = .ok (.putfield 153, 3) := by decide +kernel
theorem dX6_setPen_74 : decode cX6_setPen 74 = .ok (.return_, 1) := by decide +kernel
theorem dX6_changedPen_0 : decode cX6_changedPen 0 = .ok (.iload_n 1, 1) := by decide +kernel
theorem dX6_changedPen_1 : decode cX6_changedPen 1 = .ok (.bipush 30, 2) := by decide +kernel
theorem dX6_changedPen_3 : decode cX6_changedPen 3 = .ok (.if_icmp .lt 18, 3) := by decide +kernel
theorem dX6_changedPen_6 : decode cX6_changedPen 6 = .ok (.iload_n 1, 1) := by decide +kernel
theorem dX6_changedPen_7 : decode cX6_changedPen 7 = .ok (.bipush 37, 2) := by decide +kernel
theorem dX6_changedPen_9 : decode cX6_changedPen 9 = .ok (.if_icmp .gt 12, 3) := by decide +kernel
theorem dX6_changedPen_12 : decode cX6_changedPen 12 = .ok (.iload_n 0, 1) := by decide +kernel
theorem dX6_changedPen_13 : decode cX6_changedPen 13 = .ok (.iload_n 1, 1) := by decide +kernel
theorem dX6_changedPen_14 : decode cX6_changedPen 14 = .ok (.bipush 29, 2) := by decide +kernel
theorem dX6_changedPen_16 : decode cX6_changedPen 16 = .ok (.isub, 1) := by decide +kernel
theorem dX6_changedPen_17 : decode cX6_changedPen 17 = .ok (.invokestatic 159, 3) := by decide +kernel
theorem dX6_changedPen_20 : decode cX6_changedPen 20 = .ok (.ireturn, 1) := by decide +kernel
theorem dX6_changedPen_21 : decode cX6_changedPen 21 = .ok (.iload_n 1, 1) := by decide +kernel
theorem dX6_changedPen_22 : decode cX6_changedPen 22 = .ok (.bipush 40, 2) := by decide +kernel
theorem dX6_changedPen_24 : decode cX6_changedPen 24 = .ok (.if_icmp .lt 18, 3) := by decide +kernel
theorem dX6_changedPen_27 : decode cX6_changedPen 27 = .ok (.iload_n 1, 1) := by decide +kernel
theorem dX6_changedPen_28 : decode cX6_changedPen 28 = .ok (.bipush 47, 2) := by decide +kernel
theorem dX6_changedPen_30 : decode cX6_changedPen 30 = .ok (.if_icmp .gt 12, 3) := by decide +kernel
theorem dX6_changedPen_33 : decode cX6_changedPen 33 = .ok (.iload_n 0, 1) := by decide +kernel
theorem dX6_changedPen_34 : decode cX6_changedPen 34 = .ok (.iload_n 1, 1) := by decide +kernel
theorem dX6_changedPen_35 : decode cX6_changedPen 35 = .ok (.bipush 39, 2) := by decide +kernel
theorem dX6_changedPen_37 : decode cX6_changedPen 37 = .ok (.isub, 1) := by decide +kernel
theorem dX6_changedPen_38 : decode cX6_changedPen 38 = .ok (.invokestatic 162, 3) := by decide +kernel
theorem dX6_changedPen_41 : decode cX6_changedPen 41 = .ok (.ireturn, 1) := by decide +kernel
theorem dX6_changedPen_42 : decode cX6_changedPen 42 = .ok (.iload_n 1, 1) := by decide +kernel
theorem dX6_changedPen_43 : decode cX6_changedPen 43 = .ok (.lookupswitch 140 #[(0, 81), (1, 85), (4, 91), (7, 97), (22, 103), (24, 110), (27, 117), (39, 124), (49, 132)], 81) := by decide +kernel
theorem dX6_changedPen_124 : decode cX6_changedPen 124 = .ok (.iconst 0, 1) := by decide +kernel
theorem dX6_changedPen_125 : decode cX6_changedPen 125 = .ok (.goto 59, 3) := by decide +kernel
theorem dX6_changedPen_128 : decode cX6_changedPen 128 = .ok (.iload_n 0, 1) := by decide +kernel
theorem dX6_changedPen_129 : decode cX6_changedPen 129 = .ok (.iconst 1, 1) := by decide +kernel
theorem dX6_changedPen_130 : decode cX6_changedPen 130 = .ok (.ior, 1) := by decide +kernel
theorem dX6_changedPen_131 : decode cX6_changedPen 131 = .ok (.goto 53, 3) := by decide +kernel
theorem dX6_changedPen_134 : decode cX6_changedPen 134 = .ok (.iload_n 0, 1) := by decide +kernel
theorem dX6_changedPen_135 : decode cX6_changedPen 135 = .ok (.iconst 2, 1) := by decide +kernel
theorem dX6_changedPen_136 : decode cX6_changedPen 136 = .ok (.ior, 1) := by decide +kernel
theorem dX6_changedPen_137 : decode cX6_changedPen 137 = .ok (.goto 47, 3) := by decide +kernel
theorem dX6_changedPen_140 : decode cX6_changedPen 140 = .ok (.iload_n 0, 1) := by decide +kernel
theorem dX6_changedPen_141 : decode cX6_changedPen 141 = .ok (.iconst 4, 1) := by decide +kernel
theorem dX6_changedPen_142 : decode cX6_changedPen 142 = .ok (.ior, 1) := by decide +kernel
theorem dX6_changedPen_143 : decode cX6_changedPen 143 = .ok (.goto 41, 3) := by decide +kernel
theorem dX6_changedPen_146 : decode cX6_changedPen 146 = .ok (.iload_n 0, 1) := by decide +kernel
theorem dX6_changedPen_147 : decode cX6_changedPen 147 = .ok (.bipush (-2), 2) := by decide +kernel
theorem dX6_changedPen_149 : decode cX6_changedPen 149 = .ok (.iand, 1) := by decide +kernel
theorem dX6_changedPen_150 : decode cX6_changedPen 150 = .ok (.goto 34, 3) := by decide +kernel
theorem dX6_changedPen_153 : decode cX6_changedPen 153 = .ok (.iload_n 0, 1) := by decide +kernel
theorem dX6_changedPen_154 : decode cX6_changedPen 154 = .ok (.bipush (-3), 2) := by decide +kernel
theorem dX6_changedPen_156 : decode cX6_changedPen 156 = .ok (.iand, 1) := by decide +kernel
theorem dX6_changedPen_157 : decode cX6_changedPen 157 = .ok (.goto 27, 3) := by decide +kernel
theorem dX6_changedPen_160 : decode cX6_changedPen 160 = .ok (.iload_n 0, 1) := by decide +kernel
theorem dX6_changedPen_161 : decode cX6_changedPen 161 = .ok (.bipush (-5), 2) := by decide +kernel
theorem dX6_changedPen_163 : decode cX6_changedPen 163 = .ok (.iand, 1) := by decide +kernel
theorem dX6_changedPen_164 : decode cX6_changedPen 164 = .ok (.goto 20, 3) := by decide +kernel
theorem dX6_changedPen_167 : decode cX6_changedPen 167 = .ok (.iload_n 0, 1) := by decide +kernel
theorem dX6_changedPen_168 : decode cX6_changedPen 168 = .ok (.iconst 0, 1) := by decide +kernel
theorem dX6_changedPen_169 : decode cX6_changedPen 169 = .ok (.invokestatic 159, 3) := by decide +kernel
theorem dX6_changedPen_172 : decode cX6_changedPen 172 = .ok (.goto 12, 3) := by decide +kernel
theorem dX6_changedPen_175 : decode cX6_changedPen 175 = .ok (.iload_n 0, 1) := by decide +kernel
theorem dX6_changedPen_176 : decode cX6_changedPen 176 = .ok (.iconst 0, 1) := by decide +kernel
theorem dX6_changedPen_177 : decode cX6_changedPen 177 = .ok (.invokestatic 162, 3) := by decide +kernel
theorem dX6_changedPen_180 : decode cX6_changedPen 180 = .ok (.goto 4, 3) := by decide +kernel
theorem dX6_changedPen_183 : decode cX6_changedPen 183 = .ok (.iload_n 0, 1) := by decide +kernel
theorem dX6_changedPen_184 : decode cX6_changedPen 184 = .ok (.ireturn, 1) := by decide +kernel
theorem dX6_withColour_0 : decode cX6_withColour 0 = .ok (.iload_n 0, 1) := by decide +kernel
theorem dX6_withColour_1 : decode cX6_withColour 1 = .ok (.sipush (-241), 3) := by decide +kernel
theorem dX6_withColour_4 : decode cX6_withColour 4 = .ok (.iand, 1) := by decide +kernel
theorem dX6_withColour_5 : decode cX6_withColour 5 = .ok (.iload_n 1, 1) := by decide +kernel
theorem dX6_withColour_6 : decode cX6_withColour 6 = .ok (.iconst 4, 1) := by decide +kernel
theorem dX6_withColour_7 : decode cX6_withColour 7 = .ok (.ishl, 1) := by decide +kernel
theorem dX6_withColour_8 : decode cX6_withColour 8 = .ok (.ior, 1) := by decide +kernel
theorem dX6_withColour_9 : decode cX6_withColour 9 = .ok (.ireturn, 1) := by decide +kernel
theorem dX6_withGround_0 : decode cX6_withGround 0 = .ok (.iload_n 0, 1) := by decide +kernel
theorem dX6_withGround_1 : decode cX6_withGround 1 = .ok (.sipush (-3841), 3) := by decide +kernel
theorem dX6_withGround_4 : decode cX6_withGround 4 = .ok (.iand, 1) := by decide +kernel
theorem dX6_withGround_5 : decode cX6_withGround 5 = .ok (.iload_n 1, 1) := by decide +kernel
theorem dX6_withGround_6 : decode cX6_withGround 6 = .ok (.bipush 8, 2) := by decide +kernel
theorem dX6_withGround_8 : decode cX6_withGround 8 = .ok (.ishl, 1) := by decide +kernel
theorem dX6_withGround_9 : decode cX6_withGround 9 = .ok (.ior, 1) := by decide +kernel
theorem dX6_withGround_10 : decode cX6_withGround 10 = .ok (.ireturn, 1) := by decide +kernel
theorem dX7_init_0 : decode cX7_init 0 = .ok (.aload_n 0, 1) := by decide +kernel
theorem dX7_init_1 : decode cX7_init 1 = .ok (.invokespecial 3, 3) := by decide +kernel
theorem dX7_init_4 : decode cX7_init 4 = .ok (.aload_n 0, 1) := by decide +kernel
theorem dX7_init_5 : decode cX7_init 5 = .ok (.new 9, 3) := by decide +kernel
theorem dX7_init_8 : decode cX7_init 8 = .ok (.dup, 1) := by decide +kernel
theorem dX7_init_9 : decode cX7_init 9 = .ok (.iload_n 1, 1) := by decide +kernel
theorem dX7_init_10 : decode cX7_init 10 = .ok (.iload_n 2, 1) := by decide +kernel
theorem dX7_init_11 : decode cX7_init 11 = .ok (.invokespecial 11, 3) := by decide +kernel
theorem dX7_init_14 : decode cX7_init 14 = .ok (.putfield 14, 3) := by decide +kernel
theorem dX7_init_17 : decode cX7_init 17 = .ok (.aload_n 0, 1) := by decide +kernel
theorem dX7_init_18 : decode cX7_init 18 = .ok (.new 9, 3) := by decide +kernel
theorem dX7_init_21 : decode cX7_init 21 = .ok (.dup, 1) := by decide +kernel
theorem dX7_init_22 : decode cX7_init 22 = .ok (.iload_n 1, 1) := by decide +kernel
theorem dX7_init_23 : decode cX7_init 23 = .ok (.iload_n 2, 1) := by decide +kernel
theorem dX7_init_24 : decode cX7_init 24 = .ok (.invokespecial 11, 3) := by decide +kernel
theorem dX7_init_27 : decode cX7_init 27 = .ok (.putfield 20, 3) := by decide +kernel
theorem dX7_init_30 : decode cX7_init 30 = .ok (.aload_n 0, 1) := by decide +kernel
theorem dX7_init_31 : decode cX7_init 31 = .ok (.new 23, 3) := by decide +kernel
theorem dX7_init_34 : decode cX7_init 34 = .ok (.dup, 1) := by decide +kernel
theorem dX7_init_35 : decode cX7_init 35 = .ok (.iload_n 1, 1) := by decide +kernel
theorem dX7_init_36 : decode cX7_init 36 = .ok (.invokespecial 25, 3) := by decide +kernel
theorem dX7_init_39 : decode cX7_init 39 = .ok (.putfield 28, 3) := by decide +kernel
theorem dX7_init_42 : decode cX7_init 42 = .ok (.return_, 1) := by decide +kernel
theorem dX7_shown_0 : decode cX7_shown 0 = .ok (.aload_n 0, 1) := by decide +kernel
theorem dX7_shown_1 : decode cX7_shown 1 = .ok (.getfield 32, 3) := by decide +kernel
theorem dX7_shown_4 : decode cX7_shown 4 = .ok (.ifCond .eq 10, 3) := by decide +kernel
theorem dX7_shown_7 : decode cX7_shown 7 = .ok (.aload_n 0, 1) := by decide +kernel
theorem dX7_shown_8 : decode cX7_shown 8 = .ok (.getfield 20, 3) := by decide +kernel
theorem dX7_shown_11 : decode cX7_shown 11 = .ok (.goto 7, 3) := by decide +kernel
theorem dX7_shown_14 : decode cX7_shown 14 = .ok (.aload_n 0, 1) := by decide +kernel
theorem dX7_shown_15 : decode cX7_shown 15 = .ok (.getfield 14, 3) := by decide +kernel
theorem dX7_shown_18 : decode cX7_shown 18 = .ok (.areturn, 1) := by decide +kernel
theorem dX7_reset_0 : decode cX7_reset 0 = .ok (.aload_n 0, 1) := by decide +kernel
theorem dX7_reset_1 : decode cX7_reset 1 = .ok (.getfield 14, 3) := by decide +kernel
theorem dX7_reset_4 : decode cX7_reset 4 = .ok (.iconst 0, 1) := by decide +kernel
theorem dX7_reset_5 : decode cX7_reset 5 = .ok (.iconst 0, 1) := by decide +kernel
theorem dX7_reset_6 : decode cX7_reset 6 = .ok (.invokevirtual 36, 3) := by decide +kernel
theorem dX7_reset_9 : decode cX7_reset 9 = .ok (.aload_n 0, 1) := by decide +kernel
theorem dX7_reset_10 : decode cX7_reset 10 = .ok (.getfield 28, 3) := by decide +kernel
theorem dX7_reset_13 : decode cX7_reset 13 = .ok (.invokevirtual 39, 3) := by decide +kernel
theorem dX7_reset_16 : decode cX7_reset 16 = .ok (.aload_n 0, 1) := by decide +kernel
theorem dX7_reset_17 : decode cX7_reset 17 = .ok (.iconst 0, 1) := by decide +kernel
theorem dX7_reset_18 : decode cX7_reset 18 = .ok (.putfield 42, 3) := by decide +kernel
theorem dX7_reset_21 : decode cX7_reset 21 = .ok (.aload_n 0, 1) := by decide +kernel
theorem dX7_reset_22 : decode cX7_reset 22 = .ok (.iconst 0, 1) := by decide +kernel
theorem dX7_reset_23 : decode cX7_reset 23 = .ok (.putfield 46, 3) := by decide +kernel
theorem dX7_reset_26 : decode cX7_reset 26 = .ok (.aload_n 0, 1) := by decide +kernel
theorem dX7_reset_27 : decode cX7_reset 27 = .ok (.iconst 0, 1) := by decide +kernel
theorem dX7_reset_28 : decode cX7_reset 28 = .ok (.putfield 49, 3) := by decide +kernel
theorem dX7_reset_31 : decode cX7_reset 31 = .ok (.aload_n 0, 1) := by decide +kernel
theorem dX7_reset_32 : decode cX7_reset 32 = .ok (.iconst 0, 1) := by decide +kernel
theorem dX7_reset_33 : decode cX7_reset 33 = .ok (.putfield 52, 3) := by decide +kernel
theorem dX7_reset_36 : decode cX7_reset 36 = .ok (.aload_n 0, 1) := by decide +kernel
theorem dX7_reset_37 : decode cX7_reset 37 = .ok (.invokevirtual 55, 3) := by decide +kernel
theorem dX7_reset_40 : decode cX7_reset 40 = .ok (.aload_n 0, 1) := by decide +kernel
theorem dX7_reset_41 : decode cX7_reset 41 = .ok (.iconst 0, 1) := by decide +kernel
theorem dX7_reset_42 : decode cX7_reset 42 = .ok (.putfield 58, 3) := by decide +kernel
theorem dX7_reset_45 : decode cX7_reset 45 = .ok (.aload_n 0, 1) := by decide +kernel
theorem dX7_reset_46 : decode cX7_reset 46 = .ok (.aload_n 0, 1) := by decide +kernel
theorem dX7_reset_47 : decode cX7_reset 47 = .ok (.getfield 61, 3) := by decide +kernel
theorem dX7_reset_50 : decode cX7_reset 50 = .ok (.iconst 1, 1) := by decide +kernel
theorem dX7_reset_51 : decode cX7_reset 51 = .ok (.isub, 1) := by decide +kernel
theorem dX7_reset_52 : decode cX7_reset 52 = .ok (.putfield 64, 3) := by decide +kernel
theorem dX7_reset_55 : decode cX7_reset 55 = .ok (.aload_n 0, 1) := by decide +kernel
theorem dX7_reset_56 : decode cX7_reset 56 = .ok (.iconst 0, 1) := by decide +kernel
theorem dX7_reset_57 : decode cX7_reset 57 = .ok (.putfield 67, 3) := by decide +kernel
theorem dX7_reset_60 : decode cX7_reset 60 = .ok (.aload_n 0, 1) := by decide +kernel
theorem dX7_reset_61 : decode cX7_reset 61 = .ok (.iconst 1, 1) := by decide +kernel
theorem dX7_reset_62 : decode cX7_reset 62 = .ok (.putfield 70, 3) := by decide +kernel
theorem dX7_reset_65 : decode cX7_reset 65 = .ok (.aload_n 0, 1) := by decide +kernel
theorem dX7_reset_66 : decode cX7_reset 66 = .ok (.iconst 1, 1) := by decide +kernel
theorem dX7_reset_67 : decode cX7_reset 67 = .ok (.putfield 73, 3) := by decide +kernel
theorem dX7_reset_70 : decode cX7_reset 70 = .ok (.aload_n 0, 1) := by decide +kernel
theorem dX7_reset_71 : decode cX7_reset 71 = .ok (.iconst 0, 1) := by decide +kernel
theorem dX7_reset_72 : decode cX7_reset 72 = .ok (.putfield 32, 3) := by decide +kernel
theorem dX7_reset_75 : decode cX7_reset 75 = .ok (.return_, 1) := by decide +kernel
theorem dX7_resize_0 : decode cX7_resize 0 = .ok (.iload_n 1, 1) := by decide +kernel
theorem dX7_resize_1 : decode cX7_resize 1 = .ok (.aload_n 0, 1) := by decide +kernel
theorem dX7_resize_2 : decode cX7_resize 2 = .ok (.getfield 76, 3) := by decide +kernel
theorem dX7_resize_5 : decode cX7_resize 5 = .ok (.if_icmp .ne 12, 3) := by decide +kernel
theorem dX7_resize_8 : decode cX7_resize 8 = .ok (.iload_n 2, 1) := by decide +kernel
theorem dX7_resize_9 : decode cX7_resize 9 = .ok (.aload_n 0, 1) := by decide +kernel
theorem dX7_resize_10 : decode cX7_resize 10 = .ok (.getfield 61, 3) := by decide +kernel
theorem dX7_resize_13 : decode cX7_resize 13 = .ok (.if_icmp .ne 4, 3) := by decide +kernel
theorem dX7_resize_16 : decode cX7_resize 16 = .ok (.return_, 1) := by decide +kernel
theorem dX7_resize_17 : decode cX7_resize 17 = .ok (.aload_n 0, 1) := by decide +kernel
theorem dX7_resize_18 : decode cX7_resize 18 = .ok (.iload_n 1, 1) := by decide +kernel
theorem dX7_resize_19 : decode cX7_resize 19 = .ok (.putfield 76, 3) := by decide +kernel
theorem dX7_resize_22 : decode cX7_resize 22 = .ok (.aload_n 0, 1) := by decide +kernel
theorem dX7_resize_23 : decode cX7_resize 23 = .ok (.iload_n 2, 1) := by decide +kernel
theorem dX7_resize_24 : decode cX7_resize 24 = .ok (.putfield 61, 3) := by decide +kernel
theorem dX7_resize_27 : decode cX7_resize 27 = .ok (.aload_n 0, 1) := by decide +kernel
theorem dX7_resize_28 : decode cX7_resize 28 = .ok (.getfield 14, 3) := by decide +kernel
theorem dX7_resize_31 : decode cX7_resize 31 = .ok (.aload_n 0, 1) := by decide +kernel
theorem dX7_resize_32 : decode cX7_resize 32 = .ok (.getfield 76, 3) := by decide +kernel
theorem dX7_resize_35 : decode cX7_resize 35 = .ok (.aload_n 0, 1) := by decide +kernel
theorem dX7_resize_36 : decode cX7_resize 36 = .ok (.getfield 61, 3) := by decide +kernel
theorem dX7_resize_39 : decode cX7_resize 39 = .ok (.invokevirtual 36, 3) := by decide +kernel
theorem dX7_resize_42 : decode cX7_resize 42 = .ok (.aload_n 0, 1) := by decide +kernel
theorem dX7_resize_43 : decode cX7_resize 43 = .ok (.getfield 20, 3) := by decide +kernel
theorem dX7_resize_46 : decode cX7_resize 46 = .ok (.aload_n 0, 1) := by decide +kernel
theorem dX7_resize_47 : decode cX7_resize 47 = .ok (.getfield 76, 3) := by decide +kernel
theorem dX7_resize_50 : decode cX7_resize 50 = .ok (.aload_n 0, 1) := by decide +kernel
theorem dX7_resize_51 : decode cX7_resize 51 = .ok (.getfield 61, 3) := by decide +kernel
theorem dX7_resize_54 : decode cX7_resize 54 = .ok (.invokevirtual 36, 3) := by decide +kernel
theorem dX7_resize_57 : decode cX7_resize 57 = .ok (.aload_n 0, 1) := by decide +kernel
theorem dX7_resize_58 : decode cX7_resize 58 = .ok (.aload_n 0, 1) := by decide +kernel
theorem dX7_resize_59 : decode cX7_resize 59 = .ok (.getfield 42, 3) := by decide +kernel
theorem dX7_resize_62 : decode cX7_resize 62 = .ok (.aload_n 0, 1) := by decide +kernel
theorem dX7_resize_63 : decode cX7_resize 63 = .ok (.getfield 46, 3) := by decide +kernel
theorem dX7_resize_66 : decode cX7_resize 66 = .ok (.invokevirtual 79, 3) := by decide +kernel
theorem dX7_resize_69 : decode cX7_resize 69 = .ok (.aload_n 0, 1) := by decide +kernel
theorem dX7_resize_70 : decode cX7_resize 70 = .ok (.aload_n 0, 1) := by decide +kernel
theorem dX7_resize_71 : decode cX7_resize 71 = .ok (.getfield 82, 3) := by decide +kernel
theorem dX7_resize_74 : decode cX7_resize 74 = .ok (.iconst 0, 1) := by decide +kernel
theorem dX7_resize_75 : decode cX7_resize 75 = .ok (.aload_n 0, 1) := by decide +kernel
theorem dX7_resize_76 : decode cX7_resize 76 = .ok (.getfield 76, 3) := by decide +kernel
theorem dX7_resize_79 : decode cX7_resize 79 = .ok (.iconst 1, 1) := by decide +kernel
theorem dX7_resize_80 : decode cX7_resize 80 = .ok (.isub, 1) := by decide +kernel
theorem dX7_resize_81 : decode cX7_resize 81 = .ok (.invokestatic 85, 3) := by decide +kernel
theorem dX7_resize_84 : decode cX7_resize 84 = .ok (.putfield 82, 3) := by decide +kernel
theorem dX7_resize_87 : decode cX7_resize 87 = .ok (.aload_n 0, 1) := by decide +kernel
theorem dX7_resize_88 : decode cX7_resize 88 = .ok (.aload_n 0, 1) := by decide +kernel
theorem dX7_resize_89 : decode cX7_resize 89 = .ok (.getfield 89, 3) := by decide +kernel
theorem dX7_resize_92 : decode cX7_resize 92 = .ok (.iconst 0, 1) := by decide +kernel
theorem dX7_resize_93 : decode cX7_resize 93 = .ok (.aload_n 0, 1) := by decide +kernel
theorem dX7_resize_94 : decode cX7_resize 94 = .ok (.getfield 61, 3) := by decide +kernel
theorem dX7_resize_97 : decode cX7_resize 97 = .ok (.iconst 1, 1) := by decide +kernel
theorem dX7_resize_98 : decode cX7_resize 98 = .ok (.isub, 1) := by decide +kernel
theorem dX7_resize_99 : decode cX7_resize 99 = .ok (.invokestatic 85, 3) := by decide +kernel
theorem dX7_resize_102 : decode cX7_resize 102 = .ok (.putfield 89, 3) := by decide +kernel
theorem dX7_resize_105 : decode cX7_resize 105 = .ok (.aload_n 0, 1) := by decide +kernel
theorem dX7_resize_106 : decode cX7_resize 106 = .ok (.iconst 0, 1) := by decide +kernel
theorem dX7_resize_107 : decode cX7_resize 107 = .ok (.putfield 58, 3) := by decide +kernel
theorem dX7_resize_110 : decode cX7_resize 110 = .ok (.aload_n 0, 1) := by decide +kernel
theorem dX7_resize_111 : decode cX7_resize 111 = .ok (.aload_n 0, 1) := by decide +kernel
theorem dX7_resize_112 : decode cX7_resize 112 = .ok (.getfield 61, 3) := by decide +kernel
theorem dX7_resize_115 : decode cX7_resize 115 = .ok (.iconst 1, 1) := by decide +kernel
theorem dX7_resize_116 : decode cX7_resize 116 = .ok (.isub, 1) := by decide +kernel
theorem dX7_resize_117 : decode cX7_resize 117 = .ok (.putfield 64, 3) := by decide +kernel
theorem dX7_resize_120 : decode cX7_resize 120 = .ok (.return_, 1) := by decide +kernel
theorem dX7_write_0 : decode cX7_write 0 = .ok (.aload_n 0, 1) := by decide +kernel
theorem dX7_write_1 : decode cX7_write 1 = .ok (.getfield 49, 3) := by decide +kernel
theorem dX7_write_4 : decode cX7_write 4 = .ok (.ifCond .eq 12, 3) := by decide +kernel
theorem dX7_write_7 : decode cX7_write 7 = .ok (.aload_n 0, 1) := by decide +kernel
theorem dX7_write_8 : decode cX7_write 8 = .ok (.iconst 0, 1) := by decide +kernel
theorem dX7_write_9 : decode cX7_write 9 = .ok (.putfield 42, 3) := by decide +kernel
theorem dX7_write_12 : decode cX7_write 12 = .ok (.aload_n 0, 1) := by decide +kernel
theorem dX7_write_13 : decode cX7_write 13 = .ok (.invokevirtual 92, 3) := by decide +kernel
theorem dX7_write_16 : decode cX7_write 16 = .ok (.aload_n 0, 1) := by decide +kernel
theorem dX7_write_17 : decode cX7_write 17 = .ok (.getfield 67, 3) := by decide +kernel
theorem dX7_write_20 : decode cX7_write 20 = .ok (.ifCond .eq 35, 3) := by decide +kernel
theorem dX7_write_23 : decode cX7_write 23 = .ok (.aload_n 0, 1) := by decide +kernel
theorem dX7_write_24 : decode cX7_write 24 = .ok (.invokevirtual 95, 3) := by decide +kernel
theorem dX7_write_27 : decode cX7_write 27 = .ok (.aload_n 0, 1) := by decide +kernel
theorem dX7_write_28 : decode cX7_write 28 = .ok (.getfield 46, 3) := by decide +kernel
theorem dX7_write_31 : decode cX7_write 31 = .ok (.aload_n 0, 1) := by decide +kernel
theorem dX7_write_32 : decode cX7_write 32 = .ok (.getfield 42, 3) := by decide +kernel
theorem dX7_write_35 : decode cX7_write 35 = .ok (.aload_n 0, 1) := by decide +kernel
theorem dX7_write_36 : decode cX7_write 36 = .ok (.getfield 42, 3) := by decide +kernel
theorem dX7_write_39 : decode cX7_write 39 = .ok (.iconst 1, 1) := by decide +kernel
theorem dX7_write_40 : decode cX7_write 40 = .ok (.iadd, 1) := by decide +kernel
theorem dX7_write_41 : decode cX7_write 41 = .ok (.aload_n 0, 1) := by decide +kernel
theorem dX7_write_42 : decode cX7_write 42 = .ok (.getfield 76, 3) := by decide +kernel
theorem dX7_write_45 : decode cX7_write 45 = .ok (.iconst 1, 1) := by decide +kernel
theorem dX7_write_46 : decode cX7_write 46 = .ok (.isub, 1) := by decide +kernel
theorem dX7_write_47 : decode cX7_write 47 = .ok (.aload_n 0, 1) := by decide +kernel
theorem dX7_write_48 : decode cX7_write 48 = .ok (.getfield 42, 3) := by decide +kernel
theorem dX7_write_51 : decode cX7_write 51 = .ok (.isub, 1) := by decide +kernel
theorem dX7_write_52 : decode cX7_write 52 = .ok (.invokevirtual 99, 3) := by decide +kernel
theorem dX7_write_55 : decode cX7_write 55 = .ok (.aload_n 0, 1) := by decide +kernel
theorem dX7_write_56 : decode cX7_write 56 = .ok (.invokevirtual 95, 3) := by decide +kernel
theorem dX7_write_59 : decode cX7_write 59 = .ok (.aload_n 0, 1) := by decide +kernel
theorem dX7_write_60 : decode cX7_write 60 = .ok (.getfield 42, 3) := by decide +kernel
theorem dX7_write_63 : decode cX7_write 63 = .ok (.aload_n 0, 1) := by decide +kernel
theorem dX7_write_64 : decode cX7_write 64 = .ok (.getfield 46, 3) := by decide +kernel
theorem dX7_write_67 : decode cX7_write 67 = .ok (.aload_n 0, 1) := by decide +kernel
theorem dX7_write_68 : decode cX7_write 68 = .ok (.getfield 52, 3) := by decide +kernel
theorem dX7_write_71 : decode cX7_write 71 = .ok (.sipush 128, 3) := by decide +kernel
theorem dX7_write_74 : decode cX7_write 74 = .ok (.imul, 1) := by decide +kernel
theorem dX7_write_75 : decode cX7_write 75 = .ok (.iload_n 1, 1) := by decide +kernel
theorem dX7_write_76 : decode cX7_write 76 = .ok (.iadd, 1) := by decide +kernel
theorem dX7_write_77 : decode cX7_write 77 = .ok (.invokevirtual 103, 3) := by decide +kernel
theorem dX7_write_80 : decode cX7_write 80 = .ok (.aload_n 0, 1) := by decide +kernel
theorem dX7_write_81 : decode cX7_write 81 = .ok (.getfield 42, 3) := by decide +kernel
theorem dX7_write_84 : decode cX7_write 84 = .ok (.aload_n 0, 1) := by decide +kernel
theorem dX7_write_85 : decode cX7_write 85 = .ok (.getfield 76, 3) := by decide +kernel
theorem dX7_write_88 : decode cX7_write 88 = .ok (.iconst 1, 1) := by decide +kernel
theorem dX7_write_89 : decode cX7_write 89 = .ok (.isub, 1) := by decide +kernel
theorem dX7_write_90 : decode cX7_write 90 = .ok (.if_icmp .ge 16, 3) := by decide +kernel
theorem dX7_write_93 : decode cX7_write 93 = .ok (.aload_n 0, 1) := by decide +kernel
theorem dX7_write_94 : decode cX7_write 94 = .ok (.dup, 1) := by decide +kernel
theorem dX7_write_95 : decode cX7_write 95 = .ok (.getfield 42, 3) := by decide +kernel
theorem dX7_write_98 : decode cX7_write 98 = .ok (.iconst 1, 1) := by decide +kernel
theorem dX7_write_99 : decode cX7_write 99 = .ok (.iadd, 1) := by decide +kernel
theorem dX7_write_100 : decode cX7_write 100 = .ok (.putfield 42, 3) := by decide +kernel
theorem dX7_write_103 : decode cX7_write 103 = .ok (.goto 11, 3) := by decide +kernel
theorem dX7_write_106 : decode cX7_write 106 = .ok (.aload_n 0, 1) := by decide +kernel
theorem dX7_write_107 : decode cX7_write 107 = .ok (.aload_n 0, 1) := by decide +kernel
theorem dX7_write_108 : decode cX7_write 108 = .ok (.getfield 70, 3) := by decide +kernel
theorem dX7_write_111 : decode cX7_write 111 = .ok (.putfield 49, 3) := by decide +kernel
theorem dX7_write_114 : decode cX7_write 114 = .ok (.return_, 1) := by decide +kernel
theorem dX7_moveTo_0 : decode cX7_moveTo 0 = .ok (.aload_n 0, 1) := by decide +kernel
theorem dX7_moveTo_1 : decode cX7_moveTo 1 = .ok (.iload_n 1, 1) := by decide +kernel
theorem dX7_moveTo_2 : decode cX7_moveTo 2 = .ok (.iconst 0, 1) := by decide +kernel
theorem dX7_moveTo_3 : decode cX7_moveTo 3 = .ok (.aload_n 0, 1) := by decide +kernel
theorem dX7_moveTo_4 : decode cX7_moveTo 4 = .ok (.getfield 76, 3) := by decide +kernel
theorem dX7_moveTo_7 : decode cX7_moveTo 7 = .ok (.iconst 1, 1) := by decide +kernel
theorem dX7_moveTo_8 : decode cX7_moveTo 8 = .ok (.isub, 1) := by decide +kernel
theorem dX7_moveTo_9 : decode cX7_moveTo 9 = .ok (.invokestatic 85, 3) := by decide +kernel
theorem dX7_moveTo_12 : decode cX7_moveTo 12 = .ok (.putfield 42, 3) := by decide +kernel
theorem dX7_moveTo_15 : decode cX7_moveTo 15 = .ok (.aload_n 0, 1) := by decide +kernel
theorem dX7_moveTo_16 : decode cX7_moveTo 16 = .ok (.iload_n 2, 1) := by decide +kernel
theorem dX7_moveTo_17 : decode cX7_moveTo 17 = .ok (.iconst 0, 1) := by decide +kernel
theorem dX7_moveTo_18 : decode cX7_moveTo 18 = .ok (.aload_n 0, 1) := by decide +kernel
theorem dX7_moveTo_19 : decode cX7_moveTo 19 = .ok (.getfield 61, 3) := by decide +kernel
theorem dX7_moveTo_22 : decode cX7_moveTo 22 = .ok (.iconst 1, 1) := by decide +kernel
theorem dX7_moveTo_23 : decode cX7_moveTo 23 = .ok (.isub, 1) := by decide +kernel
theorem dX7_moveTo_24 : decode cX7_moveTo 24 = .ok (.invokestatic 85, 3) := by decide +kernel
theorem dX7_moveTo_27 : decode cX7_moveTo 27 = .ok (.putfield 46, 3) := by decide +kernel
theorem dX7_moveTo_30 : decode cX7_moveTo 30 = .ok (.aload_n 0, 1) := by decide +kernel
theorem dX7_moveTo_31 : decode cX7_moveTo 31 = .ok (.iconst 0, 1) := by decide +kernel
theorem dX7_moveTo_32 : decode cX7_moveTo 32 = .ok (.putfield 49, 3) := by decide +kernel
theorem dX7_moveTo_35 : decode cX7_moveTo 35 = .ok (.return_, 1) := by decide +kernel
theorem dX7_goToTab_0 : decode cX7_goToTab 0 = .ok (.aload_n 0, 1) := by decide +kernel
theorem dX7_goToTab_1 : decode cX7_goToTab 1 = .ok (.aload_n 0, 1) := by decide +kernel
theorem dX7_goToTab_2 : decode cX7_goToTab 2 = .ok (.getfield 42, 3) := by decide +kernel
theorem dX7_goToTab_5 : decode cX7_goToTab 5 = .ok (.bipush 8, 2) := by decide +kernel
theorem dX7_goToTab_7 : decode cX7_goToTab 7 = .ok (.idiv, 1) := by decide +kernel
theorem dX7_goToTab_8 : decode cX7_goToTab 8 = .ok (.iconst 1, 1) := by decide +kernel
theorem dX7_goToTab_9 : decode cX7_goToTab 9 = .ok (.iadd, 1) := by decide +kernel
theorem dX7_goToTab_10 : decode cX7_goToTab 10 = .ok (.bipush 8, 2) := by decide +kernel
theorem dX7_goToTab_12 : decode cX7_goToTab 12 = .ok (.imul, 1) := by decide +kernel
theorem dX7_goToTab_13 : decode cX7_goToTab 13 = .ok (.aload_n 0, 1) := by decide +kernel
theorem dX7_goToTab_14 : decode cX7_goToTab 14 = .ok (.getfield 46, 3) := by decide +kernel
theorem dX7_goToTab_17 : decode cX7_goToTab 17 = .ok (.invokevirtual 79, 3) := by decide +kernel
theorem dX7_goToTab_20 : decode cX7_goToTab 20 = .ok (.return_, 1) := by decide +kernel
theorem dX7_goDown_0 : decode cX7_goDown 0 = .ok (.aload_n 0, 1) := by decide +kernel
theorem dX7_goDown_1 : decode cX7_goDown 1 = .ok (.getfield 46, 3) := by decide +kernel
theorem dX7_goDown_4 : decode cX7_goDown 4 = .ok (.aload_n 0, 1) := by decide +kernel
theorem dX7_goDown_5 : decode cX7_goDown 5 = .ok (.getfield 64, 3) := by decide +kernel
theorem dX7_goDown_8 : decode cX7_goDown 8 = .ok (.if_icmp .ne 11, 3) := by decide +kernel
theorem dX7_goDown_11 : decode cX7_goDown 11 = .ok (.aload_n 0, 1) := by decide +kernel
theorem dX7_goDown_12 : decode cX7_goDown 12 = .ok (.iconst 1, 1) := by decide +kernel
theorem dX7_goDown_13 : decode cX7_goDown 13 = .ok (.invokevirtual 107, 3) := by decide +kernel
theorem dX7_goDown_16 : decode cX7_goDown 16 = .ok (.goto 17, 3) := by decide +kernel
theorem dX7_goDown_19 : decode cX7_goDown 19 = .ok (.aload_n 0, 1) := by decide +kernel
theorem dX7_goDown_20 : decode cX7_goDown 20 = .ok (.aload_n 0, 1) := by decide +kernel
theorem dX7_goDown_21 : decode cX7_goDown 21 = .ok (.getfield 42, 3) := by decide +kernel
theorem dX7_goDown_24 : decode cX7_goDown 24 = .ok (.aload_n 0, 1) := by decide +kernel
theorem dX7_goDown_25 : decode cX7_goDown 25 = .ok (.getfield 46, 3) := by decide +kernel
theorem dX7_goDown_28 : decode cX7_goDown 28 = .ok (.iconst 1, 1) := by decide +kernel
theorem dX7_goDown_29 : decode cX7_goDown 29 = .ok (.iadd, 1) := by decide +kernel
theorem dX7_goDown_30 : decode cX7_goDown 30 = .ok (.invokevirtual 79, 3) := by decide +kernel
theorem dX7_goDown_33 : decode cX7_goDown 33 = .ok (.return_, 1) := by decide +kernel
theorem dX7_goUp_0 : decode cX7_goUp 0 = .ok (.aload_n 0, 1) := by decide +kernel
theorem dX7_goUp_1 : decode cX7_goUp 1 = .ok (.getfield 46, 3) := by decide +kernel
theorem dX7_goUp_4 : decode cX7_goUp 4 = .ok (.aload_n 0, 1) := by decide +kernel
theorem dX7_goUp_5 : decode cX7_goUp 5 = .ok (.getfield 58, 3) := by decide +kernel
theorem dX7_goUp_8 : decode cX7_goUp 8 = .ok (.if_icmp .ne 11, 3) := by decide +kernel
theorem dX7_goUp_11 : decode cX7_goUp 11 = .ok (.aload_n 0, 1) := by decide +kernel
theorem dX7_goUp_12 : decode cX7_goUp 12 = .ok (.iconst 1, 1) := by decide +kernel
theorem dX7_goUp_13 : decode cX7_goUp 13 = .ok (.invokevirtual 110, 3) := by decide +kernel
theorem dX7_goUp_16 : decode cX7_goUp 16 = .ok (.goto 17, 3) := by decide +kernel
theorem dX7_goUp_19 : decode cX7_goUp 19 = .ok (.aload_n 0, 1) := by decide +kernel
theorem dX7_goUp_20 : decode cX7_goUp 20 = .ok (.aload_n 0, 1) := by decide +kernel
theorem dX7_goUp_21 : decode cX7_goUp 21 = .ok (.getfield 42, 3) := by decide +kernel
theorem dX7_goUp_24 : decode cX7_goUp 24 = .ok (.aload_n 0, 1) := by decide +kernel
theorem dX7_goUp_25 : decode cX7_goUp 25 = .ok (.getfield 46, 3) := by decide +kernel
theorem dX7_goUp_28 : decode cX7_goUp 28 = .ok (.iconst 1, 1) := by decide +kernel
theorem dX7_goUp_29 : decode cX7_goUp 29 = .ok (.isub, 1) := by decide +kernel
theorem dX7_goUp_30 : decode cX7_goUp 30 = .ok (.invokevirtual 79, 3) := by decide +kernel
theorem dX7_goUp_33 : decode cX7_goUp 33 = .ok (.return_, 1) := by decide +kernel
theorem dX7_savePlace_0 : decode cX7_savePlace 0 = .ok (.aload_n 0, 1) := by decide +kernel
theorem dX7_savePlace_1 : decode cX7_savePlace 1 = .ok (.aload_n 0, 1) := by decide +kernel
theorem dX7_savePlace_2 : decode cX7_savePlace 2 = .ok (.getfield 42, 3) := by decide +kernel
theorem dX7_savePlace_5 : decode cX7_savePlace 5 = .ok (.putfield 82, 3) := by decide +kernel
theorem dX7_savePlace_8 : decode cX7_savePlace 8 = .ok (.aload_n 0, 1) := by decide +kernel
theorem dX7_savePlace_9 : decode cX7_savePlace 9 = .ok (.aload_n 0, 1) := by decide +kernel
theorem dX7_savePlace_10 : decode cX7_savePlace 10 = .ok (.getfield 46, 3) := by decide +kernel
theorem dX7_savePlace_13 : decode cX7_savePlace 13 = .ok (.putfield 89, 3) := by decide +kernel
theorem dX7_savePlace_16 : decode cX7_savePlace 16 = .ok (.aload_n 0, 1) := by decide +kernel
theorem dX7_savePlace_17 : decode cX7_savePlace 17 = .ok (.aload_n 0, 1) := by decide +kernel
theorem dX7_savePlace_18 : decode cX7_savePlace 18 = .ok (.getfield 52, 3) := by decide +kernel
theorem dX7_savePlace_21 : decode cX7_savePlace 21 = .ok (.putfield 113, 3) := by decide +kernel
theorem dX7_savePlace_24 : decode cX7_savePlace 24 = .ok (.return_, 1) := by decide +kernel
theorem dX7_takePlace_0 : decode cX7_takePlace 0 = .ok (.aload_n 0, 1) := by decide +kernel
theorem dX7_takePlace_1 : decode cX7_takePlace 1 = .ok (.aload_n 0, 1) := by decide +kernel
theorem dX7_takePlace_2 : decode cX7_takePlace 2 = .ok (.getfield 82, 3) := by decide +kernel
theorem dX7_takePlace_5 : decode cX7_takePlace 5 = .ok (.aload_n 0, 1) := by decide +kernel
theorem dX7_takePlace_6 : decode cX7_takePlace 6 = .ok (.getfield 89, 3) := by decide +kernel
theorem dX7_takePlace_9 : decode cX7_takePlace 9 = .ok (.invokevirtual 79, 3) := by decide +kernel
theorem dX7_takePlace_12 : decode cX7_takePlace 12 = .ok (.aload_n 0, 1) := by decide +kernel
theorem dX7_takePlace_13 : decode cX7_takePlace 13 = .ok (.aload_n 0, 1) := by decide +kernel
theorem dX7_takePlace_14 : decode cX7_takePlace 14 = .ok (.getfield 113, 3) := by decide +kernel
theorem dX7_takePlace_17 : decode cX7_takePlace 17 = .ok (.putfield 52, 3) := by decide +kernel
theorem dX7_takePlace_20 : decode cX7_takePlace 20 = .ok (.return_, 1) := by decide +kernel
theorem dX7_scrollUp_0 : decode cX7_scrollUp 0 = .ok (.aload_n 0, 1) := by decide +kernel
theorem dX7_scrollUp_1 : decode cX7_scrollUp 1 = .ok (.iconst 0, 1) := by decide +kernel
theorem dX7_scrollUp_2 : decode cX7_scrollUp 2 = .ok (.putfield 49, 3) := by decide +kernel
theorem dX7_scrollUp_5 : decode cX7_scrollUp 5 = .ok (.aload_n 0, 1) := by decide +kernel
theorem dX7_scrollUp_6 : decode cX7_scrollUp 6 = .ok (.getfield 58, 3) := by decide +kernel
theorem dX7_scrollUp_9 : decode cX7_scrollUp 9 = .ok (.ifCond .ne 50, 3) := by decide +kernel
theorem dX7_scrollUp_12 : decode cX7_scrollUp 12 = .ok (.aload_n 0, 1) := by decide +kernel
theorem dX7_scrollUp_13 : decode cX7_scrollUp 13 = .ok (.getfield 32, 3) := by decide +kernel
theorem dX7_scrollUp_16 : decode cX7_scrollUp 16 = .ok (.ifCond .ne 43, 3) := by decide +kernel
theorem dX7_scrollUp_19 : decode cX7_scrollUp 19 = .ok (.iload_n 1, 1) := by decide +kernel
theorem dX7_scrollUp_20 : decode cX7_scrollUp 20 = .ok (.aload_n 0, 1) := by decide +kernel
theorem dX7_scrollUp_21 : decode cX7_scrollUp 21 = .ok (.getfield 64, 3) := by decide +kernel
theorem dX7_scrollUp_24 : decode cX7_scrollUp 24 = .ok (.iconst 1, 1) := by decide +kernel
theorem dX7_scrollUp_25 : decode cX7_scrollUp 25 = .ok (.iadd, 1) := by decide +kernel
theorem dX7_scrollUp_26 : decode cX7_scrollUp 26 = .ok (.invokestatic 116, 3) := by decide +kernel
theorem dX7_scrollUp_29 : decode cX7_scrollUp 29 = .ok (.istore_n 2, 1) := by decide +kernel
theorem dX7_scrollUp_30 : decode cX7_scrollUp 30 = .ok (.iconst 0, 1) := by decide +kernel
theorem dX7_scrollUp_31 : decode cX7_scrollUp 31 = .ok (.istore_n 3, 1) := by decide +kernel
theorem dX7_scrollUp_32 : decode cX7_scrollUp 32 = .ok (.iload_n 3, 1) := by decide +kernel
theorem dX7_scrollUp_33 : decode cX7_scrollUp 33 = .ok (.iload_n 2, 1) := by decide +kernel
theorem dX7_scrollUp_34 : decode cX7_scrollUp 34 = .ok (.if_icmp .ge 25, 3) := by decide +kernel
theorem dX7_scrollUp_37 : decode cX7_scrollUp 37 = .ok (.aload_n 0, 1) := by decide +kernel
theorem dX7_scrollUp_38 : decode cX7_scrollUp 38 = .ok (.getfield 28, 3) := by decide +kernel
theorem dX7_scrollUp_41 : decode cX7_scrollUp 41 = .ok (.aload_n 0, 1) := by decide +kernel
theorem dX7_scrollUp_42 : decode cX7_scrollUp 42 = .ok (.getfield 14, 3) := by decide +kernel
theorem dX7_scrollUp_45 : decode cX7_scrollUp 45 = .ok (.iload_n 3, 1) := by decide +kernel
theorem dX7_scrollUp_46 : decode cX7_scrollUp 46 = .ok (.aload_n 0, 1) := by decide +kernel
theorem dX7_scrollUp_47 : decode cX7_scrollUp 47 = .ok (.getfield 76, 3) := by decide +kernel
theorem dX7_scrollUp_50 : decode cX7_scrollUp 50 = .ok (.invokevirtual 122, 3) := by decide +kernel
theorem dX7_scrollUp_53 : decode cX7_scrollUp 53 = .ok (.iinc 3 1, 3) := by decide +kernel
theorem dX7_scrollUp_56 : decode cX7_scrollUp 56 = .ok (.goto (-24), 3) := by decide +kernel
theorem dX7_scrollUp_59 : decode cX7_scrollUp 59 = .ok (.aload_n 0, 1) := by decide +kernel
theorem dX7_scrollUp_60 : decode cX7_scrollUp 60 = .ok (.aload_n 0, 1) := by decide +kernel
theorem dX7_scrollUp_61 : decode cX7_scrollUp 61 = .ok (.getfield 58, 3) := by decide +kernel
theorem dX7_scrollUp_64 : decode cX7_scrollUp 64 = .ok (.iload_n 1, 1) := by decide +kernel
theorem dX7_scrollUp_65 : decode cX7_scrollUp 65 = .ok (.invokevirtual 126, 3) := by decide +kernel
theorem dX7_scrollUp_68 : decode cX7_scrollUp 68 = .ok (.return_, 1) := by decide +kernel
theorem dX7_scrollDown_0 : decode cX7_scrollDown 0 = .ok (.aload_n 0, 1) := by decide +kernel
theorem dX7_scrollDown_1 : decode cX7_scrollDown 1 = .ok (.iconst 0, 1) := by decide +kernel
theorem dX7_scrollDown_2 : decode cX7_scrollDown 2 = .ok (.putfield 49, 3) := by decide +kernel
theorem dX7_scrollDown_5 : decode cX7_scrollDown 5 = .ok (.aload_n 0, 1) := by decide +kernel
theorem dX7_scrollDown_6 : decode cX7_scrollDown 6 = .ok (.aload_n 0, 1) := by decide +kernel
theorem dX7_scrollDown_7 : decode cX7_scrollDown 7 = .ok (.getfield 58, 3) := by decide +kernel
theorem dX7_scrollDown_10 : decode cX7_scrollDown 10 = .ok (.iload_n 1, 1) := by decide +kernel
theorem dX7_scrollDown_11 : decode cX7_scrollDown 11 = .ok (.invokevirtual 129, 3) := by decide +kernel
theorem dX7_scrollDown_14 : decode cX7_scrollDown 14 = .ok (.return_, 1) := by decide +kernel
theorem dX7_insertRows_0 : decode cX7_insertRows 0 = .ok (.aload_n 0, 1) := by decide +kernel
theorem dX7_insertRows_1 : decode cX7_insertRows 1 = .ok (.getfield 46, 3) := by decide +kernel
theorem dX7_insertRows_4 : decode cX7_insertRows 4 = .ok (.aload_n 0, 1) := by decide +kernel
theorem dX7_insertRows_5 : decode cX7_insertRows 5 = .ok (.getfield 58, 3) := by decide +kernel
theorem dX7_insertRows_8 : decode cX7_insertRows 8 = .ok (.if_icmp .lt 28, 3) := by decide +kernel
theorem dX7_insertRows_11 : decode cX7_insertRows 11 = .ok (.aload_n 0, 1) := by decide +kernel
theorem dX7_insertRows_12 : decode cX7_insertRows 12 = .ok (.getfield 46, 3) := by decide +kernel
theorem dX7_insertRows_15 : decode cX7_insertRows 15 = .ok (.aload_n 0, 1) := by decide +kernel
theorem dX7_insertRows_16 : decode cX7_insertRows 16 = .ok (.getfield 64, 3) := by decide +kernel
theorem dX7_insertRows_19 : decode cX7_insertRows 19 = .ok (.if_icmp .gt 17, 3) := by decide +kernel
theorem dX7_insertRows_22 : decode cX7_insertRows 22 = .ok (.aload_n 0, 1) := by decide +kernel
theorem dX7_insertRows_23 : decode cX7_insertRows 23 = .ok (.aload_n 0, 1) := by decide +kernel
theorem dX7_insertRows_24 : decode cX7_insertRows 24 = .ok (.getfield 46, 3) := by decide +kernel
theorem dX7_insertRows_27 : decode cX7_insertRows 27 = .ok (.iload_n 1, 1) := by decide +kernel
theorem dX7_insertRows_28 : decode cX7_insertRows 28 = .ok (.invokevirtual 129, 3) := by decide +kernel
theorem dX7_insertRows_31 : decode cX7_insertRows 31 = .ok (.aload_n 0, 1) := by decide +kernel
theorem dX7_insertRows_32 : decode cX7_insertRows 32 = .ok (.iconst 0, 1) := by decide +kernel
theorem dX7_insertRows_33 : decode cX7_insertRows 33 = .ok (.putfield 42, 3) := by decide +kernel
theorem dX7_insertRows_36 : decode cX7_insertRows 36 = .ok (.return_, 1) := by decide +kernel
theorem dX7_deleteRows_0 : decode cX7_deleteRows 0 = .ok (.aload_n 0, 1) := by decide +kernel
theorem dX7_deleteRows_1 : decode cX7_deleteRows 1 = .ok (.getfield 46, 3) := by decide +kernel
theorem dX7_deleteRows_4 : decode cX7_deleteRows 4 = .ok (.aload_n 0, 1) := by decide +kernel
theorem dX7_deleteRows_5 : decode cX7_deleteRows 5 = .ok (.getfield 58, 3) := by decide +kernel
theorem dX7_deleteRows_8 : decode cX7_deleteRows 8 = .ok (.if_icmp .lt 28, 3) := by decide +kernel
theorem dX7_deleteRows_11 : decode cX7_deleteRows 11 = .ok (.aload_n 0, 1) := by decide +kernel
theorem dX7_deleteRows_12 : decode cX7_deleteRows 12 = .ok (.getfield 46, 3) := by decide +kernel
theorem dX7_deleteRows_15 : decode cX7_deleteRows 15 = .ok (.aload_n 0, 1) := by decide +kernel
theorem dX7_deleteRows_16 : decode cX7_deleteRows 16 = .ok (.getfield 64, 3) := by decide +kernel
theorem dX7_deleteRows_19 : decode cX7_deleteRows 19 = .ok (.if_icmp .gt 17, 3) := by decide +kernel
theorem dX7_deleteRows_22 : decode cX7_deleteRows 22 = .ok (.aload_n 0, 1) := by decide +kernel
theorem dX7_deleteRows_23 : decode cX7_deleteRows 23 = .ok (.aload_n 0, 1) := by decide +kernel
theorem dX7_deleteRows_24 : decode cX7_deleteRows 24 = .ok (.getfield 46, 3) := by decide +kernel
theorem dX7_deleteRows_27 : decode cX7_deleteRows 27 = .ok (.iload_n 1, 1) := by decide +kernel
theorem dX7_deleteRows_28 : decode cX7_deleteRows 28 = .ok (.invokevirtual 126, 3) := by decide +kernel
theorem dX7_deleteRows_31 : decode cX7_deleteRows 31 = .ok (.aload_n 0, 1) := by decide +kernel
theorem dX7_deleteRows_32 : decode cX7_deleteRows 32 = .ok (.iconst 0, 1) := by decide +kernel
theorem dX7_deleteRows_33 : decode cX7_deleteRows 33 = .ok (.putfield 42, 3) := by decide +kernel
theorem dX7_deleteRows_36 : decode cX7_deleteRows 36 = .ok (.return_, 1) := by decide +kernel
theorem dX7_raiseRows_0 : decode cX7_raiseRows 0 = .ok (.aload_n 0, 1) := by decide +kernel
theorem dX7_raiseRows_1 : decode cX7_raiseRows 1 = .ok (.invokevirtual 95, 3) := by decide +kernel
theorem dX7_raiseRows_4 : decode cX7_raiseRows 4 = .ok (.astore_n 3, 1) := by decide +kernel
theorem dX7_raiseRows_5 : decode cX7_raiseRows 5 = .ok (.iload_n 1, 1) := by decide +kernel
theorem dX7_raiseRows_6 : decode cX7_raiseRows 6 = .ok (.istore 4, 2) := by decide +kernel
theorem dX7_raiseRows_8 : decode cX7_raiseRows 8 = .ok (.iload 4, 2) := by decide +kernel
theorem dX7_raiseRows_10 : decode cX7_raiseRows 10 = .ok (.aload_n 0, 1) := by decide +kernel
theorem dX7_raiseRows_11 : decode cX7_raiseRows 11 = .ok (.getfield 64, 3) := by decide +kernel
theorem dX7_raiseRows_14 : decode cX7_raiseRows 14 = .ok (.if_icmp .gt 48, 3) := by decide +kernel
theorem dX7_raiseRows_17 : decode cX7_raiseRows 17 = .ok (.iload 4, 2) := by decide +kernel
theorem dX7_raiseRows_19 : decode cX7_raiseRows 19 = .ok (.iload_n 2, 1) := by decide +kernel
theorem dX7_raiseRows_20 : decode cX7_raiseRows 20 = .ok (.iadd, 1) := by decide +kernel
theorem dX7_raiseRows_21 : decode cX7_raiseRows 21 = .ok (.aload_n 0, 1) := by decide +kernel
theorem dX7_raiseRows_22 : decode cX7_raiseRows 22 = .ok (.getfield 64, 3) := by decide +kernel
theorem dX7_raiseRows_25 : decode cX7_raiseRows 25 = .ok (.if_icmp .gt 16, 3) := by decide +kernel
theorem dX7_raiseRows_28 : decode cX7_raiseRows 28 = .ok (.aload_n 3, 1) := by decide +kernel
theorem dX7_raiseRows_29 : decode cX7_raiseRows 29 = .ok (.iload 4, 2) := by decide +kernel
theorem dX7_raiseRows_31 : decode cX7_raiseRows 31 = .ok (.iload_n 2, 1) := by decide +kernel
theorem dX7_raiseRows_32 : decode cX7_raiseRows 32 = .ok (.iadd, 1) := by decide +kernel
theorem dX7_raiseRows_33 : decode cX7_raiseRows 33 = .ok (.iload 4, 2) := by decide +kernel
theorem dX7_raiseRows_35 : decode cX7_raiseRows 35 = .ok (.invokevirtual 132, 3) := by decide +kernel
theorem dX7_raiseRows_38 : decode cX7_raiseRows 38 = .ok (.goto 18, 3) := by decide +kernel
theorem dX7_raiseRows_41 : decode cX7_raiseRows 41 = .ok (.aload_n 3, 1) := by decide +kernel
theorem dX7_raiseRows_42 : decode cX7_raiseRows 42 = .ok (.iload 4, 2) := by decide +kernel
theorem dX7_raiseRows_44 : decode cX7_raiseRows 44 = .ok (.iconst 0, 1) := by decide +kernel
theorem dX7_raiseRows_45 : decode cX7_raiseRows 45 = .ok (.aload_n 0, 1) := by decide +kernel
theorem dX7_raiseRows_46 : decode cX7_raiseRows 46 = .ok (.getfield 76, 3) := by decide +kernel
theorem dX7_raiseRows_49 : decode cX7_raiseRows 49 = .ok (.aload_n 0, 1) := by decide +kernel
theorem dX7_raiseRows_50 : decode cX7_raiseRows 50 = .ok (.invokevirtual 135, 3) := by decide +kernel
theorem dX7_raiseRows_53 : decode cX7_raiseRows 53 = .ok (.invokevirtual 139, 3) := by decide +kernel
theorem dX7_raiseRows_56 : decode cX7_raiseRows 56 = .ok (.iinc 4 1, 3) := by decide +kernel
theorem dX7_raiseRows_59 : decode cX7_raiseRows 59 = .ok (.goto (-51), 3) := by decide +kernel
theorem dX7_raiseRows_62 : decode cX7_raiseRows 62 = .ok (.return_, 1) := by decide +kernel
theorem dX7_lowerRows_0 : decode cX7_lowerRows 0 = .ok (.aload_n 0, 1) := by decide +kernel
theorem dX7_lowerRows_1 : decode cX7_lowerRows 1 = .ok (.invokevirtual 95, 3) := by decide +kernel
theorem dX7_lowerRows_4 : decode cX7_lowerRows 4 = .ok (.astore_n 3, 1) := by decide +kernel
theorem dX7_lowerRows_5 : decode cX7_lowerRows 5 = .ok (.aload_n 0, 1) := by decide +kernel
theorem dX7_lowerRows_6 : decode cX7_lowerRows 6 = .ok (.getfield 64, 3) := by decide +kernel
theorem dX7_lowerRows_9 : decode cX7_lowerRows 9 = .ok (.istore 4, 2) := by decide +kernel
theorem dX7_lowerRows_11 : decode cX7_lowerRows 11 = .ok (.iload 4, 2) := by decide +kernel
theorem dX7_lowerRows_13 : decode cX7_lowerRows 13 = .ok (.iload_n 1, 1) := by decide +kernel
theorem dX7_lowerRows_14 : decode cX7_lowerRows 14 = .ok (.if_icmp .lt 45, 3) := by decide +kernel
theorem dX7_lowerRows_17 : decode cX7_lowerRows 17 = .ok (.iload 4, 2) := by decide +kernel
theorem dX7_lowerRows_19 : decode cX7_lowerRows 19 = .ok (.iload_n 2, 1) := by decide +kernel
theorem dX7_lowerRows_20 : decode cX7_lowerRows 20 = .ok (.isub, 1) := by decide +kernel
theorem dX7_lowerRows_21 : decode cX7_lowerRows 21 = .ok (.iload_n 1, 1) := by decide +kernel
theorem dX7_lowerRows_22 : decode cX7_lowerRows 22 = .ok (.if_icmp .lt 16, 3) := by decide +kernel
theorem dX7_lowerRows_25 : decode cX7_lowerRows 25 = .ok (.aload_n 3, 1) := by decide +kernel
theorem dX7_lowerRows_26 : decode cX7_lowerRows 26 = .ok (.iload 4, 2) := by decide +kernel
theorem dX7_lowerRows_28 : decode cX7_lowerRows 28 = .ok (.iload_n 2, 1) := by decide +kernel
theorem dX7_lowerRows_29 : decode cX7_lowerRows 29 = .ok (.isub, 1) := by decide +kernel
theorem dX7_lowerRows_30 : decode cX7_lowerRows 30 = .ok (.iload 4, 2) := by decide +kernel
theorem dX7_lowerRows_32 : decode cX7_lowerRows 32 = .ok (.invokevirtual 132, 3) := by decide +kernel
theorem dX7_lowerRows_35 : decode cX7_lowerRows 35 = .ok (.goto 18, 3) := by decide +kernel
theorem dX7_lowerRows_38 : decode cX7_lowerRows 38 = .ok (.aload_n 3, 1) := by decide +kernel
theorem dX7_lowerRows_39 : decode cX7_lowerRows 39 = .ok (.iload 4, 2) := by decide +kernel
theorem dX7_lowerRows_41 : decode cX7_lowerRows 41 = .ok (.iconst 0, 1) := by decide +kernel
theorem dX7_lowerRows_42 : decode cX7_lowerRows 42 = .ok (.aload_n 0, 1) := by decide +kernel
theorem dX7_lowerRows_43 : decode cX7_lowerRows 43 = .ok (.getfield 76, 3) := by decide +kernel
theorem dX7_lowerRows_46 : decode cX7_lowerRows 46 = .ok (.aload_n 0, 1) := by decide +kernel
theorem dX7_lowerRows_47 : decode cX7_lowerRows 47 = .ok (.invokevirtual 135, 3) := by decide +kernel
theorem dX7_lowerRows_50 : decode cX7_lowerRows 50 = .ok (.invokevirtual 139, 3) := by decide +kernel
theorem dX7_lowerRows_53 : decode cX7_lowerRows 53 = .ok (.iinc 4 (-1), 3) := by decide +kernel
theorem dX7_lowerRows_56 : decode cX7_lowerRows 56 = .ok (.goto (-45), 3) := by decide +kernel
theorem dX7_lowerRows_59 : decode cX7_lowerRows 59 = .ok (.return_, 1) := by decide +kernel
theorem dX7_insertCells_0 : decode cX7_insertCells 0 = .ok (.iload_n 1, 1) := by decide +kernel
theorem dX7_insertCells_1 : decode cX7_insertCells 1 = .ok (.aload_n 0, 1) := by decide +kernel
theorem dX7_insertCells_2 : decode cX7_insertCells 2 = .ok (.getfield 76, 3) := by decide +kernel
theorem dX7_insertCells_5 : decode cX7_insertCells 5 = .ok (.aload_n 0, 1) := by decide +kernel
theorem dX7_insertCells_6 : decode cX7_insertCells 6 = .ok (.getfield 42, 3) := by decide +kernel
theorem dX7_insertCells_9 : decode cX7_insertCells 9 = .ok (.isub, 1) := by decide +kernel
theorem dX7_insertCells_10 : decode cX7_insertCells 10 = .ok (.invokestatic 116, 3) := by decide +kernel
theorem dX7_insertCells_13 : decode cX7_insertCells 13 = .ok (.istore_n 2, 1) := by decide +kernel
theorem dX7_insertCells_14 : decode cX7_insertCells 14 = .ok (.aload_n 0, 1) := by decide +kernel
theorem dX7_insertCells_15 : decode cX7_insertCells 15 = .ok (.invokevirtual 95, 3) := by decide +kernel
theorem dX7_insertCells_18 : decode cX7_insertCells 18 = .ok (.aload_n 0, 1) := by decide +kernel
theorem dX7_insertCells_19 : decode cX7_insertCells 19 = .ok (.getfield 46, 3) := by decide +kernel
theorem dX7_insertCells_22 : decode cX7_insertCells 22 = .ok (.aload_n 0, 1) := by decide +kernel
theorem dX7_insertCells_23 : decode cX7_insertCells 23 = .ok (.getfield 42, 3) := by decide +kernel
theorem dX7_insertCells_26 : decode cX7_insertCells 26 = .ok (.aload_n 0, 1) := by decide +kernel
theorem dX7_insertCells_27 : decode cX7_insertCells 27 = .ok (.getfield 42, 3) := by decide +kernel
theorem dX7_insertCells_30 : decode cX7_insertCells 30 = .ok (.iload_n 2, 1) := by decide +kernel
theorem dX7_insertCells_31 : decode cX7_insertCells 31 = .ok (.iadd, 1) := by decide +kernel
theorem dX7_insertCells_32 : decode cX7_insertCells 32 = .ok (.aload_n 0, 1) := by decide +kernel
theorem dX7_insertCells_33 : decode cX7_insertCells 33 = .ok (.getfield 76, 3) := by decide +kernel
theorem dX7_insertCells_36 : decode cX7_insertCells 36 = .ok (.aload_n 0, 1) := by decide +kernel
theorem dX7_insertCells_37 : decode cX7_insertCells 37 = .ok (.getfield 42, 3) := by decide +kernel
theorem dX7_insertCells_40 : decode cX7_insertCells 40 = .ok (.isub, 1) := by decide +kernel
theorem dX7_insertCells_41 : decode cX7_insertCells 41 = .ok (.iload_n 2, 1) := by decide +kernel
theorem dX7_insertCells_42 : decode cX7_insertCells 42 = .ok (.isub, 1) := by decide +kernel
theorem dX7_insertCells_43 : decode cX7_insertCells 43 = .ok (.invokevirtual 99, 3) := by decide +kernel
theorem dX7_insertCells_46 : decode cX7_insertCells 46 = .ok (.aload_n 0, 1) := by decide +kernel
theorem dX7_insertCells_47 : decode cX7_insertCells 47 = .ok (.invokevirtual 95, 3) := by decide +kernel
theorem dX7_insertCells_50 : decode cX7_insertCells 50 = .ok (.aload_n 0, 1) := by decide +kernel
theorem dX7_insertCells_51 : decode cX7_insertCells 51 = .ok (.getfield 46, 3) := by decide +kernel
theorem dX7_insertCells_54 : decode cX7_insertCells 54 = .ok (.aload_n 0, 1) := by decide +kernel
theorem dX7_insertCells_55 : decode cX7_insertCells 55 = .ok (.getfield 42, 3) := by decide +kernel
theorem dX7_insertCells_58 : decode cX7_insertCells 58 = .ok (.aload_n 0, 1) := by decide +kernel
theorem dX7_insertCells_59 : decode cX7_insertCells 59 = .ok (.getfield 42, 3) := by decide +kernel
theorem dX7_insertCells_62 : decode cX7_insertCells 62 = .ok (.iload_n 2, 1) := by decide +kernel
theorem dX7_insertCells_63 : decode cX7_insertCells 63 = .ok (.iadd, 1) := by decide +kernel
theorem dX7_insertCells_64 : decode cX7_insertCells 64 = .ok (.aload_n 0, 1) := by decide +kernel
theorem dX7_insertCells_65 : decode cX7_insertCells 65 = .ok (.invokevirtual 135, 3) := by decide +kernel
theorem dX7_insertCells_68 : decode cX7_insertCells 68 = .ok (.invokevirtual 139, 3) := by decide +kernel
theorem dX7_insertCells_71 : decode cX7_insertCells 71 = .ok (.return_, 1) := by decide +kernel
theorem dX7_deleteCells_0 : decode cX7_deleteCells 0 = .ok (.iload_n 1, 1) := by decide +kernel
theorem dX7_deleteCells_1 : decode cX7_deleteCells 1 = .ok (.aload_n 0, 1) := by decide +kernel
theorem dX7_deleteCells_2 : decode cX7_deleteCells 2 = .ok (.getfield 76, 3) := by decide +kernel
theorem dX7_deleteCells_5 : decode cX7_deleteCells 5 = .ok (.aload_n 0, 1) := by decide +kernel
theorem dX7_deleteCells_6 : decode cX7_deleteCells 6 = .ok (.getfield 42, 3) := by decide +kernel
theorem dX7_deleteCells_9 : decode cX7_deleteCells 9 = .ok (.isub, 1) := by decide +kernel
theorem dX7_deleteCells_10 : decode cX7_deleteCells 10 = .ok (.invokestatic 116, 3) := by decide +kernel
theorem dX7_deleteCells_13 : decode cX7_deleteCells 13 = .ok (.istore_n 2, 1) := by decide +kernel
theorem dX7_deleteCells_14 : decode cX7_deleteCells 14 = .ok (.aload_n 0, 1) := by decide +kernel
theorem dX7_deleteCells_15 : decode cX7_deleteCells 15 = .ok (.invokevirtual 95, 3) := by decide +kernel
theorem dX7_deleteCells_18 : decode cX7_deleteCells 18 = .ok (.aload_n 0, 1) := by decide +kernel
theorem dX7_deleteCells_19 : decode cX7_deleteCells 19 = .ok (.getfield 46, 3) := by decide +kernel
theorem dX7_deleteCells_22 : decode cX7_deleteCells 22 = .ok (.aload_n 0, 1) := by decide +kernel
theorem dX7_deleteCells_23 : decode cX7_deleteCells 23 = .ok (.getfield 42, 3) := by decide +kernel
theorem dX7_deleteCells_26 : decode cX7_deleteCells 26 = .ok (.iload_n 2, 1) := by decide +kernel
theorem dX7_deleteCells_27 : decode cX7_deleteCells 27 = .ok (.iadd, 1) := by decide +kernel
theorem dX7_deleteCells_28 : decode cX7_deleteCells 28 = .ok (.aload_n 0, 1) := by decide +kernel
theorem dX7_deleteCells_29 : decode cX7_deleteCells 29 = .ok (.getfield 42, 3) := by decide +kernel
theorem dX7_deleteCells_32 : decode cX7_deleteCells 32 = .ok (.aload_n 0, 1) := by decide +kernel
theorem dX7_deleteCells_33 : decode cX7_deleteCells 33 = .ok (.getfield 76, 3) := by decide +kernel
theorem dX7_deleteCells_36 : decode cX7_deleteCells 36 = .ok (.aload_n 0, 1) := by decide +kernel
theorem dX7_deleteCells_37 : decode cX7_deleteCells 37 = .ok (.getfield 42, 3) := by decide +kernel
theorem dX7_deleteCells_40 : decode cX7_deleteCells 40 = .ok (.isub, 1) := by decide +kernel
theorem dX7_deleteCells_41 : decode cX7_deleteCells 41 = .ok (.iload_n 2, 1) := by decide +kernel
theorem dX7_deleteCells_42 : decode cX7_deleteCells 42 = .ok (.isub, 1) := by decide +kernel
theorem dX7_deleteCells_43 : decode cX7_deleteCells 43 = .ok (.invokevirtual 99, 3) := by decide +kernel
theorem dX7_deleteCells_46 : decode cX7_deleteCells 46 = .ok (.aload_n 0, 1) := by decide +kernel
theorem dX7_deleteCells_47 : decode cX7_deleteCells 47 = .ok (.invokevirtual 95, 3) := by decide +kernel
theorem dX7_deleteCells_50 : decode cX7_deleteCells 50 = .ok (.aload_n 0, 1) := by decide +kernel
theorem dX7_deleteCells_51 : decode cX7_deleteCells 51 = .ok (.getfield 46, 3) := by decide +kernel
theorem dX7_deleteCells_54 : decode cX7_deleteCells 54 = .ok (.aload_n 0, 1) := by decide +kernel
theorem dX7_deleteCells_55 : decode cX7_deleteCells 55 = .ok (.getfield 76, 3) := by decide +kernel
theorem dX7_deleteCells_58 : decode cX7_deleteCells 58 = .ok (.iload_n 2, 1) := by decide +kernel
theorem dX7_deleteCells_59 : decode cX7_deleteCells 59 = .ok (.isub, 1) := by decide +kernel
theorem dX7_deleteCells_60 : decode cX7_deleteCells 60 = .ok (.aload_n 0, 1) := by decide +kernel
theorem dX7_deleteCells_61 : decode cX7_deleteCells 61 = .ok (.getfield 76, 3) := by decide +kernel
theorem dX7_deleteCells_64 : decode cX7_deleteCells 64 = .ok (.aload_n 0, 1) := by decide +kernel
theorem dX7_deleteCells_65 : decode cX7_deleteCells 65 = .ok (.invokevirtual 135, 3) := by decide +kernel
theorem dX7_deleteCells_68 : decode cX7_deleteCells 68 = .ok (.invokevirtual 139, 3) := by decide +kernel
theorem dX7_deleteCells_71 : decode cX7_deleteCells 71 = .ok (.return_, 1) := by decide +kernel
theorem dX7_eraseCells_0 : decode cX7_eraseCells 0 = .ok (.aload_n 0, 1) := by decide +kernel
theorem dX7_eraseCells_1 : decode cX7_eraseCells 1 = .ok (.invokevirtual 95, 3) := by decide +kernel
theorem dX7_eraseCells_4 : decode cX7_eraseCells 4 = .ok (.aload_n 0, 1) := by decide +kernel
theorem dX7_eraseCells_5 : decode cX7_eraseCells 5 = .ok (.getfield 46, 3) := by decide +kernel
theorem dX7_eraseCells_8 : decode cX7_eraseCells 8 = .ok (.aload_n 0, 1) := by decide +kernel
theorem dX7_eraseCells_9 : decode cX7_eraseCells 9 = .ok (.getfield 42, 3) := by decide +kernel
theorem dX7_eraseCells_12 : decode cX7_eraseCells 12 = .ok (.aload_n 0, 1) := by decide +kernel
theorem dX7_eraseCells_13 : decode cX7_eraseCells 13 = .ok (.getfield 76, 3) := by decide +kernel
theorem dX7_eraseCells_16 : decode cX7_eraseCells 16 = .ok (.aload_n 0, 1) := by decide +kernel
theorem dX7_eraseCells_17 : decode cX7_eraseCells 17 = .ok (.getfield 42, 3) := by decide +kernel
theorem dX7_eraseCells_20 : decode cX7_eraseCells 20 = .ok (.iload_n 1, 1) := by decide +kernel
theorem dX7_eraseCells_21 : decode cX7_eraseCells 21 = .ok (.iadd, 1) := by decide +kernel
theorem dX7_eraseCells_22 : decode cX7_eraseCells 22 = .ok (.invokestatic 116, 3) := by decide +kernel
theorem dX7_eraseCells_25 : decode cX7_eraseCells 25 = .ok (.aload_n 0, 1) := by decide +kernel
theorem dX7_eraseCells_26 : decode cX7_eraseCells 26 = .ok (.invokevirtual 135, 3) := by decide +kernel
theorem dX7_eraseCells_29 : decode cX7_eraseCells 29 = .ok (.invokevirtual 139, 3) := by decide +kernel
theorem dX7_eraseCells_32 : decode cX7_eraseCells 32 = .ok (.return_, 1) := by decide +kernel
theorem dX7_eraseInRow_0 : decode cX7_eraseInRow 0 = .ok (.iload_n 1, 1) := by decide +kernel
theorem dX7_eraseInRow_1 : decode cX7_eraseInRow 1 = .ok (.ifCond .lt 57, 3) := by decide +kernel
theorem dX7_eraseInRow_4 : decode cX7_eraseInRow 4 = .ok (.iload_n 1, 1) := by decide +kernel
theorem dX7_eraseInRow_5 : decode cX7_eraseInRow 5 = .ok (.iconst 2, 1) := by decide +kernel
theorem dX7_eraseInRow_6 : decode cX7_eraseInRow 6 = .ok (.if_icmp .gt 52, 3) := by decide +kernel
theorem dX7_eraseInRow_9 : decode cX7_eraseInRow 9 = .ok (.iload_n 1, 1) := by decide +kernel
theorem dX7_eraseInRow_10 : decode cX7_eraseInRow 10 = .ok (.ifCond .ne 10, 3) := by decide +kernel
theorem dX7_eraseInRow_13 : decode cX7_eraseInRow 13 = .ok (.aload_n 0, 1) := by decide +kernel
theorem dX7_eraseInRow_14 : decode cX7_eraseInRow 14 = .ok (.getfield 42, 3) := by decide +kernel
theorem dX7_eraseInRow_17 : decode cX7_eraseInRow 17 = .ok (.goto 4, 3) := by decide +kernel
theorem dX7_eraseInRow_20 : decode cX7_eraseInRow 20 = .ok (.iconst 0, 1) := by decide +kernel
theorem dX7_eraseInRow_21 : decode cX7_eraseInRow 21 = .ok (.istore_n 2, 1) := by decide +kernel
theorem dX7_eraseInRow_22 : decode cX7_eraseInRow 22 = .ok (.iload_n 1, 1) := by decide +kernel
theorem dX7_eraseInRow_23 : decode cX7_eraseInRow 23 = .ok (.iconst 1, 1) := by decide +kernel
theorem dX7_eraseInRow_24 : decode cX7_eraseInRow 24 = .ok (.if_icmp .ne 12, 3) := by decide +kernel
theorem dX7_eraseInRow_27 : decode cX7_eraseInRow 27 = .ok (.aload_n 0, 1) := by decide +kernel
theorem dX7_eraseInRow_28 : decode cX7_eraseInRow 28 = .ok (.getfield 42, 3) := by decide +kernel
theorem dX7_eraseInRow_31 : decode cX7_eraseInRow 31 = .ok (.iconst 1, 1) := by decide +kernel
theorem dX7_eraseInRow_32 : decode cX7_eraseInRow 32 = .ok (.iadd, 1) := by decide +kernel
theorem dX7_eraseInRow_33 : decode cX7_eraseInRow 33 = .ok (.goto 7, 3) := by decide +kernel
theorem dX7_eraseInRow_36 : decode cX7_eraseInRow 36 = .ok (.aload_n 0, 1) := by decide +kernel
theorem dX7_eraseInRow_37 : decode cX7_eraseInRow 37 = .ok (.getfield 76, 3) := by decide +kernel
theorem dX7_eraseInRow_40 : decode cX7_eraseInRow 40 = .ok (.istore_n 3, 1) := by decide +kernel
theorem dX7_eraseInRow_41 : decode cX7_eraseInRow 41 = .ok (.aload_n 0, 1) := by decide +kernel
theorem dX7_eraseInRow_42 : decode cX7_eraseInRow 42 = .ok (.invokevirtual 95, 3) := by decide +kernel
theorem dX7_eraseInRow_45 : decode cX7_eraseInRow 45 = .ok (.aload_n 0, 1) := by decide +kernel
theorem dX7_eraseInRow_46 : decode cX7_eraseInRow 46 = .ok (.getfield 46, 3) := by decide +kernel
theorem dX7_eraseInRow_49 : decode cX7_eraseInRow 49 = .ok (.iload_n 2, 1) := by decide +kernel
theorem dX7_eraseInRow_50 : decode cX7_eraseInRow 50 = .ok (.iload_n 3, 1) := by decide +kernel
theorem dX7_eraseInRow_51 : decode cX7_eraseInRow 51 = .ok (.aload_n 0, 1) := by decide +kernel
theorem dX7_eraseInRow_52 : decode cX7_eraseInRow 52 = .ok (.invokevirtual 135, 3) := by decide +kernel
theorem dX7_eraseInRow_55 : decode cX7_eraseInRow 55 = .ok (.invokevirtual 139, 3) := by decide +kernel
theorem dX7_eraseInRow_58 : decode cX7_eraseInRow 58 = .ok (.return_, 1) := by decide +kernel
theorem dX7_erase_0 : decode cX7_erase 0 = .ok (.aload_n 0, 1) := by decide +kernel
theorem dX7_erase_1 : decode cX7_erase 1 = .ok (.iload_n 1, 1) := by decide +kernel
theorem dX7_erase_2 : decode cX7_erase 2 = .ok (.invokevirtual 142, 3) := by decide +kernel
theorem dX7_erase_5 : decode cX7_erase 5 = .ok (.iconst 0, 1) := by decide +kernel
theorem dX7_erase_6 : decode cX7_erase 6 = .ok (.istore_n 2, 1) := by decide +kernel
theorem dX7_erase_7 : decode cX7_erase 7 = .ok (.iload_n 2, 1) := by decide +kernel
theorem dX7_erase_8 : decode cX7_erase 8 = .ok (.aload_n 0, 1) := by decide +kernel
theorem dX7_erase_9 : decode cX7_erase 9 = .ok (.getfield 61, 3) := by decide +kernel
theorem dX7_erase_12 : decode cX7_erase 12 = .ok (.if_icmp .ge 66, 3) := by decide +kernel
theorem dX7_erase_15 : decode cX7_erase 15 = .ok (.iload_n 1, 1) := by decide +kernel
theorem dX7_erase_16 : decode cX7_erase 16 = .ok (.ifCond .ne 11, 3) := by decide +kernel
theorem dX7_erase_19 : decode cX7_erase 19 = .ok (.iload_n 2, 1) := by decide +kernel
theorem dX7_erase_20 : decode cX7_erase 20 = .ok (.aload_n 0, 1) := by decide +kernel
theorem dX7_erase_21 : decode cX7_erase 21 = .ok (.getfield 46, 3) := by decide +kernel
theorem dX7_erase_24 : decode cX7_erase 24 = .ok (.if_icmp .gt 21, 3) := by decide +kernel
theorem dX7_erase_27 : decode cX7_erase 27 = .ok (.iload_n 1, 1) := by decide +kernel
theorem dX7_erase_28 : decode cX7_erase 28 = .ok (.iconst 1, 1) := by decide +kernel
theorem dX7_erase_29 : decode cX7_erase 29 = .ok (.if_icmp .ne 11, 3) := by decide +kernel
theorem dX7_erase_32 : decode cX7_erase 32 = .ok (.iload_n 2, 1) := by decide +kernel
theorem dX7_erase_33 : decode cX7_erase 33 = .ok (.aload_n 0, 1) := by decide +kernel
theorem dX7_erase_34 : decode cX7_erase 34 = .ok (.getfield 46, 3) := by decide +kernel
theorem dX7_erase_37 : decode cX7_erase 37 = .ok (.if_icmp .lt 8, 3) := by decide +kernel
theorem dX7_erase_40 : decode cX7_erase 40 = .ok (.iload_n 1, 1) := by decide +kernel
theorem dX7_erase_41 : decode cX7_erase 41 = .ok (.iconst 2, 1) := by decide +kernel
theorem dX7_erase_42 : decode cX7_erase 42 = .ok (.if_icmp .ne 7, 3) := by decide +kernel
theorem dX7_erase_45 : decode cX7_erase 45 = .ok (.iconst 1, 1) := by decide +kernel
theorem dX7_erase_46 : decode cX7_erase 46 = .ok (.goto 4, 3) := by decide +kernel
theorem dX7_erase_49 : decode cX7_erase 49 = .ok (.iconst 0, 1) := by decide +kernel
theorem dX7_erase_50 : decode cX7_erase 50 = .ok (.istore_n 3, 1) := by decide +kernel
theorem dX7_erase_51 : decode cX7_erase 51 = .ok (.iload_n 3, 1) := by decide +kernel
theorem dX7_erase_52 : decode cX7_erase 52 = .ok (.ifCond .eq 20, 3) := by decide +kernel
theorem dX7_erase_55 : decode cX7_erase 55 = .ok (.aload_n 0, 1) := by decide +kernel
theorem dX7_erase_56 : decode cX7_erase 56 = .ok (.invokevirtual 95, 3) := by decide +kernel
theorem dX7_erase_59 : decode cX7_erase 59 = .ok (.iload_n 2, 1) := by decide +kernel
theorem dX7_erase_60 : decode cX7_erase 60 = .ok (.iconst 0, 1) := by decide +kernel
theorem dX7_erase_61 : decode cX7_erase 61 = .ok (.aload_n 0, 1) := by decide +kernel
theorem dX7_erase_62 : decode cX7_erase 62 = .ok (.getfield 76, 3) := by decide +kernel
theorem dX7_erase_65 : decode cX7_erase 65 = .ok (.aload_n 0, 1) := by decide +kernel
theorem dX7_erase_66 : decode cX7_erase 66 = .ok (.invokevirtual 135, 3) := by decide +kernel
theorem dX7_erase_69 : decode cX7_erase 69 = .ok (.invokevirtual 139, 3) := by decide +kernel
theorem dX7_erase_72 : decode cX7_erase 72 = .ok (.iinc 2 1, 3) := by decide +kernel
theorem dX7_erase_75 : decode cX7_erase 75 = .ok (.goto (-68), 3) := by decide +kernel
theorem dX7_erase_78 : decode cX7_erase 78 = .ok (.return_, 1) := by decide +kernel
theorem dX7_setRegion_0 : decode cX7_setRegion 0 = .ok (.iload_n 2, 1) := by decide +kernel
theorem dX7_setRegion_1 : decode cX7_setRegion 1 = .ok (.ifCond .ne 10, 3) := by decide +kernel
theorem dX7_setRegion_4 : decode cX7_setRegion 4 = .ok (.aload_n 0, 1) := by decide +kernel
theorem dX7_setRegion_5 : decode cX7_setRegion 5 = .ok (.getfield 61, 3) := by decide +kernel
theorem dX7_setRegion_8 : decode cX7_setRegion 8 = .ok (.goto 11, 3) := by decide +kernel
theorem dX7_setRegion_11 : decode cX7_setRegion 11 = .ok (.iload_n 2, 1) := by decide +kernel
theorem dX7_setRegion_12 : decode cX7_setRegion 12 = .ok (.aload_n 0, 1) := by decide +kernel
theorem dX7_setRegion_13 : decode cX7_setRegion 13 = .ok (.getfield 61, 3) := by decide +kernel
theorem dX7_setRegion_16 : decode cX7_setRegion 16 = .ok (.invokestatic 116, 3) := by decide +kernel
theorem dX7_setRegion_19 : decode cX7_setRegion 19 = .ok (.istore_n 3, 1) := by decide +kernel
theorem dX7_setRegion_20 : decode cX7_setRegion 20 = .ok (.iload_n 3, 1) := by decide +kernel
theorem dX7_setRegion_21 : decode cX7_setRegion 21 = .ok (.iload_n 1, 1) := by decide +kernel
theorem dX7_setRegion_22 : decode cX7_setRegion 22 = .ok (.if_icmp .le 23, 3) := by decide +kernel
theorem dX7_setRegion_25 : decode cX7_setRegion 25 = .ok (.aload_n 0, 1) := by decide +kernel
theorem dX7_setRegion_26 : decode cX7_setRegion 26 = .ok (.iload_n 1, 1) := by decide +kernel
theorem dX7_setRegion_27 : decode cX7_setRegion 27 = .ok (.iconst 1, 1) := by decide +kernel
theorem dX7_setRegion_28 : decode cX7_setRegion 28 = .ok (.isub, 1) := by decide +kernel
theorem dX7_setRegion_29 : decode cX7_setRegion 29 = .ok (.putfield 58, 3) := by decide +kernel
theorem dX7_setRegion_32 : decode cX7_setRegion 32 = .ok (.aload_n 0, 1) := by decide +kernel
theorem dX7_setRegion_33 : decode cX7_setRegion 33 = .ok (.iload_n 3, 1) := by decide +kernel
theorem dX7_setRegion_34 : decode cX7_setRegion 34 = .ok (.iconst 1, 1) := by decide +kernel
theorem dX7_setRegion_35 : decode cX7_setRegion 35 = .ok (.isub, 1) := by decide +kernel
theorem dX7_setRegion_36 : decode cX7_setRegion 36 = .ok (.putfield 64, 3) := by decide +kernel
theorem dX7_setRegion_39 : decode cX7_setRegion 39 = .ok (.aload_n 0, 1) := by decide +kernel
theorem dX7_setRegion_40 : decode cX7_setRegion 40 = .ok (.iconst 0, 1) := by decide +kernel
theorem dX7_setRegion_41 : decode cX7_setRegion 41 = .ok (.iconst 0, 1) := by decide +kernel
theorem dX7_setRegion_42 : decode cX7_setRegion 42 = .ok (.invokevirtual 79, 3) := by decide +kernel
theorem dX7_setRegion_45 : decode cX7_setRegion 45 = .ok (.return_, 1) := by decide +kernel
theorem dX7_showOther_0 : decode cX7_showOther 0 = .ok (.iload_n 1, 1) := by decide +kernel
theorem dX7_showOther_1 : decode cX7_showOther 1 = .ok (.ifCond .eq 19, 3) := by decide +kernel
theorem dX7_showOther_4 : decode cX7_showOther 4 = .ok (.aload_n 0, 1) := by decide +kernel
theorem dX7_showOther_5 : decode cX7_showOther 5 = .ok (.getfield 32, 3) := by decide +kernel
theorem dX7_showOther_8 : decode cX7_showOther 8 = .ok (.ifCond .ne 12, 3) := by decide +kernel
theorem dX7_showOther_11 : decode cX7_showOther 11 = .ok (.aload_n 0, 1) := by decide +kernel
theorem dX7_showOther_12 : decode cX7_showOther 12 = .ok (.getfield 20, 3) := by decide +kernel
theorem dX7_showOther_15 : decode cX7_showOther 15 = .ok (.iconst 0, 1) := by decide +kernel
theorem dX7_showOther_16 : decode cX7_showOther 16 = .ok (.iconst 0, 1) := by decide +kernel
theorem dX7_showOther_17 : decode cX7_showOther 17 = .ok (.invokevirtual 36, 3) := by decide +kernel
theorem dX7_showOther_20 : decode cX7_showOther 20 = .ok (.aload_n 0, 1) := by decide +kernel
theorem dX7_showOther_21 : decode cX7_showOther 21 = .ok (.iload_n 1, 1) := by decide +kernel
theorem dX7_showOther_22 : decode cX7_showOther 22 = .ok (.putfield 32, 3) := by decide +kernel
theorem dX7_showOther_25 : decode cX7_showOther 25 = .ok (.return_, 1) := by decide +kernel
theorem dX7_blank_0 : decode cX7_blank 0 = .ok (.aload_n 0, 1) := by decide +kernel
theorem dX7_blank_1 : decode cX7_blank 1 = .ok (.getfield 52, 3) := by decide +kernel
theorem dX7_blank_4 : decode cX7_blank 4 = .ok (.sipush 128, 3) := by decide +kernel
theorem dX7_blank_7 : decode cX7_blank 7 = .ok (.imul, 1) := by decide +kernel
theorem dX7_blank_8 : decode cX7_blank 8 = .ok (.bipush 32, 2) := by decide +kernel
theorem dX7_blank_10 : decode cX7_blank 10 = .ok (.iadd, 1) := by decide +kernel
theorem dX7_blank_11 : decode cX7_blank 11 = .ok (.ireturn, 1) := by decide +kernel
theorem dX8_init_0 : decode cX8_init 0 = .ok (.aload_n 0, 1) := by decide +kernel
theorem dX8_init_1 : decode cX8_init 1 = .ok (.invokespecial 1, 3) := by decide +kernel
theorem dX8_init_4 : decode cX8_init 4 = .ok (.aload_n 0, 1) := by decide +kernel
theorem dX8_init_5 : decode cX8_init 5 = .ok (.bipush 64, 2) := by decide +kernel
theorem dX8_init_7 : decode cX8_init 7 = .ok (.newarray .int, 2) := by decide +kernel
theorem dX8_init_9 : decode cX8_init 9 = .ok (.putfield 9, 3) := by decide +kernel
theorem dX8_init_12 : decode cX8_init 12 = .ok (.return_, 1) := by decide +kernel
theorem dX8_add_0 : decode cX8_add 0 = .ok (.aload_n 0, 1) := by decide +kernel
theorem dX8_add_1 : decode cX8_add 1 = .ok (.getfield 9, 3) := by decide +kernel
theorem dX8_add_4 : decode cX8_add 4 = .ok (.aload_n 0, 1) := by decide +kernel
theorem dX8_add_5 : decode cX8_add 5 = .ok (.getfield 13, 3) := by decide +kernel
theorem dX8_add_8 : decode cX8_add 8 = .ok (.bipush 63, 2) := by decide +kernel
theorem dX8_add_10 : decode cX8_add 10 = .ok (.iand, 1) := by decide +kernel
theorem dX8_add_11 : decode cX8_add 11 = .ok (.iload_n 1, 1) := by decide +kernel
theorem dX8_add_12 : decode cX8_add 12 = .ok (.iastore, 1) := by decide +kernel
theorem dX8_add_13 : decode cX8_add 13 = .ok (.aload_n 0, 1) := by decide +kernel
theorem dX8_add_14 : decode cX8_add 14 = .ok (.dup, 1) := by decide +kernel
theorem dX8_add_15 : decode cX8_add 15 = .ok (.getfield 13, 3) := by decide +kernel
theorem dX8_add_18 : decode cX8_add 18 = .ok (.iconst 1, 1) := by decide +kernel
theorem dX8_add_19 : decode cX8_add 19 = .ok (.iadd, 1) := by decide +kernel
theorem dX8_add_20 : decode cX8_add 20 = .ok (.putfield 13, 3) := by decide +kernel
theorem dX8_add_23 : decode cX8_add 23 = .ok (.return_, 1) := by decide +kernel
theorem dX8_told_0 : decode cX8_told 0 = .ok (.aload_n 0, 1) := by decide +kernel
theorem dX8_told_1 : decode cX8_told 1 = .ok (.getfield 13, 3) := by decide +kernel
theorem dX8_told_4 : decode cX8_told 4 = .ok (.bipush 64, 2) := by decide +kernel
theorem dX8_told_6 : decode cX8_told 6 = .ok (.invokestatic 17, 3) := by decide +kernel
theorem dX8_told_9 : decode cX8_told 9 = .ok (.ireturn, 1) := by decide +kernel
theorem dX8_at_0 : decode cX8_at 0 = .ok (.aload_n 0, 1) := by decide +kernel
theorem dX8_at_1 : decode cX8_at 1 = .ok (.getfield 9, 3) := by decide +kernel
theorem dX8_at_4 : decode cX8_at 4 = .ok (.aload_n 0, 1) := by decide +kernel
theorem dX8_at_5 : decode cX8_at 5 = .ok (.getfield 13, 3) := by decide +kernel
theorem dX8_at_8 : decode cX8_at 8 = .ok (.aload_n 0, 1) := by decide +kernel
theorem dX8_at_9 : decode cX8_at 9 = .ok (.invokevirtual 23, 3) := by decide +kernel
theorem dX8_at_12 : decode cX8_at 12 = .ok (.isub, 1) := by decide +kernel
theorem dX8_at_13 : decode cX8_at 13 = .ok (.iload_n 1, 1) := by decide +kernel
theorem dX8_at_14 : decode cX8_at 14 = .ok (.iadd, 1) := by decide +kernel
theorem dX8_at_15 : decode cX8_at 15 = .ok (.bipush 63, 2) := by decide +kernel
theorem dX8_at_17 : decode cX8_at 17 = .ok (.iand, 1) := by decide +kernel
theorem dX8_at_18 : decode cX8_at 18 = .ok (.iaload, 1) := by decide +kernel
theorem dX8_at_19 : decode cX8_at 19 = .ok (.ireturn, 1) := by decide +kernel
theorem dX9_init_0 : decode cX9_init 0 = .ok (.aload_n 0, 1) := by decide +kernel
theorem dX9_init_1 : decode cX9_init 1 = .ok (.invokespecial 1, 3) := by decide +kernel
theorem dX9_init_4 : decode cX9_init 4 = .ok (.aload_n 0, 1) := by decide +kernel
theorem dX9_init_5 : decode cX9_init 5 = .ok (.bipush 8, 2) := by decide +kernel
theorem dX9_init_7 : decode cX9_init 7 = .ok (.anewarray 9, 3) := by decide +kernel
theorem dX9_init_10 : decode cX9_init 10 = .ok (.putfield 11, 3) := by decide +kernel
theorem dX9_init_13 : decode cX9_init 13 = .ok (.aload_n 0, 1) := by decide +kernel
theorem dX9_init_14 : decode cX9_init 14 = .ok (.sipush 400, 3) := by decide +kernel
theorem dX9_init_17 : decode cX9_init 17 = .ok (.newarray .int, 2) := by decide +kernel
theorem dX9_init_19 : decode cX9_init 19 = .ok (.putfield 15, 3) := by decide +kernel
theorem dX9_init_22 : decode cX9_init 22 = .ok (.aload_n 0, 1) := by decide +kernel
theorem dX9_init_23 : decode cX9_init 23 = .ok (.iload_n 1, 1) := by decide +kernel
theorem dX9_init_24 : decode cX9_init 24 = .ok (.bipush 8, 2) := by decide +kernel
theorem dX9_init_26 : decode cX9_init 26 = .ok (.bipush 40, 2) := by decide +kernel
theorem dX9_init_28 : decode cX9_init 28 = .ok (.invokestatic 19, 3) := by decide +kernel
theorem dX9_init_31 : decode cX9_init 31 = .ok (.putfield 23, 3) := by decide +kernel
theorem dX9_init_34 : decode cX9_init 34 = .ok (.aload_n 0, 1) := by decide +kernel
theorem dX9_init_35 : decode cX9_init 35 = .ok (.iload_n 2, 1) := by decide +kernel
theorem dX9_init_36 : decode cX9_init 36 = .ok (.iconst 4, 1) := by decide +kernel
theorem dX9_init_37 : decode cX9_init 37 = .ok (.bipush 16, 2) := by decide +kernel
theorem dX9_init_39 : decode cX9_init 39 = .ok (.invokestatic 19, 3) := by decide +kernel
theorem dX9_init_42 : decode cX9_init 42 = .ok (.putfield 27, 3) := by decide +kernel
theorem dX9_init_45 : decode cX9_init 45 = .ok (.iconst 0, 1) := by decide +kernel
theorem dX9_init_46 : decode cX9_init 46 = .ok (.istore_n 3, 1) := by decide +kernel
theorem dX9_init_47 : decode cX9_init 47 = .ok (.iload_n 3, 1) := by decide +kernel
theorem dX9_init_48 : decode cX9_init 48 = .ok (.bipush 8, 2) := by decide +kernel
theorem dX9_init_50 : decode cX9_init 50 = .ok (.if_icmp .ge 30, 3) := by decide +kernel
theorem dX9_init_53 : decode cX9_init 53 = .ok (.aload_n 0, 1) := by decide +kernel
theorem dX9_init_54 : decode cX9_init 54 = .ok (.getfield 11, 3) := by decide +kernel
theorem dX9_init_57 : decode cX9_init 57 = .ok (.iload_n 3, 1) := by decide +kernel
theorem dX9_init_58 : decode cX9_init 58 = .ok (.new 9, 3) := by decide +kernel
theorem dX9_init_61 : decode cX9_init 61 = .ok (.dup, 1) := by decide +kernel
theorem dX9_init_62 : decode cX9_init 62 = .ok (.aload_n 0, 1) := by decide +kernel
theorem dX9_init_63 : decode cX9_init 63 = .ok (.getfield 23, 3) := by decide +kernel
theorem dX9_init_66 : decode cX9_init 66 = .ok (.aload_n 0, 1) := by decide +kernel
theorem dX9_init_67 : decode cX9_init 67 = .ok (.getfield 27, 3) := by decide +kernel
theorem dX9_init_70 : decode cX9_init 70 = .ok (.invokespecial 30, 3) := by decide +kernel
theorem dX9_init_73 : decode cX9_init 73 = .ok (.aastore, 1) := by decide +kernel
theorem dX9_init_74 : decode cX9_init 74 = .ok (.iinc 3 1, 3) := by decide +kernel
theorem dX9_init_77 : decode cX9_init 77 = .ok (.goto (-30), 3) := by decide +kernel
theorem dX9_init_80 : decode cX9_init 80 = .ok (.aload_n 0, 1) := by decide +kernel
theorem dX9_init_81 : decode cX9_init 81 = .ok (.new 33, 3) := by decide +kernel
theorem dX9_init_84 : decode cX9_init 84 = .ok (.dup, 1) := by decide +kernel
theorem dX9_init_85 : decode cX9_init 85 = .ok (.aload_n 0, 1) := by decide +kernel
theorem dX9_init_86 : decode cX9_init 86 = .ok (.getfield 23, 3) := by decide +kernel
theorem dX9_init_89 : decode cX9_init 89 = .ok (.aload_n 0, 1) := by decide +kernel
theorem dX9_init_90 : decode cX9_init 90 = .ok (.getfield 27, 3) := by decide +kernel
theorem dX9_init_93 : decode cX9_init 93 = .ok (.invokespecial 35, 3) := by decide +kernel
theorem dX9_init_96 : decode cX9_init 96 = .ok (.putfield 36, 3) := by decide +kernel
theorem dX9_init_99 : decode cX9_init 99 = .ok (.aload_n 0, 1) := by decide +kernel
theorem dX9_init_100 : decode cX9_init 100 = .ok (.new 40, 3) := by decide +kernel
theorem dX9_init_103 : decode cX9_init 103 = .ok (.dup, 1) := by decide +kernel
theorem dX9_init_104 : decode cX9_init 104 = .ok (.aload_n 0, 1) := by decide +kernel
theorem dX9_init_105 : decode cX9_init 105 = .ok (.getfield 23, 3) := by decide +kernel
theorem dX9_init_108 : decode cX9_init 108 = .ok (.aload_n 0, 1) := by decide +kernel
theorem dX9_init_109 : decode cX9_init 109 = .ok (.getfield 27, 3) := by decide +kernel
theorem dX9_init_112 : decode cX9_init 112 = .ok (.invokespecial 42, 3) := by decide +kernel
theorem dX9_init_115 : decode cX9_init 115 = .ok (.putfield 43, 3) := by decide +kernel
theorem dX9_init_118 : decode cX9_init 118 = .ok (.aload_n 0, 1) := by decide +kernel
theorem dX9_init_119 : decode cX9_init 119 = .ok (.aload_n 0, 1) := by decide +kernel
theorem dX9_init_120 : decode cX9_init 120 = .ok (.getfield 23, 3) := by decide +kernel
theorem dX9_init_123 : decode cX9_init 123 = .ok (.aload_n 0, 1) := by decide +kernel
theorem dX9_init_124 : decode cX9_init 124 = .ok (.getfield 27, 3) := by decide +kernel
theorem dX9_init_127 : decode cX9_init 127 = .ok (.imul, 1) := by decide +kernel
theorem dX9_init_128 : decode cX9_init 128 = .ok (.newarray .int, 2) := by decide +kernel
theorem dX9_init_130 : decode cX9_init 130 = .ok (.putfield 47, 3) := by decide +kernel
theorem dX9_init_133 : decode cX9_init 133 = .ok (.aload_n 0, 1) := by decide +kernel
theorem dX9_init_134 : decode cX9_init 134 = .ok (.aload_n 0, 1) := by decide +kernel
theorem dX9_init_135 : decode cX9_init 135 = .ok (.getfield 23, 3) := by decide +kernel
theorem dX9_init_138 : decode cX9_init 138 = .ok (.newarray .int, 2) := by decide +kernel
theorem dX9_init_140 : decode cX9_init 140 = .ok (.putfield 50, 3) := by decide +kernel
theorem dX9_init_143 : decode cX9_init 143 = .ok (.aload_n 0, 1) := by decide +kernel
theorem dX9_init_144 : decode cX9_init 144 = .ok (.invokevirtual 53, 3) := by decide +kernel
theorem dX9_init_147 : decode cX9_init 147 = .ok (.aload_n 0, 1) := by decide +kernel
theorem dX9_init_148 : decode cX9_init 148 = .ok (.getfield 11, 3) := by decide +kernel
theorem dX9_init_151 : decode cX9_init 151 = .ok (.iconst 0, 1) := by decide +kernel
theorem dX9_init_152 : decode cX9_init 152 = .ok (.aaload, 1) := by decide +kernel
theorem dX9_init_153 : decode cX9_init 153 = .ok (.invokevirtual 56, 3) := by decide +kernel
theorem dX9_init_156 : decode cX9_init 156 = .ok (.return_, 1) := by decide +kernel
theorem dX9_feed_0 : decode cX9_feed 0 = .ok (.aload_n 0, 1) := by decide +kernel
theorem dX9_feed_1 : decode cX9_feed 1 = .ok (.iload_n 1, 1) := by decide +kernel
theorem dX9_feed_2 : decode cX9_feed 2 = .ok (.invokevirtual 59, 3) := by decide +kernel
theorem dX9_feed_5 : decode cX9_feed 5 = .ok (.iload 4, 2) := by decide +kernel
theorem dX9_feed_7 : decode cX9_feed 7 = .ok (.iconst 1, 1) := by decide +kernel
theorem dX9_feed_8 : decode cX9_feed 8 = .ok (.if_icmp .lt 10, 3) := by decide +kernel
theorem dX9_feed_11 : decode cX9_feed 11 = .ok (.iload 4, 2) := by decide +kernel
theorem dX9_feed_13 : decode cX9_feed 13 = .ok (.bipush 8, 2) := by decide +kernel
theorem dX9_feed_15 : decode cX9_feed 15 = .ok (.if_icmp .le 13, 3) := by decide +kernel
theorem dX9_feed_18 : decode cX9_feed 18 = .ok (.new 63, 3) := by decide +kernel
theorem dX9_feed_21 : decode cX9_feed 21 = .ok (.dup, 1) := by decide +kernel
theorem dX9_feed_22 : decode cX9_feed 22 = .ok (.ldc 65, 2) := by decide +kernel
theorem dX9_feed_24 : decode cX9_feed 24 = .ok (.invokespecial 67, 3) := by decide +kernel
theorem dX9_feed_27 : decode cX9_feed 27 = .ok (.athrow, 1) := by decide +kernel
theorem dX9_feed_28 : decode cX9_feed 28 = .ok (.iconst 0, 1) := by decide +kernel
theorem dX9_feed_29 : decode cX9_feed 29 = .ok (.istore 5, 2) := by decide +kernel
theorem dX9_feed_31 : decode cX9_feed 31 = .ok (.iload 5, 2) := by decide +kernel
theorem dX9_feed_33 : decode cX9_feed 33 = .ok (.iload 4, 2) := by decide +kernel
theorem dX9_feed_35 : decode cX9_feed 35 = .ok (.if_icmp .ge 33, 3) := by decide +kernel
theorem dX9_feed_38 : decode cX9_feed 38 = .ok (.aload_n 0, 1) := by decide +kernel
theorem dX9_feed_39 : decode cX9_feed 39 = .ok (.getfield 11, 3) := by decide +kernel
theorem dX9_feed_42 : decode cX9_feed 42 = .ok (.iload_n 1, 1) := by decide +kernel
theorem dX9_feed_43 : decode cX9_feed 43 = .ok (.aaload, 1) := by decide +kernel
theorem dX9_feed_44 : decode cX9_feed 44 = .ok (.getfield 70, 3) := by decide +kernel
theorem dX9_feed_47 : decode cX9_feed 47 = .ok (.lload_n 2, 1) := by decide +kernel
theorem dX9_feed_48 : decode cX9_feed 48 = .ok (.bipush 8, 2) := by decide +kernel
theorem dX9_feed_50 : decode cX9_feed 50 = .ok (.iload 5, 2) := by decide +kernel
theorem dX9_feed_52 : decode cX9_feed 52 = .ok (.imul, 1) := by decide +kernel
theorem dX9_feed_53 : decode cX9_feed 53 = .ok (.lshr, 1) := by decide +kernel
theorem dX9_feed_54 : decode cX9_feed 54 = .ok (.l2i, 1) := by decide +kernel
theorem dX9_feed_55 : decode cX9_feed 55 = .ok (.sipush 255, 3) := by decide +kernel
theorem dX9_feed_58 : decode cX9_feed 58 = .ok (.iand, 1) := by decide +kernel
theorem dX9_feed_59 : decode cX9_feed 59 = .ok (.invokevirtual 74, 3) := by decide +kernel
theorem dX9_feed_62 : decode cX9_feed 62 = .ok (.iinc 5 1, 3) := by decide +kernel
theorem dX9_feed_65 : decode cX9_feed 65 = .ok (.goto (-34), 3) := by decide +kernel
theorem dX9_feed_68 : decode cX9_feed 68 = .ok (.return_, 1) := by decide +kernel
theorem dX9_key_0 : decode cX9_key 0 = .ok (.iload_n 1, 1) := by decide +kernel
theorem dX9_key_1 : decode cX9_key 1 = .ok (.ifCond .lt 10, 3) := by decide +kernel
theorem dX9_key_4 : decode cX9_key 4 = .ok (.iload_n 1, 1) := by decide +kernel
theorem dX9_key_5 : decode cX9_key 5 = .ok (.sipush 255, 3) := by decide +kernel
theorem dX9_key_8 : decode cX9_key 8 = .ok (.if_icmp .le 13, 3) := by decide +kernel
theorem dX9_key_11 : decode cX9_key 11 = .ok (.new 63, 3) := by decide +kernel
theorem dX9_key_14 : decode cX9_key 14 = .ok (.dup, 1) := by decide +kernel
theorem dX9_key_15 : decode cX9_key 15 = .ok (.ldc 79, 2) := by decide +kernel
theorem dX9_key_17 : decode cX9_key 17 = .ok (.invokespecial 67, 3) := by decide +kernel
theorem dX9_key_20 : decode cX9_key 20 = .ok (.athrow, 1) := by decide +kernel
theorem dX9_key_21 : decode cX9_key 21 = .ok (.aload_n 0, 1) := by decide +kernel
theorem dX9_key_22 : decode cX9_key 22 = .ok (.getfield 81, 3) := by decide +kernel
theorem dX9_key_25 : decode cX9_key 25 = .ok (.ifCond .eq 16, 3) := by decide +kernel
theorem dX9_key_28 : decode cX9_key 28 = .ok (.aload_n 0, 1) := by decide +kernel
theorem dX9_key_29 : decode cX9_key 29 = .ok (.iconst 0, 1) := by decide +kernel
theorem dX9_key_30 : decode cX9_key 30 = .ok (.putfield 81, 3) := by decide +kernel
theorem dX9_key_33 : decode cX9_key 33 = .ok (.aload_n 0, 1) := by decide +kernel
theorem dX9_key_34 : decode cX9_key 34 = .ok (.iload_n 1, 1) := by decide +kernel
theorem dX9_key_35 : decode cX9_key 35 = .ok (.invokevirtual 85, 3) := by decide +kernel
theorem dX9_key_38 : decode cX9_key 38 = .ok (.goto 29, 3) := by decide +kernel
theorem dX9_key_41 : decode cX9_key 41 = .ok (.iload_n 1, 1) := by decide +kernel
theorem dX9_key_42 : decode cX9_key 42 = .ok (.iconst 2, 1) := by decide +kernel
theorem dX9_key_43 : decode cX9_key 43 = .ok (.if_icmp .ne 11, 3) := by decide +kernel
theorem dX9_key_46 : decode cX9_key 46 = .ok (.aload_n 0, 1) := by decide +kernel
theorem dX9_key_47 : decode cX9_key 47 = .ok (.iconst 1, 1) := by decide +kernel
theorem dX9_key_48 : decode cX9_key 48 = .ok (.putfield 81, 3) := by decide +kernel
theorem dX9_key_51 : decode cX9_key 51 = .ok (.goto 16, 3) := by decide +kernel
theorem dX9_key_54 : decode cX9_key 54 = .ok (.aload_n 0, 1) := by decide +kernel
theorem dX9_key_55 : decode cX9_key 55 = .ok (.getfield 11, 3) := by decide +kernel
theorem dX9_key_58 : decode cX9_key 58 = .ok (.aload_n 0, 1) := by decide +kernel
theorem dX9_key_59 : decode cX9_key 59 = .ok (.getfield 88, 3) := by decide +kernel
theorem dX9_key_62 : decode cX9_key 62 = .ok (.aaload, 1) := by decide +kernel
theorem dX9_key_63 : decode cX9_key 63 = .ok (.iload_n 1, 1) := by decide +kernel
theorem dX9_key_64 : decode cX9_key 64 = .ok (.invokevirtual 91, 3) := by decide +kernel
theorem dX9_key_67 : decode cX9_key 67 = .ok (.aload_n 0, 1) := by decide +kernel
theorem dX9_key_68 : decode cX9_key 68 = .ok (.getfield 88, 3) := by decide +kernel
theorem dX9_key_71 : decode cX9_key 71 = .ok (.ireturn, 1) := by decide +kernel
theorem dX9_split_0 : decode cX9_split 0 = .ok (.aload_n 0, 1) := by decide +kernel
theorem dX9_split_1 : decode cX9_split 1 = .ok (.iload_n 1, 1) := by decide +kernel
theorem dX9_split_2 : decode cX9_split 2 = .ok (.invokevirtual 59, 3) := by decide +kernel
theorem dX9_split_5 : decode cX9_split 5 = .ok (.aload_n 0, 1) := by decide +kernel
theorem dX9_split_6 : decode cX9_split 6 = .ok (.iload_n 1, 1) := by decide +kernel
theorem dX9_split_7 : decode cX9_split 7 = .ok (.iload_n 2, 1) := by decide +kernel
theorem dX9_split_8 : decode cX9_split 8 = .ok (.invokevirtual 94, 3) := by decide +kernel
theorem dX9_split_11 : decode cX9_split 11 = .ok (.istore_n 3, 1) := by decide +kernel
theorem dX9_split_12 : decode cX9_split 12 = .ok (.iload_n 3, 1) := by decide +kernel
theorem dX9_split_13 : decode cX9_split 13 = .ok (.iconst (-1), 1) := by decide +kernel
theorem dX9_split_14 : decode cX9_split 14 = .ok (.if_icmp .ne 13, 3) := by decide +kernel
theorem dX9_split_17 : decode cX9_split 17 = .ok (.new 98, 3) := by decide +kernel
theorem dX9_split_20 : decode cX9_split 20 = .ok (.dup, 1) := by decide +kernel
theorem dX9_split_21 : decode cX9_split 21 = .ok (.ldc 100, 2) := by decide +kernel
theorem dX9_split_23 : decode cX9_split 23 = .ok (.invokespecial 102, 3) := by decide +kernel
theorem dX9_split_26 : decode cX9_split 26 = .ok (.athrow, 1) := by decide +kernel
theorem dX9_split_27 : decode cX9_split 27 = .ok (.iload_n 3, 1) := by decide +kernel
theorem dX9_split_28 : decode cX9_split 28 = .ok (.ireturn, 1) := by decide +kernel
theorem dX9_close_0 : decode cX9_close 0 = .ok (.aload_n 0, 1) := by decide +kernel
theorem dX9_close_1 : decode cX9_close 1 = .ok (.iload_n 1, 1) := by decide +kernel
theorem dX9_close_2 : decode cX9_close 2 = .ok (.invokevirtual 59, 3) := by decide +kernel
theorem dX9_close_5 : decode cX9_close 5 = .ok (.aload_n 0, 1) := by decide +kernel
theorem dX9_close_6 : decode cX9_close 6 = .ok (.iload_n 1, 1) := by decide +kernel
theorem dX9_close_7 : decode cX9_close 7 = .ok (.invokevirtual 103, 3) := by decide +kernel
theorem dX9_close_10 : decode cX9_close 10 = .ok (.ifCond .ne 13, 3) := by decide +kernel
theorem dX9_close_13 : decode cX9_close 13 = .ok (.new 98, 3) := by decide +kernel
theorem dX9_close_16 : decode cX9_close 16 = .ok (.dup, 1) := by decide +kernel
theorem dX9_close_17 : decode cX9_close 17 = .ok (.ldc 107, 2) := by decide +kernel
theorem dX9_close_19 : decode cX9_close 19 = .ok (.invokespecial 102, 3) := by decide +kernel
theorem dX9_close_22 : decode cX9_close 22 = .ok (.athrow, 1) := by decide +kernel
theorem dX9_close_23 : decode cX9_close 23 = .ok (.aload_n 0, 1) := by decide +kernel
theorem dX9_close_24 : decode cX9_close 24 = .ok (.getfield 88, 3) := by decide +kernel
theorem dX9_close_27 : decode cX9_close 27 = .ok (.ireturn, 1) := by decide +kernel
theorem dX9_focus_0 : decode cX9_focus 0 = .ok (.aload_n 0, 1) := by decide +kernel
theorem dX9_focus_1 : decode cX9_focus 1 = .ok (.iload_n 1, 1) := by decide +kernel
theorem dX9_focus_2 : decode cX9_focus 2 = .ok (.invokevirtual 59, 3) := by decide +kernel
theorem dX9_focus_5 : decode cX9_focus 5 = .ok (.aload_n 0, 1) := by decide +kernel
theorem dX9_focus_6 : decode cX9_focus 6 = .ok (.iload_n 1, 1) := by decide +kernel
theorem dX9_focus_7 : decode cX9_focus 7 = .ok (.putfield 88, 3) := by decide +kernel
theorem dX9_focus_10 : decode cX9_focus 10 = .ok (.return_, 1) := by decide +kernel
theorem dX9_copy_0 : decode cX9_copy 0 = .ok (.aload_n 0, 1) := by decide +kernel
theorem dX9_copy_1 : decode cX9_copy 1 = .ok (.iload_n 1, 1) := by decide +kernel
theorem dX9_copy_2 : decode cX9_copy 2 = .ok (.invokevirtual 59, 3) := by decide +kernel
theorem dX9_copy_5 : decode cX9_copy 5 = .ok (.aload_n 0, 1) := by decide +kernel
theorem dX9_copy_6 : decode cX9_copy 6 = .ok (.getfield 11, 3) := by decide +kernel
theorem dX9_copy_9 : decode cX9_copy 9 = .ok (.iload_n 1, 1) := by decide +kernel
theorem dX9_copy_10 : decode cX9_copy 10 = .ok (.aaload, 1) := by decide +kernel
theorem dX9_copy_11 : decode cX9_copy 11 = .ok (.iload_n 2, 1) := by decide +kernel
theorem dX9_copy_12 : decode cX9_copy 12 = .ok (.invokevirtual 109, 3) := by decide +kernel
theorem dX9_copy_15 : decode cX9_copy 15 = .ok (.aload_n 0, 1) := by decide +kernel
theorem dX9_copy_16 : decode cX9_copy 16 = .ok (.getfield 11, 3) := by decide +kernel
theorem dX9_copy_19 : decode cX9_copy 19 = .ok (.iload_n 1, 1) := by decide +kernel
theorem dX9_copy_20 : decode cX9_copy 20 = .ok (.aaload, 1) := by decide +kernel
theorem dX9_copy_21 : decode cX9_copy 21 = .ok (.iload_n 3, 1) := by decide +kernel
theorem dX9_copy_22 : decode cX9_copy 22 = .ok (.invokevirtual 113, 3) := by decide +kernel
theorem dX9_copy_25 : decode cX9_copy 25 = .ok (.aload_n 0, 1) := by decide +kernel
theorem dX9_copy_26 : decode cX9_copy 26 = .ok (.getfield 11, 3) := by decide +kernel
theorem dX9_copy_29 : decode cX9_copy 29 = .ok (.iload_n 1, 1) := by decide +kernel
theorem dX9_copy_30 : decode cX9_copy 30 = .ok (.aaload, 1) := by decide +kernel
theorem dX9_copy_31 : decode cX9_copy 31 = .ok (.invokevirtual 116, 3) := by decide +kernel
theorem dX9_copy_34 : decode cX9_copy 34 = .ok (.ireturn, 1) := by decide +kernel
theorem dX9_select_0 : decode cX9_select 0 = .ok (.aload_n 0, 1) := by decide +kernel
theorem dX9_select_1 : decode cX9_select 1 = .ok (.iload_n 1, 1) := by decide +kernel
theorem dX9_select_2 : decode cX9_select 2 = .ok (.invokevirtual 59, 3) := by decide +kernel
theorem dX9_select_5 : decode cX9_select 5 = .ok (.aload_n 0, 1) := by decide +kernel
theorem dX9_select_6 : decode cX9_select 6 = .ok (.iload_n 1, 1) := by decide +kernel
theorem dX9_select_7 : decode cX9_select 7 = .ok (.iload_n 2, 1) := by decide +kernel
theorem dX9_select_8 : decode cX9_select 8 = .ok (.iload_n 3, 1) := by decide +kernel
theorem dX9_select_9 : decode cX9_select 9 = .ok (.invokevirtual 120, 3) := by decide +kernel
theorem dX9_select_12 : decode cX9_select 12 = .ok (.aload_n 0, 1) := by decide +kernel
theorem dX9_select_13 : decode cX9_select 13 = .ok (.iload_n 1, 1) := by decide +kernel
theorem dX9_select_14 : decode cX9_select 14 = .ok (.iload 4, 2) := by decide +kernel
theorem dX9_select_16 : decode cX9_select 16 = .ok (.iload 5, 2) := by decide +kernel
theorem dX9_select_18 : decode cX9_select 18 = .ok (.invokevirtual 120, 3) := by decide +kernel
theorem dX9_select_21 : decode cX9_select 21 = .ok (.iload 4, 2) := by decide +kernel
theorem dX9_select_23 : decode cX9_select 23 = .ok (.iload_n 2, 1) := by decide +kernel
theorem dX9_select_24 : decode cX9_select 24 = .ok (.if_icmp .lt 15, 3) := by decide +kernel
theorem dX9_select_27 : decode cX9_select 27 = .ok (.iload 4, 2) := by decide +kernel
theorem dX9_select_29 : decode cX9_select 29 = .ok (.iload_n 2, 1) := by decide +kernel
theorem dX9_select_30 : decode cX9_select 30 = .ok (.if_icmp .ne 19, 3) := by decide +kernel
theorem dX9_select_33 : decode cX9_select 33 = .ok (.iload 5, 2) := by decide +kernel
theorem dX9_select_35 : decode cX9_select 35 = .ok (.iload_n 3, 1) := by decide +kernel
theorem dX9_select_36 : decode cX9_select 36 = .ok (.if_icmp .ge 13, 3) := by decide +kernel
theorem dX9_select_39 : decode cX9_select 39 = .ok (.new 63, 3) := by decide +kernel
theorem dX9_select_42 : decode cX9_select 42 = .ok (.dup, 1) := by decide +kernel
theorem dX9_select_43 : decode cX9_select 43 = .ok (.ldc 124, 2) := by decide +kernel
theorem dX9_select_45 : decode cX9_select 45 = .ok (.invokespecial 67, 3) := by decide +kernel
theorem dX9_select_48 : decode cX9_select 48 = .ok (.athrow, 1) := by decide +kernel
theorem dX9_select_49 : decode cX9_select 49 = .ok (.aload_n 0, 1) := by decide +kernel
theorem dX9_select_50 : decode cX9_select 50 = .ok (.iconst 0, 1) := by decide +kernel
theorem dX9_select_51 : decode cX9_select 51 = .ok (.putfield 126, 3) := by decide +kernel
theorem dX9_select_54 : decode cX9_select 54 = .ok (.aload_n 0, 1) := by decide +kernel
theorem dX9_select_55 : decode cX9_select 55 = .ok (.getfield 11, 3) := by decide +kernel
theorem dX9_select_58 : decode cX9_select 58 = .ok (.iload_n 1, 1) := by decide +kernel
theorem dX9_select_59 : decode cX9_select 59 = .ok (.aaload, 1) := by decide +kernel
theorem dX9_select_60 : decode cX9_select 60 = .ok (.getfield 129, 3) := by decide +kernel
theorem dX9_select_63 : decode cX9_select 63 = .ok (.getfield 133, 3) := by decide +kernel
theorem dX9_select_66 : decode cX9_select 66 = .ok (.iconst 1, 1) := by decide +kernel
theorem dX9_select_67 : decode cX9_select 67 = .ok (.isub, 1) := by decide +kernel
theorem dX9_select_68 : decode cX9_select 68 = .ok (.istore 6, 2) := by decide +kernel
theorem dX9_select_70 : decode cX9_select 70 = .ok (.iload_n 2, 1) := by decide +kernel
theorem dX9_select_71 : decode cX9_select 71 = .ok (.istore 7, 2) := by decide +kernel
theorem dX9_select_73 : decode cX9_select 73 = .ok (.iload 7, 2) := by decide +kernel
theorem dX9_select_75 : decode cX9_select 75 = .ok (.iload 4, 2) := by decide +kernel
theorem dX9_select_77 : decode cX9_select 77 = .ok (.if_icmp .gt 66, 3) := by decide +kernel
theorem dX9_select_80 : decode cX9_select 80 = .ok (.iload 7, 2) := by decide +kernel
theorem dX9_select_82 : decode cX9_select 82 = .ok (.iload_n 2, 1) := by decide +kernel
theorem dX9_select_83 : decode cX9_select 83 = .ok (.if_icmp .le 9, 3) := by decide +kernel
theorem dX9_select_86 : decode cX9_select 86 = .ok (.aload_n 0, 1) := by decide +kernel
theorem dX9_select_87 : decode cX9_select 87 = .ok (.bipush 10, 2) := by decide +kernel
theorem dX9_select_89 : decode cX9_select 89 = .ok (.invokevirtual 138, 3) := by decide +kernel
theorem dX9_select_92 : decode cX9_select 92 = .ok (.aload_n 0, 1) := by decide +kernel
theorem dX9_select_93 : decode cX9_select 93 = .ok (.getfield 11, 3) := by decide +kernel
theorem dX9_select_96 : decode cX9_select 96 = .ok (.iload_n 1, 1) := by decide +kernel
theorem dX9_select_97 : decode cX9_select 97 = .ok (.aaload, 1) := by decide +kernel
theorem dX9_select_98 : decode cX9_select 98 = .ok (.iload 7, 2) := by decide +kernel
theorem dX9_select_100 : decode cX9_select 100 = .ok (.aload_n 0, 1) := by decide +kernel
theorem dX9_select_101 : decode cX9_select 101 = .ok (.getfield 50, 3) := by decide +kernel
theorem dX9_select_104 : decode cX9_select 104 = .ok (.iconst 0, 1) := by decide +kernel
theorem dX9_select_105 : decode cX9_select 105 = .ok (.invokevirtual 141, 3) := by decide +kernel
theorem dX9_select_108 : decode cX9_select 108 = .ok (.aload_n 0, 1) := by decide +kernel
theorem dX9_select_109 : decode cX9_select 109 = .ok (.iload 7, 2) := by decide +kernel
theorem dX9_select_111 : decode cX9_select 111 = .ok (.iload_n 2, 1) := by decide +kernel
theorem dX9_select_112 : decode cX9_select 112 = .ok (.if_icmp .ne 7, 3) := by decide +kernel
theorem dX9_select_115 : decode cX9_select 115 = .ok (.iload_n 3, 1) := by decide +kernel
theorem dX9_select_116 : decode cX9_select 116 = .ok (.goto 4, 3) := by decide +kernel
theorem dX9_select_119 : decode cX9_select 119 = .ok (.iconst 0, 1) := by decide +kernel
theorem dX9_select_120 : decode cX9_select 120 = .ok (.iload 7, 2) := by decide +kernel
theorem dX9_select_122 : decode cX9_select 122 = .ok (.iload 4, 2) := by decide +kernel
theorem dX9_select_124 : decode cX9_select 124 = .ok (.if_icmp .ne 8, 3) := by decide +kernel
theorem dX9_select_127 : decode cX9_select 127 = .ok (.iload 5, 2) := by decide +kernel
theorem dX9_select_129 : decode cX9_select 129 = .ok (.goto 5, 3) := by decide +kernel
theorem dX9_select_132 : decode cX9_select 132 = .ok (.iload 6, 2) := by decide +kernel
theorem dX9_select_134 : decode cX9_select 134 = .ok (.invokevirtual 145, 3) := by decide +kernel
theorem dX9_select_137 : decode cX9_select 137 = .ok (.iinc 7 1, 3) := by decide +kernel
theorem dX9_select_140 : decode cX9_select 140 = .ok (.goto (-67), 3) := by decide +kernel
theorem dX9_select_143 : decode cX9_select 143 = .ok (.aload_n 0, 1) := by decide +kernel
theorem dX9_select_144 : decode cX9_select 144 = .ok (.getfield 126, 3) := by decide +kernel
theorem dX9_select_147 : decode cX9_select 147 = .ok (.ireturn, 1) := by decide +kernel
theorem dX9_redraw_0 : decode cX9_redraw 0 = .ok (.aload_n 0, 1) := by decide +kernel
theorem dX9_redraw_1 : decode cX9_redraw 1 = .ok (.invokevirtual 148, 3) := by decide +kernel
theorem dX9_redraw_4 : decode cX9_redraw 4 = .ok (.aload_n 0, 1) := by decide +kernel
theorem dX9_redraw_5 : decode cX9_redraw 5 = .ok (.getfield 43, 3) := by decide +kernel
theorem dX9_redraw_8 : decode cX9_redraw 8 = .ok (.invokevirtual 151, 3) := by decide +kernel
theorem dX9_redraw_11 : decode cX9_redraw 11 = .ok (.iconst 0, 1) := by decide +kernel
theorem dX9_redraw_12 : decode cX9_redraw 12 = .ok (.istore_n 1, 1) := by decide +kernel
theorem dX9_redraw_13 : decode cX9_redraw 13 = .ok (.iload_n 1, 1) := by decide +kernel
theorem dX9_redraw_14 : decode cX9_redraw 14 = .ok (.aload_n 0, 1) := by decide +kernel
theorem dX9_redraw_15 : decode cX9_redraw 15 = .ok (.getfield 27, 3) := by decide +kernel
theorem dX9_redraw_18 : decode cX9_redraw 18 = .ok (.if_icmp .ge 47, 3) := by decide +kernel
theorem dX9_redraw_21 : decode cX9_redraw 21 = .ok (.iconst 0, 1) := by decide +kernel
theorem dX9_redraw_22 : decode cX9_redraw 22 = .ok (.istore_n 2, 1) := by decide +kernel
theorem dX9_redraw_23 : decode cX9_redraw 23 = .ok (.iload_n 2, 1) := by decide +kernel
theorem dX9_redraw_24 : decode cX9_redraw 24 = .ok (.aload_n 0, 1) := by decide +kernel
theorem dX9_redraw_25 : decode cX9_redraw 25 = .ok (.getfield 23, 3) := by decide +kernel
theorem dX9_redraw_28 : decode cX9_redraw 28 = .ok (.if_icmp .ge 31, 3) := by decide +kernel
theorem dX9_redraw_31 : decode cX9_redraw 31 = .ok (.aload_n 0, 1) := by decide +kernel
theorem dX9_redraw_32 : decode cX9_redraw 32 = .ok (.getfield 43, 3) := by decide +kernel
theorem dX9_redraw_35 : decode cX9_redraw 35 = .ok (.iload_n 2, 1) := by decide +kernel
theorem dX9_redraw_36 : decode cX9_redraw 36 = .ok (.iload_n 1, 1) := by decide +kernel
theorem dX9_redraw_37 : decode cX9_redraw 37 = .ok (.aload_n 0, 1) := by decide +kernel
theorem dX9_redraw_38 : decode cX9_redraw 38 = .ok (.getfield 47, 3) := by decide +kernel
theorem dX9_redraw_41 : decode cX9_redraw 41 = .ok (.iload_n 1, 1) := by decide +kernel
theorem dX9_redraw_42 : decode cX9_redraw 42 = .ok (.aload_n 0, 1) := by decide +kernel
theorem dX9_redraw_43 : decode cX9_redraw 43 = .ok (.getfield 23, 3) := by decide +kernel
theorem dX9_redraw_46 : decode cX9_redraw 46 = .ok (.imul, 1) := by decide +kernel
theorem dX9_redraw_47 : decode cX9_redraw 47 = .ok (.iload_n 2, 1) := by decide +kernel
theorem dX9_redraw_48 : decode cX9_redraw 48 = .ok (.iadd, 1) := by decide +kernel
theorem dX9_redraw_49 : decode cX9_redraw 49 = .ok (.iaload, 1) := by decide +kernel
theorem dX9_redraw_50 : decode cX9_redraw 50 = .ok (.invokevirtual 152, 3) := by decide +kernel
theorem dX9_redraw_53 : decode cX9_redraw 53 = .ok (.iinc 2 1, 3) := by decide +kernel
theorem dX9_redraw_56 : decode cX9_redraw 56 = .ok (.goto (-33), 3) := by decide +kernel
theorem dX9_redraw_59 : decode cX9_redraw 59 = .ok (.iinc 1 1, 3) := by decide +kernel
theorem dX9_redraw_62 : decode cX9_redraw 62 = .ok (.goto (-49), 3) := by decide +kernel
theorem dX9_redraw_65 : decode cX9_redraw 65 = .ok (.aload_n 0, 1) := by decide +kernel
theorem dX9_redraw_66 : decode cX9_redraw 66 = .ok (.getfield 43, 3) := by decide +kernel
theorem dX9_redraw_69 : decode cX9_redraw 69 = .ok (.aload_n 0, 1) := by decide +kernel
theorem dX9_redraw_70 : decode cX9_redraw 70 = .ok (.invokevirtual 155, 3) := by decide +kernel
theorem dX9_redraw_73 : decode cX9_redraw 73 = .ok (.aload_n 0, 1) := by decide +kernel
theorem dX9_redraw_74 : decode cX9_redraw 74 = .ok (.invokevirtual 158, 3) := by decide +kernel
theorem dX9_redraw_77 : decode cX9_redraw 77 = .ok (.aload_n 0, 1) := by decide +kernel
theorem dX9_redraw_78 : decode cX9_redraw 78 = .ok (.getfield 11, 3) := by decide +kernel
theorem dX9_redraw_81 : decode cX9_redraw 81 = .ok (.aload_n 0, 1) := by decide +kernel
theorem dX9_redraw_82 : decode cX9_redraw 82 = .ok (.getfield 88, 3) := by decide +kernel
theorem dX9_redraw_85 : decode cX9_redraw 85 = .ok (.aaload, 1) := by decide +kernel
theorem dX9_redraw_86 : decode cX9_redraw 86 = .ok (.invokevirtual 161, 3) := by decide +kernel
theorem dX9_redraw_89 : decode cX9_redraw 89 = .ok (.invokevirtual 165, 3) := by decide +kernel
theorem dX9_redraw_92 : decode cX9_redraw 92 = .ok (.aload_n 0, 1) := by decide +kernel
theorem dX9_redraw_93 : decode cX9_redraw 93 = .ok (.getfield 43, 3) := by decide +kernel
theorem dX9_redraw_96 : decode cX9_redraw 96 = .ok (.getfield 169, 3) := by decide +kernel
theorem dX9_redraw_99 : decode cX9_redraw 99 = .ok (.ireturn, 1) := by decide +kernel
theorem dX9_out_0 : decode cX9_out 0 = .ok (.iload_n 1, 1) := by decide +kernel
theorem dX9_out_1 : decode cX9_out 1 = .ok (.ifCond .lt 14, 3) := by decide +kernel
theorem dX9_out_4 : decode cX9_out 4 = .ok (.iload_n 1, 1) := by decide +kernel
theorem dX9_out_5 : decode cX9_out 5 = .ok (.aload_n 0, 1) := by decide +kernel
theorem dX9_out_6 : decode cX9_out 6 = .ok (.getfield 43, 3) := by decide +kernel
theorem dX9_out_9 : decode cX9_out 9 = .ok (.getfield 169, 3) := by decide +kernel
theorem dX9_out_12 : decode cX9_out 12 = .ok (.if_icmp .lt 13, 3) := by decide +kernel
theorem dX9_out_15 : decode cX9_out 15 = .ok (.new 172, 3) := by decide +kernel
theorem dX9_out_18 : decode cX9_out 18 = .ok (.dup, 1) := by decide +kernel
theorem dX9_out_19 : decode cX9_out 19 = .ok (.ldc 174, 2) := by decide +kernel
theorem dX9_out_21 : decode cX9_out 21 = .ok (.invokespecial 176, 3) := by decide +kernel
theorem dX9_out_24 : decode cX9_out 24 = .ok (.athrow, 1) := by decide +kernel
theorem dX9_out_25 : decode cX9_out 25 = .ok (.aload_n 0, 1) := by decide +kernel
theorem dX9_out_26 : decode cX9_out 26 = .ok (.getfield 43, 3) := by decide +kernel
theorem dX9_out_29 : decode cX9_out 29 = .ok (.getfield 177, 3) := by decide +kernel
theorem dX9_out_32 : decode cX9_out 32 = .ok (.iload_n 1, 1) := by decide +kernel
theorem dX9_out_33 : decode cX9_out 33 = .ok (.iaload, 1) := by decide +kernel
theorem dX9_out_34 : decode cX9_out 34 = .ok (.ireturn, 1) := by decide +kernel
theorem dX9_cell_0 : decode cX9_cell 0 = .ok (.iload_n 1, 1) := by decide +kernel
theorem dX9_cell_1 : decode cX9_cell 1 = .ok (.ifCond .lt 23, 3) := by decide +kernel
theorem dX9_cell_4 : decode cX9_cell 4 = .ok (.iload_n 1, 1) := by decide +kernel
theorem dX9_cell_5 : decode cX9_cell 5 = .ok (.aload_n 0, 1) := by decide +kernel
theorem dX9_cell_6 : decode cX9_cell 6 = .ok (.getfield 23, 3) := by decide +kernel
theorem dX9_cell_9 : decode cX9_cell 9 = .ok (.if_icmp .ge 15, 3) := by decide +kernel
theorem dX9_cell_12 : decode cX9_cell 12 = .ok (.iload_n 2, 1) := by decide +kernel
theorem dX9_cell_13 : decode cX9_cell 13 = .ok (.ifCond .lt 11, 3) := by decide +kernel
theorem dX9_cell_16 : decode cX9_cell 16 = .ok (.iload_n 2, 1) := by decide +kernel
theorem dX9_cell_17 : decode cX9_cell 17 = .ok (.aload_n 0, 1) := by decide +kernel
theorem dX9_cell_18 : decode cX9_cell 18 = .ok (.getfield 27, 3) := by decide +kernel
theorem dX9_cell_21 : decode cX9_cell 21 = .ok (.if_icmp .lt 13, 3) := by decide +kernel
theorem dX9_cell_24 : decode cX9_cell 24 = .ok (.new 172, 3) := by decide +kernel
theorem dX9_cell_27 : decode cX9_cell 27 = .ok (.dup, 1) := by decide +kernel
theorem dX9_cell_28 : decode cX9_cell 28 = .ok (.ldc 180, 2) := by decide +kernel
theorem dX9_cell_30 : decode cX9_cell 30 = .ok (.invokespecial 176, 3) := by decide +kernel
theorem dX9_cell_33 : decode cX9_cell 33 = .ok (.athrow, 1) := by decide +kernel
theorem dX9_cell_34 : decode cX9_cell 34 = .ok (.aload_n 0, 1) := by decide +kernel
theorem dX9_cell_35 : decode cX9_cell 35 = .ok (.invokevirtual 148, 3) := by decide +kernel
theorem dX9_cell_38 : decode cX9_cell 38 = .ok (.aload_n 0, 1) := by decide +kernel
theorem dX9_cell_39 : decode cX9_cell 39 = .ok (.getfield 47, 3) := by decide +kernel
theorem dX9_cell_42 : decode cX9_cell 42 = .ok (.iload_n 2, 1) := by decide +kernel
theorem dX9_cell_43 : decode cX9_cell 43 = .ok (.aload_n 0, 1) := by decide +kernel
theorem dX9_cell_44 : decode cX9_cell 44 = .ok (.getfield 23, 3) := by decide +kernel
theorem dX9_cell_47 : decode cX9_cell 47 = .ok (.imul, 1) := by decide +kernel
theorem dX9_cell_48 : decode cX9_cell 48 = .ok (.iload_n 1, 1) := by decide +kernel
theorem dX9_cell_49 : decode cX9_cell 49 = .ok (.iadd, 1) := by decide +kernel
theorem dX9_cell_50 : decode cX9_cell 50 = .ok (.iaload, 1) := by decide +kernel
theorem dX9_cell_51 : decode cX9_cell 51 = .ok (.istore 4, 2) := by decide +kernel
theorem dX9_cell_53 : decode cX9_cell 53 = .ok (.iload_n 3, 1) := by decide +kernel
theorem dX9_cell_54 : decode cX9_cell 54 = .ok (.ifCond .eq 12, 3) := by decide +kernel
theorem dX9_cell_57 : decode cX9_cell 57 = .ok (.iload 4, 2) := by decide +kernel
theorem dX9_cell_59 : decode cX9_cell 59 = .ok (.sipush 128, 3) := by decide +kernel
theorem dX9_cell_62 : decode cX9_cell 62 = .ok (.idiv, 1) := by decide +kernel
theorem dX9_cell_63 : decode cX9_cell 63 = .ok (.goto 9, 3) := by decide +kernel
theorem dX9_cell_66 : decode cX9_cell 66 = .ok (.iload 4, 2) := by decide +kernel
theorem dX9_cell_68 : decode cX9_cell 68 = .ok (.sipush 128, 3) := by decide +kernel
theorem dX9_cell_71 : decode cX9_cell 71 = .ok (.irem, 1) := by decide +kernel
theorem dX9_cell_72 : decode cX9_cell 72 = .ok (.ireturn, 1) := by decide +kernel
theorem dX9_about_0 : decode cX9_about 0 = .ok (.aload_n 0, 1) := by decide +kernel
theorem dX9_about_1 : decode cX9_about 1 = .ok (.iload_n 1, 1) := by decide +kernel
theorem dX9_about_2 : decode cX9_about 2 = .ok (.invokevirtual 59, 3) := by decide +kernel
theorem dX9_about_5 : decode cX9_about 5 = .ok (.aload_n 0, 1) := by decide +kernel
theorem dX9_about_6 : decode cX9_about 6 = .ok (.getfield 36, 3) := by decide +kernel
theorem dX9_about_9 : decode cX9_about 9 = .ok (.getfield 182, 3) := by decide +kernel
theorem dX9_about_12 : decode cX9_about 12 = .ok (.iload_n 1, 1) := by decide +kernel
theorem dX9_about_13 : decode cX9_about 13 = .ok (.aaload, 1) := by decide +kernel
theorem dX9_about_14 : decode cX9_about 14 = .ok (.astore_n 3, 1) := by decide +kernel
theorem dX9_about_15 : decode cX9_about 15 = .ok (.aload_n 0, 1) := by decide +kernel
theorem dX9_about_16 : decode cX9_about 16 = .ok (.getfield 11, 3) := by decide +kernel
theorem dX9_about_19 : decode cX9_about 19 = .ok (.iload_n 1, 1) := by decide +kernel
theorem dX9_about_20 : decode cX9_about 20 = .ok (.aaload, 1) := by decide +kernel
theorem dX9_about_21 : decode cX9_about 21 = .ok (.getfield 129, 3) := by decide +kernel
theorem dX9_about_24 : decode cX9_about 24 = .ok (.astore 4, 2) := by decide +kernel
theorem dX9_about_26 : decode cX9_about 26 = .ok (.iload_n 2, 1) := by decide +kernel
theorem dX9_about_27 : decode cX9_about 27 = .ok (.tableswitch 189 0 10 #[57, 72, 87, 95, 103, 111, 119, 135, 146, 154, 174], 57) := by decide +kernel
theorem dX9_about_84 : decode cX9_about 84 = .ok (.aload_n 3, 1) := by decide +kernel
theorem dX9_about_85 : decode cX9_about 85 = .ok (.ifnonnull 7, 3) := by decide +kernel
theorem dX9_about_88 : decode cX9_about 88 = .ok (.iconst 0, 1) := by decide +kernel
theorem dX9_about_89 : decode cX9_about 89 = .ok (.goto 137, 3) := by decide +kernel
theorem dX9_about_92 : decode cX9_about 92 = .ok (.aload_n 3, 1) := by decide +kernel
theorem dX9_about_93 : decode cX9_about 93 = .ok (.getfield 186, 3) := by decide +kernel
theorem dX9_about_96 : decode cX9_about 96 = .ok (.goto 130, 3) := by decide +kernel
theorem dX9_about_99 : decode cX9_about 99 = .ok (.aload_n 3, 1) := by decide +kernel
theorem dX9_about_100 : decode cX9_about 100 = .ok (.ifnonnull 7, 3) := by decide +kernel
theorem dX9_about_103 : decode cX9_about 103 = .ok (.iconst 0, 1) := by decide +kernel
theorem dX9_about_104 : decode cX9_about 104 = .ok (.goto 122, 3) := by decide +kernel
theorem dX9_about_107 : decode cX9_about 107 = .ok (.aload_n 3, 1) := by decide +kernel
theorem dX9_about_108 : decode cX9_about 108 = .ok (.getfield 191, 3) := by decide +kernel
theorem dX9_about_111 : decode cX9_about 111 = .ok (.goto 115, 3) := by decide +kernel
theorem dX9_about_114 : decode cX9_about 114 = .ok (.aload 4, 2) := by decide +kernel
theorem dX9_about_116 : decode cX9_about 116 = .ok (.getfield 133, 3) := by decide +kernel
theorem dX9_about_119 : decode cX9_about 119 = .ok (.goto 107, 3) := by decide +kernel
theorem dX9_about_122 : decode cX9_about 122 = .ok (.aload 4, 2) := by decide +kernel
theorem dX9_about_124 : decode cX9_about 124 = .ok (.getfield 194, 3) := by decide +kernel
theorem dX9_about_127 : decode cX9_about 127 = .ok (.goto 99, 3) := by decide +kernel
theorem dX9_about_130 : decode cX9_about 130 = .ok (.aload 4, 2) := by decide +kernel
theorem dX9_about_132 : decode cX9_about 132 = .ok (.getfield 197, 3) := by decide +kernel
theorem dX9_about_135 : decode cX9_about 135 = .ok (.goto 91, 3) := by decide +kernel
theorem dX9_about_138 : decode cX9_about 138 = .ok (.aload 4, 2) := by decide +kernel
theorem dX9_about_140 : decode cX9_about 140 = .ok (.getfield 198, 3) := by decide +kernel
theorem dX9_about_143 : decode cX9_about 143 = .ok (.goto 83, 3) := by decide +kernel
theorem dX9_about_146 : decode cX9_about 146 = .ok (.aload 4, 2) := by decide +kernel
theorem dX9_about_148 : decode cX9_about 148 = .ok (.getfield 199, 3) := by decide +kernel
theorem dX9_about_151 : decode cX9_about 151 = .ok (.ifCond .eq 7, 3) := by decide +kernel
theorem dX9_about_154 : decode cX9_about 154 = .ok (.iconst 1, 1) := by decide +kernel
theorem dX9_about_155 : decode cX9_about 155 = .ok (.goto 71, 3) := by decide +kernel
theorem dX9_about_158 : decode cX9_about 158 = .ok (.iconst 0, 1) := by decide +kernel
theorem dX9_about_159 : decode cX9_about 159 = .ok (.goto 67, 3) := by decide +kernel
theorem dX9_about_162 : decode cX9_about 162 = .ok (.aload 4, 2) := by decide +kernel
theorem dX9_about_164 : decode cX9_about 164 = .ok (.getfield 202, 3) := by decide +kernel
theorem dX9_about_167 : decode cX9_about 167 = .ok (.getfield 206, 3) := by decide +kernel
theorem dX9_about_170 : decode cX9_about 170 = .ok (.goto 56, 3) := by decide +kernel
theorem dX9_about_173 : decode cX9_about 173 = .ok (.aload 4, 2) := by decide +kernel
theorem dX9_about_175 : decode cX9_about 175 = .ok (.getfield 209, 3) := by decide +kernel
theorem dX9_about_178 : decode cX9_about 178 = .ok (.goto 48, 3) := by decide +kernel
theorem dX9_about_181 : decode cX9_about 181 = .ok (.aload_n 0, 1) := by decide +kernel
theorem dX9_about_182 : decode cX9_about 182 = .ok (.getfield 11, 3) := by decide +kernel
theorem dX9_about_185 : decode cX9_about 185 = .ok (.iload_n 1, 1) := by decide +kernel
theorem dX9_about_186 : decode cX9_about 186 = .ok (.aaload, 1) := by decide +kernel
theorem dX9_about_187 : decode cX9_about 187 = .ok (.getfield 212, 3) := by decide +kernel
theorem dX9_about_190 : decode cX9_about 190 = .ok (.ifCond .eq 7, 3) := by decide +kernel
theorem dX9_about_193 : decode cX9_about 193 = .ok (.iconst 1, 1) := by decide +kernel
theorem dX9_about_194 : decode cX9_about 194 = .ok (.goto 32, 3) := by decide +kernel
theorem dX9_about_197 : decode cX9_about 197 = .ok (.iconst 0, 1) := by decide +kernel
theorem dX9_about_198 : decode cX9_about 198 = .ok (.goto 28, 3) := by decide +kernel
theorem dX9_about_201 : decode cX9_about 201 = .ok (.aload_n 0, 1) := by decide +kernel
theorem dX9_about_202 : decode cX9_about 202 = .ok (.getfield 11, 3) := by decide +kernel
theorem dX9_about_205 : decode cX9_about 205 = .ok (.iload_n 1, 1) := by decide +kernel
theorem dX9_about_206 : decode cX9_about 206 = .ok (.aaload, 1) := by decide +kernel
theorem dX9_about_207 : decode cX9_about 207 = .ok (.getfield 215, 3) := by decide +kernel
theorem dX9_about_210 : decode cX9_about 210 = .ok (.getfield 219, 3) := by decide +kernel
theorem dX9_about_213 : decode cX9_about 213 = .ok (.goto 13, 3) := by decide +kernel
theorem dX9_about_216 : decode cX9_about 216 = .ok (.new 63, 3) := by decide +kernel
theorem dX9_about_219 : decode cX9_about 219 = .ok (.dup, 1) := by decide +kernel
theorem dX9_about_220 : decode cX9_about 220 = .ok (.ldc 224, 2) := by decide +kernel
theorem dX9_about_222 : decode cX9_about 222 = .ok (.invokespecial 67, 3) := by decide +kernel
theorem dX9_about_225 : decode cX9_about 225 = .ok (.athrow, 1) := by decide +kernel
theorem dX9_about_226 : decode cX9_about 226 = .ok (.ireturn, 1) := by decide +kernel
theorem dX9_input_0 : decode cX9_input 0 = .ok (.aload_n 0, 1) := by decide +kernel
theorem dX9_input_1 : decode cX9_input 1 = .ok (.iload_n 1, 1) := by decide +kernel
theorem dX9_input_2 : decode cX9_input 2 = .ok (.invokevirtual 59, 3) := by decide +kernel
theorem dX9_input_5 : decode cX9_input 5 = .ok (.aload_n 0, 1) := by decide +kernel
theorem dX9_input_6 : decode cX9_input 6 = .ok (.getfield 11, 3) := by decide +kernel
theorem dX9_input_9 : decode cX9_input 9 = .ok (.iload_n 1, 1) := by decide +kernel
theorem dX9_input_10 : decode cX9_input 10 = .ok (.aaload, 1) := by decide +kernel
theorem dX9_input_11 : decode cX9_input 11 = .ok (.getfield 215, 3) := by decide +kernel
theorem dX9_input_14 : decode cX9_input 14 = .ok (.astore_n 3, 1) := by decide +kernel
theorem dX9_input_15 : decode cX9_input 15 = .ok (.iload_n 2, 1) := by decide +kernel
theorem dX9_input_16 : decode cX9_input 16 = .ok (.ifCond .lt 11, 3) := by decide +kernel
theorem dX9_input_19 : decode cX9_input 19 = .ok (.iload_n 2, 1) := by decide +kernel
theorem dX9_input_20 : decode cX9_input 20 = .ok (.aload_n 3, 1) := by decide +kernel
theorem dX9_input_21 : decode cX9_input 21 = .ok (.invokevirtual 226, 3) := by decide +kernel
theorem dX9_input_24 : decode cX9_input 24 = .ok (.if_icmp .lt 13, 3) := by decide +kernel
theorem dX9_input_27 : decode cX9_input 27 = .ok (.new 172, 3) := by decide +kernel
theorem dX9_input_30 : decode cX9_input 30 = .ok (.dup, 1) := by decide +kernel
theorem dX9_input_31 : decode cX9_input 31 = .ok (.ldc 229, 2) := by decide +kernel
theorem dX9_input_33 : decode cX9_input 33 = .ok (.invokespecial 176, 3) := by decide +kernel
theorem dX9_input_36 : decode cX9_input 36 = .ok (.athrow, 1) := by decide +kernel
theorem dX9_input_37 : decode cX9_input 37 = .ok (.aload_n 3, 1) := by decide +kernel
theorem dX9_input_38 : decode cX9_input 38 = .ok (.iload_n 2, 1) := by decide +kernel
theorem dX9_input_39 : decode cX9_input 39 = .ok (.invokevirtual 231, 3) := by decide +kernel
theorem dX9_input_42 : decode cX9_input 42 = .ok (.ireturn, 1) := by decide +kernel
theorem dX9_copied_0 : decode cX9_copied 0 = .ok (.iload_n 1, 1) := by decide +kernel
theorem dX9_copied_1 : decode cX9_copied 1 = .ok (.ifCond .lt 11, 3) := by decide +kernel
theorem dX9_copied_4 : decode cX9_copied 4 = .ok (.iload_n 1, 1) := by decide +kernel
theorem dX9_copied_5 : decode cX9_copied 5 = .ok (.aload_n 0, 1) := by decide +kernel
theorem dX9_copied_6 : decode cX9_copied 6 = .ok (.getfield 126, 3) := by decide +kernel
theorem dX9_copied_9 : decode cX9_copied 9 = .ok (.if_icmp .lt 13, 3) := by decide +kernel
theorem dX9_copied_12 : decode cX9_copied 12 = .ok (.new 172, 3) := by decide +kernel
theorem dX9_copied_15 : decode cX9_copied 15 = .ok (.dup, 1) := by decide +kernel
theorem dX9_copied_16 : decode cX9_copied 16 = .ok (.ldc 235, 2) := by decide +kernel
theorem dX9_copied_18 : decode cX9_copied 18 = .ok (.invokespecial 176, 3) := by decide +kernel
theorem dX9_copied_21 : decode cX9_copied 21 = .ok (.athrow, 1) := by decide +kernel
theorem dX9_copied_22 : decode cX9_copied 22 = .ok (.aload_n 0, 1) := by decide +kernel
theorem dX9_copied_23 : decode cX9_copied 23 = .ok (.getfield 15, 3) := by decide +kernel
theorem dX9_copied_26 : decode cX9_copied 26 = .ok (.iload_n 1, 1) := by decide +kernel
theorem dX9_copied_27 : decode cX9_copied 27 = .ok (.iaload, 1) := by decide +kernel
theorem dX9_copied_28 : decode cX9_copied 28 = .ok (.ireturn, 1) := by decide +kernel
theorem dX9_count_0 : decode cX9_count 0 = .ok (.iload_n 1, 1) := by decide +kernel
theorem dX9_count_1 : decode cX9_count 1 = .ok (.tableswitch 100 0 5 #[39, 49, 56, 63, 70, 93], 39) := by decide +kernel
theorem dX9_count_40 : decode cX9_count 40 = .ok (.aload_n 0, 1) := by decide +kernel
theorem dX9_count_41 : decode cX9_count 41 = .ok (.getfield 36, 3) := by decide +kernel
theorem dX9_count_44 : decode cX9_count 44 = .ok (.invokevirtual 237, 3) := by decide +kernel
theorem dX9_count_47 : decode cX9_count 47 = .ok (.goto 64, 3) := by decide +kernel
theorem dX9_count_50 : decode cX9_count 50 = .ok (.aload_n 0, 1) := by decide +kernel
theorem dX9_count_51 : decode cX9_count 51 = .ok (.getfield 88, 3) := by decide +kernel
theorem dX9_count_54 : decode cX9_count 54 = .ok (.goto 57, 3) := by decide +kernel
theorem dX9_count_57 : decode cX9_count 57 = .ok (.aload_n 0, 1) := by decide +kernel
theorem dX9_count_58 : decode cX9_count 58 = .ok (.invokevirtual 155, 3) := by decide +kernel
theorem dX9_count_61 : decode cX9_count 61 = .ok (.goto 50, 3) := by decide +kernel
theorem dX9_count_64 : decode cX9_count 64 = .ok (.aload_n 0, 1) := by decide +kernel
theorem dX9_count_65 : decode cX9_count 65 = .ok (.invokevirtual 158, 3) := by decide +kernel
theorem dX9_count_68 : decode cX9_count 68 = .ok (.goto 43, 3) := by decide +kernel
theorem dX9_count_71 : decode cX9_count 71 = .ok (.aload_n 0, 1) := by decide +kernel
theorem dX9_count_72 : decode cX9_count 72 = .ok (.getfield 11, 3) := by decide +kernel
theorem dX9_count_75 : decode cX9_count 75 = .ok (.aload_n 0, 1) := by decide +kernel
theorem dX9_count_76 : decode cX9_count 76 = .ok (.getfield 88, 3) := by decide +kernel
theorem dX9_count_79 : decode cX9_count 79 = .ok (.aaload, 1) := by decide +kernel
theorem dX9_count_80 : decode cX9_count 80 = .ok (.invokevirtual 161, 3) := by decide +kernel
theorem dX9_count_83 : decode cX9_count 83 = .ok (.ifCond .eq 7, 3) := by decide +kernel
theorem dX9_count_86 : decode cX9_count 86 = .ok (.iconst 1, 1) := by decide +kernel
theorem dX9_count_87 : decode cX9_count 87 = .ok (.goto 24, 3) := by decide +kernel
theorem dX9_count_90 : decode cX9_count 90 = .ok (.iconst 0, 1) := by decide +kernel
theorem dX9_count_91 : decode cX9_count 91 = .ok (.goto 20, 3) := by decide +kernel
theorem dX9_count_94 : decode cX9_count 94 = .ok (.aload_n 0, 1) := by decide +kernel
theorem dX9_count_95 : decode cX9_count 95 = .ok (.getfield 126, 3) := by decide +kernel
theorem dX9_count_98 : decode cX9_count 98 = .ok (.goto 13, 3) := by decide +kernel
theorem dX9_count_101 : decode cX9_count 101 = .ok (.new 63, 3) := by decide +kernel
theorem dX9_count_104 : decode cX9_count 104 = .ok (.dup, 1) := by decide +kernel
theorem dX9_count_105 : decode cX9_count 105 = .ok (.ldc 239, 2) := by decide +kernel
theorem dX9_count_107 : decode cX9_count 107 = .ok (.invokespecial 67, 3) := by decide +kernel
theorem dX9_count_110 : decode cX9_count 110 = .ok (.athrow, 1) := by decide +kernel
theorem dX9_count_111 : decode cX9_count 111 = .ok (.ireturn, 1) := by decide +kernel
theorem dX9_nearest_0 : decode cX9_nearest 0 = .ok (.iload_n 1, 1) := by decide +kernel
theorem dX9_nearest_1 : decode cX9_nearest 1 = .ok (.iload_n 2, 1) := by decide +kernel
theorem dX9_nearest_2 : decode cX9_nearest 2 = .ok (.iload_n 0, 1) := by decide +kernel
theorem dX9_nearest_3 : decode cX9_nearest 3 = .ok (.invokestatic 241, 3) := by decide +kernel
theorem dX9_nearest_6 : decode cX9_nearest 6 = .ok (.invokestatic 247, 3) := by decide +kernel
theorem dX9_nearest_9 : decode cX9_nearest 9 = .ok (.ireturn, 1) := by decide +kernel
theorem dX9_checkPane_0 : decode cX9_checkPane 0 = .ok (.aload_n 0, 1) := by decide +kernel
theorem dX9_checkPane_1 : decode cX9_checkPane 1 = .ok (.getfield 36, 3) := by decide +kernel
theorem dX9_checkPane_4 : decode cX9_checkPane 4 = .ok (.iload_n 1, 1) := by decide +kernel
theorem dX9_checkPane_5 : decode cX9_checkPane 5 = .ok (.invokevirtual 250, 3) := by decide +kernel
theorem dX9_checkPane_8 : decode cX9_checkPane 8 = .ok (.ifCond .ne 13, 3) := by decide +kernel
theorem dX9_checkPane_11 : decode cX9_checkPane 11 = .ok (.new 172, 3) := by decide +kernel
theorem dX9_checkPane_14 : decode cX9_checkPane 14 = .ok (.dup, 1) := by decide +kernel
theorem dX9_checkPane_15 : decode cX9_checkPane 15 = .ok (.ldc 253, 2) := by decide +kernel
theorem dX9_checkPane_17 : decode cX9_checkPane 17 = .ok (.invokespecial 176, 3) := by decide +kernel
theorem dX9_checkPane_20 : decode cX9_checkPane 20 = .ok (.athrow, 1) := by decide +kernel
theorem dX9_checkPane_21 : decode cX9_checkPane 21 = .ok (.return_, 1) := by decide +kernel
theorem dX9_checkPlace_0 : decode cX9_checkPlace 0 = .ok (.aload_n 0, 1) := by decide +kernel
theorem dX9_checkPlace_1 : decode cX9_checkPlace 1 = .ok (.getfield 11, 3) := by decide +kernel
theorem dX9_checkPlace_4 : decode cX9_checkPlace 4 = .ok (.iload_n 1, 1) := by decide +kernel
theorem dX9_checkPlace_5 : decode cX9_checkPlace 5 = .ok (.aaload, 1) := by decide +kernel
theorem dX9_checkPlace_6 : decode cX9_checkPlace 6 = .ok (.getfield 129, 3) := by decide +kernel
theorem dX9_checkPlace_9 : decode cX9_checkPlace 9 = .ok (.astore 4, 2) := by decide +kernel
theorem dX9_checkPlace_11 : decode cX9_checkPlace 11 = .ok (.iload_n 2, 1) := by decide +kernel
theorem dX9_checkPlace_12 : decode cX9_checkPlace 12 = .ok (.ifCond .lt 25, 3) := by decide +kernel
theorem dX9_checkPlace_15 : decode cX9_checkPlace 15 = .ok (.iload_n 2, 1) := by decide +kernel
theorem dX9_checkPlace_16 : decode cX9_checkPlace 16 = .ok (.aload 4, 2) := by decide +kernel
theorem dX9_checkPlace_18 : decode cX9_checkPlace 18 = .ok (.getfield 194, 3) := by decide +kernel
theorem dX9_checkPlace_21 : decode cX9_checkPlace 21 = .ok (.if_icmp .ge 16, 3) := by decide +kernel
theorem dX9_checkPlace_24 : decode cX9_checkPlace 24 = .ok (.iload_n 3, 1) := by decide +kernel
theorem dX9_checkPlace_25 : decode cX9_checkPlace 25 = .ok (.ifCond .lt 12, 3) := by decide +kernel
theorem dX9_checkPlace_28 : decode cX9_checkPlace 28 = .ok (.iload_n 3, 1) := by decide +kernel
theorem dX9_checkPlace_29 : decode cX9_checkPlace 29 = .ok (.aload 4, 2) := by decide +kernel
theorem dX9_checkPlace_31 : decode cX9_checkPlace 31 = .ok (.getfield 133, 3) := by decide +kernel
theorem dX9_checkPlace_34 : decode cX9_checkPlace 34 = .ok (.if_icmp .lt 13, 3) := by decide +kernel
theorem dX9_checkPlace_37 : decode cX9_checkPlace 37 = .ok (.new 172, 3) := by decide +kernel
theorem dX9_checkPlace_40 : decode cX9_checkPlace 40 = .ok (.dup, 1) := by decide +kernel
theorem dX9_checkPlace_41 : decode cX9_checkPlace 41 = .ok (.ldc 255, 2) := by decide +kernel
theorem dX9_checkPlace_43 : decode cX9_checkPlace 43 = .ok (.invokespecial 176, 3) := by decide +kernel
theorem dX9_checkPlace_46 : decode cX9_checkPlace 46 = .ok (.athrow, 1) := by decide +kernel
theorem dX9_checkPlace_47 : decode cX9_checkPlace 47 = .ok (.return_, 1) := by decide +kernel
theorem dX9_command_0 : decode cX9_command 0 = .ok (.iload_n 1, 1) := by decide +kernel
theorem dX9_command_1 : decode cX9_command 1 = .ok (.lookupswitch 184 #[(2, 165), (34, 67), (37, 80), (91, 123), (93, 158), (111, 93), (120, 111)], 67) := by decide +kernel
theorem dX9_command_68 : decode cX9_command 68 = .ok (.aload_n 0, 1) := by decide +kernel
theorem dX9_command_69 : decode cX9_command 69 = .ok (.aload_n 0, 1) := by decide +kernel
theorem dX9_command_70 : decode cX9_command 70 = .ok (.getfield 88, 3) := by decide +kernel
theorem dX9_command_73 : decode cX9_command 73 = .ok (.iconst 1, 1) := by decide +kernel
theorem dX9_command_74 : decode cX9_command 74 = .ok (.invokevirtual 94, 3) := by decide +kernel
theorem dX9_command_77 : decode cX9_command 77 = .ok (.pop, 1) := by decide +kernel
theorem dX9_command_78 : decode cX9_command 78 = .ok (.goto 107, 3) := by decide +kernel
theorem dX9_command_81 : decode cX9_command 81 = .ok (.aload_n 0, 1) := by decide +kernel
theorem dX9_command_82 : decode cX9_command 82 = .ok (.aload_n 0, 1) := by decide +kernel
theorem dX9_command_83 : decode cX9_command 83 = .ok (.getfield 88, 3) := by decide +kernel
theorem dX9_command_86 : decode cX9_command 86 = .ok (.iconst 0, 1) := by decide +kernel
theorem dX9_command_87 : decode cX9_command 87 = .ok (.invokevirtual 94, 3) := by decide +kernel
theorem dX9_command_90 : decode cX9_command 90 = .ok (.pop, 1) := by decide +kernel
theorem dX9_command_91 : decode cX9_command 91 = .ok (.goto 94, 3) := by decide +kernel
theorem dX9_command_94 : decode cX9_command 94 = .ok (.aload_n 0, 1) := by decide +kernel
theorem dX9_command_95 : decode cX9_command 95 = .ok (.aload_n 0, 1) := by decide +kernel
theorem dX9_command_96 : decode cX9_command 96 = .ok (.getfield 36, 3) := by decide +kernel
theorem dX9_command_99 : decode cX9_command 99 = .ok (.aload_n 0, 1) := by decide +kernel
theorem dX9_command_100 : decode cX9_command 100 = .ok (.getfield 88, 3) := by decide +kernel
theorem dX9_command_103 : decode cX9_command 103 = .ok (.invokevirtual 257, 3) := by decide +kernel
theorem dX9_command_106 : decode cX9_command 106 = .ok (.putfield 88, 3) := by decide +kernel
theorem dX9_command_109 : decode cX9_command 109 = .ok (.goto 76, 3) := by decide +kernel
theorem dX9_command_112 : decode cX9_command 112 = .ok (.aload_n 0, 1) := by decide +kernel
theorem dX9_command_113 : decode cX9_command 113 = .ok (.aload_n 0, 1) := by decide +kernel
theorem dX9_command_114 : decode cX9_command 114 = .ok (.getfield 88, 3) := by decide +kernel
theorem dX9_command_117 : decode cX9_command 117 = .ok (.invokevirtual 103, 3) := by decide +kernel
theorem dX9_command_120 : decode cX9_command 120 = .ok (.pop, 1) := by decide +kernel
theorem dX9_command_121 : decode cX9_command 121 = .ok (.goto 64, 3) := by decide +kernel
theorem dX9_command_124 : decode cX9_command 124 = .ok (.aload_n 0, 1) := by decide +kernel
theorem dX9_command_125 : decode cX9_command 125 = .ok (.getfield 11, 3) := by decide +kernel
theorem dX9_command_128 : decode cX9_command 128 = .ok (.aload_n 0, 1) := by decide +kernel
theorem dX9_command_129 : decode cX9_command 129 = .ok (.getfield 88, 3) := by decide +kernel
theorem dX9_command_132 : decode cX9_command 132 = .ok (.aaload, 1) := by decide +kernel
theorem dX9_command_133 : decode cX9_command 133 = .ok (.aload_n 0, 1) := by decide +kernel
theorem dX9_command_134 : decode cX9_command 134 = .ok (.getfield 11, 3) := by decide +kernel
theorem dX9_command_137 : decode cX9_command 137 = .ok (.aload_n 0, 1) := by decide +kernel
theorem dX9_command_138 : decode cX9_command 138 = .ok (.getfield 88, 3) := by decide +kernel
theorem dX9_command_141 : decode cX9_command 141 = .ok (.aaload, 1) := by decide +kernel
theorem dX9_command_142 : decode cX9_command 142 = .ok (.getfield 212, 3) := by decide +kernel
theorem dX9_command_145 : decode cX9_command 145 = .ok (.ifCond .ne 7, 3) := by decide +kernel
theorem dX9_command_148 : decode cX9_command 148 = .ok (.iconst 1, 1) := by decide +kernel
theorem dX9_command_149 : decode cX9_command 149 = .ok (.goto 4, 3) := by decide +kernel
theorem dX9_command_152 : decode cX9_command 152 = .ok (.iconst 0, 1) := by decide +kernel
theorem dX9_command_153 : decode cX9_command 153 = .ok (.invokevirtual 109, 3) := by decide +kernel
theorem dX9_command_156 : decode cX9_command 156 = .ok (.goto 29, 3) := by decide +kernel
theorem dX9_command_159 : decode cX9_command 159 = .ok (.aload_n 0, 1) := by decide +kernel
theorem dX9_command_160 : decode cX9_command 160 = .ok (.invokevirtual 260, 3) := by decide +kernel
theorem dX9_command_163 : decode cX9_command 163 = .ok (.goto 22, 3) := by decide +kernel
theorem dX9_command_166 : decode cX9_command 166 = .ok (.aload_n 0, 1) := by decide +kernel
theorem dX9_command_167 : decode cX9_command 167 = .ok (.getfield 11, 3) := by decide +kernel
theorem dX9_command_170 : decode cX9_command 170 = .ok (.aload_n 0, 1) := by decide +kernel
theorem dX9_command_171 : decode cX9_command 171 = .ok (.getfield 88, 3) := by decide +kernel
theorem dX9_command_174 : decode cX9_command 174 = .ok (.aaload, 1) := by decide +kernel
theorem dX9_command_175 : decode cX9_command 175 = .ok (.getfield 215, 3) := by decide +kernel
theorem dX9_command_178 : decode cX9_command 178 = .ok (.iconst 2, 1) := by decide +kernel
theorem dX9_command_179 : decode cX9_command 179 = .ok (.invokevirtual 263, 3) := by decide +kernel
theorem dX9_command_182 : decode cX9_command 182 = .ok (.goto 3, 3) := by decide +kernel
theorem dX9_command_185 : decode cX9_command 185 = .ok (.return_, 1) := by decide +kernel
theorem dX9_divide_0 : decode cX9_divide 0 = .ok (.aload_n 0, 1) := by decide +kernel
theorem dX9_divide_1 : decode cX9_divide 1 = .ok (.getfield 36, 3) := by decide +kernel
theorem dX9_divide_4 : decode cX9_divide 4 = .ok (.iload_n 1, 1) := by decide +kernel
theorem dX9_divide_5 : decode cX9_divide 5 = .ok (.iload_n 2, 1) := by decide +kernel
theorem dX9_divide_6 : decode cX9_divide 6 = .ok (.invokevirtual 266, 3) := by decide +kernel
theorem dX9_divide_9 : decode cX9_divide 9 = .ok (.istore_n 3, 1) := by decide +kernel
theorem dX9_divide_10 : decode cX9_divide 10 = .ok (.iload_n 3, 1) := by decide +kernel
theorem dX9_divide_11 : decode cX9_divide 11 = .ok (.iconst (-1), 1) := by decide +kernel
theorem dX9_divide_12 : decode cX9_divide 12 = .ok (.if_icmp .eq 21, 3) := by decide +kernel
theorem dX9_divide_15 : decode cX9_divide 15 = .ok (.aload_n 0, 1) := by decide +kernel
theorem dX9_divide_16 : decode cX9_divide 16 = .ok (.invokevirtual 53, 3) := by decide +kernel
theorem dX9_divide_19 : decode cX9_divide 19 = .ok (.aload_n 0, 1) := by decide +kernel
theorem dX9_divide_20 : decode cX9_divide 20 = .ok (.getfield 11, 3) := by decide +kernel
theorem dX9_divide_23 : decode cX9_divide 23 = .ok (.iload_n 3, 1) := by decide +kernel
theorem dX9_divide_24 : decode cX9_divide 24 = .ok (.aaload, 1) := by decide +kernel
theorem dX9_divide_25 : decode cX9_divide 25 = .ok (.invokevirtual 56, 3) := by decide +kernel
theorem dX9_divide_28 : decode cX9_divide 28 = .ok (.aload_n 0, 1) := by decide +kernel
theorem dX9_divide_29 : decode cX9_divide 29 = .ok (.iload_n 3, 1) := by decide +kernel
theorem dX9_divide_30 : decode cX9_divide 30 = .ok (.putfield 88, 3) := by decide +kernel
theorem dX9_divide_33 : decode cX9_divide 33 = .ok (.iload_n 3, 1) := by decide +kernel
theorem dX9_divide_34 : decode cX9_divide 34 = .ok (.ireturn, 1) := by decide +kernel
theorem dX9_remove_0 : decode cX9_remove 0 = .ok (.aload_n 0, 1) := by decide +kernel
theorem dX9_remove_1 : decode cX9_remove 1 = .ok (.getfield 36, 3) := by decide +kernel
theorem dX9_remove_4 : decode cX9_remove 4 = .ok (.iload_n 1, 1) := by decide +kernel
theorem dX9_remove_5 : decode cX9_remove 5 = .ok (.invokevirtual 267, 3) := by decide +kernel
theorem dX9_remove_8 : decode cX9_remove 8 = .ok (.istore_n 2, 1) := by decide +kernel
theorem dX9_remove_9 : decode cX9_remove 9 = .ok (.iload_n 2, 1) := by decide +kernel
theorem dX9_remove_10 : decode cX9_remove 10 = .ok (.ifCond .eq 27, 3) := by decide +kernel
theorem dX9_remove_13 : decode cX9_remove 13 = .ok (.aload_n 0, 1) := by decide +kernel
theorem dX9_remove_14 : decode cX9_remove 14 = .ok (.invokevirtual 53, 3) := by decide +kernel
theorem dX9_remove_17 : decode cX9_remove 17 = .ok (.aload_n 0, 1) := by decide +kernel
theorem dX9_remove_18 : decode cX9_remove 18 = .ok (.getfield 88, 3) := by decide +kernel
theorem dX9_remove_21 : decode cX9_remove 21 = .ok (.iload_n 1, 1) := by decide +kernel
theorem dX9_remove_22 : decode cX9_remove 22 = .ok (.if_icmp .ne 15, 3) := by decide +kernel
theorem dX9_remove_25 : decode cX9_remove 25 = .ok (.aload_n 0, 1) := by decide +kernel
theorem dX9_remove_26 : decode cX9_remove 26 = .ok (.aload_n 0, 1) := by decide +kernel
theorem dX9_remove_27 : decode cX9_remove 27 = .ok (.getfield 36, 3) := by decide +kernel
theorem dX9_remove_30 : decode cX9_remove 30 = .ok (.iconst 1, 1) := by decide +kernel
theorem dX9_remove_31 : decode cX9_remove 31 = .ok (.invokevirtual 268, 3) := by decide +kernel
theorem dX9_remove_34 : decode cX9_remove 34 = .ok (.putfield 88, 3) := by decide +kernel
theorem dX9_remove_37 : decode cX9_remove 37 = .ok (.iload_n 2, 1) := by decide +kernel
theorem dX9_remove_38 : decode cX9_remove 38 = .ok (.ireturn, 1) := by decide +kernel
theorem dX9_fitPanes_0 : decode cX9_fitPanes 0 = .ok (.iconst 0, 1) := by decide +kernel
theorem dX9_fitPanes_1 : decode cX9_fitPanes 1 = .ok (.istore_n 1, 1) := by decide +kernel
theorem dX9_fitPanes_2 : decode cX9_fitPanes 2 = .ok (.iload_n 1, 1) := by decide +kernel
theorem dX9_fitPanes_3 : decode cX9_fitPanes 3 = .ok (.bipush 8, 2) := by decide +kernel
theorem dX9_fitPanes_5 : decode cX9_fitPanes 5 = .ok (.if_icmp .ge 43, 3) := by decide +kernel
theorem dX9_fitPanes_8 : decode cX9_fitPanes 8 = .ok (.aload_n 0, 1) := by decide +kernel
theorem dX9_fitPanes_9 : decode cX9_fitPanes 9 = .ok (.getfield 36, 3) := by decide +kernel
theorem dX9_fitPanes_12 : decode cX9_fitPanes 12 = .ok (.getfield 182, 3) := by decide +kernel
theorem dX9_fitPanes_15 : decode cX9_fitPanes 15 = .ok (.iload_n 1, 1) := by decide +kernel
theorem dX9_fitPanes_16 : decode cX9_fitPanes 16 = .ok (.aaload, 1) := by decide +kernel
theorem dX9_fitPanes_17 : decode cX9_fitPanes 17 = .ok (.astore_n 2, 1) := by decide +kernel
theorem dX9_fitPanes_18 : decode cX9_fitPanes 18 = .ok (.aload_n 2, 1) := by decide +kernel
theorem dX9_fitPanes_19 : decode cX9_fitPanes 19 = .ok (.ifnull 23, 3) := by decide +kernel
theorem dX9_fitPanes_22 : decode cX9_fitPanes 22 = .ok (.aload_n 0, 1) := by decide +kernel
theorem dX9_fitPanes_23 : decode cX9_fitPanes 23 = .ok (.getfield 11, 3) := by decide +kernel
theorem dX9_fitPanes_26 : decode cX9_fitPanes 26 = .ok (.iload_n 1, 1) := by decide +kernel
theorem dX9_fitPanes_27 : decode cX9_fitPanes 27 = .ok (.aaload, 1) := by decide +kernel
theorem dX9_fitPanes_28 : decode cX9_fitPanes 28 = .ok (.getfield 129, 3) := by decide +kernel
theorem dX9_fitPanes_31 : decode cX9_fitPanes 31 = .ok (.aload_n 2, 1) := by decide +kernel
theorem dX9_fitPanes_32 : decode cX9_fitPanes 32 = .ok (.getfield 272, 3) := by decide +kernel
theorem dX9_fitPanes_35 : decode cX9_fitPanes 35 = .ok (.aload_n 2, 1) := by decide +kernel
theorem dX9_fitPanes_36 : decode cX9_fitPanes 36 = .ok (.getfield 273, 3) := by decide +kernel
theorem dX9_fitPanes_39 : decode cX9_fitPanes 39 = .ok (.invokevirtual 274, 3) := by decide +kernel
theorem dX9_fitPanes_42 : decode cX9_fitPanes 42 = .ok (.iinc 1 1, 3) := by decide +kernel
theorem dX9_fitPanes_45 : decode cX9_fitPanes 45 = .ok (.goto (-43), 3) := by decide +kernel
theorem dX9_fitPanes_48 : decode cX9_fitPanes 48 = .ok (.return_, 1) := by decide +kernel
theorem dX9_paste_0 : decode cX9_paste 0 = .ok (.iconst 0, 1) := by decide +kernel
theorem dX9_paste_1 : decode cX9_paste 1 = .ok (.istore_n 1, 1) := by decide +kernel
theorem dX9_paste_2 : decode cX9_paste 2 = .ok (.iload_n 1, 1) := by decide +kernel
theorem dX9_paste_3 : decode cX9_paste 3 = .ok (.aload_n 0, 1) := by decide +kernel
theorem dX9_paste_4 : decode cX9_paste 4 = .ok (.getfield 126, 3) := by decide +kernel
theorem dX9_paste_7 : decode cX9_paste 7 = .ok (.if_icmp .ge 30, 3) := by decide +kernel
theorem dX9_paste_10 : decode cX9_paste 10 = .ok (.aload_n 0, 1) := by decide +kernel
theorem dX9_paste_11 : decode cX9_paste 11 = .ok (.getfield 11, 3) := by decide +kernel
theorem dX9_paste_14 : decode cX9_paste 14 = .ok (.aload_n 0, 1) := by decide +kernel
theorem dX9_paste_15 : decode cX9_paste 15 = .ok (.getfield 88, 3) := by decide +kernel
theorem dX9_paste_18 : decode cX9_paste 18 = .ok (.aaload, 1) := by decide +kernel
theorem dX9_paste_19 : decode cX9_paste 19 = .ok (.getfield 215, 3) := by decide +kernel
theorem dX9_paste_22 : decode cX9_paste 22 = .ok (.aload_n 0, 1) := by decide +kernel
theorem dX9_paste_23 : decode cX9_paste 23 = .ok (.getfield 15, 3) := by decide +kernel
theorem dX9_paste_26 : decode cX9_paste 26 = .ok (.iload_n 1, 1) := by decide +kernel
theorem dX9_paste_27 : decode cX9_paste 27 = .ok (.iaload, 1) := by decide +kernel
theorem dX9_paste_28 : decode cX9_paste 28 = .ok (.invokevirtual 263, 3) := by decide +kernel
theorem dX9_paste_31 : decode cX9_paste 31 = .ok (.iinc 1 1, 3) := by decide +kernel
theorem dX9_paste_34 : decode cX9_paste 34 = .ok (.goto (-32), 3) := by decide +kernel
theorem dX9_paste_37 : decode cX9_paste 37 = .ok (.return_, 1) := by decide +kernel
theorem dX9_clipLine_0 : decode cX9_clipLine 0 = .ok (.iload_n 2, 1) := by decide +kernel
theorem dX9_clipLine_1 : decode cX9_clipLine 1 = .ok (.istore_n 3, 1) := by decide +kernel
theorem dX9_clipLine_2 : decode cX9_clipLine 2 = .ok (.iload_n 3, 1) := by decide +kernel
theorem dX9_clipLine_3 : decode cX9_clipLine 3 = .ok (.iload_n 1, 1) := by decide +kernel
theorem dX9_clipLine_4 : decode cX9_clipLine 4 = .ok (.if_icmp .lt 24, 3) := by decide +kernel
theorem dX9_clipLine_7 : decode cX9_clipLine 7 = .ok (.aload_n 0, 1) := by decide +kernel
theorem dX9_clipLine_8 : decode cX9_clipLine 8 = .ok (.getfield 50, 3) := by decide +kernel
theorem dX9_clipLine_11 : decode cX9_clipLine 11 = .ok (.iload_n 3, 1) := by decide +kernel
theorem dX9_clipLine_12 : decode cX9_clipLine 12 = .ok (.iaload, 1) := by decide +kernel
theorem dX9_clipLine_13 : decode cX9_clipLine 13 = .ok (.sipush 128, 3) := by decide +kernel
theorem dX9_clipLine_16 : decode cX9_clipLine 16 = .ok (.irem, 1) := by decide +kernel
theorem dX9_clipLine_17 : decode cX9_clipLine 17 = .ok (.bipush 32, 2) := by decide +kernel
theorem dX9_clipLine_19 : decode cX9_clipLine 19 = .ok (.if_icmp .ne 9, 3) := by decide +kernel
theorem dX9_clipLine_22 : decode cX9_clipLine 22 = .ok (.iinc 3 (-1), 3) := by decide +kernel
theorem dX9_clipLine_25 : decode cX9_clipLine 25 = .ok (.goto (-23), 3) := by decide +kernel
theorem dX9_clipLine_28 : decode cX9_clipLine 28 = .ok (.iload_n 1, 1) := by decide +kernel
theorem dX9_clipLine_29 : decode cX9_clipLine 29 = .ok (.istore 4, 2) := by decide +kernel
theorem dX9_clipLine_31 : decode cX9_clipLine 31 = .ok (.iload 4, 2) := by decide +kernel
theorem dX9_clipLine_33 : decode cX9_clipLine 33 = .ok (.iload_n 3, 1) := by decide +kernel
theorem dX9_clipLine_34 : decode cX9_clipLine 34 = .ok (.if_icmp .gt 24, 3) := by decide +kernel
theorem dX9_clipLine_37 : decode cX9_clipLine 37 = .ok (.aload_n 0, 1) := by decide +kernel
theorem dX9_clipLine_38 : decode cX9_clipLine 38 = .ok (.aload_n 0, 1) := by decide +kernel
theorem dX9_clipLine_39 : decode cX9_clipLine 39 = .ok (.getfield 50, 3) := by decide +kernel
theorem dX9_clipLine_42 : decode cX9_clipLine 42 = .ok (.iload 4, 2) := by decide +kernel
theorem dX9_clipLine_44 : decode cX9_clipLine 44 = .ok (.iaload, 1) := by decide +kernel
theorem dX9_clipLine_45 : decode cX9_clipLine 45 = .ok (.sipush 128, 3) := by decide +kernel
theorem dX9_clipLine_48 : decode cX9_clipLine 48 = .ok (.irem, 1) := by decide +kernel
theorem dX9_clipLine_49 : decode cX9_clipLine 49 = .ok (.invokevirtual 138, 3) := by decide +kernel
theorem dX9_clipLine_52 : decode cX9_clipLine 52 = .ok (.iinc 4 1, 3) := by decide +kernel
theorem dX9_clipLine_55 : decode cX9_clipLine 55 = .ok (.goto (-24), 3) := by decide +kernel
theorem dX9_clipLine_58 : decode cX9_clipLine 58 = .ok (.return_, 1) := by decide +kernel
theorem dX9_clipByte_0 : decode cX9_clipByte 0 = .ok (.aload_n 0, 1) := by decide +kernel
theorem dX9_clipByte_1 : decode cX9_clipByte 1 = .ok (.getfield 126, 3) := by decide +kernel
theorem dX9_clipByte_4 : decode cX9_clipByte 4 = .ok (.sipush 400, 3) := by decide +kernel
theorem dX9_clipByte_7 : decode cX9_clipByte 7 = .ok (.if_icmp .ge 23, 3) := by decide +kernel
theorem dX9_clipByte_10 : decode cX9_clipByte 10 = .ok (.aload_n 0, 1) := by decide +kernel
theorem dX9_clipByte_11 : decode cX9_clipByte 11 = .ok (.getfield 15, 3) := by decide +kernel
theorem dX9_clipByte_14 : decode cX9_clipByte 14 = .ok (.aload_n 0, 1) := by decide +kernel
theorem dX9_clipByte_15 : decode cX9_clipByte 15 = .ok (.getfield 126, 3) := by decide +kernel
theorem dX9_clipByte_18 : decode cX9_clipByte 18 = .ok (.iload_n 1, 1) := by decide +kernel
theorem dX9_clipByte_19 : decode cX9_clipByte 19 = .ok (.iastore, 1) := by decide +kernel
theorem dX9_clipByte_20 : decode cX9_clipByte 20 = .ok (.aload_n 0, 1) := by decide +kernel
theorem dX9_clipByte_21 : decode cX9_clipByte 21 = .ok (.dup, 1) := by decide +kernel
theorem dX9_clipByte_22 : decode cX9_clipByte 22 = .ok (.getfield 126, 3) := by decide +kernel
theorem dX9_clipByte_25 : decode cX9_clipByte 25 = .ok (.iconst 1, 1) := by decide +kernel
theorem dX9_clipByte_26 : decode cX9_clipByte 26 = .ok (.iadd, 1) := by decide +kernel
theorem dX9_clipByte_27 : decode cX9_clipByte 27 = .ok (.putfield 126, 3) := by decide +kernel
theorem dX9_clipByte_30 : decode cX9_clipByte 30 = .ok (.return_, 1) := by decide +kernel
theorem dX9_drawPicture_0 : decode cX9_drawPicture 0 = .ok (.aload_n 0, 1) := by decide +kernel
theorem dX9_drawPicture_1 : decode cX9_drawPicture 1 = .ok (.getfield 36, 3) := by decide +kernel
theorem dX9_drawPicture_4 : decode cX9_drawPicture 4 = .ok (.aload_n 0, 1) := by decide +kernel
theorem dX9_drawPicture_5 : decode cX9_drawPicture 5 = .ok (.getfield 47, 3) := by decide +kernel
theorem dX9_drawPicture_8 : decode cX9_drawPicture 8 = .ok (.aload_n 0, 1) := by decide +kernel
theorem dX9_drawPicture_9 : decode cX9_drawPicture 9 = .ok (.getfield 23, 3) := by decide +kernel
theorem dX9_drawPicture_12 : decode cX9_drawPicture 12 = .ok (.invokevirtual 277, 3) := by decide +kernel
theorem dX9_drawPicture_15 : decode cX9_drawPicture 15 = .ok (.iconst 0, 1) := by decide +kernel
theorem dX9_drawPicture_16 : decode cX9_drawPicture 16 = .ok (.istore_n 1, 1) := by decide +kernel
theorem dX9_drawPicture_17 : decode cX9_drawPicture 17 = .ok (.iload_n 1, 1) := by decide +kernel
theorem dX9_drawPicture_18 : decode cX9_drawPicture 18 = .ok (.bipush 8, 2) := by decide +kernel
theorem dX9_drawPicture_20 : decode cX9_drawPicture 20 = .ok (.if_icmp .ge 69, 3) := by decide +kernel
theorem dX9_drawPicture_23 : decode cX9_drawPicture 23 = .ok (.aload_n 0, 1) := by decide +kernel
theorem dX9_drawPicture_24 : decode cX9_drawPicture 24 = .ok (.getfield 36, 3) := by decide +kernel
theorem dX9_drawPicture_27 : decode cX9_drawPicture 27 = .ok (.getfield 182, 3) := by decide +kernel
theorem dX9_drawPicture_30 : decode cX9_drawPicture 30 = .ok (.iload_n 1, 1) := by decide +kernel
theorem dX9_drawPicture_31 : decode cX9_drawPicture 31 = .ok (.aaload, 1) := by decide +kernel
theorem dX9_drawPicture_32 : decode cX9_drawPicture 32 = .ok (.astore_n 2, 1) := by decide +kernel
theorem dX9_drawPicture_33 : decode cX9_drawPicture 33 = .ok (.aload_n 2, 1) := by decide +kernel
theorem dX9_drawPicture_34 : decode cX9_drawPicture 34 = .ok (.ifnull 49, 3) := by decide +kernel
theorem dX9_drawPicture_37 : decode cX9_drawPicture 37 = .ok (.iconst 0, 1) := by decide +kernel
theorem dX9_drawPicture_38 : decode cX9_drawPicture 38 = .ok (.istore_n 3, 1) := by decide +kernel
theorem dX9_drawPicture_39 : decode cX9_drawPicture 39 = .ok (.iload_n 3, 1) := by decide +kernel
theorem dX9_drawPicture_40 : decode cX9_drawPicture 40 = .ok (.aload_n 2, 1) := by decide +kernel
theorem dX9_drawPicture_41 : decode cX9_drawPicture 41 = .ok (.getfield 273, 3) := by decide +kernel
theorem dX9_drawPicture_44 : decode cX9_drawPicture 44 = .ok (.if_icmp .ge 39, 3) := by decide +kernel
theorem dX9_drawPicture_47 : decode cX9_drawPicture 47 = .ok (.aload_n 0, 1) := by decide +kernel
theorem dX9_drawPicture_48 : decode cX9_drawPicture 48 = .ok (.getfield 11, 3) := by decide +kernel
theorem dX9_drawPicture_51 : decode cX9_drawPicture 51 = .ok (.iload_n 1, 1) := by decide +kernel
theorem dX9_drawPicture_52 : decode cX9_drawPicture 52 = .ok (.aaload, 1) := by decide +kernel
theorem dX9_drawPicture_53 : decode cX9_drawPicture 53 = .ok (.iload_n 3, 1) := by decide +kernel
theorem dX9_drawPicture_54 : decode cX9_drawPicture 54 = .ok (.aload_n 0, 1) := by decide +kernel
theorem dX9_drawPicture_55 : decode cX9_drawPicture 55 = .ok (.getfield 47, 3) := by decide +kernel
theorem dX9_drawPicture_58 : decode cX9_drawPicture 58 = .ok (.aload_n 2, 1) := by decide +kernel
theorem dX9_drawPicture_59 : decode cX9_drawPicture 59 = .ok (.getfield 191, 3) := by decide +kernel
theorem dX9_drawPicture_62 : decode cX9_drawPicture 62 = .ok (.iload_n 3, 1) := by decide +kernel
theorem dX9_drawPicture_63 : decode cX9_drawPicture 63 = .ok (.iadd, 1) := by decide +kernel
theorem dX9_drawPicture_64 : decode cX9_drawPicture 64 = .ok (.aload_n 0, 1) := by decide +kernel
theorem dX9_drawPicture_65 : decode cX9_drawPicture 65 = .ok (.getfield 23, 3) := by decide +kernel
theorem dX9_drawPicture_68 : decode cX9_drawPicture 68 = .ok (.imul, 1) := by decide +kernel
theorem dX9_drawPicture_69 : decode cX9_drawPicture 69 = .ok (.aload_n 2, 1) := by decide +kernel
theorem dX9_drawPicture_70 : decode cX9_drawPicture 70 = .ok (.getfield 186, 3) := by decide +kernel
theorem dX9_drawPicture_73 : decode cX9_drawPicture 73 = .ok (.iadd, 1) := by decide +kernel
theorem dX9_drawPicture_74 : decode cX9_drawPicture 74 = .ok (.invokevirtual 141, 3) := by decide +kernel
theorem dX9_drawPicture_77 : decode cX9_drawPicture 77 = .ok (.iinc 3 1, 3) := by decide +kernel
theorem dX9_drawPicture_80 : decode cX9_drawPicture 80 = .ok (.goto (-41), 3) := by decide +kernel
theorem dX9_drawPicture_83 : decode cX9_drawPicture 83 = .ok (.iinc 1 1, 3) := by decide +kernel
theorem dX9_drawPicture_86 : decode cX9_drawPicture 86 = .ok (.goto (-69), 3) := by decide +kernel
theorem dX9_drawPicture_89 : decode cX9_drawPicture 89 = .ok (.return_, 1) := by decide +kernel
theorem dX9_cursorColumn_0 : decode cX9_cursorColumn 0 = .ok (.aload_n 0, 1) := by decide +kernel
theorem dX9_cursorColumn_1 : decode cX9_cursorColumn 1 = .ok (.getfield 36, 3) := by decide +kernel
theorem dX9_cursorColumn_4 : decode cX9_cursorColumn 4 = .ok (.getfield 182, 3) := by decide +kernel
theorem dX9_cursorColumn_7 : decode cX9_cursorColumn 7 = .ok (.aload_n 0, 1) := by decide +kernel
theorem dX9_cursorColumn_8 : decode cX9_cursorColumn 8 = .ok (.getfield 88, 3) := by decide +kernel
theorem dX9_cursorColumn_11 : decode cX9_cursorColumn 11 = .ok (.aaload, 1) := by decide +kernel
theorem dX9_cursorColumn_12 : decode cX9_cursorColumn 12 = .ok (.astore_n 1, 1) := by decide +kernel
theorem dX9_cursorColumn_13 : decode cX9_cursorColumn 13 = .ok (.aload_n 1, 1) := by decide +kernel
theorem dX9_cursorColumn_14 : decode cX9_cursorColumn 14 = .ok (.ifnonnull 7, 3) := by decide +kernel
theorem dX9_cursorColumn_17 : decode cX9_cursorColumn 17 = .ok (.iconst 0, 1) := by decide +kernel
theorem dX9_cursorColumn_18 : decode cX9_cursorColumn 18 = .ok (.goto 7, 3) := by decide +kernel
theorem dX9_cursorColumn_21 : decode cX9_cursorColumn 21 = .ok (.aload_n 1, 1) := by decide +kernel
theorem dX9_cursorColumn_22 : decode cX9_cursorColumn 22 = .ok (.getfield 186, 3) := by decide +kernel
theorem dX9_cursorColumn_25 : decode cX9_cursorColumn 25 = .ok (.aload_n 0, 1) := by decide +kernel
theorem dX9_cursorColumn_26 : decode cX9_cursorColumn 26 = .ok (.getfield 11, 3) := by decide +kernel
theorem dX9_cursorColumn_29 : decode cX9_cursorColumn 29 = .ok (.aload_n 0, 1) := by decide +kernel
theorem dX9_cursorColumn_30 : decode cX9_cursorColumn 30 = .ok (.getfield 88, 3) := by decide +kernel
theorem dX9_cursorColumn_33 : decode cX9_cursorColumn 33 = .ok (.aaload, 1) := by decide +kernel
theorem dX9_cursorColumn_34 : decode cX9_cursorColumn 34 = .ok (.getfield 129, 3) := by decide +kernel
theorem dX9_cursorColumn_37 : decode cX9_cursorColumn 37 = .ok (.getfield 197, 3) := by decide +kernel
theorem dX9_cursorColumn_40 : decode cX9_cursorColumn 40 = .ok (.iadd, 1) := by decide +kernel
theorem dX9_cursorColumn_41 : decode cX9_cursorColumn 41 = .ok (.ireturn, 1) := by decide +kernel
theorem dX9_cursorRow_0 : decode cX9_cursorRow 0 = .ok (.aload_n 0, 1) := by decide +kernel
theorem dX9_cursorRow_1 : decode cX9_cursorRow 1 = .ok (.getfield 36, 3) := by decide +kernel
theorem dX9_cursorRow_4 : decode cX9_cursorRow 4 = .ok (.getfield 182, 3) := by decide +kernel
theorem dX9_cursorRow_7 : decode cX9_cursorRow 7 = .ok (.aload_n 0, 1) := by decide +kernel
theorem dX9_cursorRow_8 : decode cX9_cursorRow 8 = .ok (.getfield 88, 3) := by decide +kernel
theorem dX9_cursorRow_11 : decode cX9_cursorRow 11 = .ok (.aaload, 1) := by decide +kernel
theorem dX9_cursorRow_12 : decode cX9_cursorRow 12 = .ok (.astore_n 1, 1) := by decide +kernel
theorem dX9_cursorRow_13 : decode cX9_cursorRow 13 = .ok (.aload_n 1, 1) := by decide +kernel
theorem dX9_cursorRow_14 : decode cX9_cursorRow 14 = .ok (.ifnonnull 7, 3) := by decide +kernel
theorem dX9_cursorRow_17 : decode cX9_cursorRow 17 = .ok (.iconst 0, 1) := by decide +kernel
theorem dX9_cursorRow_18 : decode cX9_cursorRow 18 = .ok (.goto 7, 3) := by decide +kernel
theorem dX9_cursorRow_21 : decode cX9_cursorRow 21 = .ok (.aload_n 1, 1) := by decide +kernel
theorem dX9_cursorRow_22 : decode cX9_cursorRow 22 = .ok (.getfield 191, 3) := by decide +kernel
theorem dX9_cursorRow_25 : decode cX9_cursorRow 25 = .ok (.aload_n 0, 1) := by decide +kernel
theorem dX9_cursorRow_26 : decode cX9_cursorRow 26 = .ok (.getfield 11, 3) := by decide +kernel
theorem dX9_cursorRow_29 : decode cX9_cursorRow 29 = .ok (.aload_n 0, 1) := by decide +kernel
theorem dX9_cursorRow_30 : decode cX9_cursorRow 30 = .ok (.getfield 88, 3) := by decide +kernel
theorem dX9_cursorRow_33 : decode cX9_cursorRow 33 = .ok (.aaload, 1) := by decide +kernel
theorem dX9_cursorRow_34 : decode cX9_cursorRow 34 = .ok (.getfield 129, 3) := by decide +kernel
theorem dX9_cursorRow_37 : decode cX9_cursorRow 37 = .ok (.getfield 198, 3) := by decide +kernel
theorem dX9_cursorRow_40 : decode cX9_cursorRow 40 = .ok (.iadd, 1) := by decide +kernel
theorem dX9_cursorRow_41 : decode cX9_cursorRow 41 = .ok (.ireturn, 1) := by decide +kernel
theorem dJ7_rangeCheck_23922_0 : decode cJ7_rangeCheck_23922 0 = .ok (.iload_n 1, 1) := by decide +kernel
theorem dJ7_rangeCheck_23922_1 : decode cJ7_rangeCheck_23922 1 = .ok (.iload_n 2, 1) := by decide +kernel
theorem dJ7_rangeCheck_23922_2 : decode cJ7_rangeCheck_23922 2 = .ok (.if_icmp .le 44, 3) := by decide +kernel
theorem dJ7_rangeCheck_23922_5 : decode cJ7_rangeCheck_23922 5 = .ok (.new 43, 3) := by decide +kernel
theorem dJ7_rangeCheck_23922_8 : decode cJ7_rangeCheck_23922 8 = .ok (.dup, 1) := by decide +kernel
theorem dJ7_rangeCheck_23922_9 : decode cJ7_rangeCheck_23922 9 = .ok (.new 45, 3) := by decide +kernel
theorem dJ7_rangeCheck_23922_12 : decode cJ7_rangeCheck_23922 12 = .ok (.dup, 1) := by decide +kernel
theorem dJ7_rangeCheck_23922_13 : decode cJ7_rangeCheck_23922 13 = .ok (.invokespecial 47, 3) := by decide +kernel
theorem dJ7_rangeCheck_23922_16 : decode cJ7_rangeCheck_23922 16 = .ok (.ldc 48, 2) := by decide +kernel
theorem dJ7_rangeCheck_23922_18 : decode cJ7_rangeCheck_23922 18 = .ok (.invokevirtual 50, 3) := by decide +kernel
theorem dJ7_rangeCheck_23922_21 : decode cJ7_rangeCheck_23922 21 = .ok (.iload_n 1, 1) := by decide +kernel
theorem dJ7_rangeCheck_23922_22 : decode cJ7_rangeCheck_23922 22 = .ok (.invokevirtual 54, 3) := by decide +kernel
theorem dJ7_rangeCheck_23922_25 : decode cJ7_rangeCheck_23922 25 = .ok (.ldc 57, 2) := by decide +kernel
theorem dJ7_rangeCheck_23922_27 : decode cJ7_rangeCheck_23922 27 = .ok (.invokevirtual 50, 3) := by decide +kernel
theorem dJ7_rangeCheck_23922_30 : decode cJ7_rangeCheck_23922 30 = .ok (.iload_n 2, 1) := by decide +kernel
theorem dJ7_rangeCheck_23922_31 : decode cJ7_rangeCheck_23922 31 = .ok (.invokevirtual 54, 3) := by decide +kernel
theorem dJ7_rangeCheck_23922_34 : decode cJ7_rangeCheck_23922 34 = .ok (.ldc 59, 2) := by decide +kernel
theorem dJ7_rangeCheck_23922_36 : decode cJ7_rangeCheck_23922 36 = .ok (.invokevirtual 50, 3) := by decide +kernel
theorem dJ7_rangeCheck_23922_39 : decode cJ7_rangeCheck_23922 39 = .ok (.invokevirtual 61, 3) := by decide +kernel
theorem dJ7_rangeCheck_23922_42 : decode cJ7_rangeCheck_23922 42 = .ok (.invokespecial 65, 3) := by decide +kernel
theorem dJ7_rangeCheck_23922_45 : decode cJ7_rangeCheck_23922 45 = .ok (.athrow, 1) := by decide +kernel
theorem dJ7_rangeCheck_23922_46 : decode cJ7_rangeCheck_23922 46 = .ok (.iload_n 1, 1) := by decide +kernel
theorem dJ7_rangeCheck_23922_47 : decode cJ7_rangeCheck_23922 47 = .ok (.ifCond .ge 12, 3) := by decide +kernel
theorem dJ7_rangeCheck_23922_50 : decode cJ7_rangeCheck_23922 50 = .ok (.new 68, 3) := by decide +kernel
theorem dJ7_rangeCheck_23922_53 : decode cJ7_rangeCheck_23922 53 = .ok (.dup, 1) := by decide +kernel
theorem dJ7_rangeCheck_23922_54 : decode cJ7_rangeCheck_23922 54 = .ok (.iload_n 1, 1) := by decide +kernel
theorem dJ7_rangeCheck_23922_55 : decode cJ7_rangeCheck_23922 55 = .ok (.invokespecial 70, 3) := by decide +kernel
theorem dJ7_rangeCheck_23922_58 : decode cJ7_rangeCheck_23922 58 = .ok (.athrow, 1) := by decide +kernel
theorem dJ7_rangeCheck_23922_59 : decode cJ7_rangeCheck_23922 59 = .ok (.iload_n 2, 1) := by decide +kernel
theorem dJ7_rangeCheck_23922_60 : decode cJ7_rangeCheck_23922 60 = .ok (.iload_n 0, 1) := by decide +kernel
theorem dJ7_rangeCheck_23922_61 : decode cJ7_rangeCheck_23922 61 = .ok (.if_icmp .le 12, 3) := by decide +kernel
theorem dJ7_rangeCheck_23922_64 : decode cJ7_rangeCheck_23922 64 = .ok (.new 68, 3) := by decide +kernel
theorem dJ7_rangeCheck_23922_67 : decode cJ7_rangeCheck_23922 67 = .ok (.dup, 1) := by decide +kernel
theorem dJ7_rangeCheck_23922_68 : decode cJ7_rangeCheck_23922 68 = .ok (.iload_n 2, 1) := by decide +kernel
theorem dJ7_rangeCheck_23922_69 : decode cJ7_rangeCheck_23922 69 = .ok (.invokespecial 70, 3) := by decide +kernel
theorem dJ7_rangeCheck_23922_72 : decode cJ7_rangeCheck_23922 72 = .ok (.athrow, 1) := by decide +kernel
theorem dJ7_rangeCheck_23922_73 : decode cJ7_rangeCheck_23922 73 = .ok (.return_, 1) := by decide +kernel
theorem dJ7_fill_53178_0 : decode cJ7_fill_53178 0 = .ok (.iconst 0, 1) := by decide +kernel
theorem dJ7_fill_53178_1 : decode cJ7_fill_53178 1 = .ok (.istore_n 2, 1) := by decide +kernel
theorem dJ7_fill_53178_2 : decode cJ7_fill_53178 2 = .ok (.aload_n 0, 1) := by decide +kernel
theorem dJ7_fill_53178_3 : decode cJ7_fill_53178 3 = .ok (.arraylength, 1) := by decide +kernel
theorem dJ7_fill_53178_4 : decode cJ7_fill_53178 4 = .ok (.istore_n 3, 1) := by decide +kernel
theorem dJ7_fill_53178_5 : decode cJ7_fill_53178 5 = .ok (.iload_n 2, 1) := by decide +kernel
theorem dJ7_fill_53178_6 : decode cJ7_fill_53178 6 = .ok (.iload_n 3, 1) := by decide +kernel
theorem dJ7_fill_53178_7 : decode cJ7_fill_53178 7 = .ok (.if_icmp .ge 13, 3) := by decide +kernel
theorem dJ7_fill_53178_10 : decode cJ7_fill_53178 10 = .ok (.aload_n 0, 1) := by decide +kernel
theorem dJ7_fill_53178_11 : decode cJ7_fill_53178 11 = .ok (.iload_n 2, 1) := by decide +kernel
theorem dJ7_fill_53178_12 : decode cJ7_fill_53178 12 = .ok (.iload_n 1, 1) := by decide +kernel
theorem dJ7_fill_53178_13 : decode cJ7_fill_53178 13 = .ok (.iastore, 1) := by decide +kernel
theorem dJ7_fill_53178_14 : decode cJ7_fill_53178 14 = .ok (.iinc 2 1, 3) := by decide +kernel
theorem dJ7_fill_53178_17 : decode cJ7_fill_53178 17 = .ok (.goto (-12), 3) := by decide +kernel
theorem dJ7_fill_53178_20 : decode cJ7_fill_53178 20 = .ok (.return_, 1) := by decide +kernel
theorem dJ7_fill_fda19_0 : decode cJ7_fill_fda19 0 = .ok (.aload_n 0, 1) := by decide +kernel
theorem dJ7_fill_fda19_1 : decode cJ7_fill_fda19 1 = .ok (.arraylength, 1) := by decide +kernel
theorem dJ7_fill_fda19_2 : decode cJ7_fill_fda19 2 = .ok (.iload_n 1, 1) := by decide +kernel
theorem dJ7_fill_fda19_3 : decode cJ7_fill_fda19 3 = .ok (.iload_n 2, 1) := by decide +kernel
theorem dJ7_fill_fda19_4 : decode cJ7_fill_fda19 4 = .ok (.invokestatic 13, 3) := by decide +kernel
theorem dJ7_fill_fda19_7 : decode cJ7_fill_fda19 7 = .ok (.iload_n 1, 1) := by decide +kernel
theorem dJ7_fill_fda19_8 : decode cJ7_fill_fda19 8 = .ok (.istore 4, 2) := by decide +kernel
theorem dJ7_fill_fda19_10 : decode cJ7_fill_fda19 10 = .ok (.iload 4, 2) := by decide +kernel
theorem dJ7_fill_fda19_12 : decode cJ7_fill_fda19 12 = .ok (.iload_n 2, 1) := by decide +kernel
theorem dJ7_fill_fda19_13 : decode cJ7_fill_fda19 13 = .ok (.if_icmp .ge 14, 3) := by decide +kernel
theorem dJ7_fill_fda19_16 : decode cJ7_fill_fda19 16 = .ok (.aload_n 0, 1) := by decide +kernel
theorem dJ7_fill_fda19_17 : decode cJ7_fill_fda19 17 = .ok (.iload 4, 2) := by decide +kernel
theorem dJ7_fill_fda19_19 : decode cJ7_fill_fda19 19 = .ok (.iload_n 3, 1) := by decide +kernel
theorem dJ7_fill_fda19_20 : decode cJ7_fill_fda19 20 = .ok (.iastore, 1) := by decide +kernel
theorem dJ7_fill_fda19_21 : decode cJ7_fill_fda19 21 = .ok (.iinc 4 1, 3) := by decide +kernel
theorem dJ7_fill_fda19_24 : decode cJ7_fill_fda19 24 = .ok (.goto (-14), 3) := by decide +kernel
theorem dJ7_fill_fda19_27 : decode cJ7_fill_fda19 27 = .ok (.return_, 1) := by decide +kernel
