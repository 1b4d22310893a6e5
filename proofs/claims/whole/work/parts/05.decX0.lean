theorem dX0_init_0 : decode cX0_init 0 = .ok (.aload_n 0, 1) := by decide +kernel
theorem dX0_init_1 : decode cX0_init 1 = .ok (.invokespecial 3, 3) := by decide +kernel
theorem dX0_init_4 : decode cX0_init 4 = .ok (.aload_n 0, 1) := by decide +kernel
theorem dX0_init_5 : decode cX0_init 5 = .ok (.bipush 12, 2) := by decide +kernel
theorem dX0_init_7 : decode cX0_init 7 = .ok (.newarray .int, 2) := by decide +kernel
theorem dX0_init_9 : decode cX0_init 9 = .ok (.putfield 9, 3) := by decide +kernel
theorem dX0_init_12 : decode cX0_init 12 = .ok (.aload_n 0, 1) := by decide +kernel
theorem dX0_init_13 : decode cX0_init 13 = .ok (.bipush 7, 2) := by decide +kernel
theorem dX0_init_15 : decode cX0_init 15 = .ok (.newarray .int, 2) := by decide +kernel
theorem dX0_init_17 : decode cX0_init 17 = .ok (.putfield 15, 3) := by decide +kernel
theorem dX0_init_20 : decode cX0_init 20 = .ok (.aload_n 0, 1) := by decide +kernel
theorem dX0_init_21 : decode cX0_init 21 = .ok (.sipush 128, 3) := by decide +kernel
theorem dX0_init_24 : decode cX0_init 24 = .ok (.newarray .int, 2) := by decide +kernel
theorem dX0_init_26 : decode cX0_init 26 = .ok (.putfield 18, 3) := by decide +kernel
theorem dX0_init_29 : decode cX0_init 29 = .ok (.aload_n 0, 1) := by decide +kernel
theorem dX0_init_30 : decode cX0_init 30 = .ok (.bipush 84, 2) := by decide +kernel
theorem dX0_init_32 : decode cX0_init 32 = .ok (.newarray .int, 2) := by decide +kernel
theorem dX0_init_34 : decode cX0_init 34 = .ok (.putfield 21, 3) := by decide +kernel
theorem dX0_init_37 : decode cX0_init 37 = .ok (.return_, 1) := by decide +kernel
theorem dX0_choose_0 : decode cX0_choose 0 = .ok (.iload_n 0, 1) := by decide +kernel
theorem dX0_choose_1 : decode cX0_choose 1 = .ok (.ifCond .lt 17, 3) := by decide +kernel
theorem dX0_choose_4 : decode cX0_choose 4 = .ok (.iload_n 0, 1) := by decide +kernel
theorem dX0_choose_5 : decode cX0_choose 5 = .ok (.iconst 5, 1) := by decide +kernel
theorem dX0_choose_6 : decode cX0_choose 6 = .ok (.if_icmp .gt 12, 3) := by decide +kernel
theorem dX0_choose_9 : decode cX0_choose 9 = .ok (.iload_n 1, 1) := by decide +kernel
theorem dX0_choose_10 : decode cX0_choose 10 = .ok (.ifCond .lt 8, 3) := by decide +kernel
theorem dX0_choose_13 : decode cX0_choose 13 = .ok (.iload_n 1, 1) := by decide +kernel
theorem dX0_choose_14 : decode cX0_choose 14 = .ok (.iload_n 0, 1) := by decide +kernel
theorem dX0_choose_15 : decode cX0_choose 15 = .ok (.if_icmp .le 5, 3) := by decide +kernel
theorem dX0_choose_18 : decode cX0_choose 18 = .ok (.iconst 0, 1) := by decide +kernel
theorem dX0_choose_19 : decode cX0_choose 19 = .ok (.ireturn, 1) := by decide +kernel
theorem dX0_choose_20 : decode cX0_choose 20 = .ok (.getstatic 24, 3) := by decide +kernel
theorem dX0_choose_23 : decode cX0_choose 23 = .ok (.iload_n 0, 1) := by decide +kernel
theorem dX0_choose_24 : decode cX0_choose 24 = .ok (.bipush 6, 2) := by decide +kernel
theorem dX0_choose_26 : decode cX0_choose 26 = .ok (.imul, 1) := by decide +kernel
theorem dX0_choose_27 : decode cX0_choose 27 = .ok (.iload_n 1, 1) := by decide +kernel
theorem dX0_choose_28 : decode cX0_choose 28 = .ok (.iadd, 1) := by decide +kernel
theorem dX0_choose_29 : decode cX0_choose 29 = .ok (.iaload, 1) := by decide +kernel
theorem dX0_choose_30 : decode cX0_choose 30 = .ok (.ireturn, 1) := by decide +kernel
theorem dX0_take_0 : decode cX0_take 0 = .ok (.aload_n 0, 1) := by decide +kernel
theorem dX0_take_1 : decode cX0_take 1 = .ok (.aload_n 1, 1) := by decide +kernel
theorem dX0_take_2 : decode cX0_take 2 = .ok (.getfield 27, 3) := by decide +kernel
theorem dX0_take_5 : decode cX0_take 5 = .ok (.putfield 33, 3) := by decide +kernel
theorem dX0_take_8 : decode cX0_take 8 = .ok (.aload_n 0, 1) := by decide +kernel
theorem dX0_take_9 : decode cX0_take 9 = .ok (.aload_n 1, 1) := by decide +kernel
theorem dX0_take_10 : decode cX0_take 10 = .ok (.getfield 34, 3) := by decide +kernel
theorem dX0_take_13 : decode cX0_take 13 = .ok (.putfield 37, 3) := by decide +kernel
theorem dX0_take_16 : decode cX0_take 16 = .ok (.aload_n 0, 1) := by decide +kernel
theorem dX0_take_17 : decode cX0_take 17 = .ok (.aload_n 1, 1) := by decide +kernel
theorem dX0_take_18 : decode cX0_take 18 = .ok (.getfield 38, 3) := by decide +kernel
theorem dX0_take_21 : decode cX0_take 21 = .ok (.putfield 41, 3) := by decide +kernel
theorem dX0_take_24 : decode cX0_take 24 = .ok (.iconst 0, 1) := by decide +kernel
theorem dX0_take_25 : decode cX0_take 25 = .ok (.istore_n 2, 1) := by decide +kernel
theorem dX0_take_26 : decode cX0_take 26 = .ok (.iload_n 2, 1) := by decide +kernel
theorem dX0_take_27 : decode cX0_take 27 = .ok (.aload_n 0, 1) := by decide +kernel
theorem dX0_take_28 : decode cX0_take 28 = .ok (.getfield 41, 3) := by decide +kernel
theorem dX0_take_31 : decode cX0_take 31 = .ok (.if_icmp .ge 21, 3) := by decide +kernel
theorem dX0_take_34 : decode cX0_take 34 = .ok (.aload_n 0, 1) := by decide +kernel
theorem dX0_take_35 : decode cX0_take 35 = .ok (.getfield 9, 3) := by decide +kernel
theorem dX0_take_38 : decode cX0_take 38 = .ok (.iload_n 2, 1) := by decide +kernel
theorem dX0_take_39 : decode cX0_take 39 = .ok (.aload_n 1, 1) := by decide +kernel
theorem dX0_take_40 : decode cX0_take 40 = .ok (.getfield 42, 3) := by decide +kernel
theorem dX0_take_43 : decode cX0_take 43 = .ok (.iload_n 2, 1) := by decide +kernel
theorem dX0_take_44 : decode cX0_take 44 = .ok (.iaload, 1) := by decide +kernel
theorem dX0_take_45 : decode cX0_take 45 = .ok (.iastore, 1) := by decide +kernel
theorem dX0_take_46 : decode cX0_take 46 = .ok (.iinc 2 1, 3) := by decide +kernel
theorem dX0_take_49 : decode cX0_take 49 = .ok (.goto (-23), 3) := by decide +kernel
theorem dX0_take_52 : decode cX0_take 52 = .ok (.return_, 1) := by decide +kernel
theorem dX0_append_0 : decode cX0_append 0 = .ok (.aload_n 0, 1) := by decide +kernel
theorem dX0_append_1 : decode cX0_append 1 = .ok (.getfield 41, 3) := by decide +kernel
theorem dX0_append_4 : decode cX0_append 4 = .ok (.bipush 12, 2) := by decide +kernel
theorem dX0_append_6 : decode cX0_append 6 = .ok (.if_icmp .ge 23, 3) := by decide +kernel
theorem dX0_append_9 : decode cX0_append 9 = .ok (.aload_n 0, 1) := by decide +kernel
theorem dX0_append_10 : decode cX0_append 10 = .ok (.getfield 9, 3) := by decide +kernel
theorem dX0_append_13 : decode cX0_append 13 = .ok (.aload_n 0, 1) := by decide +kernel
theorem dX0_append_14 : decode cX0_append 14 = .ok (.getfield 41, 3) := by decide +kernel
theorem dX0_append_17 : decode cX0_append 17 = .ok (.iload_n 1, 1) := by decide +kernel
theorem dX0_append_18 : decode cX0_append 18 = .ok (.iastore, 1) := by decide +kernel
theorem dX0_append_19 : decode cX0_append 19 = .ok (.aload_n 0, 1) := by decide +kernel
theorem dX0_append_20 : decode cX0_append 20 = .ok (.dup, 1) := by decide +kernel
theorem dX0_append_21 : decode cX0_append 21 = .ok (.getfield 41, 3) := by decide +kernel
theorem dX0_append_24 : decode cX0_append 24 = .ok (.iconst 1, 1) := by decide +kernel
theorem dX0_append_25 : decode cX0_append 25 = .ok (.iadd, 1) := by decide +kernel
theorem dX0_append_26 : decode cX0_append 26 = .ok (.putfield 41, 3) := by decide +kernel
theorem dX0_append_29 : decode cX0_append 29 = .ok (.return_, 1) := by decide +kernel
theorem dX0_remove_0 : decode cX0_remove 0 = .ok (.iload_n 1, 1) := by decide +kernel
theorem dX0_remove_1 : decode cX0_remove 1 = .ok (.istore_n 2, 1) := by decide +kernel
theorem dX0_remove_2 : decode cX0_remove 2 = .ok (.iload_n 2, 1) := by decide +kernel
theorem dX0_remove_3 : decode cX0_remove 3 = .ok (.iconst 1, 1) := by decide +kernel
theorem dX0_remove_4 : decode cX0_remove 4 = .ok (.iadd, 1) := by decide +kernel
theorem dX0_remove_5 : decode cX0_remove 5 = .ok (.aload_n 0, 1) := by decide +kernel
theorem dX0_remove_6 : decode cX0_remove 6 = .ok (.getfield 41, 3) := by decide +kernel
theorem dX0_remove_9 : decode cX0_remove 9 = .ok (.if_icmp .ge 23, 3) := by decide +kernel
theorem dX0_remove_12 : decode cX0_remove 12 = .ok (.aload_n 0, 1) := by decide +kernel
theorem dX0_remove_13 : decode cX0_remove 13 = .ok (.getfield 9, 3) := by decide +kernel
theorem dX0_remove_16 : decode cX0_remove 16 = .ok (.iload_n 2, 1) := by decide +kernel
theorem dX0_remove_17 : decode cX0_remove 17 = .ok (.aload_n 0, 1) := by decide +kernel
theorem dX0_remove_18 : decode cX0_remove 18 = .ok (.getfield 9, 3) := by decide +kernel
theorem dX0_remove_21 : decode cX0_remove 21 = .ok (.iload_n 2, 1) := by decide +kernel
theorem dX0_remove_22 : decode cX0_remove 22 = .ok (.iconst 1, 1) := by decide +kernel
theorem dX0_remove_23 : decode cX0_remove 23 = .ok (.iadd, 1) := by decide +kernel
theorem dX0_remove_24 : decode cX0_remove 24 = .ok (.iaload, 1) := by decide +kernel
theorem dX0_remove_25 : decode cX0_remove 25 = .ok (.iastore, 1) := by decide +kernel
theorem dX0_remove_26 : decode cX0_remove 26 = .ok (.iinc 2 1, 3) := by decide +kernel
theorem dX0_remove_29 : decode cX0_remove 29 = .ok (.goto (-27), 3) := by decide +kernel
theorem dX0_remove_32 : decode cX0_remove 32 = .ok (.aload_n 0, 1) := by decide +kernel
theorem dX0_remove_33 : decode cX0_remove 33 = .ok (.dup, 1) := by decide +kernel
theorem dX0_remove_34 : decode cX0_remove 34 = .ok (.getfield 41, 3) := by decide +kernel
theorem dX0_remove_37 : decode cX0_remove 37 = .ok (.iconst 1, 1) := by decide +kernel
theorem dX0_remove_38 : decode cX0_remove 38 = .ok (.isub, 1) := by decide +kernel
theorem dX0_remove_39 : decode cX0_remove 39 = .ok (.putfield 41, 3) := by decide +kernel
theorem dX0_remove_42 : decode cX0_remove 42 = .ok (.return_, 1) := by decide +kernel
theorem dX0_rename_0 : decode cX0_rename 0 = .ok (.iconst 1, 1) := by decide +kernel
theorem dX0_rename_1 : decode cX0_rename 1 = .ok (.iload_n 1, 1) := by decide +kernel
theorem dX0_rename_2 : decode cX0_rename 2 = .ok (.ishl, 1) := by decide +kernel
theorem dX0_rename_3 : decode cX0_rename 3 = .ok (.iconst 1, 1) := by decide +kernel
theorem dX0_rename_4 : decode cX0_rename 4 = .ok (.iload_n 2, 1) := by decide +kernel
theorem dX0_rename_5 : decode cX0_rename 5 = .ok (.ishl, 1) := by decide +kernel
theorem dX0_rename_6 : decode cX0_rename 6 = .ok (.ior, 1) := by decide +kernel
theorem dX0_rename_7 : decode cX0_rename 7 = .ok (.istore_n 3, 1) := by decide +kernel
theorem dX0_rename_8 : decode cX0_rename 8 = .ok (.iconst 0, 1) := by decide +kernel
theorem dX0_rename_9 : decode cX0_rename 9 = .ok (.istore 4, 2) := by decide +kernel
theorem dX0_rename_11 : decode cX0_rename 11 = .ok (.iconst 0, 1) := by decide +kernel
theorem dX0_rename_12 : decode cX0_rename 12 = .ok (.istore 5, 2) := by decide +kernel
theorem dX0_rename_14 : decode cX0_rename 14 = .ok (.iload 5, 2) := by decide +kernel
theorem dX0_rename_16 : decode cX0_rename 16 = .ok (.aload_n 0, 1) := by decide +kernel
theorem dX0_rename_17 : decode cX0_rename 17 = .ok (.getfield 41, 3) := by decide +kernel
theorem dX0_rename_20 : decode cX0_rename 20 = .ok (.if_icmp .ge 39, 3) := by decide +kernel
theorem dX0_rename_23 : decode cX0_rename 23 = .ok (.aload_n 0, 1) := by decide +kernel
theorem dX0_rename_24 : decode cX0_rename 24 = .ok (.getfield 9, 3) := by decide +kernel
theorem dX0_rename_27 : decode cX0_rename 27 = .ok (.iload 5, 2) := by decide +kernel
theorem dX0_rename_29 : decode cX0_rename 29 = .ok (.iaload, 1) := by decide +kernel
theorem dX0_rename_30 : decode cX0_rename 30 = .ok (.iload_n 3, 1) := by decide +kernel
theorem dX0_rename_31 : decode cX0_rename 31 = .ok (.iand, 1) := by decide +kernel
theorem dX0_rename_32 : decode cX0_rename 32 = .ok (.invokestatic 43, 3) := by decide +kernel
theorem dX0_rename_35 : decode cX0_rename 35 = .ok (.iconst 1, 1) := by decide +kernel
theorem dX0_rename_36 : decode cX0_rename 36 = .ok (.if_icmp .ne 17, 3) := by decide +kernel
theorem dX0_rename_39 : decode cX0_rename 39 = .ok (.aload_n 0, 1) := by decide +kernel
theorem dX0_rename_40 : decode cX0_rename 40 = .ok (.getfield 9, 3) := by decide +kernel
theorem dX0_rename_43 : decode cX0_rename 43 = .ok (.iload 5, 2) := by decide +kernel
theorem dX0_rename_45 : decode cX0_rename 45 = .ok (.dup2, 1) := by decide +kernel
theorem dX0_rename_46 : decode cX0_rename 46 = .ok (.iaload, 1) := by decide +kernel
theorem dX0_rename_47 : decode cX0_rename 47 = .ok (.iload_n 3, 1) := by decide +kernel
theorem dX0_rename_48 : decode cX0_rename 48 = .ok (.ixor, 1) := by decide +kernel
theorem dX0_rename_49 : decode cX0_rename 49 = .ok (.iastore, 1) := by decide +kernel
theorem dX0_rename_50 : decode cX0_rename 50 = .ok (.iinc 4 1, 3) := by decide +kernel
theorem dX0_rename_53 : decode cX0_rename 53 = .ok (.iinc 5 1, 3) := by decide +kernel
theorem dX0_rename_56 : decode cX0_rename 56 = .ok (.goto (-42), 3) := by decide +kernel
theorem dX0_rename_59 : decode cX0_rename 59 = .ok (.iload 4, 2) := by decide +kernel
theorem dX0_rename_61 : decode cX0_rename 61 = .ok (.ireturn, 1) := by decide +kernel
theorem dX0_recount_0 : decode cX0_recount 0 = .ok (.aload_n 0, 1) := by decide +kernel
theorem dX0_recount_1 : decode cX0_recount 1 = .ok (.invokevirtual 49, 3) := by decide +kernel
theorem dX0_recount_4 : decode cX0_recount 4 = .ok (.aload_n 0, 1) := by decide +kernel
theorem dX0_recount_5 : decode cX0_recount 5 = .ok (.invokevirtual 52, 3) := by decide +kernel
theorem dX0_recount_8 : decode cX0_recount 8 = .ok (.aload_n 0, 1) := by decide +kernel
theorem dX0_recount_9 : decode cX0_recount 9 = .ok (.invokevirtual 55, 3) := by decide +kernel
theorem dX0_recount_12 : decode cX0_recount 12 = .ok (.return_, 1) := by decide +kernel
theorem dX0_recountHaving_0 : decode cX0_recountHaving 0 = .ok (.iconst 0, 1) := by decide +kernel
theorem dX0_recountHaving_1 : decode cX0_recountHaving 1 = .ok (.istore_n 1, 1) := by decide +kernel
theorem dX0_recountHaving_2 : decode cX0_recountHaving 2 = .ok (.iload_n 1, 1) := by decide +kernel
theorem dX0_recountHaving_3 : decode cX0_recountHaving 3 = .ok (.bipush 7, 2) := by decide +kernel
theorem dX0_recountHaving_5 : decode cX0_recountHaving 5 = .ok (.if_icmp .ge 53, 3) := by decide +kernel
theorem dX0_recountHaving_8 : decode cX0_recountHaving 8 = .ok (.aload_n 0, 1) := by decide +kernel
theorem dX0_recountHaving_9 : decode cX0_recountHaving 9 = .ok (.getfield 15, 3) := by decide +kernel
theorem dX0_recountHaving_12 : decode cX0_recountHaving 12 = .ok (.iload_n 1, 1) := by decide +kernel
theorem dX0_recountHaving_13 : decode cX0_recountHaving 13 = .ok (.iconst 0, 1) := by decide +kernel
theorem dX0_recountHaving_14 : decode cX0_recountHaving 14 = .ok (.iastore, 1) := by decide +kernel
theorem dX0_recountHaving_15 : decode cX0_recountHaving 15 = .ok (.iconst 0, 1) := by decide +kernel
theorem dX0_recountHaving_16 : decode cX0_recountHaving 16 = .ok (.istore_n 2, 1) := by decide +kernel
theorem dX0_recountHaving_17 : decode cX0_recountHaving 17 = .ok (.iload_n 2, 1) := by decide +kernel
theorem dX0_recountHaving_18 : decode cX0_recountHaving 18 = .ok (.aload_n 0, 1) := by decide +kernel
theorem dX0_recountHaving_19 : decode cX0_recountHaving 19 = .ok (.getfield 41, 3) := by decide +kernel
theorem dX0_recountHaving_22 : decode cX0_recountHaving 22 = .ok (.if_icmp .ge 30, 3) := by decide +kernel
theorem dX0_recountHaving_25 : decode cX0_recountHaving 25 = .ok (.aload_n 0, 1) := by decide +kernel
theorem dX0_recountHaving_26 : decode cX0_recountHaving 26 = .ok (.getfield 15, 3) := by decide +kernel
theorem dX0_recountHaving_29 : decode cX0_recountHaving 29 = .ok (.iload_n 1, 1) := by decide +kernel
theorem dX0_recountHaving_30 : decode cX0_recountHaving 30 = .ok (.dup2, 1) := by decide +kernel
theorem dX0_recountHaving_31 : decode cX0_recountHaving 31 = .ok (.iaload, 1) := by decide +kernel
theorem dX0_recountHaving_32 : decode cX0_recountHaving 32 = .ok (.aload_n 0, 1) := by decide +kernel
theorem dX0_recountHaving_33 : decode cX0_recountHaving 33 = .ok (.getfield 9, 3) := by decide +kernel
theorem dX0_recountHaving_36 : decode cX0_recountHaving 36 = .ok (.iload_n 2, 1) := by decide +kernel
theorem dX0_recountHaving_37 : decode cX0_recountHaving 37 = .ok (.iaload, 1) := by decide +kernel
theorem dX0_recountHaving_38 : decode cX0_recountHaving 38 = .ok (.iload_n 1, 1) := by decide +kernel
theorem dX0_recountHaving_39 : decode cX0_recountHaving 39 = .ok (.ishr, 1) := by decide +kernel
theorem dX0_recountHaving_40 : decode cX0_recountHaving 40 = .ok (.iconst 1, 1) := by decide +kernel
theorem dX0_recountHaving_41 : decode cX0_recountHaving 41 = .ok (.iand, 1) := by decide +kernel
theorem dX0_recountHaving_42 : decode cX0_recountHaving 42 = .ok (.iload_n 2, 1) := by decide +kernel
theorem dX0_recountHaving_43 : decode cX0_recountHaving 43 = .ok (.ishl, 1) := by decide +kernel
theorem dX0_recountHaving_44 : decode cX0_recountHaving 44 = .ok (.ior, 1) := by decide +kernel
theorem dX0_recountHaving_45 : decode cX0_recountHaving 45 = .ok (.iastore, 1) := by decide +kernel
theorem dX0_recountHaving_46 : decode cX0_recountHaving 46 = .ok (.iinc 2 1, 3) := by decide +kernel
theorem dX0_recountHaving_49 : decode cX0_recountHaving 49 = .ok (.goto (-32), 3) := by decide +kernel
theorem dX0_recountHaving_52 : decode cX0_recountHaving 52 = .ok (.iinc 1 1, 3) := by decide +kernel
theorem dX0_recountHaving_55 : decode cX0_recountHaving 55 = .ok (.goto (-53), 3) := by decide +kernel
theorem dX0_recountHaving_58 : decode cX0_recountHaving 58 = .ok (.return_, 1) := by decide +kernel
theorem dX0_recountLying_0 : decode cX0_recountLying 0 = .ok (.aload_n 0, 1) := by decide +kernel
theorem dX0_recountLying_1 : decode cX0_recountLying 1 = .ok (.getfield 18, 3) := by decide +kernel
theorem dX0_recountLying_4 : decode cX0_recountLying 4 = .ok (.iconst 0, 1) := by decide +kernel
theorem dX0_recountLying_5 : decode cX0_recountLying 5 = .ok (.aload_n 0, 1) := by decide +kernel
theorem dX0_recountLying_6 : decode cX0_recountLying 6 = .ok (.invokevirtual 58, 3) := by decide +kernel
theorem dX0_recountLying_9 : decode cX0_recountLying 9 = .ok (.iastore, 1) := by decide +kernel
theorem dX0_recountLying_10 : decode cX0_recountLying 10 = .ok (.iconst 0, 1) := by decide +kernel
theorem dX0_recountLying_11 : decode cX0_recountLying 11 = .ok (.istore_n 1, 1) := by decide +kernel
theorem dX0_recountLying_12 : decode cX0_recountLying 12 = .ok (.iload_n 1, 1) := by decide +kernel
theorem dX0_recountLying_13 : decode cX0_recountLying 13 = .ok (.bipush 7, 2) := by decide +kernel
theorem dX0_recountLying_15 : decode cX0_recountLying 15 = .ok (.if_icmp .ge 47, 3) := by decide +kernel
theorem dX0_recountLying_18 : decode cX0_recountLying 18 = .ok (.iconst 1, 1) := by decide +kernel
theorem dX0_recountLying_19 : decode cX0_recountLying 19 = .ok (.iload_n 1, 1) := by decide +kernel
theorem dX0_recountLying_20 : decode cX0_recountLying 20 = .ok (.ishl, 1) := by decide +kernel
theorem dX0_recountLying_21 : decode cX0_recountLying 21 = .ok (.istore_n 2, 1) := by decide +kernel
theorem dX0_recountLying_22 : decode cX0_recountLying 22 = .ok (.iconst 0, 1) := by decide +kernel
theorem dX0_recountLying_23 : decode cX0_recountLying 23 = .ok (.istore_n 3, 1) := by decide +kernel
theorem dX0_recountLying_24 : decode cX0_recountLying 24 = .ok (.iload_n 3, 1) := by decide +kernel
theorem dX0_recountLying_25 : decode cX0_recountLying 25 = .ok (.iload_n 2, 1) := by decide +kernel
theorem dX0_recountLying_26 : decode cX0_recountLying 26 = .ok (.if_icmp .ge 30, 3) := by decide +kernel
theorem dX0_recountLying_29 : decode cX0_recountLying 29 = .ok (.aload_n 0, 1) := by decide +kernel
theorem dX0_recountLying_30 : decode cX0_recountLying 30 = .ok (.getfield 18, 3) := by decide +kernel
theorem dX0_recountLying_33 : decode cX0_recountLying 33 = .ok (.iload_n 2, 1) := by decide +kernel
theorem dX0_recountLying_34 : decode cX0_recountLying 34 = .ok (.iload_n 3, 1) := by decide +kernel
theorem dX0_recountLying_35 : decode cX0_recountLying 35 = .ok (.ior, 1) := by decide +kernel
theorem dX0_recountLying_36 : decode cX0_recountLying 36 = .ok (.aload_n 0, 1) := by decide +kernel
theorem dX0_recountLying_37 : decode cX0_recountLying 37 = .ok (.getfield 18, 3) := by decide +kernel
theorem dX0_recountLying_40 : decode cX0_recountLying 40 = .ok (.iload_n 3, 1) := by decide +kernel
theorem dX0_recountLying_41 : decode cX0_recountLying 41 = .ok (.iaload, 1) := by decide +kernel
theorem dX0_recountLying_42 : decode cX0_recountLying 42 = .ok (.aload_n 0, 1) := by decide +kernel
theorem dX0_recountLying_43 : decode cX0_recountLying 43 = .ok (.getfield 15, 3) := by decide +kernel
theorem dX0_recountLying_46 : decode cX0_recountLying 46 = .ok (.iload_n 1, 1) := by decide +kernel
theorem dX0_recountLying_47 : decode cX0_recountLying 47 = .ok (.iaload, 1) := by decide +kernel
theorem dX0_recountLying_48 : decode cX0_recountLying 48 = .ok (.iand, 1) := by decide +kernel
theorem dX0_recountLying_49 : decode cX0_recountLying 49 = .ok (.iastore, 1) := by decide +kernel
theorem dX0_recountLying_50 : decode cX0_recountLying 50 = .ok (.iinc 3 1, 3) := by decide +kernel
theorem dX0_recountLying_53 : decode cX0_recountLying 53 = .ok (.goto (-29), 3) := by decide +kernel
theorem dX0_recountLying_56 : decode cX0_recountLying 56 = .ok (.iinc 1 1, 3) := by decide +kernel
theorem dX0_recountLying_59 : decode cX0_recountLying 59 = .ok (.goto (-47), 3) := by decide +kernel
theorem dX0_recountLying_62 : decode cX0_recountLying 62 = .ok (.return_, 1) := by decide +kernel
theorem dX0_recountAcross_0 : decode cX0_recountAcross 0 = .ok (.iconst 0, 1) := by decide +kernel
theorem dX0_recountAcross_1 : decode cX0_recountAcross 1 = .ok (.istore_n 1, 1) := by decide +kernel
theorem dX0_recountAcross_2 : decode cX0_recountAcross 2 = .ok (.iload_n 1, 1) := by decide +kernel
theorem dX0_recountAcross_3 : decode cX0_recountAcross 3 = .ok (.aload_n 0, 1) := by decide +kernel
theorem dX0_recountAcross_4 : decode cX0_recountAcross 4 = .ok (.getfield 41, 3) := by decide +kernel
theorem dX0_recountAcross_7 : decode cX0_recountAcross 7 = .ok (.if_icmp .ge 89, 3) := by decide +kernel
theorem dX0_recountAcross_10 : decode cX0_recountAcross 10 = .ok (.iconst 0, 1) := by decide +kernel
theorem dX0_recountAcross_11 : decode cX0_recountAcross 11 = .ok (.istore_n 2, 1) := by decide +kernel
theorem dX0_recountAcross_12 : decode cX0_recountAcross 12 = .ok (.iload_n 2, 1) := by decide +kernel
theorem dX0_recountAcross_13 : decode cX0_recountAcross 13 = .ok (.bipush 7, 2) := by decide +kernel
theorem dX0_recountAcross_15 : decode cX0_recountAcross 15 = .ok (.if_icmp .ge 75, 3) := by decide +kernel
theorem dX0_recountAcross_18 : decode cX0_recountAcross 18 = .ok (.iconst 1, 1) := by decide +kernel
theorem dX0_recountAcross_19 : decode cX0_recountAcross 19 = .ok (.iload_n 2, 1) := by decide +kernel
theorem dX0_recountAcross_20 : decode cX0_recountAcross 20 = .ok (.ishl, 1) := by decide +kernel
theorem dX0_recountAcross_21 : decode cX0_recountAcross 21 = .ok (.istore_n 3, 1) := by decide +kernel
theorem dX0_recountAcross_22 : decode cX0_recountAcross 22 = .ok (.aload_n 0, 1) := by decide +kernel
theorem dX0_recountAcross_23 : decode cX0_recountAcross 23 = .ok (.getfield 9, 3) := by decide +kernel
theorem dX0_recountAcross_26 : decode cX0_recountAcross 26 = .ok (.iload_n 1, 1) := by decide +kernel
theorem dX0_recountAcross_27 : decode cX0_recountAcross 27 = .ok (.iaload, 1) := by decide +kernel
theorem dX0_recountAcross_28 : decode cX0_recountAcross 28 = .ok (.iload_n 3, 1) := by decide +kernel
theorem dX0_recountAcross_29 : decode cX0_recountAcross 29 = .ok (.iand, 1) := by decide +kernel
theorem dX0_recountAcross_30 : decode cX0_recountAcross 30 = .ok (.ifCond .eq 7, 3) := by decide +kernel
theorem dX0_recountAcross_33 : decode cX0_recountAcross 33 = .ok (.iconst 1, 1) := by decide +kernel
theorem dX0_recountAcross_34 : decode cX0_recountAcross 34 = .ok (.goto 4, 3) := by decide +kernel
theorem dX0_recountAcross_37 : decode cX0_recountAcross 37 = .ok (.iconst 0, 1) := by decide +kernel
theorem dX0_recountAcross_38 : decode cX0_recountAcross 38 = .ok (.istore 4, 2) := by decide +kernel
theorem dX0_recountAcross_40 : decode cX0_recountAcross 40 = .ok (.aload_n 0, 1) := by decide +kernel
theorem dX0_recountAcross_41 : decode cX0_recountAcross 41 = .ok (.getfield 21, 3) := by decide +kernel
theorem dX0_recountAcross_44 : decode cX0_recountAcross 44 = .ok (.iload_n 1, 1) := by decide +kernel
theorem dX0_recountAcross_45 : decode cX0_recountAcross 45 = .ok (.bipush 7, 2) := by decide +kernel
theorem dX0_recountAcross_47 : decode cX0_recountAcross 47 = .ok (.imul, 1) := by decide +kernel
theorem dX0_recountAcross_48 : decode cX0_recountAcross 48 = .ok (.iload_n 2, 1) := by decide +kernel
theorem dX0_recountAcross_49 : decode cX0_recountAcross 49 = .ok (.iadd, 1) := by decide +kernel
theorem dX0_recountAcross_50 : decode cX0_recountAcross 50 = .ok (.iload 4, 2) := by decide +kernel
theorem dX0_recountAcross_52 : decode cX0_recountAcross 52 = .ok (.ifCond .eq 30, 3) := by decide +kernel
theorem dX0_recountAcross_55 : decode cX0_recountAcross 55 = .ok (.aload_n 0, 1) := by decide +kernel
theorem dX0_recountAcross_56 : decode cX0_recountAcross 56 = .ok (.getfield 18, 3) := by decide +kernel
theorem dX0_recountAcross_59 : decode cX0_recountAcross 59 = .ok (.aload_n 0, 1) := by decide +kernel
theorem dX0_recountAcross_60 : decode cX0_recountAcross 60 = .ok (.getfield 9, 3) := by decide +kernel
theorem dX0_recountAcross_63 : decode cX0_recountAcross 63 = .ok (.iload_n 1, 1) := by decide +kernel
theorem dX0_recountAcross_64 : decode cX0_recountAcross 64 = .ok (.iaload, 1) := by decide +kernel
theorem dX0_recountAcross_65 : decode cX0_recountAcross 65 = .ok (.iload_n 3, 1) := by decide +kernel
theorem dX0_recountAcross_66 : decode cX0_recountAcross 66 = .ok (.iconst (-1), 1) := by decide +kernel
theorem dX0_recountAcross_67 : decode cX0_recountAcross 67 = .ok (.ixor, 1) := by decide +kernel
theorem dX0_recountAcross_68 : decode cX0_recountAcross 68 = .ok (.iand, 1) := by decide +kernel
theorem dX0_recountAcross_69 : decode cX0_recountAcross 69 = .ok (.iaload, 1) := by decide +kernel
theorem dX0_recountAcross_70 : decode cX0_recountAcross 70 = .ok (.aload_n 0, 1) := by decide +kernel
theorem dX0_recountAcross_71 : decode cX0_recountAcross 71 = .ok (.getfield 15, 3) := by decide +kernel
theorem dX0_recountAcross_74 : decode cX0_recountAcross 74 = .ok (.iload_n 2, 1) := by decide +kernel
theorem dX0_recountAcross_75 : decode cX0_recountAcross 75 = .ok (.iaload, 1) := by decide +kernel
theorem dX0_recountAcross_76 : decode cX0_recountAcross 76 = .ok (.iconst (-1), 1) := by decide +kernel
theorem dX0_recountAcross_77 : decode cX0_recountAcross 77 = .ok (.ixor, 1) := by decide +kernel
theorem dX0_recountAcross_78 : decode cX0_recountAcross 78 = .ok (.iand, 1) := by decide +kernel
theorem dX0_recountAcross_79 : decode cX0_recountAcross 79 = .ok (.goto 4, 3) := by decide +kernel
theorem dX0_recountAcross_82 : decode cX0_recountAcross 82 = .ok (.iconst 0, 1) := by decide +kernel
theorem dX0_recountAcross_83 : decode cX0_recountAcross 83 = .ok (.iastore, 1) := by decide +kernel
theorem dX0_recountAcross_84 : decode cX0_recountAcross 84 = .ok (.iinc 2 1, 3) := by decide +kernel
theorem dX0_recountAcross_87 : decode cX0_recountAcross 87 = .ok (.goto (-75), 3) := by decide +kernel
theorem dX0_recountAcross_90 : decode cX0_recountAcross 90 = .ok (.iinc 1 1, 3) := by decide +kernel
theorem dX0_recountAcross_93 : decode cX0_recountAcross 93 = .ok (.goto (-91), 3) := by decide +kernel
theorem dX0_recountAcross_96 : decode cX0_recountAcross 96 = .ok (.return_, 1) := by decide +kernel
theorem dX0_everyPoint_0 : decode cX0_everyPoint 0 = .ok (.iconst 1, 1) := by decide +kernel
theorem dX0_everyPoint_1 : decode cX0_everyPoint 1 = .ok (.aload_n 0, 1) := by decide +kernel
theorem dX0_everyPoint_2 : decode cX0_everyPoint 2 = .ok (.getfield 33, 3) := by decide +kernel
theorem dX0_everyPoint_5 : decode cX0_everyPoint 5 = .ok (.ishl, 1) := by decide +kernel
theorem dX0_everyPoint_6 : decode cX0_everyPoint 6 = .ok (.iconst 1, 1) := by decide +kernel
theorem dX0_everyPoint_7 : decode cX0_everyPoint 7 = .ok (.isub, 1) := by decide +kernel
theorem dX0_everyPoint_8 : decode cX0_everyPoint 8 = .ok (.ireturn, 1) := by decide +kernel
theorem dX0_everyFacet_0 : decode cX0_everyFacet 0 = .ok (.iconst 1, 1) := by decide +kernel
theorem dX0_everyFacet_1 : decode cX0_everyFacet 1 = .ok (.aload_n 0, 1) := by decide +kernel
theorem dX0_everyFacet_2 : decode cX0_everyFacet 2 = .ok (.getfield 41, 3) := by decide +kernel
theorem dX0_everyFacet_5 : decode cX0_everyFacet 5 = .ok (.ishl, 1) := by decide +kernel
theorem dX0_everyFacet_6 : decode cX0_everyFacet 6 = .ok (.iconst 1, 1) := by decide +kernel
theorem dX0_everyFacet_7 : decode cX0_everyFacet 7 = .ok (.isub, 1) := by decide +kernel
theorem dX0_everyFacet_8 : decode cX0_everyFacet 8 = .ok (.ireturn, 1) := by decide +kernel
theorem dX0_isPoint_0 : decode cX0_isPoint 0 = .ok (.aload_n 0, 1) := by decide +kernel
theorem dX0_isPoint_1 : decode cX0_isPoint 1 = .ok (.getfield 41, 3) := by decide +kernel
theorem dX0_isPoint_4 : decode cX0_isPoint 4 = .ok (.ifCond .le 19, 3) := by decide +kernel
theorem dX0_isPoint_7 : decode cX0_isPoint 7 = .ok (.iload_n 1, 1) := by decide +kernel
theorem dX0_isPoint_8 : decode cX0_isPoint 8 = .ok (.ifCond .lt 15, 3) := by decide +kernel
theorem dX0_isPoint_11 : decode cX0_isPoint 11 = .ok (.iload_n 1, 1) := by decide +kernel
theorem dX0_isPoint_12 : decode cX0_isPoint 12 = .ok (.aload_n 0, 1) := by decide +kernel
theorem dX0_isPoint_13 : decode cX0_isPoint 13 = .ok (.getfield 33, 3) := by decide +kernel
theorem dX0_isPoint_16 : decode cX0_isPoint 16 = .ok (.if_icmp .ge 7, 3) := by decide +kernel
theorem dX0_isPoint_19 : decode cX0_isPoint 19 = .ok (.iconst 1, 1) := by decide +kernel
theorem dX0_isPoint_20 : decode cX0_isPoint 20 = .ok (.goto 4, 3) := by decide +kernel
theorem dX0_isPoint_23 : decode cX0_isPoint 23 = .ok (.iconst 0, 1) := by decide +kernel
theorem dX0_isPoint_24 : decode cX0_isPoint 24 = .ok (.ireturn, 1) := by decide +kernel
theorem dX0_isFacet_0 : decode cX0_isFacet 0 = .ok (.iload_n 1, 1) := by decide +kernel
theorem dX0_isFacet_1 : decode cX0_isFacet 1 = .ok (.ifCond .lt 15, 3) := by decide +kernel
theorem dX0_isFacet_4 : decode cX0_isFacet 4 = .ok (.iload_n 1, 1) := by decide +kernel
theorem dX0_isFacet_5 : decode cX0_isFacet 5 = .ok (.aload_n 0, 1) := by decide +kernel
theorem dX0_isFacet_6 : decode cX0_isFacet 6 = .ok (.getfield 41, 3) := by decide +kernel
theorem dX0_isFacet_9 : decode cX0_isFacet 9 = .ok (.if_icmp .ge 7, 3) := by decide +kernel
theorem dX0_isFacet_12 : decode cX0_isFacet 12 = .ok (.iconst 1, 1) := by decide +kernel
theorem dX0_isFacet_13 : decode cX0_isFacet 13 = .ok (.goto 4, 3) := by decide +kernel
theorem dX0_isFacet_16 : decode cX0_isFacet 16 = .ok (.iconst 0, 1) := by decide +kernel
theorem dX0_isFacet_17 : decode cX0_isFacet 17 = .ok (.ireturn, 1) := by decide +kernel
theorem dX0_isSet_0 : decode cX0_isSet 0 = .ok (.iload_n 1, 1) := by decide +kernel
theorem dX0_isSet_1 : decode cX0_isSet 1 = .ok (.ifCond .lt 15, 3) := by decide +kernel
theorem dX0_isSet_4 : decode cX0_isSet 4 = .ok (.iload_n 1, 1) := by decide +kernel
theorem dX0_isSet_5 : decode cX0_isSet 5 = .ok (.aload_n 0, 1) := by decide +kernel
theorem dX0_isSet_6 : decode cX0_isSet 6 = .ok (.invokevirtual 62, 3) := by decide +kernel
theorem dX0_isSet_9 : decode cX0_isSet 9 = .ok (.if_icmp .gt 7, 3) := by decide +kernel
theorem dX0_isSet_12 : decode cX0_isSet 12 = .ok (.iconst 1, 1) := by decide +kernel
theorem dX0_isSet_13 : decode cX0_isSet 13 = .ok (.goto 4, 3) := by decide +kernel
theorem dX0_isSet_16 : decode cX0_isSet 16 = .ok (.iconst 0, 1) := by decide +kernel
theorem dX0_isSet_17 : decode cX0_isSet 17 = .ok (.ireturn, 1) := by decide +kernel
theorem dX0_isFace_0 : decode cX0_isFace 0 = .ok (.aload_n 0, 1) := by decide +kernel
theorem dX0_isFace_1 : decode cX0_isFace 1 = .ok (.iload_n 1, 1) := by decide +kernel
theorem dX0_isFace_2 : decode cX0_isFace 2 = .ok (.invokevirtual 65, 3) := by decide +kernel
theorem dX0_isFace_5 : decode cX0_isFace 5 = .ok (.ifCond .eq 16, 3) := by decide +kernel
theorem dX0_isFace_8 : decode cX0_isFace 8 = .ok (.aload_n 0, 1) := by decide +kernel
theorem dX0_isFace_9 : decode cX0_isFace 9 = .ok (.getfield 18, 3) := by decide +kernel
theorem dX0_isFace_12 : decode cX0_isFace 12 = .ok (.iload_n 1, 1) := by decide +kernel
theorem dX0_isFace_13 : decode cX0_isFace 13 = .ok (.iaload, 1) := by decide +kernel
theorem dX0_isFace_14 : decode cX0_isFace 14 = .ok (.ifCond .eq 7, 3) := by decide +kernel
theorem dX0_isFace_17 : decode cX0_isFace 17 = .ok (.iconst 1, 1) := by decide +kernel
theorem dX0_isFace_18 : decode cX0_isFace 18 = .ok (.goto 4, 3) := by decide +kernel
theorem dX0_isFace_21 : decode cX0_isFace 21 = .ok (.iconst 0, 1) := by decide +kernel
theorem dX0_isFace_22 : decode cX0_isFace 22 = .ok (.ireturn, 1) := by decide +kernel
theorem dX0_numberOf_0 : decode cX0_numberOf 0 = .ok (.iconst 0, 1) := by decide +kernel
theorem dX0_numberOf_1 : decode cX0_numberOf 1 = .ok (.istore_n 2, 1) := by decide +kernel
theorem dX0_numberOf_2 : decode cX0_numberOf 2 = .ok (.iload_n 2, 1) := by decide +kernel
theorem dX0_numberOf_3 : decode cX0_numberOf 3 = .ok (.aload_n 0, 1) := by decide +kernel
theorem dX0_numberOf_4 : decode cX0_numberOf 4 = .ok (.getfield 41, 3) := by decide +kernel
theorem dX0_numberOf_7 : decode cX0_numberOf 7 = .ok (.if_icmp .ge 21, 3) := by decide +kernel
theorem dX0_numberOf_10 : decode cX0_numberOf 10 = .ok (.aload_n 0, 1) := by decide +kernel
theorem dX0_numberOf_11 : decode cX0_numberOf 11 = .ok (.getfield 9, 3) := by decide +kernel
theorem dX0_numberOf_14 : decode cX0_numberOf 14 = .ok (.iload_n 2, 1) := by decide +kernel
theorem dX0_numberOf_15 : decode cX0_numberOf 15 = .ok (.iaload, 1) := by decide +kernel
theorem dX0_numberOf_16 : decode cX0_numberOf 16 = .ok (.iload_n 1, 1) := by decide +kernel
theorem dX0_numberOf_17 : decode cX0_numberOf 17 = .ok (.if_icmp .ne 5, 3) := by decide +kernel
theorem dX0_numberOf_20 : decode cX0_numberOf 20 = .ok (.iload_n 2, 1) := by decide +kernel
theorem dX0_numberOf_21 : decode cX0_numberOf 21 = .ok (.ireturn, 1) := by decide +kernel
theorem dX0_numberOf_22 : decode cX0_numberOf 22 = .ok (.iinc 2 1, 3) := by decide +kernel
theorem dX0_numberOf_25 : decode cX0_numberOf 25 = .ok (.goto (-23), 3) := by decide +kernel
theorem dX0_numberOf_28 : decode cX0_numberOf 28 = .ok (.iconst (-1), 1) := by decide +kernel
theorem dX0_numberOf_29 : decode cX0_numberOf 29 = .ok (.ireturn, 1) := by decide +kernel
theorem dX0_countFaces_0 : decode cX0_countFaces 0 = .ok (.iconst 0, 1) := by decide +kernel
theorem dX0_countFaces_1 : decode cX0_countFaces 1 = .ok (.istore_n 1, 1) := by decide +kernel
theorem dX0_countFaces_2 : decode cX0_countFaces 2 = .ok (.iconst 0, 1) := by decide +kernel
theorem dX0_countFaces_3 : decode cX0_countFaces 3 = .ok (.istore_n 2, 1) := by decide +kernel
theorem dX0_countFaces_4 : decode cX0_countFaces 4 = .ok (.iload_n 2, 1) := by decide +kernel
theorem dX0_countFaces_5 : decode cX0_countFaces 5 = .ok (.aload_n 0, 1) := by decide +kernel
theorem dX0_countFaces_6 : decode cX0_countFaces 6 = .ok (.getfield 37, 3) := by decide +kernel
theorem dX0_countFaces_9 : decode cX0_countFaces 9 = .ok (.if_icmp .gt 17, 3) := by decide +kernel
theorem dX0_countFaces_12 : decode cX0_countFaces 12 = .ok (.iload_n 1, 1) := by decide +kernel
theorem dX0_countFaces_13 : decode cX0_countFaces 13 = .ok (.aload_n 0, 1) := by decide +kernel
theorem dX0_countFaces_14 : decode cX0_countFaces 14 = .ok (.iload_n 2, 1) := by decide +kernel
theorem dX0_countFaces_15 : decode cX0_countFaces 15 = .ok (.invokevirtual 69, 3) := by decide +kernel
theorem dX0_countFaces_18 : decode cX0_countFaces 18 = .ok (.iadd, 1) := by decide +kernel
theorem dX0_countFaces_19 : decode cX0_countFaces 19 = .ok (.istore_n 1, 1) := by decide +kernel
theorem dX0_countFaces_20 : decode cX0_countFaces 20 = .ok (.iinc 2 1, 3) := by decide +kernel
theorem dX0_countFaces_23 : decode cX0_countFaces 23 = .ok (.goto (-19), 3) := by decide +kernel
theorem dX0_countFaces_26 : decode cX0_countFaces 26 = .ok (.iload_n 1, 1) := by decide +kernel
theorem dX0_countFaces_27 : decode cX0_countFaces 27 = .ok (.ireturn, 1) := by decide +kernel
theorem dX0_countSized_0 : decode cX0_countSized 0 = .ok (.iconst 0, 1) := by decide +kernel
theorem dX0_countSized_1 : decode cX0_countSized 1 = .ok (.istore_n 2, 1) := by decide +kernel
theorem dX0_countSized_2 : decode cX0_countSized 2 = .ok (.iconst 0, 1) := by decide +kernel
theorem dX0_countSized_3 : decode cX0_countSized 3 = .ok (.istore_n 3, 1) := by decide +kernel
theorem dX0_countSized_4 : decode cX0_countSized 4 = .ok (.iload_n 3, 1) := by decide +kernel
theorem dX0_countSized_5 : decode cX0_countSized 5 = .ok (.aload_n 0, 1) := by decide +kernel
theorem dX0_countSized_6 : decode cX0_countSized 6 = .ok (.invokevirtual 62, 3) := by decide +kernel
theorem dX0_countSized_9 : decode cX0_countSized 9 = .ok (.if_icmp .gt 29, 3) := by decide +kernel
theorem dX0_countSized_12 : decode cX0_countSized 12 = .ok (.aload_n 0, 1) := by decide +kernel
theorem dX0_countSized_13 : decode cX0_countSized 13 = .ok (.getfield 18, 3) := by decide +kernel
theorem dX0_countSized_16 : decode cX0_countSized 16 = .ok (.iload_n 3, 1) := by decide +kernel
theorem dX0_countSized_17 : decode cX0_countSized 17 = .ok (.iaload, 1) := by decide +kernel
theorem dX0_countSized_18 : decode cX0_countSized 18 = .ok (.ifCond .eq 14, 3) := by decide +kernel
theorem dX0_countSized_21 : decode cX0_countSized 21 = .ok (.iload_n 3, 1) := by decide +kernel
theorem dX0_countSized_22 : decode cX0_countSized 22 = .ok (.invokestatic 43, 3) := by decide +kernel
theorem dX0_countSized_25 : decode cX0_countSized 25 = .ok (.iload_n 1, 1) := by decide +kernel
theorem dX0_countSized_26 : decode cX0_countSized 26 = .ok (.if_icmp .ne 6, 3) := by decide +kernel
theorem dX0_countSized_29 : decode cX0_countSized 29 = .ok (.iinc 2 1, 3) := by decide +kernel
theorem dX0_countSized_32 : decode cX0_countSized 32 = .ok (.iinc 3 1, 3) := by decide +kernel
theorem dX0_countSized_35 : decode cX0_countSized 35 = .ok (.goto (-31), 3) := by decide +kernel
theorem dX0_countSized_38 : decode cX0_countSized 38 = .ok (.iload_n 2, 1) := by decide +kernel
theorem dX0_countSized_39 : decode cX0_countSized 39 = .ok (.ireturn, 1) := by decide +kernel
theorem dX0_usedPoints_0 : decode cX0_usedPoints 0 = .ok (.iconst 0, 1) := by decide +kernel
theorem dX0_usedPoints_1 : decode cX0_usedPoints 1 = .ok (.istore_n 1, 1) := by decide +kernel
theorem dX0_usedPoints_2 : decode cX0_usedPoints 2 = .ok (.iconst 0, 1) := by decide +kernel
theorem dX0_usedPoints_3 : decode cX0_usedPoints 3 = .ok (.istore_n 2, 1) := by decide +kernel
theorem dX0_usedPoints_4 : decode cX0_usedPoints 4 = .ok (.iload_n 2, 1) := by decide +kernel
theorem dX0_usedPoints_5 : decode cX0_usedPoints 5 = .ok (.aload_n 0, 1) := by decide +kernel
theorem dX0_usedPoints_6 : decode cX0_usedPoints 6 = .ok (.getfield 41, 3) := by decide +kernel
theorem dX0_usedPoints_9 : decode cX0_usedPoints 9 = .ok (.if_icmp .ge 18, 3) := by decide +kernel
theorem dX0_usedPoints_12 : decode cX0_usedPoints 12 = .ok (.iload_n 1, 1) := by decide +kernel
theorem dX0_usedPoints_13 : decode cX0_usedPoints 13 = .ok (.aload_n 0, 1) := by decide +kernel
theorem dX0_usedPoints_14 : decode cX0_usedPoints 14 = .ok (.getfield 9, 3) := by decide +kernel
theorem dX0_usedPoints_17 : decode cX0_usedPoints 17 = .ok (.iload_n 2, 1) := by decide +kernel
theorem dX0_usedPoints_18 : decode cX0_usedPoints 18 = .ok (.iaload, 1) := by decide +kernel
theorem dX0_usedPoints_19 : decode cX0_usedPoints 19 = .ok (.ior, 1) := by decide +kernel
theorem dX0_usedPoints_20 : decode cX0_usedPoints 20 = .ok (.istore_n 1, 1) := by decide +kernel
theorem dX0_usedPoints_21 : decode cX0_usedPoints 21 = .ok (.iinc 2 1, 3) := by decide +kernel
theorem dX0_usedPoints_24 : decode cX0_usedPoints 24 = .ok (.goto (-20), 3) := by decide +kernel
theorem dX0_usedPoints_27 : decode cX0_usedPoints 27 = .ok (.iload_n 1, 1) := by decide +kernel
theorem dX0_usedPoints_28 : decode cX0_usedPoints 28 = .ok (.ireturn, 1) := by decide +kernel
theorem dX0_commonPoints_0 : decode cX0_commonPoints 0 = .ok (.aload_n 0, 1) := by decide +kernel
theorem dX0_commonPoints_1 : decode cX0_commonPoints 1 = .ok (.invokevirtual 62, 3) := by decide +kernel
theorem dX0_commonPoints_4 : decode cX0_commonPoints 4 = .ok (.istore_n 1, 1) := by decide +kernel
theorem dX0_commonPoints_5 : decode cX0_commonPoints 5 = .ok (.iconst 0, 1) := by decide +kernel
theorem dX0_commonPoints_6 : decode cX0_commonPoints 6 = .ok (.istore_n 2, 1) := by decide +kernel
theorem dX0_commonPoints_7 : decode cX0_commonPoints 7 = .ok (.iload_n 2, 1) := by decide +kernel
theorem dX0_commonPoints_8 : decode cX0_commonPoints 8 = .ok (.aload_n 0, 1) := by decide +kernel
theorem dX0_commonPoints_9 : decode cX0_commonPoints 9 = .ok (.getfield 41, 3) := by decide +kernel
theorem dX0_commonPoints_12 : decode cX0_commonPoints 12 = .ok (.if_icmp .ge 18, 3) := by decide +kernel
theorem dX0_commonPoints_15 : decode cX0_commonPoints 15 = .ok (.iload_n 1, 1) := by decide +kernel
theorem dX0_commonPoints_16 : decode cX0_commonPoints 16 = .ok (.aload_n 0, 1) := by decide +kernel
theorem dX0_commonPoints_17 : decode cX0_commonPoints 17 = .ok (.getfield 9, 3) := by decide +kernel
theorem dX0_commonPoints_20 : decode cX0_commonPoints 20 = .ok (.iload_n 2, 1) := by decide +kernel
theorem dX0_commonPoints_21 : decode cX0_commonPoints 21 = .ok (.iaload, 1) := by decide +kernel
theorem dX0_commonPoints_22 : decode cX0_commonPoints 22 = .ok (.iand, 1) := by decide +kernel
theorem dX0_commonPoints_23 : decode cX0_commonPoints 23 = .ok (.istore_n 1, 1) := by decide +kernel
theorem dX0_commonPoints_24 : decode cX0_commonPoints 24 = .ok (.iinc 2 1, 3) := by decide +kernel
theorem dX0_commonPoints_27 : decode cX0_commonPoints 27 = .ok (.goto (-20), 3) := by decide +kernel
theorem dX0_commonPoints_30 : decode cX0_commonPoints 30 = .ok (.iload_n 1, 1) := by decide +kernel
theorem dX0_commonPoints_31 : decode cX0_commonPoints 31 = .ok (.ireturn, 1) := by decide +kernel
theorem dX0_isMissing_0 : decode cX0_isMissing 0 = .ok (.aload_n 0, 1) := by decide +kernel
theorem dX0_isMissing_1 : decode cX0_isMissing 1 = .ok (.getfield 18, 3) := by decide +kernel
theorem dX0_isMissing_4 : decode cX0_isMissing 4 = .ok (.iload_n 1, 1) := by decide +kernel
theorem dX0_isMissing_5 : decode cX0_isMissing 5 = .ok (.iaload, 1) := by decide +kernel
theorem dX0_isMissing_6 : decode cX0_isMissing 6 = .ok (.ifCond .eq 5, 3) := by decide +kernel
theorem dX0_isMissing_9 : decode cX0_isMissing 9 = .ok (.iconst 0, 1) := by decide +kernel
theorem dX0_isMissing_10 : decode cX0_isMissing 10 = .ok (.ireturn, 1) := by decide +kernel
theorem dX0_isMissing_11 : decode cX0_isMissing 11 = .ok (.iconst 0, 1) := by decide +kernel
theorem dX0_isMissing_12 : decode cX0_isMissing 12 = .ok (.istore_n 2, 1) := by decide +kernel
theorem dX0_isMissing_13 : decode cX0_isMissing 13 = .ok (.iload_n 2, 1) := by decide +kernel
theorem dX0_isMissing_14 : decode cX0_isMissing 14 = .ok (.aload_n 0, 1) := by decide +kernel
theorem dX0_isMissing_15 : decode cX0_isMissing 15 = .ok (.getfield 33, 3) := by decide +kernel
theorem dX0_isMissing_18 : decode cX0_isMissing 18 = .ok (.if_icmp .ge 34, 3) := by decide +kernel
theorem dX0_isMissing_21 : decode cX0_isMissing 21 = .ok (.iconst 1, 1) := by decide +kernel
theorem dX0_isMissing_22 : decode cX0_isMissing 22 = .ok (.iload_n 2, 1) := by decide +kernel
theorem dX0_isMissing_23 : decode cX0_isMissing 23 = .ok (.ishl, 1) := by decide +kernel
theorem dX0_isMissing_24 : decode cX0_isMissing 24 = .ok (.istore_n 3, 1) := by decide +kernel
theorem dX0_isMissing_25 : decode cX0_isMissing 25 = .ok (.iload_n 1, 1) := by decide +kernel
theorem dX0_isMissing_26 : decode cX0_isMissing 26 = .ok (.iload_n 3, 1) := by decide +kernel
theorem dX0_isMissing_27 : decode cX0_isMissing 27 = .ok (.iand, 1) := by decide +kernel
theorem dX0_isMissing_28 : decode cX0_isMissing 28 = .ok (.ifCond .eq 18, 3) := by decide +kernel
theorem dX0_isMissing_31 : decode cX0_isMissing 31 = .ok (.aload_n 0, 1) := by decide +kernel
theorem dX0_isMissing_32 : decode cX0_isMissing 32 = .ok (.getfield 18, 3) := by decide +kernel
theorem dX0_isMissing_35 : decode cX0_isMissing 35 = .ok (.iload_n 1, 1) := by decide +kernel
theorem dX0_isMissing_36 : decode cX0_isMissing 36 = .ok (.iload_n 3, 1) := by decide +kernel
theorem dX0_isMissing_37 : decode cX0_isMissing 37 = .ok (.iconst (-1), 1) := by decide +kernel
theorem dX0_isMissing_38 : decode cX0_isMissing 38 = .ok (.ixor, 1) := by decide +kernel
theorem dX0_isMissing_39 : decode cX0_isMissing 39 = .ok (.iand, 1) := by decide +kernel
theorem dX0_isMissing_40 : decode cX0_isMissing 40 = .ok (.iaload, 1) := by decide +kernel
theorem dX0_isMissing_41 : decode cX0_isMissing 41 = .ok (.ifCond .ne 5, 3) := by decide +kernel
theorem dX0_isMissing_44 : decode cX0_isMissing 44 = .ok (.iconst 0, 1) := by decide +kernel
theorem dX0_isMissing_45 : decode cX0_isMissing 45 = .ok (.ireturn, 1) := by decide +kernel
theorem dX0_isMissing_46 : decode cX0_isMissing 46 = .ok (.iinc 2 1, 3) := by decide +kernel
theorem dX0_isMissing_49 : decode cX0_isMissing 49 = .ok (.goto (-36), 3) := by decide +kernel
theorem dX0_isMissing_52 : decode cX0_isMissing 52 = .ok (.iconst 1, 1) := by decide +kernel
theorem dX0_isMissing_53 : decode cX0_isMissing 53 = .ok (.ireturn, 1) := by decide +kernel
theorem dX0_countMissing_0 : decode cX0_countMissing 0 = .ok (.iconst 0, 1) := by decide +kernel
theorem dX0_countMissing_1 : decode cX0_countMissing 1 = .ok (.istore_n 1, 1) := by decide +kernel
theorem dX0_countMissing_2 : decode cX0_countMissing 2 = .ok (.iconst 0, 1) := by decide +kernel
theorem dX0_countMissing_3 : decode cX0_countMissing 3 = .ok (.istore_n 2, 1) := by decide +kernel
theorem dX0_countMissing_4 : decode cX0_countMissing 4 = .ok (.iload_n 2, 1) := by decide +kernel
theorem dX0_countMissing_5 : decode cX0_countMissing 5 = .ok (.aload_n 0, 1) := by decide +kernel
theorem dX0_countMissing_6 : decode cX0_countMissing 6 = .ok (.invokevirtual 62, 3) := by decide +kernel
theorem dX0_countMissing_9 : decode cX0_countMissing 9 = .ok (.if_icmp .gt 20, 3) := by decide +kernel
theorem dX0_countMissing_12 : decode cX0_countMissing 12 = .ok (.aload_n 0, 1) := by decide +kernel
theorem dX0_countMissing_13 : decode cX0_countMissing 13 = .ok (.iload_n 2, 1) := by decide +kernel
theorem dX0_countMissing_14 : decode cX0_countMissing 14 = .ok (.invokevirtual 72, 3) := by decide +kernel
theorem dX0_countMissing_17 : decode cX0_countMissing 17 = .ok (.ifCond .eq 6, 3) := by decide +kernel
theorem dX0_countMissing_20 : decode cX0_countMissing 20 = .ok (.iinc 1 1, 3) := by decide +kernel
theorem dX0_countMissing_23 : decode cX0_countMissing 23 = .ok (.iinc 2 1, 3) := by decide +kernel
theorem dX0_countMissing_26 : decode cX0_countMissing 26 = .ok (.goto (-22), 3) := by decide +kernel
theorem dX0_countMissing_29 : decode cX0_countMissing 29 = .ok (.iload_n 1, 1) := by decide +kernel
theorem dX0_countMissing_30 : decode cX0_countMissing 30 = .ok (.ireturn, 1) := by decide +kernel
theorem dX0_nthMissing_0 : decode cX0_nthMissing 0 = .ok (.aload_n 0, 1) := by decide +kernel
theorem dX0_nthMissing_1 : decode cX0_nthMissing 1 = .ok (.getfield 41, 3) := by decide +kernel
theorem dX0_nthMissing_4 : decode cX0_nthMissing 4 = .ok (.ifCond .eq 7, 3) := by decide +kernel
theorem dX0_nthMissing_7 : decode cX0_nthMissing 7 = .ok (.iload_n 1, 1) := by decide +kernel
theorem dX0_nthMissing_8 : decode cX0_nthMissing 8 = .ok (.ifCond .ge 5, 3) := by decide +kernel
theorem dX0_nthMissing_11 : decode cX0_nthMissing 11 = .ok (.iconst (-1), 1) := by decide +kernel
theorem dX0_nthMissing_12 : decode cX0_nthMissing 12 = .ok (.ireturn, 1) := by decide +kernel
theorem dX0_nthMissing_13 : decode cX0_nthMissing 13 = .ok (.iload_n 1, 1) := by decide +kernel
theorem dX0_nthMissing_14 : decode cX0_nthMissing 14 = .ok (.istore_n 2, 1) := by decide +kernel
theorem dX0_nthMissing_15 : decode cX0_nthMissing 15 = .ok (.iconst 0, 1) := by decide +kernel
theorem dX0_nthMissing_16 : decode cX0_nthMissing 16 = .ok (.istore_n 3, 1) := by decide +kernel
theorem dX0_nthMissing_17 : decode cX0_nthMissing 17 = .ok (.iload_n 3, 1) := by decide +kernel
theorem dX0_nthMissing_18 : decode cX0_nthMissing 18 = .ok (.aload_n 0, 1) := by decide +kernel
theorem dX0_nthMissing_19 : decode cX0_nthMissing 19 = .ok (.invokevirtual 62, 3) := by decide +kernel
theorem dX0_nthMissing_22 : decode cX0_nthMissing 22 = .ok (.if_icmp .gt 26, 3) := by decide +kernel
theorem dX0_nthMissing_25 : decode cX0_nthMissing 25 = .ok (.aload_n 0, 1) := by decide +kernel
theorem dX0_nthMissing_26 : decode cX0_nthMissing 26 = .ok (.iload_n 3, 1) := by decide +kernel
theorem dX0_nthMissing_27 : decode cX0_nthMissing 27 = .ok (.invokevirtual 72, 3) := by decide +kernel
theorem dX0_nthMissing_30 : decode cX0_nthMissing 30 = .ok (.ifCond .eq 12, 3) := by decide +kernel
theorem dX0_nthMissing_33 : decode cX0_nthMissing 33 = .ok (.iload_n 2, 1) := by decide +kernel
theorem dX0_nthMissing_34 : decode cX0_nthMissing 34 = .ok (.ifCond .ne 5, 3) := by decide +kernel
theorem dX0_nthMissing_37 : decode cX0_nthMissing 37 = .ok (.iload_n 3, 1) := by decide +kernel
theorem dX0_nthMissing_38 : decode cX0_nthMissing 38 = .ok (.ireturn, 1) := by decide +kernel
theorem dX0_nthMissing_39 : decode cX0_nthMissing 39 = .ok (.iinc 2 (-1), 3) := by decide +kernel
theorem dX0_nthMissing_42 : decode cX0_nthMissing 42 = .ok (.iinc 3 1, 3) := by decide +kernel
theorem dX0_nthMissing_45 : decode cX0_nthMissing 45 = .ok (.goto (-28), 3) := by decide +kernel
theorem dX0_nthMissing_48 : decode cX0_nthMissing 48 = .ok (.iconst (-1), 1) := by decide +kernel
theorem dX0_nthMissing_49 : decode cX0_nthMissing 49 = .ok (.ireturn, 1) := by decide +kernel
theorem dX0_neighbours_0 : decode cX0_neighbours 0 = .ok (.iconst 0, 1) := by decide +kernel
theorem dX0_neighbours_1 : decode cX0_neighbours 1 = .ok (.istore_n 2, 1) := by decide +kernel
theorem dX0_neighbours_2 : decode cX0_neighbours 2 = .ok (.iconst 0, 1) := by decide +kernel
theorem dX0_neighbours_3 : decode cX0_neighbours 3 = .ok (.istore_n 3, 1) := by decide +kernel
theorem dX0_neighbours_4 : decode cX0_neighbours 4 = .ok (.iload_n 3, 1) := by decide +kernel
theorem dX0_neighbours_5 : decode cX0_neighbours 5 = .ok (.aload_n 0, 1) := by decide +kernel
theorem dX0_neighbours_6 : decode cX0_neighbours 6 = .ok (.getfield 33, 3) := by decide +kernel
theorem dX0_neighbours_9 : decode cX0_neighbours 9 = .ok (.if_icmp .ge 23, 3) := by decide +kernel
theorem dX0_neighbours_12 : decode cX0_neighbours 12 = .ok (.iload_n 2, 1) := by decide +kernel
theorem dX0_neighbours_13 : decode cX0_neighbours 13 = .ok (.aload_n 0, 1) := by decide +kernel
theorem dX0_neighbours_14 : decode cX0_neighbours 14 = .ok (.getfield 21, 3) := by decide +kernel
theorem dX0_neighbours_17 : decode cX0_neighbours 17 = .ok (.iload_n 1, 1) := by decide +kernel
theorem dX0_neighbours_18 : decode cX0_neighbours 18 = .ok (.bipush 7, 2) := by decide +kernel
theorem dX0_neighbours_20 : decode cX0_neighbours 20 = .ok (.imul, 1) := by decide +kernel
theorem dX0_neighbours_21 : decode cX0_neighbours 21 = .ok (.iload_n 3, 1) := by decide +kernel
theorem dX0_neighbours_22 : decode cX0_neighbours 22 = .ok (.iadd, 1) := by decide +kernel
theorem dX0_neighbours_23 : decode cX0_neighbours 23 = .ok (.iaload, 1) := by decide +kernel
theorem dX0_neighbours_24 : decode cX0_neighbours 24 = .ok (.ior, 1) := by decide +kernel
theorem dX0_neighbours_25 : decode cX0_neighbours 25 = .ok (.istore_n 2, 1) := by decide +kernel
theorem dX0_neighbours_26 : decode cX0_neighbours 26 = .ok (.iinc 3 1, 3) := by decide +kernel
theorem dX0_neighbours_29 : decode cX0_neighbours 29 = .ok (.goto (-25), 3) := by decide +kernel
theorem dX0_neighbours_32 : decode cX0_neighbours 32 = .ok (.iload_n 2, 1) := by decide +kernel
theorem dX0_neighbours_33 : decode cX0_neighbours 33 = .ok (.ireturn, 1) := by decide +kernel
theorem dX0_steps_0 : decode cX0_steps 0 = .ok (.iconst 1, 1) := by decide +kernel
theorem dX0_steps_1 : decode cX0_steps 1 = .ok (.iload_n 1, 1) := by decide +kernel
theorem dX0_steps_2 : decode cX0_steps 2 = .ok (.ishl, 1) := by decide +kernel
theorem dX0_steps_3 : decode cX0_steps 3 = .ok (.istore_n 3, 1) := by decide +kernel
theorem dX0_steps_4 : decode cX0_steps 4 = .ok (.iconst 0, 1) := by decide +kernel
theorem dX0_steps_5 : decode cX0_steps 5 = .ok (.istore 4, 2) := by decide +kernel
theorem dX0_steps_7 : decode cX0_steps 7 = .ok (.iload 4, 2) := by decide +kernel
theorem dX0_steps_9 : decode cX0_steps 9 = .ok (.bipush 12, 2) := by decide +kernel
theorem dX0_steps_11 : decode cX0_steps 11 = .ok (.if_icmp .ge 66, 3) := by decide +kernel
theorem dX0_steps_14 : decode cX0_steps 14 = .ok (.iload_n 3, 1) := by decide +kernel
theorem dX0_steps_15 : decode cX0_steps 15 = .ok (.iload_n 2, 1) := by decide +kernel
theorem dX0_steps_16 : decode cX0_steps 16 = .ok (.ishr, 1) := by decide +kernel
theorem dX0_steps_17 : decode cX0_steps 17 = .ok (.iconst 1, 1) := by decide +kernel
theorem dX0_steps_18 : decode cX0_steps 18 = .ok (.iand, 1) := by decide +kernel
theorem dX0_steps_19 : decode cX0_steps 19 = .ok (.iconst 1, 1) := by decide +kernel
theorem dX0_steps_20 : decode cX0_steps 20 = .ok (.if_icmp .ne 6, 3) := by decide +kernel
theorem dX0_steps_23 : decode cX0_steps 23 = .ok (.iload 4, 2) := by decide +kernel
theorem dX0_steps_25 : decode cX0_steps 25 = .ok (.ireturn, 1) := by decide +kernel
theorem dX0_steps_26 : decode cX0_steps 26 = .ok (.iload_n 3, 1) := by decide +kernel
theorem dX0_steps_27 : decode cX0_steps 27 = .ok (.istore 5, 2) := by decide +kernel
theorem dX0_steps_29 : decode cX0_steps 29 = .ok (.iconst 0, 1) := by decide +kernel
theorem dX0_steps_30 : decode cX0_steps 30 = .ok (.istore 6, 2) := by decide +kernel
theorem dX0_steps_32 : decode cX0_steps 32 = .ok (.iload 6, 2) := by decide +kernel
theorem dX0_steps_34 : decode cX0_steps 34 = .ok (.aload_n 0, 1) := by decide +kernel
theorem dX0_steps_35 : decode cX0_steps 35 = .ok (.getfield 41, 3) := by decide +kernel
theorem dX0_steps_38 : decode cX0_steps 38 = .ok (.if_icmp .ge 30, 3) := by decide +kernel
theorem dX0_steps_41 : decode cX0_steps 41 = .ok (.iload_n 3, 1) := by decide +kernel
theorem dX0_steps_42 : decode cX0_steps 42 = .ok (.iload 6, 2) := by decide +kernel
theorem dX0_steps_44 : decode cX0_steps 44 = .ok (.ishr, 1) := by decide +kernel
theorem dX0_steps_45 : decode cX0_steps 45 = .ok (.iconst 1, 1) := by decide +kernel
theorem dX0_steps_46 : decode cX0_steps 46 = .ok (.iand, 1) := by decide +kernel
theorem dX0_steps_47 : decode cX0_steps 47 = .ok (.iconst 1, 1) := by decide +kernel
theorem dX0_steps_48 : decode cX0_steps 48 = .ok (.if_icmp .ne 14, 3) := by decide +kernel
theorem dX0_steps_51 : decode cX0_steps 51 = .ok (.iload 5, 2) := by decide +kernel
theorem dX0_steps_53 : decode cX0_steps 53 = .ok (.aload_n 0, 1) := by decide +kernel
theorem dX0_steps_54 : decode cX0_steps 54 = .ok (.iload 6, 2) := by decide +kernel
theorem dX0_steps_56 : decode cX0_steps 56 = .ok (.invokevirtual 75, 3) := by decide +kernel
theorem dX0_steps_59 : decode cX0_steps 59 = .ok (.ior, 1) := by decide +kernel
theorem dX0_steps_60 : decode cX0_steps 60 = .ok (.istore 5, 2) := by decide +kernel
theorem dX0_steps_62 : decode cX0_steps 62 = .ok (.iinc 6 1, 3) := by decide +kernel
theorem dX0_steps_65 : decode cX0_steps 65 = .ok (.goto (-33), 3) := by decide +kernel
theorem dX0_steps_68 : decode cX0_steps 68 = .ok (.iload 5, 2) := by decide +kernel
theorem dX0_steps_70 : decode cX0_steps 70 = .ok (.istore_n 3, 1) := by decide +kernel
theorem dX0_steps_71 : decode cX0_steps 71 = .ok (.iinc 4 1, 3) := by decide +kernel
theorem dX0_steps_74 : decode cX0_steps 74 = .ok (.goto (-67), 3) := by decide +kernel
theorem dX0_steps_77 : decode cX0_steps 77 = .ok (.bipush (-2), 2) := by decide +kernel
theorem dX0_steps_79 : decode cX0_steps 79 = .ok (.ireturn, 1) := by decide +kernel
theorem dX0_restriction_0 : decode cX0_restriction 0 = .ok (.iconst 0, 1) := by decide +kernel
theorem dX0_restriction_1 : decode cX0_restriction 1 = .ok (.istore_n 3, 1) := by decide +kernel
theorem dX0_restriction_2 : decode cX0_restriction 2 = .ok (.iconst 0, 1) := by decide +kernel
theorem dX0_restriction_3 : decode cX0_restriction 3 = .ok (.istore 4, 2) := by decide +kernel
theorem dX0_restriction_5 : decode cX0_restriction 5 = .ok (.iload 4, 2) := by decide +kernel
theorem dX0_restriction_7 : decode cX0_restriction 7 = .ok (.aload_n 0, 1) := by decide +kernel
theorem dX0_restriction_8 : decode cX0_restriction 8 = .ok (.getfield 33, 3) := by decide +kernel
theorem dX0_restriction_11 : decode cX0_restriction 11 = .ok (.if_icmp .ge 33, 3) := by decide +kernel
theorem dX0_restriction_14 : decode cX0_restriction 14 = .ok (.aload_n 0, 1) := by decide +kernel
theorem dX0_restriction_15 : decode cX0_restriction 15 = .ok (.getfield 21, 3) := by decide +kernel
theorem dX0_restriction_18 : decode cX0_restriction 18 = .ok (.iload_n 1, 1) := by decide +kernel
theorem dX0_restriction_19 : decode cX0_restriction 19 = .ok (.bipush 7, 2) := by decide +kernel
theorem dX0_restriction_21 : decode cX0_restriction 21 = .ok (.imul, 1) := by decide +kernel
theorem dX0_restriction_22 : decode cX0_restriction 22 = .ok (.iload 4, 2) := by decide +kernel
theorem dX0_restriction_24 : decode cX0_restriction 24 = .ok (.iadd, 1) := by decide +kernel
theorem dX0_restriction_25 : decode cX0_restriction 25 = .ok (.iaload, 1) := by decide +kernel
theorem dX0_restriction_26 : decode cX0_restriction 26 = .ok (.iload_n 2, 1) := by decide +kernel
theorem dX0_restriction_27 : decode cX0_restriction 27 = .ok (.iand, 1) := by decide +kernel
theorem dX0_restriction_28 : decode cX0_restriction 28 = .ok (.ifCond .eq 10, 3) := by decide +kernel
theorem dX0_restriction_31 : decode cX0_restriction 31 = .ok (.iload_n 3, 1) := by decide +kernel
theorem dX0_restriction_32 : decode cX0_restriction 32 = .ok (.iconst 1, 1) := by decide +kernel
theorem dX0_restriction_33 : decode cX0_restriction 33 = .ok (.iload 4, 2) := by decide +kernel
theorem dX0_restriction_35 : decode cX0_restriction 35 = .ok (.ishl, 1) := by decide +kernel
theorem dX0_restriction_36 : decode cX0_restriction 36 = .ok (.ior, 1) := by decide +kernel
theorem dX0_restriction_37 : decode cX0_restriction 37 = .ok (.istore_n 3, 1) := by decide +kernel
theorem dX0_restriction_38 : decode cX0_restriction 38 = .ok (.iinc 4 1, 3) := by decide +kernel
theorem dX0_restriction_41 : decode cX0_restriction 41 = .ok (.goto (-36), 3) := by decide +kernel
theorem dX0_restriction_44 : decode cX0_restriction 44 = .ok (.iload_n 3, 1) := by decide +kernel
theorem dX0_restriction_45 : decode cX0_restriction 45 = .ok (.ireturn, 1) := by decide +kernel
theorem dX0_fits_0 : decode cX0_fits 0 = .ok (.iload_n 2, 1) := by decide +kernel
theorem dX0_fits_1 : decode cX0_fits 1 = .ok (.istore_n 3, 1) := by decide +kernel
theorem dX0_fits_2 : decode cX0_fits 2 = .ok (.iconst 0, 1) := by decide +kernel
theorem dX0_fits_3 : decode cX0_fits 3 = .ok (.istore 4, 2) := by decide +kernel
theorem dX0_fits_5 : decode cX0_fits 5 = .ok (.iload 4, 2) := by decide +kernel
theorem dX0_fits_7 : decode cX0_fits 7 = .ok (.aload_n 0, 1) := by decide +kernel
theorem dX0_fits_8 : decode cX0_fits 8 = .ok (.getfield 33, 3) := by decide +kernel
theorem dX0_fits_11 : decode cX0_fits 11 = .ok (.if_icmp .ge 40, 3) := by decide +kernel
theorem dX0_fits_14 : decode cX0_fits 14 = .ok (.iload_n 3, 1) := by decide +kernel
theorem dX0_fits_15 : decode cX0_fits 15 = .ok (.ifCond .eq 36, 3) := by decide +kernel
theorem dX0_fits_18 : decode cX0_fits 18 = .ok (.aload_n 0, 1) := by decide +kernel
theorem dX0_fits_19 : decode cX0_fits 19 = .ok (.getfield 21, 3) := by decide +kernel
theorem dX0_fits_22 : decode cX0_fits 22 = .ok (.iload_n 1, 1) := by decide +kernel
theorem dX0_fits_23 : decode cX0_fits 23 = .ok (.bipush 7, 2) := by decide +kernel
theorem dX0_fits_25 : decode cX0_fits 25 = .ok (.imul, 1) := by decide +kernel
theorem dX0_fits_26 : decode cX0_fits 26 = .ok (.iload 4, 2) := by decide +kernel
theorem dX0_fits_28 : decode cX0_fits 28 = .ok (.iadd, 1) := by decide +kernel
theorem dX0_fits_29 : decode cX0_fits 29 = .ok (.iaload, 1) := by decide +kernel
theorem dX0_fits_30 : decode cX0_fits 30 = .ok (.iload_n 2, 1) := by decide +kernel
theorem dX0_fits_31 : decode cX0_fits 31 = .ok (.iand, 1) := by decide +kernel
theorem dX0_fits_32 : decode cX0_fits 32 = .ok (.ifCond .eq 13, 3) := by decide +kernel
theorem dX0_fits_35 : decode cX0_fits 35 = .ok (.iload_n 3, 1) := by decide +kernel
theorem dX0_fits_36 : decode cX0_fits 36 = .ok (.aload_n 0, 1) := by decide +kernel
theorem dX0_fits_37 : decode cX0_fits 37 = .ok (.getfield 15, 3) := by decide +kernel
theorem dX0_fits_40 : decode cX0_fits 40 = .ok (.iload 4, 2) := by decide +kernel
theorem dX0_fits_42 : decode cX0_fits 42 = .ok (.iaload, 1) := by decide +kernel
theorem dX0_fits_43 : decode cX0_fits 43 = .ok (.iand, 1) := by decide +kernel
theorem dX0_fits_44 : decode cX0_fits 44 = .ok (.istore_n 3, 1) := by decide +kernel
theorem dX0_fits_45 : decode cX0_fits 45 = .ok (.iinc 4 1, 3) := by decide +kernel
theorem dX0_fits_48 : decode cX0_fits 48 = .ok (.goto (-43), 3) := by decide +kernel
theorem dX0_fits_51 : decode cX0_fits 51 = .ok (.iload_n 3, 1) := by decide +kernel
theorem dX0_fits_52 : decode cX0_fits 52 = .ok (.ifCond .ne 7, 3) := by decide +kernel
theorem dX0_fits_55 : decode cX0_fits 55 = .ok (.iconst 1, 1) := by decide +kernel
theorem dX0_fits_56 : decode cX0_fits 56 = .ok (.goto 4, 3) := by decide +kernel
theorem dX0_fits_59 : decode cX0_fits 59 = .ok (.iconst 0, 1) := by decide +kernel
theorem dX0_fits_60 : decode cX0_fits 60 = .ok (.ireturn, 1) := by decide +kernel
theorem dX0_loose_0 : decode cX0_loose 0 = .ok (.iconst 0, 1) := by decide +kernel
theorem dX0_loose_1 : decode cX0_loose 1 = .ok (.istore_n 2, 1) := by decide +kernel
theorem dX0_loose_2 : decode cX0_loose 2 = .ok (.iconst 0, 1) := by decide +kernel
theorem dX0_loose_3 : decode cX0_loose 3 = .ok (.istore_n 3, 1) := by decide +kernel
theorem dX0_loose_4 : decode cX0_loose 4 = .ok (.iload_n 3, 1) := by decide +kernel
theorem dX0_loose_5 : decode cX0_loose 5 = .ok (.aload_n 0, 1) := by decide +kernel
theorem dX0_loose_6 : decode cX0_loose 6 = .ok (.getfield 41, 3) := by decide +kernel
theorem dX0_loose_9 : decode cX0_loose 9 = .ok (.if_icmp .ge 40, 3) := by decide +kernel
theorem dX0_loose_12 : decode cX0_loose 12 = .ok (.iconst 1, 1) := by decide +kernel
theorem dX0_loose_13 : decode cX0_loose 13 = .ok (.iload_n 3, 1) := by decide +kernel
theorem dX0_loose_14 : decode cX0_loose 14 = .ok (.ishl, 1) := by decide +kernel
theorem dX0_loose_15 : decode cX0_loose 15 = .ok (.istore 4, 2) := by decide +kernel
theorem dX0_loose_17 : decode cX0_loose 17 = .ok (.iload_n 1, 1) := by decide +kernel
theorem dX0_loose_18 : decode cX0_loose 18 = .ok (.iload 4, 2) := by decide +kernel
theorem dX0_loose_20 : decode cX0_loose 20 = .ok (.iand, 1) := by decide +kernel
theorem dX0_loose_21 : decode cX0_loose 21 = .ok (.ifCond .eq 22, 3) := by decide +kernel
theorem dX0_loose_24 : decode cX0_loose 24 = .ok (.aload_n 0, 1) := by decide +kernel
theorem dX0_loose_25 : decode cX0_loose 25 = .ok (.iload_n 3, 1) := by decide +kernel
theorem dX0_loose_26 : decode cX0_loose 26 = .ok (.iload_n 1, 1) := by decide +kernel
theorem dX0_loose_27 : decode cX0_loose 27 = .ok (.iload 4, 2) := by decide +kernel
theorem dX0_loose_29 : decode cX0_loose 29 = .ok (.iconst (-1), 1) := by decide +kernel
theorem dX0_loose_30 : decode cX0_loose 30 = .ok (.ixor, 1) := by decide +kernel
theorem dX0_loose_31 : decode cX0_loose 31 = .ok (.iand, 1) := by decide +kernel
theorem dX0_loose_32 : decode cX0_loose 32 = .ok (.invokevirtual 78, 3) := by decide +kernel
theorem dX0_loose_35 : decode cX0_loose 35 = .ok (.ifCond .eq 8, 3) := by decide +kernel
theorem dX0_loose_38 : decode cX0_loose 38 = .ok (.iload_n 2, 1) := by decide +kernel
theorem dX0_loose_39 : decode cX0_loose 39 = .ok (.iload 4, 2) := by decide +kernel
theorem dX0_loose_41 : decode cX0_loose 41 = .ok (.ior, 1) := by decide +kernel
theorem dX0_loose_42 : decode cX0_loose 42 = .ok (.istore_n 2, 1) := by decide +kernel
theorem dX0_loose_43 : decode cX0_loose 43 = .ok (.iinc 3 1, 3) := by decide +kernel
theorem dX0_loose_46 : decode cX0_loose 46 = .ok (.goto (-42), 3) := by decide +kernel
theorem dX0_loose_49 : decode cX0_loose 49 = .ok (.iload_n 2, 1) := by decide +kernel
theorem dX0_loose_50 : decode cX0_loose 50 = .ok (.ireturn, 1) := by decide +kernel
theorem dX0_peelByDraws_0 : decode cX0_peelByDraws 0 = .ok (.aload_n 0, 1) := by decide +kernel
theorem dX0_peelByDraws_1 : decode cX0_peelByDraws 1 = .ok (.invokevirtual 58, 3) := by decide +kernel
theorem dX0_peelByDraws_4 : decode cX0_peelByDraws 4 = .ok (.istore_n 2, 1) := by decide +kernel
theorem dX0_peelByDraws_5 : decode cX0_peelByDraws 5 = .ok (.iload_n 1, 1) := by decide +kernel
theorem dX0_peelByDraws_6 : decode cX0_peelByDraws 6 = .ok (.istore_n 3, 1) := by decide +kernel
theorem dX0_peelByDraws_7 : decode cX0_peelByDraws 7 = .ok (.iconst 0, 1) := by decide +kernel
theorem dX0_peelByDraws_8 : decode cX0_peelByDraws 8 = .ok (.istore 4, 2) := by decide +kernel
theorem dX0_peelByDraws_10 : decode cX0_peelByDraws 10 = .ok (.iload 4, 2) := by decide +kernel
theorem dX0_peelByDraws_12 : decode cX0_peelByDraws 12 = .ok (.bipush 12, 2) := by decide +kernel
theorem dX0_peelByDraws_14 : decode cX0_peelByDraws 14 = .ok (.if_icmp .ge 66, 3) := by decide +kernel
theorem dX0_peelByDraws_17 : decode cX0_peelByDraws 17 = .ok (.iload_n 2, 1) := by decide +kernel
theorem dX0_peelByDraws_18 : decode cX0_peelByDraws 18 = .ok (.invokestatic 43, 3) := by decide +kernel
theorem dX0_peelByDraws_21 : decode cX0_peelByDraws 21 = .ok (.iconst 1, 1) := by decide +kernel
theorem dX0_peelByDraws_22 : decode cX0_peelByDraws 22 = .ok (.if_icmp .le 58, 3) := by decide +kernel
theorem dX0_peelByDraws_25 : decode cX0_peelByDraws 25 = .ok (.aload_n 0, 1) := by decide +kernel
theorem dX0_peelByDraws_26 : decode cX0_peelByDraws 26 = .ok (.iload_n 2, 1) := by decide +kernel
theorem dX0_peelByDraws_27 : decode cX0_peelByDraws 27 = .ok (.invokevirtual 82, 3) := by decide +kernel
theorem dX0_peelByDraws_30 : decode cX0_peelByDraws 30 = .ok (.istore 5, 2) := by decide +kernel
theorem dX0_peelByDraws_32 : decode cX0_peelByDraws 32 = .ok (.iload 5, 2) := by decide +kernel
theorem dX0_peelByDraws_34 : decode cX0_peelByDraws 34 = .ok (.invokestatic 43, 3) := by decide +kernel
theorem dX0_peelByDraws_37 : decode cX0_peelByDraws 37 = .ok (.istore 6, 2) := by decide +kernel
theorem dX0_peelByDraws_39 : decode cX0_peelByDraws 39 = .ok (.iload 6, 2) := by decide +kernel
theorem dX0_peelByDraws_41 : decode cX0_peelByDraws 41 = .ok (.ifCond .ne 8, 3) := by decide +kernel
theorem dX0_peelByDraws_44 : decode cX0_peelByDraws 44 = .ok (.iload_n 2, 1) := by decide +kernel
theorem dX0_peelByDraws_45 : decode cX0_peelByDraws 45 = .ok (.invokestatic 43, 3) := by decide +kernel
theorem dX0_peelByDraws_48 : decode cX0_peelByDraws 48 = .ok (.ireturn, 1) := by decide +kernel
theorem dX0_peelByDraws_49 : decode cX0_peelByDraws 49 = .ok (.bipush 75, 2) := by decide +kernel
theorem dX0_peelByDraws_51 : decode cX0_peelByDraws 51 = .ok (.iload_n 3, 1) := by decide +kernel
theorem dX0_peelByDraws_52 : decode cX0_peelByDraws 52 = .ok (.imul, 1) := by decide +kernel
theorem dX0_peelByDraws_53 : decode cX0_peelByDraws 53 = .ok (.bipush 74, 2) := by decide +kernel
theorem dX0_peelByDraws_55 : decode cX0_peelByDraws 55 = .ok (.iadd, 1) := by decide +kernel
theorem dX0_peelByDraws_56 : decode cX0_peelByDraws 56 = .ok (.ldc 85, 2) := by decide +kernel
theorem dX0_peelByDraws_58 : decode cX0_peelByDraws 58 = .ok (.irem, 1) := by decide +kernel
theorem dX0_peelByDraws_59 : decode cX0_peelByDraws 59 = .ok (.istore_n 3, 1) := by decide +kernel
theorem dX0_peelByDraws_60 : decode cX0_peelByDraws 60 = .ok (.iload_n 2, 1) := by decide +kernel
theorem dX0_peelByDraws_61 : decode cX0_peelByDraws 61 = .ok (.iload 5, 2) := by decide +kernel
theorem dX0_peelByDraws_63 : decode cX0_peelByDraws 63 = .ok (.iload_n 3, 1) := by decide +kernel
theorem dX0_peelByDraws_64 : decode cX0_peelByDraws 64 = .ok (.iload 6, 2) := by decide +kernel
theorem dX0_peelByDraws_66 : decode cX0_peelByDraws 66 = .ok (.irem, 1) := by decide +kernel
theorem dX0_peelByDraws_67 : decode cX0_peelByDraws 67 = .ok (.invokestatic 86, 3) := by decide +kernel
theorem dX0_peelByDraws_70 : decode cX0_peelByDraws 70 = .ok (.iconst (-1), 1) := by decide +kernel
theorem dX0_peelByDraws_71 : decode cX0_peelByDraws 71 = .ok (.ixor, 1) := by decide +kernel
theorem dX0_peelByDraws_72 : decode cX0_peelByDraws 72 = .ok (.iand, 1) := by decide +kernel
theorem dX0_peelByDraws_73 : decode cX0_peelByDraws 73 = .ok (.istore_n 2, 1) := by decide +kernel
theorem dX0_peelByDraws_74 : decode cX0_peelByDraws 74 = .ok (.iinc 4 1, 3) := by decide +kernel
theorem dX0_peelByDraws_77 : decode cX0_peelByDraws 77 = .ok (.goto (-67), 3) := by decide +kernel
theorem dX0_peelByDraws_80 : decode cX0_peelByDraws 80 = .ok (.iload_n 2, 1) := by decide +kernel
theorem dX0_peelByDraws_81 : decode cX0_peelByDraws 81 = .ok (.invokestatic 43, 3) := by decide +kernel
theorem dX0_peelByDraws_84 : decode cX0_peelByDraws 84 = .ok (.ireturn, 1) := by decide +kernel
theorem dX0_nthBit_0 : decode cX0_nthBit 0 = .ok (.iload_n 0, 1) := by decide +kernel
theorem dX0_nthBit_1 : decode cX0_nthBit 1 = .ok (.istore_n 2, 1) := by decide +kernel
theorem dX0_nthBit_2 : decode cX0_nthBit 2 = .ok (.iconst 0, 1) := by decide +kernel
theorem dX0_nthBit_3 : decode cX0_nthBit 3 = .ok (.istore_n 3, 1) := by decide +kernel
theorem dX0_nthBit_4 : decode cX0_nthBit 4 = .ok (.iload_n 3, 1) := by decide +kernel
theorem dX0_nthBit_5 : decode cX0_nthBit 5 = .ok (.iload_n 1, 1) := by decide +kernel
theorem dX0_nthBit_6 : decode cX0_nthBit 6 = .ok (.if_icmp .ge 15, 3) := by decide +kernel
theorem dX0_nthBit_9 : decode cX0_nthBit 9 = .ok (.iload_n 2, 1) := by decide +kernel
theorem dX0_nthBit_10 : decode cX0_nthBit 10 = .ok (.iload_n 2, 1) := by decide +kernel
theorem dX0_nthBit_11 : decode cX0_nthBit 11 = .ok (.iconst 1, 1) := by decide +kernel
theorem dX0_nthBit_12 : decode cX0_nthBit 12 = .ok (.isub, 1) := by decide +kernel
theorem dX0_nthBit_13 : decode cX0_nthBit 13 = .ok (.iand, 1) := by decide +kernel
theorem dX0_nthBit_14 : decode cX0_nthBit 14 = .ok (.istore_n 2, 1) := by decide +kernel
theorem dX0_nthBit_15 : decode cX0_nthBit 15 = .ok (.iinc 3 1, 3) := by decide +kernel
theorem dX0_nthBit_18 : decode cX0_nthBit 18 = .ok (.goto (-14), 3) := by decide +kernel
theorem dX0_nthBit_21 : decode cX0_nthBit 21 = .ok (.iload_n 2, 1) := by decide +kernel
theorem dX0_nthBit_22 : decode cX0_nthBit 22 = .ok (.iload_n 2, 1) := by decide +kernel
theorem dX0_nthBit_23 : decode cX0_nthBit 23 = .ok (.ineg, 1) := by decide +kernel
theorem dX0_nthBit_24 : decode cX0_nthBit 24 = .ok (.iand, 1) := by decide +kernel
theorem dX0_nthBit_25 : decode cX0_nthBit 25 = .ok (.ireturn, 1) := by decide +kernel
theorem dX0_canLose_0 : decode cX0_canLose 0 = .ok (.iload_n 1, 1) := by decide +kernel
theorem dX0_canLose_1 : decode cX0_canLose 1 = .ok (.aload_n 0, 1) := by decide +kernel
theorem dX0_canLose_2 : decode cX0_canLose 2 = .ok (.getfield 15, 3) := by decide +kernel
theorem dX0_canLose_5 : decode cX0_canLose 5 = .ok (.iload_n 2, 1) := by decide +kernel
theorem dX0_canLose_6 : decode cX0_canLose 6 = .ok (.iaload, 1) := by decide +kernel
theorem dX0_canLose_7 : decode cX0_canLose 7 = .ok (.iand, 1) := by decide +kernel
theorem dX0_canLose_8 : decode cX0_canLose 8 = .ok (.istore_n 3, 1) := by decide +kernel
theorem dX0_canLose_9 : decode cX0_canLose 9 = .ok (.iload_n 1, 1) := by decide +kernel
theorem dX0_canLose_10 : decode cX0_canLose 10 = .ok (.aload_n 0, 1) := by decide +kernel
theorem dX0_canLose_11 : decode cX0_canLose 11 = .ok (.getfield 15, 3) := by decide +kernel
theorem dX0_canLose_14 : decode cX0_canLose 14 = .ok (.iload_n 2, 1) := by decide +kernel
theorem dX0_canLose_15 : decode cX0_canLose 15 = .ok (.iaload, 1) := by decide +kernel
theorem dX0_canLose_16 : decode cX0_canLose 16 = .ok (.iconst (-1), 1) := by decide +kernel
theorem dX0_canLose_17 : decode cX0_canLose 17 = .ok (.ixor, 1) := by decide +kernel
theorem dX0_canLose_18 : decode cX0_canLose 18 = .ok (.iand, 1) := by decide +kernel
theorem dX0_canLose_19 : decode cX0_canLose 19 = .ok (.istore 4, 2) := by decide +kernel
theorem dX0_canLose_21 : decode cX0_canLose 21 = .ok (.iload_n 3, 1) := by decide +kernel
theorem dX0_canLose_22 : decode cX0_canLose 22 = .ok (.ifCond .eq 8, 3) := by decide +kernel
theorem dX0_canLose_25 : decode cX0_canLose 25 = .ok (.iload 4, 2) := by decide +kernel
theorem dX0_canLose_27 : decode cX0_canLose 27 = .ok (.ifCond .ne 5, 3) := by decide +kernel
theorem dX0_canLose_30 : decode cX0_canLose 30 = .ok (.iconst 0, 1) := by decide +kernel
theorem dX0_canLose_31 : decode cX0_canLose 31 = .ok (.ireturn, 1) := by decide +kernel
theorem dX0_canLose_32 : decode cX0_canLose 32 = .ok (.iconst 0, 1) := by decide +kernel
theorem dX0_canLose_33 : decode cX0_canLose 33 = .ok (.istore 5, 2) := by decide +kernel
theorem dX0_canLose_35 : decode cX0_canLose 35 = .ok (.iload 5, 2) := by decide +kernel
theorem dX0_canLose_37 : decode cX0_canLose 37 = .ok (.aload_n 0, 1) := by decide +kernel
theorem dX0_canLose_38 : decode cX0_canLose 38 = .ok (.getfield 41, 3) := by decide +kernel
theorem dX0_canLose_41 : decode cX0_canLose 41 = .ok (.if_icmp .ge 39, 3) := by decide +kernel
theorem dX0_canLose_44 : decode cX0_canLose 44 = .ok (.iload_n 3, 1) := by decide +kernel
theorem dX0_canLose_45 : decode cX0_canLose 45 = .ok (.iload 5, 2) := by decide +kernel
theorem dX0_canLose_47 : decode cX0_canLose 47 = .ok (.ishr, 1) := by decide +kernel
theorem dX0_canLose_48 : decode cX0_canLose 48 = .ok (.iconst 1, 1) := by decide +kernel
theorem dX0_canLose_49 : decode cX0_canLose 49 = .ok (.iand, 1) := by decide +kernel
theorem dX0_canLose_50 : decode cX0_canLose 50 = .ok (.iconst 1, 1) := by decide +kernel
theorem dX0_canLose_51 : decode cX0_canLose 51 = .ok (.if_icmp .ne 23, 3) := by decide +kernel
theorem dX0_canLose_54 : decode cX0_canLose 54 = .ok (.aload_n 0, 1) := by decide +kernel
theorem dX0_canLose_55 : decode cX0_canLose 55 = .ok (.getfield 21, 3) := by decide +kernel
theorem dX0_canLose_58 : decode cX0_canLose 58 = .ok (.iload 5, 2) := by decide +kernel
theorem dX0_canLose_60 : decode cX0_canLose 60 = .ok (.bipush 7, 2) := by decide +kernel
theorem dX0_canLose_62 : decode cX0_canLose 62 = .ok (.imul, 1) := by decide +kernel
theorem dX0_canLose_63 : decode cX0_canLose 63 = .ok (.iload_n 2, 1) := by decide +kernel
theorem dX0_canLose_64 : decode cX0_canLose 64 = .ok (.iadd, 1) := by decide +kernel
theorem dX0_canLose_65 : decode cX0_canLose 65 = .ok (.iaload, 1) := by decide +kernel
theorem dX0_canLose_66 : decode cX0_canLose 66 = .ok (.iload 4, 2) := by decide +kernel
theorem dX0_canLose_68 : decode cX0_canLose 68 = .ok (.iand, 1) := by decide +kernel
theorem dX0_canLose_69 : decode cX0_canLose 69 = .ok (.ifCond .ne 5, 3) := by decide +kernel
theorem dX0_canLose_72 : decode cX0_canLose 72 = .ok (.iconst 0, 1) := by decide +kernel
theorem dX0_canLose_73 : decode cX0_canLose 73 = .ok (.ireturn, 1) := by decide +kernel
theorem dX0_canLose_74 : decode cX0_canLose 74 = .ok (.iinc 5 1, 3) := by decide +kernel
theorem dX0_canLose_77 : decode cX0_canLose 77 = .ok (.goto (-42), 3) := by decide +kernel
theorem dX0_canLose_80 : decode cX0_canLose 80 = .ok (.iconst 1, 1) := by decide +kernel
theorem dX0_canLose_81 : decode cX0_canLose 81 = .ok (.ireturn, 1) := by decide +kernel
theorem dX1_init_0 : decode cX1_init 0 = .ok (.aload_n 0, 1) := by decide +kernel
theorem dX1_init_1 : decode cX1_init 1 = .ok (.invokespecial 3, 3) := by decide +kernel
theorem dX1_init_4 : decode cX1_init 4 = .ok (.aload_n 0, 1) := by decide +kernel
theorem dX1_init_5 : decode cX1_init 5 = .ok (.sipush 128, 3) := by decide +kernel
theorem dX1_init_8 : decode cX1_init 8 = .ok (.newarray .int, 2) := by decide +kernel
theorem dX1_init_10 : decode cX1_init 10 = .ok (.putfield 9, 3) := by decide +kernel
theorem dX1_init_13 : decode cX1_init 13 = .ok (.aload_n 0, 1) := by decide +kernel
theorem dX1_init_14 : decode cX1_init 14 = .ok (.sipush 128, 3) := by decide +kernel
theorem dX1_init_17 : decode cX1_init 17 = .ok (.newarray .boolean, 2) := by decide +kernel
theorem dX1_init_19 : decode cX1_init 19 = .ok (.putfield 15, 3) := by decide +kernel
theorem dX1_init_22 : decode cX1_init 22 = .ok (.aload_n 0, 1) := by decide +kernel
theorem dX1_init_23 : decode cX1_init 23 = .ok (.bipush 35, 2) := by decide +kernel
theorem dX1_init_25 : decode cX1_init 25 = .ok (.newarray .long, 2) := by decide +kernel
theorem dX1_init_27 : decode cX1_init 27 = .ok (.putfield 19, 3) := by decide +kernel
theorem dX1_init_30 : decode cX1_init 30 = .ok (.aload_n 0, 1) := by decide +kernel
theorem dX1_init_31 : decode cX1_init 31 = .ok (.bipush 35, 2) := by decide +kernel
theorem dX1_init_33 : decode cX1_init 33 = .ok (.newarray .int, 2) := by decide +kernel
theorem dX1_init_35 : decode cX1_init 35 = .ok (.putfield 23, 3) := by decide +kernel
theorem dX1_init_38 : decode cX1_init 38 = .ok (.bipush 8, 2) := by decide +kernel
theorem dX1_init_40 : decode cX1_init 40 = .ok (.newarray .int, 2) := by decide +kernel
theorem dX1_init_42 : decode cX1_init 42 = .ok (.astore_n 1, 1) := by decide +kernel
theorem dX1_init_43 : decode cX1_init 43 = .ok (.iconst 0, 1) := by decide +kernel
theorem dX1_init_44 : decode cX1_init 44 = .ok (.istore_n 2, 1) := by decide +kernel
theorem dX1_init_45 : decode cX1_init 45 = .ok (.iload_n 2, 1) := by decide +kernel
theorem dX1_init_46 : decode cX1_init 46 = .ok (.sipush 128, 3) := by decide +kernel
theorem dX1_init_49 : decode cX1_init 49 = .ok (.if_icmp .ge 30, 3) := by decide +kernel
theorem dX1_init_52 : decode cX1_init 52 = .ok (.iload_n 2, 1) := by decide +kernel
theorem dX1_init_53 : decode cX1_init 53 = .ok (.invokestatic 26, 3) := by decide +kernel
theorem dX1_init_56 : decode cX1_init 56 = .ok (.istore_n 3, 1) := by decide +kernel
theorem dX1_init_57 : decode cX1_init 57 = .ok (.aload_n 0, 1) := by decide +kernel
theorem dX1_init_58 : decode cX1_init 58 = .ok (.getfield 9, 3) := by decide +kernel
theorem dX1_init_61 : decode cX1_init 61 = .ok (.iload_n 2, 1) := by decide +kernel
theorem dX1_init_62 : decode cX1_init 62 = .ok (.aload_n 1, 1) := by decide +kernel
theorem dX1_init_63 : decode cX1_init 63 = .ok (.iload_n 3, 1) := by decide +kernel
theorem dX1_init_64 : decode cX1_init 64 = .ok (.iaload, 1) := by decide +kernel
theorem dX1_init_65 : decode cX1_init 65 = .ok (.iastore, 1) := by decide +kernel
theorem dX1_init_66 : decode cX1_init 66 = .ok (.aload_n 1, 1) := by decide +kernel
theorem dX1_init_67 : decode cX1_init 67 = .ok (.iload_n 3, 1) := by decide +kernel
theorem dX1_init_68 : decode cX1_init 68 = .ok (.dup2, 1) := by decide +kernel
theorem dX1_init_69 : decode cX1_init 69 = .ok (.iaload, 1) := by decide +kernel
theorem dX1_init_70 : decode cX1_init 70 = .ok (.iconst 1, 1) := by decide +kernel
theorem dX1_init_71 : decode cX1_init 71 = .ok (.iadd, 1) := by decide +kernel
theorem dX1_init_72 : decode cX1_init 72 = .ok (.iastore, 1) := by decide +kernel
theorem dX1_init_73 : decode cX1_init 73 = .ok (.iinc 2 1, 3) := by decide +kernel
theorem dX1_init_76 : decode cX1_init 76 = .ok (.goto (-31), 3) := by decide +kernel
theorem dX1_init_79 : decode cX1_init 79 = .ok (.return_, 1) := by decide +kernel
theorem dX1_takeFaces_0 : decode cX1_takeFaces 0 = .ok (.aload_n 0, 1) := by decide +kernel
theorem dX1_takeFaces_1 : decode cX1_takeFaces 1 = .ok (.aload_n 1, 1) := by decide +kernel
theorem dX1_takeFaces_2 : decode cX1_takeFaces 2 = .ok (.iconst 0, 1) := by decide +kernel
theorem dX1_takeFaces_3 : decode cX1_takeFaces 3 = .ok (.invokevirtual 32, 3) := by decide +kernel
theorem dX1_takeFaces_6 : decode cX1_takeFaces 6 = .ok (.return_, 1) := by decide +kernel
theorem dX1_takeLink_0 : decode cX1_takeLink 0 = .ok (.aload_n 0, 1) := by decide +kernel
theorem dX1_takeLink_1 : decode cX1_takeLink 1 = .ok (.aload_n 1, 1) := by decide +kernel
theorem dX1_takeLink_2 : decode cX1_takeLink 2 = .ok (.invokevirtual 36, 3) := by decide +kernel
theorem dX1_takeLink_5 : decode cX1_takeLink 5 = .ok (.putfield 42, 3) := by decide +kernel
theorem dX1_takeLink_8 : decode cX1_takeLink 8 = .ok (.iconst 0, 1) := by decide +kernel
theorem dX1_takeLink_9 : decode cX1_takeLink 9 = .ok (.istore_n 3, 1) := by decide +kernel
theorem dX1_takeLink_10 : decode cX1_takeLink 10 = .ok (.iload_n 3, 1) := by decide +kernel
theorem dX1_takeLink_11 : decode cX1_takeLink 11 = .ok (.aload_n 0, 1) := by decide +kernel
theorem dX1_takeLink_12 : decode cX1_takeLink 12 = .ok (.getfield 42, 3) := by decide +kernel
theorem dX1_takeLink_15 : decode cX1_takeLink 15 = .ok (.if_icmp .gt 36, 3) := by decide +kernel
theorem dX1_takeLink_18 : decode cX1_takeLink 18 = .ok (.aload_n 0, 1) := by decide +kernel
theorem dX1_takeLink_19 : decode cX1_takeLink 19 = .ok (.getfield 15, 3) := by decide +kernel
theorem dX1_takeLink_22 : decode cX1_takeLink 22 = .ok (.iload_n 3, 1) := by decide +kernel
theorem dX1_takeLink_23 : decode cX1_takeLink 23 = .ok (.iload_n 3, 1) := by decide +kernel
theorem dX1_takeLink_24 : decode cX1_takeLink 24 = .ok (.iload_n 2, 1) := by decide +kernel
theorem dX1_takeLink_25 : decode cX1_takeLink 25 = .ok (.iand, 1) := by decide +kernel
theorem dX1_takeLink_26 : decode cX1_takeLink 26 = .ok (.ifCond .ne 17, 3) := by decide +kernel
theorem dX1_takeLink_29 : decode cX1_takeLink 29 = .ok (.aload_n 1, 1) := by decide +kernel
theorem dX1_takeLink_30 : decode cX1_takeLink 30 = .ok (.iload_n 3, 1) := by decide +kernel
theorem dX1_takeLink_31 : decode cX1_takeLink 31 = .ok (.iload_n 2, 1) := by decide +kernel
theorem dX1_takeLink_32 : decode cX1_takeLink 32 = .ok (.ior, 1) := by decide +kernel
theorem dX1_takeLink_33 : decode cX1_takeLink 33 = .ok (.invokevirtual 46, 3) := by decide +kernel
theorem dX1_takeLink_36 : decode cX1_takeLink 36 = .ok (.ifCond .eq 7, 3) := by decide +kernel
theorem dX1_takeLink_39 : decode cX1_takeLink 39 = .ok (.iconst 1, 1) := by decide +kernel
theorem dX1_takeLink_40 : decode cX1_takeLink 40 = .ok (.goto 4, 3) := by decide +kernel
theorem dX1_takeLink_43 : decode cX1_takeLink 43 = .ok (.iconst 0, 1) := by decide +kernel
theorem dX1_takeLink_44 : decode cX1_takeLink 44 = .ok (.bastore, 1) := by decide +kernel
theorem dX1_takeLink_45 : decode cX1_takeLink 45 = .ok (.iinc 3 1, 3) := by decide +kernel
theorem dX1_takeLink_48 : decode cX1_takeLink 48 = .ok (.goto (-38), 3) := by decide +kernel
theorem dX1_takeLink_51 : decode cX1_takeLink 51 = .ok (.return_, 1) := by decide +kernel
theorem dX1_takeDual_0 : decode cX1_takeDual 0 = .ok (.aload_n 0, 1) := by decide +kernel
theorem dX1_takeDual_1 : decode cX1_takeDual 1 = .ok (.aload_n 1, 1) := by decide +kernel
theorem dX1_takeDual_2 : decode cX1_takeDual 2 = .ok (.invokevirtual 36, 3) := by decide +kernel
theorem dX1_takeDual_5 : decode cX1_takeDual 5 = .ok (.putfield 42, 3) := by decide +kernel
theorem dX1_takeDual_8 : decode cX1_takeDual 8 = .ok (.iconst 0, 1) := by decide +kernel
theorem dX1_takeDual_9 : decode cX1_takeDual 9 = .ok (.istore_n 2, 1) := by decide +kernel
theorem dX1_takeDual_10 : decode cX1_takeDual 10 = .ok (.iload_n 2, 1) := by decide +kernel
theorem dX1_takeDual_11 : decode cX1_takeDual 11 = .ok (.aload_n 0, 1) := by decide +kernel
theorem dX1_takeDual_12 : decode cX1_takeDual 12 = .ok (.getfield 42, 3) := by decide +kernel
theorem dX1_takeDual_15 : decode cX1_takeDual 15 = .ok (.if_icmp .gt 35, 3) := by decide +kernel
theorem dX1_takeDual_18 : decode cX1_takeDual 18 = .ok (.aload_n 0, 1) := by decide +kernel
theorem dX1_takeDual_19 : decode cX1_takeDual 19 = .ok (.getfield 15, 3) := by decide +kernel
theorem dX1_takeDual_22 : decode cX1_takeDual 22 = .ok (.iload_n 2, 1) := by decide +kernel
theorem dX1_takeDual_23 : decode cX1_takeDual 23 = .ok (.aload_n 1, 1) := by decide +kernel
theorem dX1_takeDual_24 : decode cX1_takeDual 24 = .ok (.aload_n 0, 1) := by decide +kernel
theorem dX1_takeDual_25 : decode cX1_takeDual 25 = .ok (.getfield 42, 3) := by decide +kernel
theorem dX1_takeDual_28 : decode cX1_takeDual 28 = .ok (.iload_n 2, 1) := by decide +kernel
theorem dX1_takeDual_29 : decode cX1_takeDual 29 = .ok (.iconst (-1), 1) := by decide +kernel
theorem dX1_takeDual_30 : decode cX1_takeDual 30 = .ok (.ixor, 1) := by decide +kernel
theorem dX1_takeDual_31 : decode cX1_takeDual 31 = .ok (.iand, 1) := by decide +kernel
theorem dX1_takeDual_32 : decode cX1_takeDual 32 = .ok (.invokevirtual 46, 3) := by decide +kernel
theorem dX1_takeDual_35 : decode cX1_takeDual 35 = .ok (.ifCond .ne 7, 3) := by decide +kernel
theorem dX1_takeDual_38 : decode cX1_takeDual 38 = .ok (.iconst 1, 1) := by decide +kernel
theorem dX1_takeDual_39 : decode cX1_takeDual 39 = .ok (.goto 4, 3) := by decide +kernel
theorem dX1_takeDual_42 : decode cX1_takeDual 42 = .ok (.iconst 0, 1) := by decide +kernel
theorem dX1_takeDual_43 : decode cX1_takeDual 43 = .ok (.bastore, 1) := by decide +kernel
theorem dX1_takeDual_44 : decode cX1_takeDual 44 = .ok (.iinc 2 1, 3) := by decide +kernel
theorem dX1_takeDual_47 : decode cX1_takeDual 47 = .ok (.goto (-37), 3) := by decide +kernel
theorem dX1_takeDual_50 : decode cX1_takeDual 50 = .ok (.return_, 1) := by decide +kernel
theorem dX1_clear_0 : decode cX1_clear 0 = .ok (.iconst 0, 1) := by decide +kernel
theorem dX1_clear_1 : decode cX1_clear 1 = .ok (.istore_n 1, 1) := by decide +kernel
theorem dX1_clear_2 : decode cX1_clear 2 = .ok (.iload_n 1, 1) := by decide +kernel
theorem dX1_clear_3 : decode cX1_clear 3 = .ok (.bipush 35, 2) := by decide +kernel
theorem dX1_clear_5 : decode cX1_clear 5 = .ok (.if_icmp .ge 23, 3) := by decide +kernel
theorem dX1_clear_8 : decode cX1_clear 8 = .ok (.aload_n 0, 1) := by decide +kernel
theorem dX1_clear_9 : decode cX1_clear 9 = .ok (.getfield 19, 3) := by decide +kernel
theorem dX1_clear_12 : decode cX1_clear 12 = .ok (.iload_n 1, 1) := by decide +kernel
theorem dX1_clear_13 : decode cX1_clear 13 = .ok (.lconst 0, 1) := by decide +kernel
theorem dX1_clear_14 : decode cX1_clear 14 = .ok (.lastore, 1) := by decide +kernel
theorem dX1_clear_15 : decode cX1_clear 15 = .ok (.aload_n 0, 1) := by decide +kernel
theorem dX1_clear_16 : decode cX1_clear 16 = .ok (.getfield 23, 3) := by decide +kernel
theorem dX1_clear_19 : decode cX1_clear 19 = .ok (.iload_n 1, 1) := by decide +kernel
theorem dX1_clear_20 : decode cX1_clear 20 = .ok (.iconst 0, 1) := by decide +kernel
theorem dX1_clear_21 : decode cX1_clear 21 = .ok (.iastore, 1) := by decide +kernel
theorem dX1_clear_22 : decode cX1_clear 22 = .ok (.iinc 1 1, 3) := by decide +kernel
theorem dX1_clear_25 : decode cX1_clear 25 = .ok (.goto (-23), 3) := by decide +kernel
theorem dX1_clear_28 : decode cX1_clear 28 = .ok (.return_, 1) := by decide +kernel
theorem dX1_rowOf_0 : decode cX1_rowOf 0 = .ok (.lconst 0, 1) := by decide +kernel
theorem dX1_rowOf_1 : decode cX1_rowOf 1 = .ok (.lstore_n 2, 1) := by decide +kernel
theorem dX1_rowOf_2 : decode cX1_rowOf 2 = .ok (.iconst 0, 1) := by decide +kernel
theorem dX1_rowOf_3 : decode cX1_rowOf 3 = .ok (.istore 4, 2) := by decide +kernel
theorem dX1_rowOf_5 : decode cX1_rowOf 5 = .ok (.iload 4, 2) := by decide +kernel
theorem dX1_rowOf_7 : decode cX1_rowOf 7 = .ok (.bipush 7, 2) := by decide +kernel
theorem dX1_rowOf_9 : decode cX1_rowOf 9 = .ok (.if_icmp .ge 38, 3) := by decide +kernel
theorem dX1_rowOf_12 : decode cX1_rowOf 12 = .ok (.iconst 1, 1) := by decide +kernel
theorem dX1_rowOf_13 : decode cX1_rowOf 13 = .ok (.iload 4, 2) := by decide +kernel
theorem dX1_rowOf_15 : decode cX1_rowOf 15 = .ok (.ishl, 1) := by decide +kernel
theorem dX1_rowOf_16 : decode cX1_rowOf 16 = .ok (.istore 5, 2) := by decide +kernel
theorem dX1_rowOf_18 : decode cX1_rowOf 18 = .ok (.iload_n 1, 1) := by decide +kernel
theorem dX1_rowOf_19 : decode cX1_rowOf 19 = .ok (.iload 5, 2) := by decide +kernel
theorem dX1_rowOf_21 : decode cX1_rowOf 21 = .ok (.iand, 1) := by decide +kernel
theorem dX1_rowOf_22 : decode cX1_rowOf 22 = .ok (.ifCond .eq 19, 3) := by decide +kernel
theorem dX1_rowOf_25 : decode cX1_rowOf 25 = .ok (.lload_n 2, 1) := by decide +kernel
theorem dX1_rowOf_26 : decode cX1_rowOf 26 = .ok (.lconst 1, 1) := by decide +kernel
theorem dX1_rowOf_27 : decode cX1_rowOf 27 = .ok (.aload_n 0, 1) := by decide +kernel
theorem dX1_rowOf_28 : decode cX1_rowOf 28 = .ok (.getfield 9, 3) := by decide +kernel
theorem dX1_rowOf_31 : decode cX1_rowOf 31 = .ok (.iload_n 1, 1) := by decide +kernel
theorem dX1_rowOf_32 : decode cX1_rowOf 32 = .ok (.iload 5, 2) := by decide +kernel
theorem dX1_rowOf_34 : decode cX1_rowOf 34 = .ok (.iconst (-1), 1) := by decide +kernel
theorem dX1_rowOf_35 : decode cX1_rowOf 35 = .ok (.ixor, 1) := by decide +kernel
theorem dX1_rowOf_36 : decode cX1_rowOf 36 = .ok (.iand, 1) := by decide +kernel
theorem dX1_rowOf_37 : decode cX1_rowOf 37 = .ok (.iaload, 1) := by decide +kernel
theorem dX1_rowOf_38 : decode cX1_rowOf 38 = .ok (.lshl, 1) := by decide +kernel
theorem dX1_rowOf_39 : decode cX1_rowOf 39 = .ok (.lor, 1) := by decide +kernel
theorem dX1_rowOf_40 : decode cX1_rowOf 40 = .ok (.lstore_n 2, 1) := by decide +kernel
theorem dX1_rowOf_41 : decode cX1_rowOf 41 = .ok (.iinc 4 1, 3) := by decide +kernel
theorem dX1_rowOf_44 : decode cX1_rowOf 44 = .ok (.goto (-39), 3) := by decide +kernel
theorem dX1_rowOf_47 : decode cX1_rowOf 47 = .ok (.lload_n 2, 1) := by decide +kernel
theorem dX1_rowOf_48 : decode cX1_rowOf 48 = .ok (.lreturn, 1) := by decide +kernel
theorem dX1_settle_0 : decode cX1_settle 0 = .ok (.lload_n 1, 1) := by decide +kernel
theorem dX1_settle_1 : decode cX1_settle 1 = .ok (.lstore 4, 2) := by decide +kernel
theorem dX1_settle_3 : decode cX1_settle 3 = .ok (.aload_n 0, 1) := by decide +kernel
theorem dX1_settle_4 : decode cX1_settle 4 = .ok (.iload_n 3, 1) := by decide +kernel
theorem dX1_settle_5 : decode cX1_settle 5 = .ok (.putfield 50, 3) := by decide +kernel
theorem dX1_settle_8 : decode cX1_settle 8 = .ok (.bipush 34, 2) := by decide +kernel
theorem dX1_settle_10 : decode cX1_settle 10 = .ok (.istore 6, 2) := by decide +kernel
theorem dX1_settle_12 : decode cX1_settle 12 = .ok (.iload 6, 2) := by decide +kernel
theorem dX1_settle_14 : decode cX1_settle 14 = .ok (.ifCond .lt 90, 3) := by decide +kernel
theorem dX1_settle_17 : decode cX1_settle 17 = .ok (.lload 4, 2) := by decide +kernel
theorem dX1_settle_19 : decode cX1_settle 19 = .ok (.lconst 0, 1) := by decide +kernel
theorem dX1_settle_20 : decode cX1_settle 20 = .ok (.lcmp, 1) := by decide +kernel
theorem dX1_settle_21 : decode cX1_settle 21 = .ok (.ifCond .eq 83, 3) := by decide +kernel
theorem dX1_settle_24 : decode cX1_settle 24 = .ok (.lload 4, 2) := by decide +kernel
theorem dX1_settle_26 : decode cX1_settle 26 = .ok (.iload 6, 2) := by decide +kernel
theorem dX1_settle_28 : decode cX1_settle 28 = .ok (.lushr, 1) := by decide +kernel
theorem dX1_settle_29 : decode cX1_settle 29 = .ok (.lconst 1, 1) := by decide +kernel
theorem dX1_settle_30 : decode cX1_settle 30 = .ok (.land, 1) := by decide +kernel
theorem dX1_settle_31 : decode cX1_settle 31 = .ok (.lconst 1, 1) := by decide +kernel
theorem dX1_settle_32 : decode cX1_settle 32 = .ok (.lcmp, 1) := by decide +kernel
theorem dX1_settle_33 : decode cX1_settle 33 = .ok (.ifCond .ne 65, 3) := by decide +kernel
theorem dX1_settle_36 : decode cX1_settle 36 = .ok (.aload_n 0, 1) := by decide +kernel
theorem dX1_settle_37 : decode cX1_settle 37 = .ok (.getfield 19, 3) := by decide +kernel
theorem dX1_settle_40 : decode cX1_settle 40 = .ok (.iload 6, 2) := by decide +kernel
theorem dX1_settle_42 : decode cX1_settle 42 = .ok (.laload, 1) := by decide +kernel
theorem dX1_settle_43 : decode cX1_settle 43 = .ok (.lconst 0, 1) := by decide +kernel
theorem dX1_settle_44 : decode cX1_settle 44 = .ok (.lcmp, 1) := by decide +kernel
theorem dX1_settle_45 : decode cX1_settle 45 = .ok (.ifCond .ne 25, 3) := by decide +kernel
theorem dX1_settle_48 : decode cX1_settle 48 = .ok (.aload_n 0, 1) := by decide +kernel
theorem dX1_settle_49 : decode cX1_settle 49 = .ok (.getfield 19, 3) := by decide +kernel
theorem dX1_settle_52 : decode cX1_settle 52 = .ok (.iload 6, 2) := by decide +kernel
theorem dX1_settle_54 : decode cX1_settle 54 = .ok (.lload 4, 2) := by decide +kernel
theorem dX1_settle_56 : decode cX1_settle 56 = .ok (.lastore, 1) := by decide +kernel
theorem dX1_settle_57 : decode cX1_settle 57 = .ok (.aload_n 0, 1) := by decide +kernel
theorem dX1_settle_58 : decode cX1_settle 58 = .ok (.getfield 23, 3) := by decide +kernel
theorem dX1_settle_61 : decode cX1_settle 61 = .ok (.iload 6, 2) := by decide +kernel
theorem dX1_settle_63 : decode cX1_settle 63 = .ok (.aload_n 0, 1) := by decide +kernel
theorem dX1_settle_64 : decode cX1_settle 64 = .ok (.getfield 50, 3) := by decide +kernel
theorem dX1_settle_67 : decode cX1_settle 67 = .ok (.iastore, 1) := by decide +kernel
theorem dX1_settle_68 : decode cX1_settle 68 = .ok (.iconst 1, 1) := by decide +kernel
theorem dX1_settle_69 : decode cX1_settle 69 = .ok (.ireturn, 1) := by decide +kernel
theorem dX1_settle_70 : decode cX1_settle 70 = .ok (.lload 4, 2) := by decide +kernel
theorem dX1_settle_72 : decode cX1_settle 72 = .ok (.aload_n 0, 1) := by decide +kernel
theorem dX1_settle_73 : decode cX1_settle 73 = .ok (.getfield 19, 3) := by decide +kernel
theorem dX1_settle_76 : decode cX1_settle 76 = .ok (.iload 6, 2) := by decide +kernel
theorem dX1_settle_78 : decode cX1_settle 78 = .ok (.laload, 1) := by decide +kernel
theorem dX1_settle_79 : decode cX1_settle 79 = .ok (.lxor, 1) := by decide +kernel
theorem dX1_settle_80 : decode cX1_settle 80 = .ok (.lstore 4, 2) := by decide +kernel
theorem dX1_settle_82 : decode cX1_settle 82 = .ok (.aload_n 0, 1) := by decide +kernel
theorem dX1_settle_83 : decode cX1_settle 83 = .ok (.dup, 1) := by decide +kernel
theorem dX1_settle_84 : decode cX1_settle 84 = .ok (.getfield 50, 3) := by decide +kernel
theorem dX1_settle_87 : decode cX1_settle 87 = .ok (.aload_n 0, 1) := by decide +kernel
theorem dX1_settle_88 : decode cX1_settle 88 = .ok (.getfield 23, 3) := by decide +kernel
theorem dX1_settle_91 : decode cX1_settle 91 = .ok (.iload 6, 2) := by decide +kernel
theorem dX1_settle_93 : decode cX1_settle 93 = .ok (.iaload, 1) := by decide +kernel
theorem dX1_settle_94 : decode cX1_settle 94 = .ok (.ixor, 1) := by decide +kernel
theorem dX1_settle_95 : decode cX1_settle 95 = .ok (.putfield 50, 3) := by decide +kernel
theorem dX1_settle_98 : decode cX1_settle 98 = .ok (.iinc 6 (-1), 3) := by decide +kernel
theorem dX1_settle_101 : decode cX1_settle 101 = .ok (.goto (-89), 3) := by decide +kernel
theorem dX1_settle_104 : decode cX1_settle 104 = .ok (.iconst 0, 1) := by decide +kernel
theorem dX1_settle_105 : decode cX1_settle 105 = .ok (.ireturn, 1) := by decide +kernel
theorem dX1_rankOf_0 : decode cX1_rankOf 0 = .ok (.iload_n 1, 1) := by decide +kernel
theorem dX1_rankOf_1 : decode cX1_rankOf 1 = .ok (.iconst 1, 1) := by decide +kernel
theorem dX1_rankOf_2 : decode cX1_rankOf 2 = .ok (.if_icmp .ge 5, 3) := by decide +kernel
theorem dX1_rankOf_5 : decode cX1_rankOf 5 = .ok (.iconst 0, 1) := by decide +kernel
theorem dX1_rankOf_6 : decode cX1_rankOf 6 = .ok (.ireturn, 1) := by decide +kernel
theorem dX1_rankOf_7 : decode cX1_rankOf 7 = .ok (.aload_n 0, 1) := by decide +kernel
theorem dX1_rankOf_8 : decode cX1_rankOf 8 = .ok (.invokevirtual 53, 3) := by decide +kernel
theorem dX1_rankOf_11 : decode cX1_rankOf 11 = .ok (.iconst 0, 1) := by decide +kernel
theorem dX1_rankOf_12 : decode cX1_rankOf 12 = .ok (.istore_n 2, 1) := by decide +kernel
theorem dX1_rankOf_13 : decode cX1_rankOf 13 = .ok (.iconst 0, 1) := by decide +kernel
theorem dX1_rankOf_14 : decode cX1_rankOf 14 = .ok (.istore_n 3, 1) := by decide +kernel
theorem dX1_rankOf_15 : decode cX1_rankOf 15 = .ok (.iload_n 3, 1) := by decide +kernel
theorem dX1_rankOf_16 : decode cX1_rankOf 16 = .ok (.aload_n 0, 1) := by decide +kernel
theorem dX1_rankOf_17 : decode cX1_rankOf 17 = .ok (.getfield 42, 3) := by decide +kernel
theorem dX1_rankOf_20 : decode cX1_rankOf 20 = .ok (.if_icmp .gt 42, 3) := by decide +kernel
theorem dX1_rankOf_23 : decode cX1_rankOf 23 = .ok (.aload_n 0, 1) := by decide +kernel
theorem dX1_rankOf_24 : decode cX1_rankOf 24 = .ok (.getfield 15, 3) := by decide +kernel
theorem dX1_rankOf_27 : decode cX1_rankOf 27 = .ok (.iload_n 3, 1) := by decide +kernel
theorem dX1_rankOf_28 : decode cX1_rankOf 28 = .ok (.baload, 1) := by decide +kernel
theorem dX1_rankOf_29 : decode cX1_rankOf 29 = .ok (.ifCond .eq 27, 3) := by decide +kernel
theorem dX1_rankOf_32 : decode cX1_rankOf 32 = .ok (.iload_n 3, 1) := by decide +kernel
theorem dX1_rankOf_33 : decode cX1_rankOf 33 = .ok (.invokestatic 26, 3) := by decide +kernel
theorem dX1_rankOf_36 : decode cX1_rankOf 36 = .ok (.iload_n 1, 1) := by decide +kernel
theorem dX1_rankOf_37 : decode cX1_rankOf 37 = .ok (.if_icmp .ne 19, 3) := by decide +kernel
theorem dX1_rankOf_40 : decode cX1_rankOf 40 = .ok (.aload_n 0, 1) := by decide +kernel
theorem dX1_rankOf_41 : decode cX1_rankOf 41 = .ok (.aload_n 0, 1) := by decide +kernel
theorem dX1_rankOf_42 : decode cX1_rankOf 42 = .ok (.iload_n 3, 1) := by decide +kernel
theorem dX1_rankOf_43 : decode cX1_rankOf 43 = .ok (.invokevirtual 56, 3) := by decide +kernel
theorem dX1_rankOf_46 : decode cX1_rankOf 46 = .ok (.iconst 0, 1) := by decide +kernel
theorem dX1_rankOf_47 : decode cX1_rankOf 47 = .ok (.invokevirtual 60, 3) := by decide +kernel
theorem dX1_rankOf_50 : decode cX1_rankOf 50 = .ok (.ifCond .eq 6, 3) := by decide +kernel
theorem dX1_rankOf_53 : decode cX1_rankOf 53 = .ok (.iinc 2 1, 3) := by decide +kernel
theorem dX1_rankOf_56 : decode cX1_rankOf 56 = .ok (.iinc 3 1, 3) := by decide +kernel
theorem dX1_rankOf_59 : decode cX1_rankOf 59 = .ok (.goto (-44), 3) := by decide +kernel
theorem dX1_rankOf_62 : decode cX1_rankOf 62 = .ok (.iload_n 2, 1) := by decide +kernel
theorem dX1_rankOf_63 : decode cX1_rankOf 63 = .ok (.ireturn, 1) := by decide +kernel
theorem dX1_countOf_0 : decode cX1_countOf 0 = .ok (.iconst 0, 1) := by decide +kernel
theorem dX1_countOf_1 : decode cX1_countOf 1 = .ok (.istore_n 2, 1) := by decide +kernel
theorem dX1_countOf_2 : decode cX1_countOf 2 = .ok (.iconst 0, 1) := by decide +kernel
theorem dX1_countOf_3 : decode cX1_countOf 3 = .ok (.istore_n 3, 1) := by decide +kernel
theorem dX1_countOf_4 : decode cX1_countOf 4 = .ok (.iload_n 3, 1) := by decide +kernel
theorem dX1_countOf_5 : decode cX1_countOf 5 = .ok (.aload_n 0, 1) := by decide +kernel
theorem dX1_countOf_6 : decode cX1_countOf 6 = .ok (.getfield 42, 3) := by decide +kernel
theorem dX1_countOf_9 : decode cX1_countOf 9 = .ok (.if_icmp .gt 29, 3) := by decide +kernel
theorem dX1_countOf_12 : decode cX1_countOf 12 = .ok (.aload_n 0, 1) := by decide +kernel
theorem dX1_countOf_13 : decode cX1_countOf 13 = .ok (.getfield 15, 3) := by decide +kernel
theorem dX1_countOf_16 : decode cX1_countOf 16 = .ok (.iload_n 3, 1) := by decide +kernel
theorem dX1_countOf_17 : decode cX1_countOf 17 = .ok (.baload, 1) := by decide +kernel
theorem dX1_countOf_18 : decode cX1_countOf 18 = .ok (.ifCond .eq 14, 3) := by decide +kernel
theorem dX1_countOf_21 : decode cX1_countOf 21 = .ok (.iload_n 3, 1) := by decide +kernel
theorem dX1_countOf_22 : decode cX1_countOf 22 = .ok (.invokestatic 26, 3) := by decide +kernel
theorem dX1_countOf_25 : decode cX1_countOf 25 = .ok (.iload_n 1, 1) := by decide +kernel
theorem dX1_countOf_26 : decode cX1_countOf 26 = .ok (.if_icmp .ne 6, 3) := by decide +kernel
theorem dX1_countOf_29 : decode cX1_countOf 29 = .ok (.iinc 2 1, 3) := by decide +kernel
theorem dX1_countOf_32 : decode cX1_countOf 32 = .ok (.iinc 3 1, 3) := by decide +kernel
theorem dX1_countOf_35 : decode cX1_countOf 35 = .ok (.goto (-31), 3) := by decide +kernel
theorem dX1_countOf_38 : decode cX1_countOf 38 = .ok (.iload_n 2, 1) := by decide +kernel
theorem dX1_countOf_39 : decode cX1_countOf 39 = .ok (.ireturn, 1) := by decide +kernel
theorem dX1_roundOf_0 : decode cX1_roundOf 0 = .ok (.aload_n 0, 1) := by decide +kernel
theorem dX1_roundOf_1 : decode cX1_roundOf 1 = .ok (.iload_n 1, 1) := by decide +kernel
theorem dX1_roundOf_2 : decode cX1_roundOf 2 = .ok (.invokevirtual 64, 3) := by decide +kernel
theorem dX1_roundOf_5 : decode cX1_roundOf 5 = .ok (.aload_n 0, 1) := by decide +kernel
theorem dX1_roundOf_6 : decode cX1_roundOf 6 = .ok (.iload_n 1, 1) := by decide +kernel
theorem dX1_roundOf_7 : decode cX1_roundOf 7 = .ok (.invokevirtual 67, 3) := by decide +kernel
theorem dX1_roundOf_10 : decode cX1_roundOf 10 = .ok (.isub, 1) := by decide +kernel
theorem dX1_roundOf_11 : decode cX1_roundOf 11 = .ok (.aload_n 0, 1) := by decide +kernel
theorem dX1_roundOf_12 : decode cX1_roundOf 12 = .ok (.iload_n 1, 1) := by decide +kernel
theorem dX1_roundOf_13 : decode cX1_roundOf 13 = .ok (.iconst 1, 1) := by decide +kernel
theorem dX1_roundOf_14 : decode cX1_roundOf 14 = .ok (.iadd, 1) := by decide +kernel
theorem dX1_roundOf_15 : decode cX1_roundOf 15 = .ok (.invokevirtual 67, 3) := by decide +kernel
theorem dX1_roundOf_18 : decode cX1_roundOf 18 = .ok (.isub, 1) := by decide +kernel
theorem dX1_roundOf_19 : decode cX1_roundOf 19 = .ok (.ireturn, 1) := by decide +kernel
theorem dX1_isFlatLink_0 : decode cX1_isFlatLink 0 = .ok (.aload_n 0, 1) := by decide +kernel
theorem dX1_isFlatLink_1 : decode cX1_isFlatLink 1 = .ok (.aload_n 1, 1) := by decide +kernel
theorem dX1_isFlatLink_2 : decode cX1_isFlatLink 2 = .ok (.iload_n 2, 1) := by decide +kernel
theorem dX1_isFlatLink_3 : decode cX1_isFlatLink 3 = .ok (.invokevirtual 32, 3) := by decide +kernel
theorem dX1_isFlatLink_6 : decode cX1_isFlatLink 6 = .ok (.iconst 0, 1) := by decide +kernel
theorem dX1_isFlatLink_7 : decode cX1_isFlatLink 7 = .ok (.istore_n 3, 1) := by decide +kernel
theorem dX1_isFlatLink_8 : decode cX1_isFlatLink 8 = .ok (.iconst 0, 1) := by decide +kernel
theorem dX1_isFlatLink_9 : decode cX1_isFlatLink 9 = .ok (.istore 4, 2) := by decide +kernel
theorem dX1_isFlatLink_11 : decode cX1_isFlatLink 11 = .ok (.iload 4, 2) := by decide +kernel
theorem dX1_isFlatLink_13 : decode cX1_isFlatLink 13 = .ok (.aload_n 1, 1) := by decide +kernel
theorem dX1_isFlatLink_14 : decode cX1_isFlatLink 14 = .ok (.getfield 70, 3) := by decide +kernel
theorem dX1_isFlatLink_17 : decode cX1_isFlatLink 17 = .ok (.iload_n 2, 1) := by decide +kernel
theorem dX1_isFlatLink_18 : decode cX1_isFlatLink 18 = .ok (.invokestatic 26, 3) := by decide +kernel
theorem dX1_isFlatLink_21 : decode cX1_isFlatLink 21 = .ok (.isub, 1) := by decide +kernel
theorem dX1_isFlatLink_22 : decode cX1_isFlatLink 22 = .ok (.if_icmp .ge 37, 3) := by decide +kernel
theorem dX1_isFlatLink_25 : decode cX1_isFlatLink 25 = .ok (.aload_n 0, 1) := by decide +kernel
theorem dX1_isFlatLink_26 : decode cX1_isFlatLink 26 = .ok (.iload 4, 2) := by decide +kernel
theorem dX1_isFlatLink_28 : decode cX1_isFlatLink 28 = .ok (.iconst 1, 1) := by decide +kernel
theorem dX1_isFlatLink_29 : decode cX1_isFlatLink 29 = .ok (.iadd, 1) := by decide +kernel
theorem dX1_isFlatLink_30 : decode cX1_isFlatLink 30 = .ok (.invokevirtual 67, 3) := by decide +kernel
theorem dX1_isFlatLink_33 : decode cX1_isFlatLink 33 = .ok (.istore 5, 2) := by decide +kernel
theorem dX1_isFlatLink_35 : decode cX1_isFlatLink 35 = .ok (.aload_n 0, 1) := by decide +kernel
theorem dX1_isFlatLink_36 : decode cX1_isFlatLink 36 = .ok (.iload 4, 2) := by decide +kernel
theorem dX1_isFlatLink_38 : decode cX1_isFlatLink 38 = .ok (.invokevirtual 64, 3) := by decide +kernel
theorem dX1_isFlatLink_41 : decode cX1_isFlatLink 41 = .ok (.iload_n 3, 1) := by decide +kernel
theorem dX1_isFlatLink_42 : decode cX1_isFlatLink 42 = .ok (.iload 5, 2) := by decide +kernel
theorem dX1_isFlatLink_44 : decode cX1_isFlatLink 44 = .ok (.iadd, 1) := by decide +kernel
theorem dX1_isFlatLink_45 : decode cX1_isFlatLink 45 = .ok (.if_icmp .eq 5, 3) := by decide +kernel
theorem dX1_isFlatLink_48 : decode cX1_isFlatLink 48 = .ok (.iconst 0, 1) := by decide +kernel
theorem dX1_isFlatLink_49 : decode cX1_isFlatLink 49 = .ok (.ireturn, 1) := by decide +kernel
theorem dX1_isFlatLink_50 : decode cX1_isFlatLink 50 = .ok (.iload 5, 2) := by decide +kernel
theorem dX1_isFlatLink_52 : decode cX1_isFlatLink 52 = .ok (.istore_n 3, 1) := by decide +kernel
theorem dX1_isFlatLink_53 : decode cX1_isFlatLink 53 = .ok (.iinc 4 1, 3) := by decide +kernel
theorem dX1_isFlatLink_56 : decode cX1_isFlatLink 56 = .ok (.goto (-45), 3) := by decide +kernel
theorem dX1_isFlatLink_59 : decode cX1_isFlatLink 59 = .ok (.iconst 1, 1) := by decide +kernel
theorem dX1_isFlatLink_60 : decode cX1_isFlatLink 60 = .ok (.ireturn, 1) := by decide +kernel
theorem dX1_cycleOf_0 : decode cX1_cycleOf 0 = .ok (.aload_n 0, 1) := by decide +kernel
theorem dX1_cycleOf_1 : decode cX1_cycleOf 1 = .ok (.invokevirtual 53, 3) := by decide +kernel
theorem dX1_cycleOf_4 : decode cX1_cycleOf 4 = .ok (.iconst 0, 1) := by decide +kernel
theorem dX1_cycleOf_5 : decode cX1_cycleOf 5 = .ok (.istore 4, 2) := by decide +kernel
theorem dX1_cycleOf_7 : decode cX1_cycleOf 7 = .ok (.iload 4, 2) := by decide +kernel
theorem dX1_cycleOf_9 : decode cX1_cycleOf 9 = .ok (.aload_n 1, 1) := by decide +kernel
theorem dX1_cycleOf_10 : decode cX1_cycleOf 10 = .ok (.getfield 73, 3) := by decide +kernel
theorem dX1_cycleOf_13 : decode cX1_cycleOf 13 = .ok (.if_icmp .ge 39, 3) := by decide +kernel
theorem dX1_cycleOf_16 : decode cX1_cycleOf 16 = .ok (.iload_n 3, 1) := by decide +kernel
theorem dX1_cycleOf_17 : decode cX1_cycleOf 17 = .ok (.iload 4, 2) := by decide +kernel
theorem dX1_cycleOf_19 : decode cX1_cycleOf 19 = .ok (.ishr, 1) := by decide +kernel
theorem dX1_cycleOf_20 : decode cX1_cycleOf 20 = .ok (.iconst 1, 1) := by decide +kernel
theorem dX1_cycleOf_21 : decode cX1_cycleOf 21 = .ok (.iand, 1) := by decide +kernel
theorem dX1_cycleOf_22 : decode cX1_cycleOf 22 = .ok (.iconst 1, 1) := by decide +kernel
theorem dX1_cycleOf_23 : decode cX1_cycleOf 23 = .ok (.if_icmp .ne 23, 3) := by decide +kernel
theorem dX1_cycleOf_26 : decode cX1_cycleOf 26 = .ok (.aload_n 0, 1) := by decide +kernel
theorem dX1_cycleOf_27 : decode cX1_cycleOf 27 = .ok (.aload_n 0, 1) := by decide +kernel
theorem dX1_cycleOf_28 : decode cX1_cycleOf 28 = .ok (.aload_n 1, 1) := by decide +kernel
theorem dX1_cycleOf_29 : decode cX1_cycleOf 29 = .ok (.getfield 76, 3) := by decide +kernel
theorem dX1_cycleOf_32 : decode cX1_cycleOf 32 = .ok (.iload 4, 2) := by decide +kernel
theorem dX1_cycleOf_34 : decode cX1_cycleOf 34 = .ok (.iaload, 1) := by decide +kernel
theorem dX1_cycleOf_35 : decode cX1_cycleOf 35 = .ok (.invokevirtual 56, 3) := by decide +kernel
theorem dX1_cycleOf_38 : decode cX1_cycleOf 38 = .ok (.iconst 1, 1) := by decide +kernel
theorem dX1_cycleOf_39 : decode cX1_cycleOf 39 = .ok (.iload 4, 2) := by decide +kernel
theorem dX1_cycleOf_41 : decode cX1_cycleOf 41 = .ok (.ishl, 1) := by decide +kernel
theorem dX1_cycleOf_42 : decode cX1_cycleOf 42 = .ok (.invokevirtual 60, 3) := by decide +kernel
theorem dX1_cycleOf_45 : decode cX1_cycleOf 45 = .ok (.pop, 1) := by decide +kernel
theorem dX1_cycleOf_46 : decode cX1_cycleOf 46 = .ok (.iinc 4 1, 3) := by decide +kernel
theorem dX1_cycleOf_49 : decode cX1_cycleOf 49 = .ok (.goto (-42), 3) := by decide +kernel
theorem dX1_cycleOf_52 : decode cX1_cycleOf 52 = .ok (.aload_n 0, 1) := by decide +kernel
theorem dX1_cycleOf_53 : decode cX1_cycleOf 53 = .ok (.aload_n 0, 1) := by decide +kernel
theorem dX1_cycleOf_54 : decode cX1_cycleOf 54 = .ok (.aload_n 1, 1) := by decide +kernel
theorem dX1_cycleOf_55 : decode cX1_cycleOf 55 = .ok (.getfield 76, 3) := by decide +kernel
theorem dX1_cycleOf_58 : decode cX1_cycleOf 58 = .ok (.iload_n 2, 1) := by decide +kernel
theorem dX1_cycleOf_59 : decode cX1_cycleOf 59 = .ok (.iaload, 1) := by decide +kernel
theorem dX1_cycleOf_60 : decode cX1_cycleOf 60 = .ok (.invokevirtual 56, 3) := by decide +kernel
theorem dX1_cycleOf_63 : decode cX1_cycleOf 63 = .ok (.iconst 1, 1) := by decide +kernel
theorem dX1_cycleOf_64 : decode cX1_cycleOf 64 = .ok (.iload_n 2, 1) := by decide +kernel
theorem dX1_cycleOf_65 : decode cX1_cycleOf 65 = .ok (.ishl, 1) := by decide +kernel
theorem dX1_cycleOf_66 : decode cX1_cycleOf 66 = .ok (.invokevirtual 60, 3) := by decide +kernel
theorem dX1_cycleOf_69 : decode cX1_cycleOf 69 = .ok (.pop, 1) := by decide +kernel
theorem dX1_cycleOf_70 : decode cX1_cycleOf 70 = .ok (.aload_n 0, 1) := by decide +kernel
theorem dX1_cycleOf_71 : decode cX1_cycleOf 71 = .ok (.getfield 50, 3) := by decide +kernel
theorem dX1_cycleOf_74 : decode cX1_cycleOf 74 = .ok (.ireturn, 1) := by decide +kernel
theorem dX2_init_0 : decode cX2_init 0 = .ok (.aload_n 0, 1) := by decide +kernel
theorem dX2_init_1 : decode cX2_init 1 = .ok (.invokespecial 3, 3) := by decide +kernel
theorem dX2_init_4 : decode cX2_init 4 = .ok (.aload_n 0, 1) := by decide +kernel
theorem dX2_init_5 : decode cX2_init 5 = .ok (.sipush 4096, 3) := by decide +kernel
theorem dX2_init_8 : decode cX2_init 8 = .ok (.newarray .int, 2) := by decide +kernel
theorem dX2_init_10 : decode cX2_init 10 = .ok (.putfield 9, 3) := by decide +kernel
theorem dX2_init_13 : decode cX2_init 13 = .ok (.aload_n 0, 1) := by decide +kernel
theorem dX2_init_14 : decode cX2_init 14 = .ok (.sipush 4096, 3) := by decide +kernel
theorem dX2_init_17 : decode cX2_init 17 = .ok (.newarray .int, 2) := by decide +kernel
theorem dX2_init_19 : decode cX2_init 19 = .ok (.putfield 15, 3) := by decide +kernel
theorem dX2_init_22 : decode cX2_init 22 = .ok (.aload_n 0, 1) := by decide +kernel
theorem dX2_init_23 : decode cX2_init 23 = .ok (.sipush 4096, 3) := by decide +kernel
theorem dX2_init_26 : decode cX2_init 26 = .ok (.newarray .int, 2) := by decide +kernel
theorem dX2_init_28 : decode cX2_init 28 = .ok (.putfield 18, 3) := by decide +kernel
theorem dX2_init_31 : decode cX2_init 31 = .ok (.return_, 1) := by decide +kernel
theorem dX2_fill_0 : decode cX2_fill 0 = .ok (.aload_n 0, 1) := by decide +kernel
theorem dX2_fill_1 : decode cX2_fill 1 = .ok (.getfield 21, 3) := by decide +kernel
theorem dX2_fill_4 : decode cX2_fill 4 = .ok (.ifCond .ne 18, 3) := by decide +kernel
theorem dX2_fill_7 : decode cX2_fill 7 = .ok (.aload_n 0, 1) := by decide +kernel
theorem dX2_fill_8 : decode cX2_fill 8 = .ok (.aload_n 1, 1) := by decide +kernel
theorem dX2_fill_9 : decode cX2_fill 9 = .ok (.invokevirtual 25, 3) := by decide +kernel
theorem dX2_fill_12 : decode cX2_fill 12 = .ok (.aload_n 0, 1) := by decide +kernel
theorem dX2_fill_13 : decode cX2_fill 13 = .ok (.aload_n 1, 1) := by decide +kernel
theorem dX2_fill_14 : decode cX2_fill 14 = .ok (.invokevirtual 29, 3) := by decide +kernel
theorem dX2_fill_17 : decode cX2_fill 17 = .ok (.aload_n 0, 1) := by decide +kernel
theorem dX2_fill_18 : decode cX2_fill 18 = .ok (.iconst 1, 1) := by decide +kernel
theorem dX2_fill_19 : decode cX2_fill 19 = .ok (.putfield 21, 3) := by decide +kernel
theorem dX2_fill_22 : decode cX2_fill 22 = .ok (.return_, 1) := by decide +kernel
theorem dX2_fillWays_0 : decode cX2_fillWays 0 = .ok (.aload_n 1, 1) := by decide +kernel
theorem dX2_fillWays_1 : decode cX2_fillWays 1 = .ok (.invokevirtual 32, 3) := by decide +kernel
theorem dX2_fillWays_4 : decode cX2_fillWays 4 = .ok (.istore_n 2, 1) := by decide +kernel
theorem dX2_fillWays_5 : decode cX2_fillWays 5 = .ok (.iconst 0, 1) := by decide +kernel
theorem dX2_fillWays_6 : decode cX2_fillWays 6 = .ok (.istore_n 3, 1) := by decide +kernel
theorem dX2_fillWays_7 : decode cX2_fillWays 7 = .ok (.iload_n 3, 1) := by decide +kernel
theorem dX2_fillWays_8 : decode cX2_fillWays 8 = .ok (.iload_n 2, 1) := by decide +kernel
theorem dX2_fillWays_9 : decode cX2_fillWays 9 = .ok (.if_icmp .gt 23, 3) := by decide +kernel
theorem dX2_fillWays_12 : decode cX2_fillWays 12 = .ok (.aload_n 0, 1) := by decide +kernel
theorem dX2_fillWays_13 : decode cX2_fillWays 13 = .ok (.getfield 9, 3) := by decide +kernel
theorem dX2_fillWays_16 : decode cX2_fillWays 16 = .ok (.iload_n 3, 1) := by decide +kernel
theorem dX2_fillWays_17 : decode cX2_fillWays 17 = .ok (.iconst 0, 1) := by decide +kernel
theorem dX2_fillWays_18 : decode cX2_fillWays 18 = .ok (.iastore, 1) := by decide +kernel
theorem dX2_fillWays_19 : decode cX2_fillWays 19 = .ok (.aload_n 0, 1) := by decide +kernel
theorem dX2_fillWays_20 : decode cX2_fillWays 20 = .ok (.getfield 15, 3) := by decide +kernel
theorem dX2_fillWays_23 : decode cX2_fillWays 23 = .ok (.iload_n 3, 1) := by decide +kernel
theorem dX2_fillWays_24 : decode cX2_fillWays 24 = .ok (.iconst 0, 1) := by decide +kernel
theorem dX2_fillWays_25 : decode cX2_fillWays 25 = .ok (.iastore, 1) := by decide +kernel
theorem dX2_fillWays_26 : decode cX2_fillWays 26 = .ok (.iinc 3 1, 3) := by decide +kernel
theorem dX2_fillWays_29 : decode cX2_fillWays 29 = .ok (.goto (-22), 3) := by decide +kernel
theorem dX2_fillWays_32 : decode cX2_fillWays 32 = .ok (.aload_n 0, 1) := by decide +kernel
theorem dX2_fillWays_33 : decode cX2_fillWays 33 = .ok (.getfield 9, 3) := by decide +kernel
theorem dX2_fillWays_36 : decode cX2_fillWays 36 = .ok (.iconst 0, 1) := by decide +kernel
theorem dX2_fillWays_37 : decode cX2_fillWays 37 = .ok (.iconst 1, 1) := by decide +kernel
theorem dX2_fillWays_38 : decode cX2_fillWays 38 = .ok (.iastore, 1) := by decide +kernel
theorem dX2_fillWays_39 : decode cX2_fillWays 39 = .ok (.iconst 0, 1) := by decide +kernel
theorem dX2_fillWays_40 : decode cX2_fillWays 40 = .ok (.istore_n 3, 1) := by decide +kernel
theorem dX2_fillWays_41 : decode cX2_fillWays 41 = .ok (.iload_n 3, 1) := by decide +kernel
theorem dX2_fillWays_42 : decode cX2_fillWays 42 = .ok (.iload_n 2, 1) := by decide +kernel
theorem dX2_fillWays_43 : decode cX2_fillWays 43 = .ok (.if_icmp .ge 24, 3) := by decide +kernel
theorem dX2_fillWays_46 : decode cX2_fillWays 46 = .ok (.aload_n 0, 1) := by decide +kernel
theorem dX2_fillWays_47 : decode cX2_fillWays 47 = .ok (.getfield 9, 3) := by decide +kernel
theorem dX2_fillWays_50 : decode cX2_fillWays 50 = .ok (.iload_n 3, 1) := by decide +kernel
theorem dX2_fillWays_51 : decode cX2_fillWays 51 = .ok (.iaload, 1) := by decide +kernel
theorem dX2_fillWays_52 : decode cX2_fillWays 52 = .ok (.ifCond .eq 9, 3) := by decide +kernel
theorem dX2_fillWays_55 : decode cX2_fillWays 55 = .ok (.aload_n 0, 1) := by decide +kernel
theorem dX2_fillWays_56 : decode cX2_fillWays 56 = .ok (.aload_n 1, 1) := by decide +kernel
theorem dX2_fillWays_57 : decode cX2_fillWays 57 = .ok (.iload_n 3, 1) := by decide +kernel
theorem dX2_fillWays_58 : decode cX2_fillWays 58 = .ok (.invokevirtual 38, 3) := by decide +kernel
theorem dX2_fillWays_61 : decode cX2_fillWays 61 = .ok (.iinc 3 1, 3) := by decide +kernel
theorem dX2_fillWays_64 : decode cX2_fillWays 64 = .ok (.goto (-23), 3) := by decide +kernel
theorem dX2_fillWays_67 : decode cX2_fillWays 67 = .ok (.return_, 1) := by decide +kernel
theorem dX2_pushOn_0 : decode cX2_pushOn 0 = .ok (.iconst 0, 1) := by decide +kernel
theorem dX2_pushOn_1 : decode cX2_pushOn 1 = .ok (.istore_n 3, 1) := by decide +kernel
theorem dX2_pushOn_2 : decode cX2_pushOn 2 = .ok (.iconst 0, 1) := by decide +kernel
theorem dX2_pushOn_3 : decode cX2_pushOn 3 = .ok (.istore 4, 2) := by decide +kernel
theorem dX2_pushOn_5 : decode cX2_pushOn 5 = .ok (.iload 4, 2) := by decide +kernel
theorem dX2_pushOn_7 : decode cX2_pushOn 7 = .ok (.aload_n 1, 1) := by decide +kernel
theorem dX2_pushOn_8 : decode cX2_pushOn 8 = .ok (.getfield 42, 3) := by decide +kernel
theorem dX2_pushOn_11 : decode cX2_pushOn 11 = .ok (.if_icmp .ge 55, 3) := by decide +kernel
theorem dX2_pushOn_14 : decode cX2_pushOn 14 = .ok (.iconst 1, 1) := by decide +kernel
theorem dX2_pushOn_15 : decode cX2_pushOn 15 = .ok (.iload 4, 2) := by decide +kernel
theorem dX2_pushOn_17 : decode cX2_pushOn 17 = .ok (.ishl, 1) := by decide +kernel
theorem dX2_pushOn_18 : decode cX2_pushOn 18 = .ok (.istore 5, 2) := by decide +kernel
theorem dX2_pushOn_20 : decode cX2_pushOn 20 = .ok (.iload_n 2, 1) := by decide +kernel
theorem dX2_pushOn_21 : decode cX2_pushOn 21 = .ok (.iload 5, 2) := by decide +kernel
theorem dX2_pushOn_23 : decode cX2_pushOn 23 = .ok (.iand, 1) := by decide +kernel
theorem dX2_pushOn_24 : decode cX2_pushOn 24 = .ok (.ifCond .ne 36, 3) := by decide +kernel
theorem dX2_pushOn_27 : decode cX2_pushOn 27 = .ok (.aload_n 1, 1) := by decide +kernel
theorem dX2_pushOn_28 : decode cX2_pushOn 28 = .ok (.iload 4, 2) := by decide +kernel
theorem dX2_pushOn_30 : decode cX2_pushOn 30 = .ok (.iload_n 2, 1) := by decide +kernel
theorem dX2_pushOn_31 : decode cX2_pushOn 31 = .ok (.invokevirtual 46, 3) := by decide +kernel
theorem dX2_pushOn_34 : decode cX2_pushOn 34 = .ok (.ifCond .eq 26, 3) := by decide +kernel
theorem dX2_pushOn_37 : decode cX2_pushOn 37 = .ok (.iload_n 3, 1) := by decide +kernel
theorem dX2_pushOn_38 : decode cX2_pushOn 38 = .ok (.iload 5, 2) := by decide +kernel
theorem dX2_pushOn_40 : decode cX2_pushOn 40 = .ok (.ior, 1) := by decide +kernel
theorem dX2_pushOn_41 : decode cX2_pushOn 41 = .ok (.istore_n 3, 1) := by decide +kernel
theorem dX2_pushOn_42 : decode cX2_pushOn 42 = .ok (.aload_n 0, 1) := by decide +kernel
theorem dX2_pushOn_43 : decode cX2_pushOn 43 = .ok (.getfield 9, 3) := by decide +kernel
theorem dX2_pushOn_46 : decode cX2_pushOn 46 = .ok (.iload_n 2, 1) := by decide +kernel
theorem dX2_pushOn_47 : decode cX2_pushOn 47 = .ok (.iload 5, 2) := by decide +kernel
theorem dX2_pushOn_49 : decode cX2_pushOn 49 = .ok (.ior, 1) := by decide +kernel
theorem dX2_pushOn_50 : decode cX2_pushOn 50 = .ok (.dup2, 1) := by decide +kernel
theorem dX2_pushOn_51 : decode cX2_pushOn 51 = .ok (.iaload, 1) := by decide +kernel
theorem dX2_pushOn_52 : decode cX2_pushOn 52 = .ok (.aload_n 0, 1) := by decide +kernel
theorem dX2_pushOn_53 : decode cX2_pushOn 53 = .ok (.getfield 9, 3) := by decide +kernel
theorem dX2_pushOn_56 : decode cX2_pushOn 56 = .ok (.iload_n 2, 1) := by decide +kernel
theorem dX2_pushOn_57 : decode cX2_pushOn 57 = .ok (.iaload, 1) := by decide +kernel
theorem dX2_pushOn_58 : decode cX2_pushOn 58 = .ok (.iadd, 1) := by decide +kernel
theorem dX2_pushOn_59 : decode cX2_pushOn 59 = .ok (.iastore, 1) := by decide +kernel
theorem dX2_pushOn_60 : decode cX2_pushOn 60 = .ok (.iinc 4 1, 3) := by decide +kernel
theorem dX2_pushOn_63 : decode cX2_pushOn 63 = .ok (.goto (-58), 3) := by decide +kernel
theorem dX2_pushOn_66 : decode cX2_pushOn 66 = .ok (.aload_n 0, 1) := by decide +kernel
theorem dX2_pushOn_67 : decode cX2_pushOn 67 = .ok (.getfield 15, 3) := by decide +kernel
theorem dX2_pushOn_70 : decode cX2_pushOn 70 = .ok (.iload_n 2, 1) := by decide +kernel
theorem dX2_pushOn_71 : decode cX2_pushOn 71 = .ok (.iload_n 3, 1) := by decide +kernel
theorem dX2_pushOn_72 : decode cX2_pushOn 72 = .ok (.iastore, 1) := by decide +kernel
theorem dX2_pushOn_73 : decode cX2_pushOn 73 = .ok (.return_, 1) := by decide +kernel
theorem dX2_fillOnward_0 : decode cX2_fillOnward 0 = .ok (.aload_n 1, 1) := by decide +kernel
theorem dX2_fillOnward_1 : decode cX2_fillOnward 1 = .ok (.invokevirtual 32, 3) := by decide +kernel
theorem dX2_fillOnward_4 : decode cX2_fillOnward 4 = .ok (.istore_n 2, 1) := by decide +kernel
theorem dX2_fillOnward_5 : decode cX2_fillOnward 5 = .ok (.aload_n 0, 1) := by decide +kernel
theorem dX2_fillOnward_6 : decode cX2_fillOnward 6 = .ok (.getfield 18, 3) := by decide +kernel
theorem dX2_fillOnward_9 : decode cX2_fillOnward 9 = .ok (.iload_n 2, 1) := by decide +kernel
theorem dX2_fillOnward_10 : decode cX2_fillOnward 10 = .ok (.aload_n 0, 1) := by decide +kernel
theorem dX2_fillOnward_11 : decode cX2_fillOnward 11 = .ok (.getfield 9, 3) := by decide +kernel
theorem dX2_fillOnward_14 : decode cX2_fillOnward 14 = .ok (.iload_n 2, 1) := by decide +kernel
theorem dX2_fillOnward_15 : decode cX2_fillOnward 15 = .ok (.iaload, 1) := by decide +kernel
theorem dX2_fillOnward_16 : decode cX2_fillOnward 16 = .ok (.ifCond .ne 7, 3) := by decide +kernel
theorem dX2_fillOnward_19 : decode cX2_fillOnward 19 = .ok (.iconst 0, 1) := by decide +kernel
theorem dX2_fillOnward_20 : decode cX2_fillOnward 20 = .ok (.goto 4, 3) := by decide +kernel
theorem dX2_fillOnward_23 : decode cX2_fillOnward 23 = .ok (.iconst 1, 1) := by decide +kernel
theorem dX2_fillOnward_24 : decode cX2_fillOnward 24 = .ok (.iastore, 1) := by decide +kernel
theorem dX2_fillOnward_25 : decode cX2_fillOnward 25 = .ok (.iload_n 2, 1) := by decide +kernel
theorem dX2_fillOnward_26 : decode cX2_fillOnward 26 = .ok (.iconst 1, 1) := by decide +kernel
theorem dX2_fillOnward_27 : decode cX2_fillOnward 27 = .ok (.isub, 1) := by decide +kernel
theorem dX2_fillOnward_28 : decode cX2_fillOnward 28 = .ok (.istore_n 3, 1) := by decide +kernel
theorem dX2_fillOnward_29 : decode cX2_fillOnward 29 = .ok (.iload_n 3, 1) := by decide +kernel
theorem dX2_fillOnward_30 : decode cX2_fillOnward 30 = .ok (.ifCond .lt 34, 3) := by decide +kernel
theorem dX2_fillOnward_33 : decode cX2_fillOnward 33 = .ok (.aload_n 0, 1) := by decide +kernel
theorem dX2_fillOnward_34 : decode cX2_fillOnward 34 = .ok (.getfield 18, 3) := by decide +kernel
theorem dX2_fillOnward_37 : decode cX2_fillOnward 37 = .ok (.iload_n 3, 1) := by decide +kernel
theorem dX2_fillOnward_38 : decode cX2_fillOnward 38 = .ok (.aload_n 0, 1) := by decide +kernel
theorem dX2_fillOnward_39 : decode cX2_fillOnward 39 = .ok (.getfield 15, 3) := by decide +kernel
theorem dX2_fillOnward_42 : decode cX2_fillOnward 42 = .ok (.iload_n 3, 1) := by decide +kernel
theorem dX2_fillOnward_43 : decode cX2_fillOnward 43 = .ok (.iaload, 1) := by decide +kernel
theorem dX2_fillOnward_44 : decode cX2_fillOnward 44 = .ok (.ifCond .ne 7, 3) := by decide +kernel
theorem dX2_fillOnward_47 : decode cX2_fillOnward 47 = .ok (.iconst 0, 1) := by decide +kernel
theorem dX2_fillOnward_48 : decode cX2_fillOnward 48 = .ok (.goto 9, 3) := by decide +kernel
theorem dX2_fillOnward_51 : decode cX2_fillOnward 51 = .ok (.aload_n 0, 1) := by decide +kernel
theorem dX2_fillOnward_52 : decode cX2_fillOnward 52 = .ok (.aload_n 1, 1) := by decide +kernel
theorem dX2_fillOnward_53 : decode cX2_fillOnward 53 = .ok (.iload_n 3, 1) := by decide +kernel
theorem dX2_fillOnward_54 : decode cX2_fillOnward 54 = .ok (.invokevirtual 50, 3) := by decide +kernel
theorem dX2_fillOnward_57 : decode cX2_fillOnward 57 = .ok (.iastore, 1) := by decide +kernel
theorem dX2_fillOnward_58 : decode cX2_fillOnward 58 = .ok (.iinc 3 (-1), 3) := by decide +kernel
theorem dX2_fillOnward_61 : decode cX2_fillOnward 61 = .ok (.goto (-32), 3) := by decide +kernel
theorem dX2_fillOnward_64 : decode cX2_fillOnward 64 = .ok (.return_, 1) := by decide +kernel
theorem dX2_sumOnward_0 : decode cX2_sumOnward 0 = .ok (.iconst 0, 1) := by decide +kernel
theorem dX2_sumOnward_1 : decode cX2_sumOnward 1 = .ok (.istore_n 3, 1) := by decide +kernel
theorem dX2_sumOnward_2 : decode cX2_sumOnward 2 = .ok (.iconst 0, 1) := by decide +kernel
theorem dX2_sumOnward_3 : decode cX2_sumOnward 3 = .ok (.istore 4, 2) := by decide +kernel
theorem dX2_sumOnward_5 : decode cX2_sumOnward 5 = .ok (.iload 4, 2) := by decide +kernel
theorem dX2_sumOnward_7 : decode cX2_sumOnward 7 = .ok (.aload_n 1, 1) := by decide +kernel
theorem dX2_sumOnward_8 : decode cX2_sumOnward 8 = .ok (.getfield 42, 3) := by decide +kernel
theorem dX2_sumOnward_11 : decode cX2_sumOnward 11 = .ok (.if_icmp .ge 39, 3) := by decide +kernel
theorem dX2_sumOnward_14 : decode cX2_sumOnward 14 = .ok (.iconst 1, 1) := by decide +kernel
theorem dX2_sumOnward_15 : decode cX2_sumOnward 15 = .ok (.iload 4, 2) := by decide +kernel
theorem dX2_sumOnward_17 : decode cX2_sumOnward 17 = .ok (.ishl, 1) := by decide +kernel
theorem dX2_sumOnward_18 : decode cX2_sumOnward 18 = .ok (.istore 5, 2) := by decide +kernel
theorem dX2_sumOnward_20 : decode cX2_sumOnward 20 = .ok (.aload_n 0, 1) := by decide +kernel
theorem dX2_sumOnward_21 : decode cX2_sumOnward 21 = .ok (.getfield 15, 3) := by decide +kernel
theorem dX2_sumOnward_24 : decode cX2_sumOnward 24 = .ok (.iload_n 2, 1) := by decide +kernel
theorem dX2_sumOnward_25 : decode cX2_sumOnward 25 = .ok (.iaload, 1) := by decide +kernel
theorem dX2_sumOnward_26 : decode cX2_sumOnward 26 = .ok (.iload 5, 2) := by decide +kernel
theorem dX2_sumOnward_28 : decode cX2_sumOnward 28 = .ok (.iand, 1) := by decide +kernel
theorem dX2_sumOnward_29 : decode cX2_sumOnward 29 = .ok (.ifCond .eq 15, 3) := by decide +kernel
theorem dX2_sumOnward_32 : decode cX2_sumOnward 32 = .ok (.iload_n 3, 1) := by decide +kernel
theorem dX2_sumOnward_33 : decode cX2_sumOnward 33 = .ok (.aload_n 0, 1) := by decide +kernel
theorem dX2_sumOnward_34 : decode cX2_sumOnward 34 = .ok (.getfield 18, 3) := by decide +kernel
theorem dX2_sumOnward_37 : decode cX2_sumOnward 37 = .ok (.iload_n 2, 1) := by decide +kernel
theorem dX2_sumOnward_38 : decode cX2_sumOnward 38 = .ok (.iload 5, 2) := by decide +kernel
theorem dX2_sumOnward_40 : decode cX2_sumOnward 40 = .ok (.ior, 1) := by decide +kernel
theorem dX2_sumOnward_41 : decode cX2_sumOnward 41 = .ok (.iaload, 1) := by decide +kernel
theorem dX2_sumOnward_42 : decode cX2_sumOnward 42 = .ok (.iadd, 1) := by decide +kernel
theorem dX2_sumOnward_43 : decode cX2_sumOnward 43 = .ok (.istore_n 3, 1) := by decide +kernel
theorem dX2_sumOnward_44 : decode cX2_sumOnward 44 = .ok (.iinc 4 1, 3) := by decide +kernel
theorem dX2_sumOnward_47 : decode cX2_sumOnward 47 = .ok (.goto (-42), 3) := by decide +kernel
theorem dX2_sumOnward_50 : decode cX2_sumOnward 50 = .ok (.iload_n 3, 1) := by decide +kernel
theorem dX2_sumOnward_51 : decode cX2_sumOnward 51 = .ok (.ireturn, 1) := by decide +kernel
theorem dX2_leastAt_0 : decode cX2_leastAt 0 = .ok (.iconst 0, 1) := by decide +kernel
theorem dX2_leastAt_1 : decode cX2_leastAt 1 = .ok (.istore_n 3, 1) := by decide +kernel
theorem dX2_leastAt_2 : decode cX2_leastAt 2 = .ok (.bipush (-2), 2) := by decide +kernel
theorem dX2_leastAt_4 : decode cX2_leastAt 4 = .ok (.istore 4, 2) := by decide +kernel
theorem dX2_leastAt_6 : decode cX2_leastAt 6 = .ok (.iconst 0, 1) := by decide +kernel
theorem dX2_leastAt_7 : decode cX2_leastAt 7 = .ok (.istore 5, 2) := by decide +kernel
theorem dX2_leastAt_9 : decode cX2_leastAt 9 = .ok (.iload 5, 2) := by decide +kernel
theorem dX2_leastAt_11 : decode cX2_leastAt 11 = .ok (.iload_n 2, 1) := by decide +kernel
theorem dX2_leastAt_12 : decode cX2_leastAt 12 = .ok (.if_icmp .gt 39, 3) := by decide +kernel
theorem dX2_leastAt_15 : decode cX2_leastAt 15 = .ok (.iload 5, 2) := by decide +kernel
theorem dX2_leastAt_17 : decode cX2_leastAt 17 = .ok (.bipush 12, 2) := by decide +kernel
theorem dX2_leastAt_19 : decode cX2_leastAt 19 = .ok (.if_icmp .ge 32, 3) := by decide +kernel
theorem dX2_leastAt_22 : decode cX2_leastAt 22 = .ok (.aload_n 0, 1) := by decide +kernel
theorem dX2_leastAt_23 : decode cX2_leastAt 23 = .ok (.aload_n 1, 1) := by decide +kernel
theorem dX2_leastAt_24 : decode cX2_leastAt 24 = .ok (.iload_n 3, 1) := by decide +kernel
theorem dX2_leastAt_25 : decode cX2_leastAt 25 = .ok (.invokevirtual 54, 3) := by decide +kernel
theorem dX2_leastAt_28 : decode cX2_leastAt 28 = .ok (.istore 4, 2) := by decide +kernel
theorem dX2_leastAt_30 : decode cX2_leastAt 30 = .ok (.iload 4, 2) := by decide +kernel
theorem dX2_leastAt_32 : decode cX2_leastAt 32 = .ok (.ifCond .ge 6, 3) := by decide +kernel
theorem dX2_leastAt_35 : decode cX2_leastAt 35 = .ok (.bipush (-2), 2) := by decide +kernel
theorem dX2_leastAt_37 : decode cX2_leastAt 37 = .ok (.ireturn, 1) := by decide +kernel
theorem dX2_leastAt_38 : decode cX2_leastAt 38 = .ok (.iload_n 3, 1) := by decide +kernel
theorem dX2_leastAt_39 : decode cX2_leastAt 39 = .ok (.iconst 1, 1) := by decide +kernel
theorem dX2_leastAt_40 : decode cX2_leastAt 40 = .ok (.iload 4, 2) := by decide +kernel
theorem dX2_leastAt_42 : decode cX2_leastAt 42 = .ok (.ishl, 1) := by decide +kernel
theorem dX2_leastAt_43 : decode cX2_leastAt 43 = .ok (.ior, 1) := by decide +kernel
theorem dX2_leastAt_44 : decode cX2_leastAt 44 = .ok (.istore_n 3, 1) := by decide +kernel
theorem dX2_leastAt_45 : decode cX2_leastAt 45 = .ok (.iinc 5 1, 3) := by decide +kernel
theorem dX2_leastAt_48 : decode cX2_leastAt 48 = .ok (.goto (-39), 3) := by decide +kernel
theorem dX2_leastAt_51 : decode cX2_leastAt 51 = .ok (.iload 4, 2) := by decide +kernel
theorem dX2_leastAt_53 : decode cX2_leastAt 53 = .ok (.ireturn, 1) := by decide +kernel
theorem dX2_leastOnward_0 : decode cX2_leastOnward 0 = .ok (.iconst 0, 1) := by decide +kernel
theorem dX2_leastOnward_1 : decode cX2_leastOnward 1 = .ok (.istore_n 3, 1) := by decide +kernel
theorem dX2_leastOnward_2 : decode cX2_leastOnward 2 = .ok (.iload_n 3, 1) := by decide +kernel
theorem dX2_leastOnward_3 : decode cX2_leastOnward 3 = .ok (.aload_n 1, 1) := by decide +kernel
theorem dX2_leastOnward_4 : decode cX2_leastOnward 4 = .ok (.getfield 42, 3) := by decide +kernel
theorem dX2_leastOnward_7 : decode cX2_leastOnward 7 = .ok (.if_icmp .ge 40, 3) := by decide +kernel
theorem dX2_leastOnward_10 : decode cX2_leastOnward 10 = .ok (.iconst 1, 1) := by decide +kernel
theorem dX2_leastOnward_11 : decode cX2_leastOnward 11 = .ok (.iload_n 3, 1) := by decide +kernel
theorem dX2_leastOnward_12 : decode cX2_leastOnward 12 = .ok (.ishl, 1) := by decide +kernel
theorem dX2_leastOnward_13 : decode cX2_leastOnward 13 = .ok (.istore 4, 2) := by decide +kernel
theorem dX2_leastOnward_15 : decode cX2_leastOnward 15 = .ok (.aload_n 0, 1) := by decide +kernel
theorem dX2_leastOnward_16 : decode cX2_leastOnward 16 = .ok (.getfield 15, 3) := by decide +kernel
theorem dX2_leastOnward_19 : decode cX2_leastOnward 19 = .ok (.iload_n 2, 1) := by decide +kernel
theorem dX2_leastOnward_20 : decode cX2_leastOnward 20 = .ok (.iaload, 1) := by decide +kernel
theorem dX2_leastOnward_21 : decode cX2_leastOnward 21 = .ok (.iload 4, 2) := by decide +kernel
theorem dX2_leastOnward_23 : decode cX2_leastOnward 23 = .ok (.iand, 1) := by decide +kernel
theorem dX2_leastOnward_24 : decode cX2_leastOnward 24 = .ok (.ifCond .eq 17, 3) := by decide +kernel
theorem dX2_leastOnward_27 : decode cX2_leastOnward 27 = .ok (.aload_n 0, 1) := by decide +kernel
theorem dX2_leastOnward_28 : decode cX2_leastOnward 28 = .ok (.getfield 18, 3) := by decide +kernel
theorem dX2_leastOnward_31 : decode cX2_leastOnward 31 = .ok (.iload_n 2, 1) := by decide +kernel
theorem dX2_leastOnward_32 : decode cX2_leastOnward 32 = .ok (.iload 4, 2) := by decide +kernel
theorem dX2_leastOnward_34 : decode cX2_leastOnward 34 = .ok (.ior, 1) := by decide +kernel
theorem dX2_leastOnward_35 : decode cX2_leastOnward 35 = .ok (.iaload, 1) := by decide +kernel
theorem dX2_leastOnward_36 : decode cX2_leastOnward 36 = .ok (.ifCond .eq 5, 3) := by decide +kernel
theorem dX2_leastOnward_39 : decode cX2_leastOnward 39 = .ok (.iload_n 3, 1) := by decide +kernel
theorem dX2_leastOnward_40 : decode cX2_leastOnward 40 = .ok (.ireturn, 1) := by decide +kernel
theorem dX2_leastOnward_41 : decode cX2_leastOnward 41 = .ok (.iinc 3 1, 3) := by decide +kernel
theorem dX2_leastOnward_44 : decode cX2_leastOnward 44 = .ok (.goto (-42), 3) := by decide +kernel
theorem dX2_leastOnward_47 : decode cX2_leastOnward 47 = .ok (.bipush (-2), 2) := by decide +kernel
theorem dX2_leastOnward_49 : decode cX2_leastOnward 49 = .ok (.ireturn, 1) := by decide +kernel
theorem dX2_lastOnes_0 : decode cX2_lastOnes 0 = .ok (.iconst 0, 1) := by decide +kernel
theorem dX2_lastOnes_1 : decode cX2_lastOnes 1 = .ok (.istore_n 2, 1) := by decide +kernel
theorem dX2_lastOnes_2 : decode cX2_lastOnes 2 = .ok (.iconst 0, 1) := by decide +kernel
theorem dX2_lastOnes_3 : decode cX2_lastOnes 3 = .ok (.istore_n 3, 1) := by decide +kernel
theorem dX2_lastOnes_4 : decode cX2_lastOnes 4 = .ok (.iload_n 3, 1) := by decide +kernel
theorem dX2_lastOnes_5 : decode cX2_lastOnes 5 = .ok (.aload_n 1, 1) := by decide +kernel
theorem dX2_lastOnes_6 : decode cX2_lastOnes 6 = .ok (.getfield 42, 3) := by decide +kernel
theorem dX2_lastOnes_9 : decode cX2_lastOnes 9 = .ok (.if_icmp .ge 34, 3) := by decide +kernel
theorem dX2_lastOnes_12 : decode cX2_lastOnes 12 = .ok (.iconst 1, 1) := by decide +kernel
theorem dX2_lastOnes_13 : decode cX2_lastOnes 13 = .ok (.iload_n 3, 1) := by decide +kernel
theorem dX2_lastOnes_14 : decode cX2_lastOnes 14 = .ok (.ishl, 1) := by decide +kernel
theorem dX2_lastOnes_15 : decode cX2_lastOnes 15 = .ok (.istore 4, 2) := by decide +kernel
theorem dX2_lastOnes_17 : decode cX2_lastOnes 17 = .ok (.iload_n 2, 1) := by decide +kernel
theorem dX2_lastOnes_18 : decode cX2_lastOnes 18 = .ok (.aload_n 0, 1) := by decide +kernel
theorem dX2_lastOnes_19 : decode cX2_lastOnes 19 = .ok (.getfield 15, 3) := by decide +kernel
theorem dX2_lastOnes_22 : decode cX2_lastOnes 22 = .ok (.aload_n 1, 1) := by decide +kernel
theorem dX2_lastOnes_23 : decode cX2_lastOnes 23 = .ok (.invokevirtual 32, 3) := by decide +kernel
theorem dX2_lastOnes_26 : decode cX2_lastOnes 26 = .ok (.iload 4, 2) := by decide +kernel
theorem dX2_lastOnes_28 : decode cX2_lastOnes 28 = .ok (.iconst (-1), 1) := by decide +kernel
theorem dX2_lastOnes_29 : decode cX2_lastOnes 29 = .ok (.ixor, 1) := by decide +kernel
theorem dX2_lastOnes_30 : decode cX2_lastOnes 30 = .ok (.iand, 1) := by decide +kernel
theorem dX2_lastOnes_31 : decode cX2_lastOnes 31 = .ok (.iaload, 1) := by decide +kernel
theorem dX2_lastOnes_32 : decode cX2_lastOnes 32 = .ok (.iload 4, 2) := by decide +kernel
theorem dX2_lastOnes_34 : decode cX2_lastOnes 34 = .ok (.iand, 1) := by decide +kernel
theorem dX2_lastOnes_35 : decode cX2_lastOnes 35 = .ok (.ior, 1) := by decide +kernel
theorem dX2_lastOnes_36 : decode cX2_lastOnes 36 = .ok (.istore_n 2, 1) := by decide +kernel
theorem dX2_lastOnes_37 : decode cX2_lastOnes 37 = .ok (.iinc 3 1, 3) := by decide +kernel
theorem dX2_lastOnes_40 : decode cX2_lastOnes 40 = .ok (.goto (-36), 3) := by decide +kernel
theorem dX2_lastOnes_43 : decode cX2_lastOnes 43 = .ok (.iload_n 2, 1) := by decide +kernel
theorem dX2_lastOnes_44 : decode cX2_lastOnes 44 = .ok (.ireturn, 1) := by decide +kernel
theorem dX2_deadEnd_0 : decode cX2_deadEnd 0 = .ok (.bipush (-2), 2) := by decide +kernel
theorem dX2_deadEnd_2 : decode cX2_deadEnd 2 = .ok (.istore_n 2, 1) := by decide +kernel
theorem dX2_deadEnd_3 : decode cX2_deadEnd 3 = .ok (.iconst 0, 1) := by decide +kernel
theorem dX2_deadEnd_4 : decode cX2_deadEnd 4 = .ok (.istore_n 3, 1) := by decide +kernel
theorem dX2_deadEnd_5 : decode cX2_deadEnd 5 = .ok (.iload_n 3, 1) := by decide +kernel
theorem dX2_deadEnd_6 : decode cX2_deadEnd 6 = .ok (.aload_n 1, 1) := by decide +kernel
theorem dX2_deadEnd_7 : decode cX2_deadEnd 7 = .ok (.invokevirtual 32, 3) := by decide +kernel
theorem dX2_deadEnd_10 : decode cX2_deadEnd 10 = .ok (.if_icmp .gt 44, 3) := by decide +kernel
theorem dX2_deadEnd_13 : decode cX2_deadEnd 13 = .ok (.aload_n 0, 1) := by decide +kernel
theorem dX2_deadEnd_14 : decode cX2_deadEnd 14 = .ok (.getfield 9, 3) := by decide +kernel
theorem dX2_deadEnd_17 : decode cX2_deadEnd 17 = .ok (.iload_n 3, 1) := by decide +kernel
theorem dX2_deadEnd_18 : decode cX2_deadEnd 18 = .ok (.iaload, 1) := by decide +kernel
theorem dX2_deadEnd_19 : decode cX2_deadEnd 19 = .ok (.ifCond .eq 29, 3) := by decide +kernel
theorem dX2_deadEnd_22 : decode cX2_deadEnd 22 = .ok (.aload_n 0, 1) := by decide +kernel
theorem dX2_deadEnd_23 : decode cX2_deadEnd 23 = .ok (.getfield 18, 3) := by decide +kernel
theorem dX2_deadEnd_26 : decode cX2_deadEnd 26 = .ok (.iload_n 3, 1) := by decide +kernel
theorem dX2_deadEnd_27 : decode cX2_deadEnd 27 = .ok (.iaload, 1) := by decide +kernel
theorem dX2_deadEnd_28 : decode cX2_deadEnd 28 = .ok (.ifCond .ne 20, 3) := by decide +kernel
theorem dX2_deadEnd_31 : decode cX2_deadEnd 31 = .ok (.iload_n 2, 1) := by decide +kernel
theorem dX2_deadEnd_32 : decode cX2_deadEnd 32 = .ok (.ifCond .lt 14, 3) := by decide +kernel
theorem dX2_deadEnd_35 : decode cX2_deadEnd 35 = .ok (.iload_n 3, 1) := by decide +kernel
theorem dX2_deadEnd_36 : decode cX2_deadEnd 36 = .ok (.invokestatic 57, 3) := by decide +kernel
theorem dX2_deadEnd_39 : decode cX2_deadEnd 39 = .ok (.iload_n 2, 1) := by decide +kernel
theorem dX2_deadEnd_40 : decode cX2_deadEnd 40 = .ok (.invokestatic 57, 3) := by decide +kernel
theorem dX2_deadEnd_43 : decode cX2_deadEnd 43 = .ok (.if_icmp .ge 5, 3) := by decide +kernel
theorem dX2_deadEnd_46 : decode cX2_deadEnd 46 = .ok (.iload_n 3, 1) := by decide +kernel
theorem dX2_deadEnd_47 : decode cX2_deadEnd 47 = .ok (.istore_n 2, 1) := by decide +kernel
theorem dX2_deadEnd_48 : decode cX2_deadEnd 48 = .ok (.iinc 3 1, 3) := by decide +kernel
theorem dX2_deadEnd_51 : decode cX2_deadEnd 51 = .ok (.goto (-46), 3) := by decide +kernel
theorem dX2_deadEnd_54 : decode cX2_deadEnd 54 = .ok (.iload_n 2, 1) := by decide +kernel
theorem dX2_deadEnd_55 : decode cX2_deadEnd 55 = .ok (.ireturn, 1) := by decide +kernel
theorem dX2_largestBad_0 : decode cX2_largestBad 0 = .ok (.bipush (-2), 2) := by decide +kernel
theorem dX2_largestBad_2 : decode cX2_largestBad 2 = .ok (.istore_n 2, 1) := by decide +kernel
theorem dX2_largestBad_3 : decode cX2_largestBad 3 = .ok (.iconst 0, 1) := by decide +kernel
theorem dX2_largestBad_4 : decode cX2_largestBad 4 = .ok (.istore_n 3, 1) := by decide +kernel
theorem dX2_largestBad_5 : decode cX2_largestBad 5 = .ok (.iload_n 3, 1) := by decide +kernel
theorem dX2_largestBad_6 : decode cX2_largestBad 6 = .ok (.aload_n 1, 1) := by decide +kernel
theorem dX2_largestBad_7 : decode cX2_largestBad 7 = .ok (.invokevirtual 63, 3) := by decide +kernel
theorem dX2_largestBad_10 : decode cX2_largestBad 10 = .ok (.if_icmp .gt 48, 3) := by decide +kernel
theorem dX2_largestBad_13 : decode cX2_largestBad 13 = .ok (.aload_n 1, 1) := by decide +kernel
theorem dX2_largestBad_14 : decode cX2_largestBad 14 = .ok (.iload_n 3, 1) := by decide +kernel
theorem dX2_largestBad_15 : decode cX2_largestBad 15 = .ok (.invokevirtual 66, 3) := by decide +kernel
theorem dX2_largestBad_18 : decode cX2_largestBad 18 = .ok (.ifCond .eq 34, 3) := by decide +kernel
theorem dX2_largestBad_21 : decode cX2_largestBad 21 = .ok (.aload_n 0, 1) := by decide +kernel
theorem dX2_largestBad_22 : decode cX2_largestBad 22 = .ok (.getfield 9, 3) := by decide +kernel
theorem dX2_largestBad_25 : decode cX2_largestBad 25 = .ok (.aload_n 1, 1) := by decide +kernel
theorem dX2_largestBad_26 : decode cX2_largestBad 26 = .ok (.getfield 70, 3) := by decide +kernel
theorem dX2_largestBad_29 : decode cX2_largestBad 29 = .ok (.iload_n 3, 1) := by decide +kernel
theorem dX2_largestBad_30 : decode cX2_largestBad 30 = .ok (.iaload, 1) := by decide +kernel
theorem dX2_largestBad_31 : decode cX2_largestBad 31 = .ok (.iaload, 1) := by decide +kernel
theorem dX2_largestBad_32 : decode cX2_largestBad 32 = .ok (.ifCond .ne 20, 3) := by decide +kernel
theorem dX2_largestBad_35 : decode cX2_largestBad 35 = .ok (.iload_n 2, 1) := by decide +kernel
theorem dX2_largestBad_36 : decode cX2_largestBad 36 = .ok (.ifCond .lt 14, 3) := by decide +kernel
theorem dX2_largestBad_39 : decode cX2_largestBad 39 = .ok (.iload_n 3, 1) := by decide +kernel
theorem dX2_largestBad_40 : decode cX2_largestBad 40 = .ok (.invokestatic 57, 3) := by decide +kernel
theorem dX2_largestBad_43 : decode cX2_largestBad 43 = .ok (.iload_n 2, 1) := by decide +kernel
theorem dX2_largestBad_44 : decode cX2_largestBad 44 = .ok (.invokestatic 57, 3) := by decide +kernel
theorem dX2_largestBad_47 : decode cX2_largestBad 47 = .ok (.if_icmp .le 5, 3) := by decide +kernel
theorem dX2_largestBad_50 : decode cX2_largestBad 50 = .ok (.iload_n 3, 1) := by decide +kernel
theorem dX2_largestBad_51 : decode cX2_largestBad 51 = .ok (.istore_n 2, 1) := by decide +kernel
theorem dX2_largestBad_52 : decode cX2_largestBad 52 = .ok (.iinc 3 1, 3) := by decide +kernel
theorem dX2_largestBad_55 : decode cX2_largestBad 55 = .ok (.goto (-50), 3) := by decide +kernel
theorem dX2_largestBad_58 : decode cX2_largestBad 58 = .ok (.iload_n 2, 1) := by decide +kernel
theorem dX2_largestBad_59 : decode cX2_largestBad 59 = .ok (.ireturn, 1) := by decide +kernel
theorem dX3_init_0 : decode cX3_init 0 = .ok (.aload_n 0, 1) := by decide +kernel
theorem dX3_init_1 : decode cX3_init 1 = .ok (.invokespecial 3, 3) := by decide +kernel
theorem dX3_init_4 : decode cX3_init 4 = .ok (.aload_n 0, 1) := by decide +kernel
theorem dX3_init_5 : decode cX3_init 5 = .ok (.bipush 12, 2) := by decide +kernel
theorem dX3_init_7 : decode cX3_init 7 = .ok (.newarray .int, 2) := by decide +kernel
theorem dX3_init_9 : decode cX3_init 9 = .ok (.putfield 9, 3) := by decide +kernel
theorem dX3_init_12 : decode cX3_init 12 = .ok (.return_, 1) := by decide +kernel
theorem dX3_reset_0 : decode cX3_reset 0 = .ok (.iconst 0, 1) := by decide +kernel
theorem dX3_reset_1 : decode cX3_reset 1 = .ok (.istore_n 1, 1) := by decide +kernel
theorem dX3_reset_2 : decode cX3_reset 2 = .ok (.iload_n 1, 1) := by decide +kernel
theorem dX3_reset_3 : decode cX3_reset 3 = .ok (.bipush 12, 2) := by decide +kernel
theorem dX3_reset_5 : decode cX3_reset 5 = .ok (.if_icmp .ge 16, 3) := by decide +kernel
theorem dX3_reset_8 : decode cX3_reset 8 = .ok (.aload_n 0, 1) := by decide +kernel
theorem dX3_reset_9 : decode cX3_reset 9 = .ok (.getfield 9, 3) := by decide +kernel
theorem dX3_reset_12 : decode cX3_reset 12 = .ok (.iload_n 1, 1) := by decide +kernel
theorem dX3_reset_13 : decode cX3_reset 13 = .ok (.iload_n 1, 1) := by decide +kernel
theorem dX3_reset_14 : decode cX3_reset 14 = .ok (.iastore, 1) := by decide +kernel
theorem dX3_reset_15 : decode cX3_reset 15 = .ok (.iinc 1 1, 3) := by decide +kernel
theorem dX3_reset_18 : decode cX3_reset 18 = .ok (.goto (-16), 3) := by decide +kernel
theorem dX3_reset_21 : decode cX3_reset 21 = .ok (.return_, 1) := by decide +kernel
theorem dX3_append_0 : decode cX3_append 0 = .ok (.iload_n 1, 1) := by decide +kernel
theorem dX3_append_1 : decode cX3_append 1 = .ok (.ifCond .lt 16, 3) := by decide +kernel
theorem dX3_append_4 : decode cX3_append 4 = .ok (.iload_n 1, 1) := by decide +kernel
theorem dX3_append_5 : decode cX3_append 5 = .ok (.bipush 12, 2) := by decide +kernel
theorem dX3_append_7 : decode cX3_append 7 = .ok (.if_icmp .ge 10, 3) := by decide +kernel
theorem dX3_append_10 : decode cX3_append 10 = .ok (.aload_n 0, 1) := by decide +kernel
theorem dX3_append_11 : decode cX3_append 11 = .ok (.getfield 9, 3) := by decide +kernel
theorem dX3_append_14 : decode cX3_append 14 = .ok (.iload_n 1, 1) := by decide +kernel
theorem dX3_append_15 : decode cX3_append 15 = .ok (.iload_n 1, 1) := by decide +kernel
theorem dX3_append_16 : decode cX3_append 16 = .ok (.iastore, 1) := by decide +kernel
theorem dX3_append_17 : decode cX3_append 17 = .ok (.return_, 1) := by decide +kernel
theorem dX3_remove_0 : decode cX3_remove 0 = .ok (.iconst 0, 1) := by decide +kernel
theorem dX3_remove_1 : decode cX3_remove 1 = .ok (.istore_n 3, 1) := by decide +kernel
theorem dX3_remove_2 : decode cX3_remove 2 = .ok (.iconst 0, 1) := by decide +kernel
theorem dX3_remove_3 : decode cX3_remove 3 = .ok (.istore 4, 2) := by decide +kernel
theorem dX3_remove_5 : decode cX3_remove 5 = .ok (.iload 4, 2) := by decide +kernel
theorem dX3_remove_7 : decode cX3_remove 7 = .ok (.iload_n 1, 1) := by decide +kernel
theorem dX3_remove_8 : decode cX3_remove 8 = .ok (.if_icmp .ge 48, 3) := by decide +kernel
theorem dX3_remove_11 : decode cX3_remove 11 = .ok (.aload_n 0, 1) := by decide +kernel
theorem dX3_remove_12 : decode cX3_remove 12 = .ok (.getfield 9, 3) := by decide +kernel
theorem dX3_remove_15 : decode cX3_remove 15 = .ok (.iload 4, 2) := by decide +kernel
theorem dX3_remove_17 : decode cX3_remove 17 = .ok (.iaload, 1) := by decide +kernel
theorem dX3_remove_18 : decode cX3_remove 18 = .ok (.istore 5, 2) := by decide +kernel
theorem dX3_remove_20 : decode cX3_remove 20 = .ok (.iload 5, 2) := by decide +kernel
theorem dX3_remove_22 : decode cX3_remove 22 = .ok (.iload_n 2, 1) := by decide +kernel
theorem dX3_remove_23 : decode cX3_remove 23 = .ok (.if_icmp .eq 27, 3) := by decide +kernel
theorem dX3_remove_26 : decode cX3_remove 26 = .ok (.aload_n 0, 1) := by decide +kernel
theorem dX3_remove_27 : decode cX3_remove 27 = .ok (.getfield 9, 3) := by decide +kernel
theorem dX3_remove_30 : decode cX3_remove 30 = .ok (.iload_n 3, 1) := by decide +kernel
theorem dX3_remove_31 : decode cX3_remove 31 = .ok (.iload 5, 2) := by decide +kernel
theorem dX3_remove_33 : decode cX3_remove 33 = .ok (.iload_n 2, 1) := by decide +kernel
theorem dX3_remove_34 : decode cX3_remove 34 = .ok (.if_icmp .le 10, 3) := by decide +kernel
theorem dX3_remove_37 : decode cX3_remove 37 = .ok (.iload 5, 2) := by decide +kernel
theorem dX3_remove_39 : decode cX3_remove 39 = .ok (.iconst 1, 1) := by decide +kernel
theorem dX3_remove_40 : decode cX3_remove 40 = .ok (.isub, 1) := by decide +kernel
theorem dX3_remove_41 : decode cX3_remove 41 = .ok (.goto 5, 3) := by decide +kernel
theorem dX3_remove_44 : decode cX3_remove 44 = .ok (.iload 5, 2) := by decide +kernel
theorem dX3_remove_46 : decode cX3_remove 46 = .ok (.iastore, 1) := by decide +kernel
theorem dX3_remove_47 : decode cX3_remove 47 = .ok (.iinc 3 1, 3) := by decide +kernel
theorem dX3_remove_50 : decode cX3_remove 50 = .ok (.iinc 4 1, 3) := by decide +kernel
theorem dX3_remove_53 : decode cX3_remove 53 = .ok (.goto (-48), 3) := by decide +kernel
theorem dX3_remove_56 : decode cX3_remove 56 = .ok (.return_, 1) := by decide +kernel
theorem dX3_exchange_0 : decode cX3_exchange 0 = .ok (.iload_n 1, 1) := by decide +kernel
theorem dX3_exchange_1 : decode cX3_exchange 1 = .ok (.ifCond .lt 41, 3) := by decide +kernel
theorem dX3_exchange_4 : decode cX3_exchange 4 = .ok (.iload_n 1, 1) := by decide +kernel
theorem dX3_exchange_5 : decode cX3_exchange 5 = .ok (.iconst 1, 1) := by decide +kernel
theorem dX3_exchange_6 : decode cX3_exchange 6 = .ok (.iadd, 1) := by decide +kernel
theorem dX3_exchange_7 : decode cX3_exchange 7 = .ok (.bipush 12, 2) := by decide +kernel
theorem dX3_exchange_9 : decode cX3_exchange 9 = .ok (.if_icmp .ge 33, 3) := by decide +kernel
theorem dX3_exchange_12 : decode cX3_exchange 12 = .ok (.aload_n 0, 1) := by decide +kernel
theorem dX3_exchange_13 : decode cX3_exchange 13 = .ok (.getfield 9, 3) := by decide +kernel
theorem dX3_exchange_16 : decode cX3_exchange 16 = .ok (.iload_n 1, 1) := by decide +kernel
theorem dX3_exchange_17 : decode cX3_exchange 17 = .ok (.iaload, 1) := by decide +kernel
theorem dX3_exchange_18 : decode cX3_exchange 18 = .ok (.istore_n 2, 1) := by decide +kernel
theorem dX3_exchange_19 : decode cX3_exchange 19 = .ok (.aload_n 0, 1) := by decide +kernel
theorem dX3_exchange_20 : decode cX3_exchange 20 = .ok (.getfield 9, 3) := by decide +kernel
theorem dX3_exchange_23 : decode cX3_exchange 23 = .ok (.iload_n 1, 1) := by decide +kernel
theorem dX3_exchange_24 : decode cX3_exchange 24 = .ok (.aload_n 0, 1) := by decide +kernel
theorem dX3_exchange_25 : decode cX3_exchange 25 = .ok (.getfield 9, 3) := by decide +kernel
theorem dX3_exchange_28 : decode cX3_exchange 28 = .ok (.iload_n 1, 1) := by decide +kernel
theorem dX3_exchange_29 : decode cX3_exchange 29 = .ok (.iconst 1, 1) := by decide +kernel
theorem dX3_exchange_30 : decode cX3_exchange 30 = .ok (.iadd, 1) := by decide +kernel
theorem dX3_exchange_31 : decode cX3_exchange 31 = .ok (.iaload, 1) := by decide +kernel
theorem dX3_exchange_32 : decode cX3_exchange 32 = .ok (.iastore, 1) := by decide +kernel
theorem dX3_exchange_33 : decode cX3_exchange 33 = .ok (.aload_n 0, 1) := by decide +kernel
theorem dX3_exchange_34 : decode cX3_exchange 34 = .ok (.getfield 9, 3) := by decide +kernel
theorem dX3_exchange_37 : decode cX3_exchange 37 = .ok (.iload_n 1, 1) := by decide +kernel
theorem dX3_exchange_38 : decode cX3_exchange 38 = .ok (.iconst 1, 1) := by decide +kernel
theorem dX3_exchange_39 : decode cX3_exchange 39 = .ok (.iadd, 1) := by decide +kernel
theorem dX3_exchange_40 : decode cX3_exchange 40 = .ok (.iload_n 2, 1) := by decide +kernel
theorem dX3_exchange_41 : decode cX3_exchange 41 = .ok (.iastore, 1) := by decide +kernel
theorem dX3_exchange_42 : decode cX3_exchange 42 = .ok (.return_, 1) := by decide +kernel
theorem dX3_carry_0 : decode cX3_carry 0 = .ok (.iload_n 1, 1) := by decide +kernel
theorem dX3_carry_1 : decode cX3_carry 1 = .ok (.istore_n 3, 1) := by decide +kernel
theorem dX3_carry_2 : decode cX3_carry 2 = .ok (.iload_n 3, 1) := by decide +kernel
theorem dX3_carry_3 : decode cX3_carry 3 = .ok (.iload_n 2, 1) := by decide +kernel
theorem dX3_carry_4 : decode cX3_carry 4 = .ok (.if_icmp .ge 14, 3) := by decide +kernel
theorem dX3_carry_7 : decode cX3_carry 7 = .ok (.aload_n 0, 1) := by decide +kernel
theorem dX3_carry_8 : decode cX3_carry 8 = .ok (.iload_n 3, 1) := by decide +kernel
theorem dX3_carry_9 : decode cX3_carry 9 = .ok (.invokevirtual 15, 3) := by decide +kernel
theorem dX3_carry_12 : decode cX3_carry 12 = .ok (.iinc 3 1, 3) := by decide +kernel
theorem dX3_carry_15 : decode cX3_carry 15 = .ok (.goto (-13), 3) := by decide +kernel
theorem dX3_carry_18 : decode cX3_carry 18 = .ok (.iload_n 1, 1) := by decide +kernel
theorem dX3_carry_19 : decode cX3_carry 19 = .ok (.istore_n 3, 1) := by decide +kernel
theorem dX3_carry_20 : decode cX3_carry 20 = .ok (.iload_n 3, 1) := by decide +kernel
theorem dX3_carry_21 : decode cX3_carry 21 = .ok (.iload_n 2, 1) := by decide +kernel
theorem dX3_carry_22 : decode cX3_carry 22 = .ok (.if_icmp .le 16, 3) := by decide +kernel
theorem dX3_carry_25 : decode cX3_carry 25 = .ok (.aload_n 0, 1) := by decide +kernel
theorem dX3_carry_26 : decode cX3_carry 26 = .ok (.iload_n 3, 1) := by decide +kernel
theorem dX3_carry_27 : decode cX3_carry 27 = .ok (.iconst 1, 1) := by decide +kernel
theorem dX3_carry_28 : decode cX3_carry 28 = .ok (.isub, 1) := by decide +kernel
theorem dX3_carry_29 : decode cX3_carry 29 = .ok (.invokevirtual 15, 3) := by decide +kernel
theorem dX3_carry_32 : decode cX3_carry 32 = .ok (.iinc 3 (-1), 3) := by decide +kernel
theorem dX3_carry_35 : decode cX3_carry 35 = .ok (.goto (-15), 3) := by decide +kernel
theorem dX3_carry_38 : decode cX3_carry 38 = .ok (.return_, 1) := by decide +kernel
theorem dX3_isPlace_0 : decode cX3_isPlace 0 = .ok (.iload_n 2, 1) := by decide +kernel
theorem dX3_isPlace_1 : decode cX3_isPlace 1 = .ok (.ifCond .lt 15, 3) := by decide +kernel
theorem dX3_isPlace_4 : decode cX3_isPlace 4 = .ok (.iload_n 2, 1) := by decide +kernel
theorem dX3_isPlace_5 : decode cX3_isPlace 5 = .ok (.aload_n 1, 1) := by decide +kernel
theorem dX3_isPlace_6 : decode cX3_isPlace 6 = .ok (.getfield 19, 3) := by decide +kernel
theorem dX3_isPlace_9 : decode cX3_isPlace 9 = .ok (.if_icmp .ge 7, 3) := by decide +kernel
theorem dX3_isPlace_12 : decode cX3_isPlace 12 = .ok (.iconst 1, 1) := by decide +kernel
theorem dX3_isPlace_13 : decode cX3_isPlace 13 = .ok (.goto 4, 3) := by decide +kernel
theorem dX3_isPlace_16 : decode cX3_isPlace 16 = .ok (.iconst 0, 1) := by decide +kernel
theorem dX3_isPlace_17 : decode cX3_isPlace 17 = .ok (.ireturn, 1) := by decide +kernel
theorem dX3_ahead_0 : decode cX3_ahead 0 = .ok (.iconst 0, 1) := by decide +kernel
theorem dX3_ahead_1 : decode cX3_ahead 1 = .ok (.istore_n 2, 1) := by decide +kernel
theorem dX3_ahead_2 : decode cX3_ahead 2 = .ok (.iconst 0, 1) := by decide +kernel
theorem dX3_ahead_3 : decode cX3_ahead 3 = .ok (.istore_n 3, 1) := by decide +kernel
theorem dX3_ahead_4 : decode cX3_ahead 4 = .ok (.iload_n 3, 1) := by decide +kernel
theorem dX3_ahead_5 : decode cX3_ahead 5 = .ok (.iload_n 1, 1) := by decide +kernel
theorem dX3_ahead_6 : decode cX3_ahead 6 = .ok (.if_icmp .ge 26, 3) := by decide +kernel
theorem dX3_ahead_9 : decode cX3_ahead 9 = .ok (.iload_n 3, 1) := by decide +kernel
theorem dX3_ahead_10 : decode cX3_ahead 10 = .ok (.bipush 12, 2) := by decide +kernel
theorem dX3_ahead_12 : decode cX3_ahead 12 = .ok (.if_icmp .ge 20, 3) := by decide +kernel
theorem dX3_ahead_15 : decode cX3_ahead 15 = .ok (.iload_n 2, 1) := by decide +kernel
theorem dX3_ahead_16 : decode cX3_ahead 16 = .ok (.iconst 1, 1) := by decide +kernel
theorem dX3_ahead_17 : decode cX3_ahead 17 = .ok (.aload_n 0, 1) := by decide +kernel
theorem dX3_ahead_18 : decode cX3_ahead 18 = .ok (.getfield 9, 3) := by decide +kernel
theorem dX3_ahead_21 : decode cX3_ahead 21 = .ok (.iload_n 3, 1) := by decide +kernel
theorem dX3_ahead_22 : decode cX3_ahead 22 = .ok (.iaload, 1) := by decide +kernel
theorem dX3_ahead_23 : decode cX3_ahead 23 = .ok (.ishl, 1) := by decide +kernel
theorem dX3_ahead_24 : decode cX3_ahead 24 = .ok (.ior, 1) := by decide +kernel
theorem dX3_ahead_25 : decode cX3_ahead 25 = .ok (.istore_n 2, 1) := by decide +kernel
theorem dX3_ahead_26 : decode cX3_ahead 26 = .ok (.iinc 3 1, 3) := by decide +kernel
theorem dX3_ahead_29 : decode cX3_ahead 29 = .ok (.goto (-25), 3) := by decide +kernel
theorem dX3_ahead_32 : decode cX3_ahead 32 = .ok (.iload_n 2, 1) := by decide +kernel
theorem dX3_ahead_33 : decode cX3_ahead 33 = .ok (.ireturn, 1) := by decide +kernel
theorem dX3_fitsAt_0 : decode cX3_fitsAt 0 = .ok (.aload_n 1, 1) := by decide +kernel
theorem dX3_fitsAt_1 : decode cX3_fitsAt 1 = .ok (.aload_n 0, 1) := by decide +kernel
theorem dX3_fitsAt_2 : decode cX3_fitsAt 2 = .ok (.getfield 9, 3) := by decide +kernel
theorem dX3_fitsAt_5 : decode cX3_fitsAt 5 = .ok (.iload_n 2, 1) := by decide +kernel
theorem dX3_fitsAt_6 : decode cX3_fitsAt 6 = .ok (.iaload, 1) := by decide +kernel
theorem dX3_fitsAt_7 : decode cX3_fitsAt 7 = .ok (.aload_n 0, 1) := by decide +kernel
theorem dX3_fitsAt_8 : decode cX3_fitsAt 8 = .ok (.iload_n 2, 1) := by decide +kernel
theorem dX3_fitsAt_9 : decode cX3_fitsAt 9 = .ok (.invokevirtual 25, 3) := by decide +kernel
theorem dX3_fitsAt_12 : decode cX3_fitsAt 12 = .ok (.invokevirtual 29, 3) := by decide +kernel
theorem dX3_fitsAt_15 : decode cX3_fitsAt 15 = .ok (.ireturn, 1) := by decide +kernel
theorem dX3_restriction_0 : decode cX3_restriction 0 = .ok (.aload_n 1, 1) := by decide +kernel
theorem dX3_restriction_1 : decode cX3_restriction 1 = .ok (.aload_n 0, 1) := by decide +kernel
theorem dX3_restriction_2 : decode cX3_restriction 2 = .ok (.getfield 9, 3) := by decide +kernel
theorem dX3_restriction_5 : decode cX3_restriction 5 = .ok (.iload_n 2, 1) := by decide +kernel
theorem dX3_restriction_6 : decode cX3_restriction 6 = .ok (.iaload, 1) := by decide +kernel
theorem dX3_restriction_7 : decode cX3_restriction 7 = .ok (.aload_n 0, 1) := by decide +kernel
theorem dX3_restriction_8 : decode cX3_restriction 8 = .ok (.iload_n 2, 1) := by decide +kernel
theorem dX3_restriction_9 : decode cX3_restriction 9 = .ok (.invokevirtual 25, 3) := by decide +kernel
theorem dX3_restriction_12 : decode cX3_restriction 12 = .ok (.invokevirtual 33, 3) := by decide +kernel
theorem dX3_restriction_15 : decode cX3_restriction 15 = .ok (.ireturn, 1) := by decide +kernel
theorem dX3_goodStart_0 : decode cX3_goodStart 0 = .ok (.iconst 0, 1) := by decide +kernel
theorem dX3_goodStart_1 : decode cX3_goodStart 1 = .ok (.istore_n 2, 1) := by decide +kernel
theorem dX3_goodStart_2 : decode cX3_goodStart 2 = .ok (.iload_n 2, 1) := by decide +kernel
theorem dX3_goodStart_3 : decode cX3_goodStart 3 = .ok (.aload_n 1, 1) := by decide +kernel
theorem dX3_goodStart_4 : decode cX3_goodStart 4 = .ok (.getfield 19, 3) := by decide +kernel
theorem dX3_goodStart_7 : decode cX3_goodStart 7 = .ok (.if_icmp .ge 20, 3) := by decide +kernel
theorem dX3_goodStart_10 : decode cX3_goodStart 10 = .ok (.aload_n 0, 1) := by decide +kernel
theorem dX3_goodStart_11 : decode cX3_goodStart 11 = .ok (.aload_n 1, 1) := by decide +kernel
theorem dX3_goodStart_12 : decode cX3_goodStart 12 = .ok (.iload_n 2, 1) := by decide +kernel
theorem dX3_goodStart_13 : decode cX3_goodStart 13 = .ok (.invokevirtual 37, 3) := by decide +kernel
theorem dX3_goodStart_16 : decode cX3_goodStart 16 = .ok (.ifCond .ne 5, 3) := by decide +kernel
theorem dX3_goodStart_19 : decode cX3_goodStart 19 = .ok (.iload_n 2, 1) := by decide +kernel
theorem dX3_goodStart_20 : decode cX3_goodStart 20 = .ok (.ireturn, 1) := by decide +kernel
theorem dX3_goodStart_21 : decode cX3_goodStart 21 = .ok (.iinc 2 1, 3) := by decide +kernel
theorem dX3_goodStart_24 : decode cX3_goodStart 24 = .ok (.goto (-22), 3) := by decide +kernel
theorem dX3_goodStart_27 : decode cX3_goodStart 27 = .ok (.aload_n 1, 1) := by decide +kernel
theorem dX3_goodStart_28 : decode cX3_goodStart 28 = .ok (.getfield 19, 3) := by decide +kernel
theorem dX3_goodStart_31 : decode cX3_goodStart 31 = .ok (.ireturn, 1) := by decide +kernel
theorem dX3_nthBreak_0 : decode cX3_nthBreak 0 = .ok (.iload_n 2, 1) := by decide +kernel
theorem dX3_nthBreak_1 : decode cX3_nthBreak 1 = .ok (.istore_n 3, 1) := by decide +kernel
theorem dX3_nthBreak_2 : decode cX3_nthBreak 2 = .ok (.iconst 0, 1) := by decide +kernel
theorem dX3_nthBreak_3 : decode cX3_nthBreak 3 = .ok (.istore 4, 2) := by decide +kernel
theorem dX3_nthBreak_5 : decode cX3_nthBreak 5 = .ok (.iload 4, 2) := by decide +kernel
theorem dX3_nthBreak_7 : decode cX3_nthBreak 7 = .ok (.aload_n 1, 1) := by decide +kernel
theorem dX3_nthBreak_8 : decode cX3_nthBreak 8 = .ok (.getfield 19, 3) := by decide +kernel
theorem dX3_nthBreak_11 : decode cX3_nthBreak 11 = .ok (.if_icmp .ge 33, 3) := by decide +kernel
theorem dX3_nthBreak_14 : decode cX3_nthBreak 14 = .ok (.iload_n 3, 1) := by decide +kernel
theorem dX3_nthBreak_15 : decode cX3_nthBreak 15 = .ok (.ifCond .lt 29, 3) := by decide +kernel
theorem dX3_nthBreak_18 : decode cX3_nthBreak 18 = .ok (.aload_n 0, 1) := by decide +kernel
theorem dX3_nthBreak_19 : decode cX3_nthBreak 19 = .ok (.aload_n 1, 1) := by decide +kernel
theorem dX3_nthBreak_20 : decode cX3_nthBreak 20 = .ok (.iload 4, 2) := by decide +kernel
theorem dX3_nthBreak_22 : decode cX3_nthBreak 22 = .ok (.invokevirtual 37, 3) := by decide +kernel
theorem dX3_nthBreak_25 : decode cX3_nthBreak 25 = .ok (.ifCond .ne 13, 3) := by decide +kernel
theorem dX3_nthBreak_28 : decode cX3_nthBreak 28 = .ok (.iload_n 3, 1) := by decide +kernel
theorem dX3_nthBreak_29 : decode cX3_nthBreak 29 = .ok (.ifCond .ne 6, 3) := by decide +kernel
theorem dX3_nthBreak_32 : decode cX3_nthBreak 32 = .ok (.iload 4, 2) := by decide +kernel
theorem dX3_nthBreak_34 : decode cX3_nthBreak 34 = .ok (.ireturn, 1) := by decide +kernel
theorem dX3_nthBreak_35 : decode cX3_nthBreak 35 = .ok (.iinc 3 (-1), 3) := by decide +kernel
theorem dX3_nthBreak_38 : decode cX3_nthBreak 38 = .ok (.iinc 4 1, 3) := by decide +kernel
theorem dX3_nthBreak_41 : decode cX3_nthBreak 41 = .ok (.goto (-36), 3) := by decide +kernel
theorem dX3_nthBreak_44 : decode cX3_nthBreak 44 = .ok (.iconst (-1), 1) := by decide +kernel
theorem dX3_nthBreak_45 : decode cX3_nthBreak 45 = .ok (.ireturn, 1) := by decide +kernel
theorem dX3_countRestrictions_0 : decode cX3_countRestrictions 0 = .ok (.iconst 0, 1) := by decide +kernel
theorem dX3_countRestrictions_1 : decode cX3_countRestrictions 1 = .ok (.istore_n 3, 1) := by decide +kernel
theorem dX3_countRestrictions_2 : decode cX3_countRestrictions 2 = .ok (.iconst 0, 1) := by decide +kernel
theorem dX3_countRestrictions_3 : decode cX3_countRestrictions 3 = .ok (.istore 4, 2) := by decide +kernel
theorem dX3_countRestrictions_5 : decode cX3_countRestrictions 5 = .ok (.iload 4, 2) := by decide +kernel
theorem dX3_countRestrictions_7 : decode cX3_countRestrictions 7 = .ok (.aload_n 1, 1) := by decide +kernel
theorem dX3_countRestrictions_8 : decode cX3_countRestrictions 8 = .ok (.getfield 19, 3) := by decide +kernel
theorem dX3_countRestrictions_11 : decode cX3_countRestrictions 11 = .ok (.if_icmp .ge 26, 3) := by decide +kernel
theorem dX3_countRestrictions_14 : decode cX3_countRestrictions 14 = .ok (.aload_n 0, 1) := by decide +kernel
theorem dX3_countRestrictions_15 : decode cX3_countRestrictions 15 = .ok (.aload_n 1, 1) := by decide +kernel
theorem dX3_countRestrictions_16 : decode cX3_countRestrictions 16 = .ok (.iload 4, 2) := by decide +kernel
theorem dX3_countRestrictions_18 : decode cX3_countRestrictions 18 = .ok (.invokevirtual 41, 3) := by decide +kernel
theorem dX3_countRestrictions_21 : decode cX3_countRestrictions 21 = .ok (.invokestatic 44, 3) := by decide +kernel
theorem dX3_countRestrictions_24 : decode cX3_countRestrictions 24 = .ok (.iload_n 2, 1) := by decide +kernel
theorem dX3_countRestrictions_25 : decode cX3_countRestrictions 25 = .ok (.if_icmp .ne 6, 3) := by decide +kernel
theorem dX3_countRestrictions_28 : decode cX3_countRestrictions 28 = .ok (.iinc 3 1, 3) := by decide +kernel
theorem dX3_countRestrictions_31 : decode cX3_countRestrictions 31 = .ok (.iinc 4 1, 3) := by decide +kernel
theorem dX3_countRestrictions_34 : decode cX3_countRestrictions 34 = .ok (.goto (-29), 3) := by decide +kernel
theorem dX3_countRestrictions_37 : decode cX3_countRestrictions 37 = .ok (.iload_n 3, 1) := by decide +kernel
theorem dX3_countRestrictions_38 : decode cX3_countRestrictions 38 = .ok (.ireturn, 1) := by decide +kernel
theorem dX3_isSpanning_0 : decode cX3_isSpanning 0 = .ok (.aload_n 0, 1) := by decide +kernel
theorem dX3_isSpanning_1 : decode cX3_isSpanning 1 = .ok (.aload_n 1, 1) := by decide +kernel
theorem dX3_isSpanning_2 : decode cX3_isSpanning 2 = .ok (.iload_n 2, 1) := by decide +kernel
theorem dX3_isSpanning_3 : decode cX3_isSpanning 3 = .ok (.invokevirtual 41, 3) := by decide +kernel
theorem dX3_isSpanning_6 : decode cX3_isSpanning 6 = .ok (.invokestatic 44, 3) := by decide +kernel
theorem dX3_isSpanning_9 : decode cX3_isSpanning 9 = .ok (.aload_n 1, 1) := by decide +kernel
theorem dX3_isSpanning_10 : decode cX3_isSpanning 10 = .ok (.getfield 49, 3) := by decide +kernel
theorem dX3_isSpanning_13 : decode cX3_isSpanning 13 = .ok (.if_icmp .ne 7, 3) := by decide +kernel
theorem dX3_isSpanning_16 : decode cX3_isSpanning 16 = .ok (.iconst 1, 1) := by decide +kernel
theorem dX3_isSpanning_17 : decode cX3_isSpanning 17 = .ok (.goto 4, 3) := by decide +kernel
theorem dX3_isSpanning_20 : decode cX3_isSpanning 20 = .ok (.iconst 0, 1) := by decide +kernel
theorem dX3_isSpanning_21 : decode cX3_isSpanning 21 = .ok (.ireturn, 1) := by decide +kernel
theorem dX3_nthSpanning_0 : decode cX3_nthSpanning 0 = .ok (.iload_n 2, 1) := by decide +kernel
theorem dX3_nthSpanning_1 : decode cX3_nthSpanning 1 = .ok (.istore_n 3, 1) := by decide +kernel
theorem dX3_nthSpanning_2 : decode cX3_nthSpanning 2 = .ok (.iconst 0, 1) := by decide +kernel
theorem dX3_nthSpanning_3 : decode cX3_nthSpanning 3 = .ok (.istore 4, 2) := by decide +kernel
theorem dX3_nthSpanning_5 : decode cX3_nthSpanning 5 = .ok (.iload 4, 2) := by decide +kernel
theorem dX3_nthSpanning_7 : decode cX3_nthSpanning 7 = .ok (.aload_n 1, 1) := by decide +kernel
theorem dX3_nthSpanning_8 : decode cX3_nthSpanning 8 = .ok (.getfield 19, 3) := by decide +kernel
theorem dX3_nthSpanning_11 : decode cX3_nthSpanning 11 = .ok (.if_icmp .ge 33, 3) := by decide +kernel
theorem dX3_nthSpanning_14 : decode cX3_nthSpanning 14 = .ok (.iload_n 3, 1) := by decide +kernel
theorem dX3_nthSpanning_15 : decode cX3_nthSpanning 15 = .ok (.ifCond .lt 29, 3) := by decide +kernel
theorem dX3_nthSpanning_18 : decode cX3_nthSpanning 18 = .ok (.aload_n 0, 1) := by decide +kernel
theorem dX3_nthSpanning_19 : decode cX3_nthSpanning 19 = .ok (.aload_n 1, 1) := by decide +kernel
theorem dX3_nthSpanning_20 : decode cX3_nthSpanning 20 = .ok (.iload 4, 2) := by decide +kernel
theorem dX3_nthSpanning_22 : decode cX3_nthSpanning 22 = .ok (.invokevirtual 52, 3) := by decide +kernel
theorem dX3_nthSpanning_25 : decode cX3_nthSpanning 25 = .ok (.ifCond .eq 13, 3) := by decide +kernel
theorem dX3_nthSpanning_28 : decode cX3_nthSpanning 28 = .ok (.iload_n 3, 1) := by decide +kernel
theorem dX3_nthSpanning_29 : decode cX3_nthSpanning 29 = .ok (.ifCond .ne 6, 3) := by decide +kernel
theorem dX3_nthSpanning_32 : decode cX3_nthSpanning 32 = .ok (.iload 4, 2) := by decide +kernel
theorem dX3_nthSpanning_34 : decode cX3_nthSpanning 34 = .ok (.ireturn, 1) := by decide +kernel
theorem dX3_nthSpanning_35 : decode cX3_nthSpanning 35 = .ok (.iinc 3 (-1), 3) := by decide +kernel
theorem dX3_nthSpanning_38 : decode cX3_nthSpanning 38 = .ok (.iinc 4 1, 3) := by decide +kernel
theorem dX3_nthSpanning_41 : decode cX3_nthSpanning 41 = .ok (.goto (-36), 3) := by decide +kernel
theorem dX3_nthSpanning_44 : decode cX3_nthSpanning 44 = .ok (.iconst (-1), 1) := by decide +kernel
theorem dX3_nthSpanning_45 : decode cX3_nthSpanning 45 = .ok (.ireturn, 1) := by decide +kernel
theorem dX3_spanningFacets_0 : decode cX3_spanningFacets 0 = .ok (.iconst 0, 1) := by decide +kernel
theorem dX3_spanningFacets_1 : decode cX3_spanningFacets 1 = .ok (.istore_n 2, 1) := by decide +kernel
theorem dX3_spanningFacets_2 : decode cX3_spanningFacets 2 = .ok (.iconst 0, 1) := by decide +kernel
theorem dX3_spanningFacets_3 : decode cX3_spanningFacets 3 = .ok (.istore_n 3, 1) := by decide +kernel
theorem dX3_spanningFacets_4 : decode cX3_spanningFacets 4 = .ok (.iload_n 3, 1) := by decide +kernel
theorem dX3_spanningFacets_5 : decode cX3_spanningFacets 5 = .ok (.aload_n 1, 1) := by decide +kernel
theorem dX3_spanningFacets_6 : decode cX3_spanningFacets 6 = .ok (.getfield 19, 3) := by decide +kernel
theorem dX3_spanningFacets_9 : decode cX3_spanningFacets 9 = .ok (.if_icmp .ge 29, 3) := by decide +kernel
theorem dX3_spanningFacets_12 : decode cX3_spanningFacets 12 = .ok (.aload_n 0, 1) := by decide +kernel
theorem dX3_spanningFacets_13 : decode cX3_spanningFacets 13 = .ok (.aload_n 1, 1) := by decide +kernel
theorem dX3_spanningFacets_14 : decode cX3_spanningFacets 14 = .ok (.iload_n 3, 1) := by decide +kernel
theorem dX3_spanningFacets_15 : decode cX3_spanningFacets 15 = .ok (.invokevirtual 52, 3) := by decide +kernel
theorem dX3_spanningFacets_18 : decode cX3_spanningFacets 18 = .ok (.ifCond .eq 14, 3) := by decide +kernel
theorem dX3_spanningFacets_21 : decode cX3_spanningFacets 21 = .ok (.iload_n 2, 1) := by decide +kernel
theorem dX3_spanningFacets_22 : decode cX3_spanningFacets 22 = .ok (.iconst 1, 1) := by decide +kernel
theorem dX3_spanningFacets_23 : decode cX3_spanningFacets 23 = .ok (.aload_n 0, 1) := by decide +kernel
theorem dX3_spanningFacets_24 : decode cX3_spanningFacets 24 = .ok (.getfield 9, 3) := by decide +kernel
theorem dX3_spanningFacets_27 : decode cX3_spanningFacets 27 = .ok (.iload_n 3, 1) := by decide +kernel
theorem dX3_spanningFacets_28 : decode cX3_spanningFacets 28 = .ok (.iaload, 1) := by decide +kernel
theorem dX3_spanningFacets_29 : decode cX3_spanningFacets 29 = .ok (.ishl, 1) := by decide +kernel
theorem dX3_spanningFacets_30 : decode cX3_spanningFacets 30 = .ok (.ior, 1) := by decide +kernel
theorem dX3_spanningFacets_31 : decode cX3_spanningFacets 31 = .ok (.istore_n 2, 1) := by decide +kernel
theorem dX3_spanningFacets_32 : decode cX3_spanningFacets 32 = .ok (.iinc 3 1, 3) := by decide +kernel
theorem dX3_spanningFacets_35 : decode cX3_spanningFacets 35 = .ok (.goto (-31), 3) := by decide +kernel
theorem dX3_spanningFacets_38 : decode cX3_spanningFacets 38 = .ok (.iload_n 2, 1) := by decide +kernel
theorem dX3_spanningFacets_39 : decode cX3_spanningFacets 39 = .ok (.ireturn, 1) := by decide +kernel
theorem dX3_firstWith_0 : decode cX3_firstWith 0 = .ok (.iconst 0, 1) := by decide +kernel
theorem dX3_firstWith_1 : decode cX3_firstWith 1 = .ok (.istore_n 3, 1) := by decide +kernel
theorem dX3_firstWith_2 : decode cX3_firstWith 2 = .ok (.iload_n 3, 1) := by decide +kernel
theorem dX3_firstWith_3 : decode cX3_firstWith 3 = .ok (.aload_n 1, 1) := by decide +kernel
theorem dX3_firstWith_4 : decode cX3_firstWith 4 = .ok (.getfield 19, 3) := by decide +kernel
theorem dX3_firstWith_7 : decode cX3_firstWith 7 = .ok (.if_icmp .ge 30, 3) := by decide +kernel
theorem dX3_firstWith_10 : decode cX3_firstWith 10 = .ok (.aload_n 1, 1) := by decide +kernel
theorem dX3_firstWith_11 : decode cX3_firstWith 11 = .ok (.getfield 55, 3) := by decide +kernel
theorem dX3_firstWith_14 : decode cX3_firstWith 14 = .ok (.iload_n 2, 1) := by decide +kernel
theorem dX3_firstWith_15 : decode cX3_firstWith 15 = .ok (.iaload, 1) := by decide +kernel
theorem dX3_firstWith_16 : decode cX3_firstWith 16 = .ok (.aload_n 0, 1) := by decide +kernel
theorem dX3_firstWith_17 : decode cX3_firstWith 17 = .ok (.getfield 9, 3) := by decide +kernel
theorem dX3_firstWith_20 : decode cX3_firstWith 20 = .ok (.iload_n 3, 1) := by decide +kernel
theorem dX3_firstWith_21 : decode cX3_firstWith 21 = .ok (.iaload, 1) := by decide +kernel
theorem dX3_firstWith_22 : decode cX3_firstWith 22 = .ok (.ishr, 1) := by decide +kernel
theorem dX3_firstWith_23 : decode cX3_firstWith 23 = .ok (.iconst 1, 1) := by decide +kernel
theorem dX3_firstWith_24 : decode cX3_firstWith 24 = .ok (.iand, 1) := by decide +kernel
theorem dX3_firstWith_25 : decode cX3_firstWith 25 = .ok (.iconst 1, 1) := by decide +kernel
theorem dX3_firstWith_26 : decode cX3_firstWith 26 = .ok (.if_icmp .ne 5, 3) := by decide +kernel
theorem dX3_firstWith_29 : decode cX3_firstWith 29 = .ok (.iload_n 3, 1) := by decide +kernel
theorem dX3_firstWith_30 : decode cX3_firstWith 30 = .ok (.ireturn, 1) := by decide +kernel
theorem dX3_firstWith_31 : decode cX3_firstWith 31 = .ok (.iinc 3 1, 3) := by decide +kernel
theorem dX3_firstWith_34 : decode cX3_firstWith 34 = .ok (.goto (-32), 3) := by decide +kernel
theorem dX3_firstWith_37 : decode cX3_firstWith 37 = .ok (.bipush (-2), 2) := by decide +kernel
theorem dX3_firstWith_39 : decode cX3_firstWith 39 = .ok (.ireturn, 1) := by decide +kernel
theorem dX3_countBetween_0 : decode cX3_countBetween 0 = .ok (.iconst 0, 1) := by decide +kernel
theorem dX3_countBetween_1 : decode cX3_countBetween 1 = .ok (.istore_n 3, 1) := by decide +kernel
theorem dX3_countBetween_2 : decode cX3_countBetween 2 = .ok (.iconst 0, 1) := by decide +kernel
theorem dX3_countBetween_3 : decode cX3_countBetween 3 = .ok (.istore 4, 2) := by decide +kernel
theorem dX3_countBetween_5 : decode cX3_countBetween 5 = .ok (.iload 4, 2) := by decide +kernel
theorem dX3_countBetween_7 : decode cX3_countBetween 7 = .ok (.aload_n 1, 1) := by decide +kernel
theorem dX3_countBetween_8 : decode cX3_countBetween 8 = .ok (.getfield 19, 3) := by decide +kernel
theorem dX3_countBetween_11 : decode cX3_countBetween 11 = .ok (.if_icmp .ge 46, 3) := by decide +kernel
theorem dX3_countBetween_14 : decode cX3_countBetween 14 = .ok (.aload_n 1, 1) := by decide +kernel
theorem dX3_countBetween_15 : decode cX3_countBetween 15 = .ok (.getfield 55, 3) := by decide +kernel
theorem dX3_countBetween_18 : decode cX3_countBetween 18 = .ok (.iload_n 2, 1) := by decide +kernel
theorem dX3_countBetween_19 : decode cX3_countBetween 19 = .ok (.iaload, 1) := by decide +kernel
theorem dX3_countBetween_20 : decode cX3_countBetween 20 = .ok (.aload_n 0, 1) := by decide +kernel
theorem dX3_countBetween_21 : decode cX3_countBetween 21 = .ok (.getfield 9, 3) := by decide +kernel
theorem dX3_countBetween_24 : decode cX3_countBetween 24 = .ok (.iload 4, 2) := by decide +kernel
theorem dX3_countBetween_26 : decode cX3_countBetween 26 = .ok (.iaload, 1) := by decide +kernel
theorem dX3_countBetween_27 : decode cX3_countBetween 27 = .ok (.ishr, 1) := by decide +kernel
theorem dX3_countBetween_28 : decode cX3_countBetween 28 = .ok (.iconst 1, 1) := by decide +kernel
theorem dX3_countBetween_29 : decode cX3_countBetween 29 = .ok (.iand, 1) := by decide +kernel
theorem dX3_countBetween_30 : decode cX3_countBetween 30 = .ok (.iconst 1, 1) := by decide +kernel
theorem dX3_countBetween_31 : decode cX3_countBetween 31 = .ok (.if_icmp .ne 20, 3) := by decide +kernel
theorem dX3_countBetween_34 : decode cX3_countBetween 34 = .ok (.aload_n 0, 1) := by decide +kernel
theorem dX3_countBetween_35 : decode cX3_countBetween 35 = .ok (.aload_n 1, 1) := by decide +kernel
theorem dX3_countBetween_36 : decode cX3_countBetween 36 = .ok (.iload 4, 2) := by decide +kernel
theorem dX3_countBetween_38 : decode cX3_countBetween 38 = .ok (.invokevirtual 41, 3) := by decide +kernel
theorem dX3_countBetween_41 : decode cX3_countBetween 41 = .ok (.iload_n 2, 1) := by decide +kernel
theorem dX3_countBetween_42 : decode cX3_countBetween 42 = .ok (.iconst (-1), 1) := by decide +kernel
theorem dX3_countBetween_43 : decode cX3_countBetween 43 = .ok (.ixor, 1) := by decide +kernel
theorem dX3_countBetween_44 : decode cX3_countBetween 44 = .ok (.iand, 1) := by decide +kernel
theorem dX3_countBetween_45 : decode cX3_countBetween 45 = .ok (.ifCond .ne 6, 3) := by decide +kernel
theorem dX3_countBetween_48 : decode cX3_countBetween 48 = .ok (.iinc 3 1, 3) := by decide +kernel
theorem dX3_countBetween_51 : decode cX3_countBetween 51 = .ok (.iinc 4 1, 3) := by decide +kernel
theorem dX3_countBetween_54 : decode cX3_countBetween 54 = .ok (.goto (-49), 3) := by decide +kernel
theorem dX3_countBetween_57 : decode cX3_countBetween 57 = .ok (.iload_n 3, 1) := by decide +kernel
theorem dX3_countBetween_58 : decode cX3_countBetween 58 = .ok (.ireturn, 1) := by decide +kernel
theorem dX3_leapOver_0 : decode cX3_leapOver 0 = .ok (.aload_n 1, 1) := by decide +kernel
theorem dX3_leapOver_1 : decode cX3_leapOver 1 = .ok (.getfield 58, 3) := by decide +kernel
theorem dX3_leapOver_4 : decode cX3_leapOver 4 = .ok (.aload_n 0, 1) := by decide +kernel
theorem dX3_leapOver_5 : decode cX3_leapOver 5 = .ok (.getfield 9, 3) := by decide +kernel
theorem dX3_leapOver_8 : decode cX3_leapOver 8 = .ok (.iload_n 2, 1) := by decide +kernel
theorem dX3_leapOver_9 : decode cX3_leapOver 9 = .ok (.iaload, 1) := by decide +kernel
theorem dX3_leapOver_10 : decode cX3_leapOver 10 = .ok (.iaload, 1) := by decide +kernel
theorem dX3_leapOver_11 : decode cX3_leapOver 11 = .ok (.aload_n 1, 1) := by decide +kernel
theorem dX3_leapOver_12 : decode cX3_leapOver 12 = .ok (.getfield 58, 3) := by decide +kernel
theorem dX3_leapOver_15 : decode cX3_leapOver 15 = .ok (.aload_n 0, 1) := by decide +kernel
theorem dX3_leapOver_16 : decode cX3_leapOver 16 = .ok (.getfield 9, 3) := by decide +kernel
theorem dX3_leapOver_19 : decode cX3_leapOver 19 = .ok (.iload_n 3, 1) := by decide +kernel
theorem dX3_leapOver_20 : decode cX3_leapOver 20 = .ok (.iaload, 1) := by decide +kernel
theorem dX3_leapOver_21 : decode cX3_leapOver 21 = .ok (.iaload, 1) := by decide +kernel
theorem dX3_leapOver_22 : decode cX3_leapOver 22 = .ok (.iconst (-1), 1) := by decide +kernel
theorem dX3_leapOver_23 : decode cX3_leapOver 23 = .ok (.ixor, 1) := by decide +kernel
theorem dX3_leapOver_24 : decode cX3_leapOver 24 = .ok (.iand, 1) := by decide +kernel
theorem dX3_leapOver_25 : decode cX3_leapOver 25 = .ok (.ireturn, 1) := by decide +kernel
theorem dX3_isLeast_0 : decode cX3_isLeast 0 = .ok (.iconst 0, 1) := by decide +kernel
theorem dX3_isLeast_1 : decode cX3_isLeast 1 = .ok (.istore 4, 2) := by decide +kernel
theorem dX3_isLeast_3 : decode cX3_isLeast 3 = .ok (.iload 4, 2) := by decide +kernel
theorem dX3_isLeast_5 : decode cX3_isLeast 5 = .ok (.iload_n 2, 1) := by decide +kernel
theorem dX3_isLeast_6 : decode cX3_isLeast 6 = .ok (.if_icmp .ge 36, 3) := by decide +kernel
theorem dX3_isLeast_9 : decode cX3_isLeast 9 = .ok (.aload_n 0, 1) := by decide +kernel
theorem dX3_isLeast_10 : decode cX3_isLeast 10 = .ok (.aload_n 1, 1) := by decide +kernel
theorem dX3_isLeast_11 : decode cX3_isLeast 11 = .ok (.iload_n 2, 1) := by decide +kernel
theorem dX3_isLeast_12 : decode cX3_isLeast 12 = .ok (.iload 4, 2) := by decide +kernel
theorem dX3_isLeast_14 : decode cX3_isLeast 14 = .ok (.invokevirtual 61, 3) := by decide +kernel
theorem dX3_isLeast_17 : decode cX3_isLeast 17 = .ok (.istore 5, 2) := by decide +kernel
theorem dX3_isLeast_19 : decode cX3_isLeast 19 = .ok (.iload 5, 2) := by decide +kernel
theorem dX3_isLeast_21 : decode cX3_isLeast 21 = .ok (.iload_n 3, 1) := by decide +kernel
theorem dX3_isLeast_22 : decode cX3_isLeast 22 = .ok (.if_icmp .eq 14, 3) := by decide +kernel
theorem dX3_isLeast_25 : decode cX3_isLeast 25 = .ok (.iload 5, 2) := by decide +kernel
theorem dX3_isLeast_27 : decode cX3_isLeast 27 = .ok (.iload_n 3, 1) := by decide +kernel
theorem dX3_isLeast_28 : decode cX3_isLeast 28 = .ok (.iconst (-1), 1) := by decide +kernel
theorem dX3_isLeast_29 : decode cX3_isLeast 29 = .ok (.ixor, 1) := by decide +kernel
theorem dX3_isLeast_30 : decode cX3_isLeast 30 = .ok (.iand, 1) := by decide +kernel
theorem dX3_isLeast_31 : decode cX3_isLeast 31 = .ok (.ifCond .ne 5, 3) := by decide +kernel
theorem dX3_isLeast_34 : decode cX3_isLeast 34 = .ok (.iconst 0, 1) := by decide +kernel
theorem dX3_isLeast_35 : decode cX3_isLeast 35 = .ok (.ireturn, 1) := by decide +kernel
theorem dX3_isLeast_36 : decode cX3_isLeast 36 = .ok (.iinc 4 1, 3) := by decide +kernel
theorem dX3_isLeast_39 : decode cX3_isLeast 39 = .ok (.goto (-36), 3) := by decide +kernel
theorem dX3_isLeast_42 : decode cX3_isLeast 42 = .ok (.iconst 1, 1) := by decide +kernel
theorem dX3_isLeast_43 : decode cX3_isLeast 43 = .ok (.ireturn, 1) := by decide +kernel
theorem dX3_isLeap_0 : decode cX3_isLeap 0 = .ok (.iconst 0, 1) := by decide +kernel
theorem dX3_isLeap_1 : decode cX3_isLeap 1 = .ok (.istore 4, 2) := by decide +kernel
theorem dX3_isLeap_3 : decode cX3_isLeap 3 = .ok (.iload 4, 2) := by decide +kernel
theorem dX3_isLeap_5 : decode cX3_isLeap 5 = .ok (.iload_n 2, 1) := by decide +kernel
theorem dX3_isLeap_6 : decode cX3_isLeap 6 = .ok (.if_icmp .ge 23, 3) := by decide +kernel
theorem dX3_isLeap_9 : decode cX3_isLeap 9 = .ok (.aload_n 0, 1) := by decide +kernel
theorem dX3_isLeap_10 : decode cX3_isLeap 10 = .ok (.aload_n 1, 1) := by decide +kernel
theorem dX3_isLeap_11 : decode cX3_isLeap 11 = .ok (.iload_n 2, 1) := by decide +kernel
theorem dX3_isLeap_12 : decode cX3_isLeap 12 = .ok (.iload 4, 2) := by decide +kernel
theorem dX3_isLeap_14 : decode cX3_isLeap 14 = .ok (.invokevirtual 61, 3) := by decide +kernel
theorem dX3_isLeap_17 : decode cX3_isLeap 17 = .ok (.iload_n 3, 1) := by decide +kernel
theorem dX3_isLeap_18 : decode cX3_isLeap 18 = .ok (.if_icmp .ne 5, 3) := by decide +kernel
theorem dX3_isLeap_21 : decode cX3_isLeap 21 = .ok (.iconst 1, 1) := by decide +kernel
theorem dX3_isLeap_22 : decode cX3_isLeap 22 = .ok (.ireturn, 1) := by decide +kernel
theorem dX3_isLeap_23 : decode cX3_isLeap 23 = .ok (.iinc 4 1, 3) := by decide +kernel
theorem dX3_isLeap_26 : decode cX3_isLeap 26 = .ok (.goto (-23), 3) := by decide +kernel
theorem dX3_isLeap_29 : decode cX3_isLeap 29 = .ok (.iconst 0, 1) := by decide +kernel
theorem dX3_isLeap_30 : decode cX3_isLeap 30 = .ok (.ireturn, 1) := by decide +kernel
theorem dX3_nthLeap_0 : decode cX3_nthLeap 0 = .ok (.iload_n 3, 1) := by decide +kernel
theorem dX3_nthLeap_1 : decode cX3_nthLeap 1 = .ok (.istore 4, 2) := by decide +kernel
theorem dX3_nthLeap_3 : decode cX3_nthLeap 3 = .ok (.iconst 1, 1) := by decide +kernel
theorem dX3_nthLeap_4 : decode cX3_nthLeap 4 = .ok (.istore 5, 2) := by decide +kernel
theorem dX3_nthLeap_6 : decode cX3_nthLeap 6 = .ok (.iload 5, 2) := by decide +kernel
theorem dX3_nthLeap_8 : decode cX3_nthLeap 8 = .ok (.aload_n 1, 1) := by decide +kernel
theorem dX3_nthLeap_9 : decode cX3_nthLeap 9 = .ok (.invokevirtual 65, 3) := by decide +kernel
theorem dX3_nthLeap_12 : decode cX3_nthLeap 12 = .ok (.if_icmp .gt 47, 3) := by decide +kernel
theorem dX3_nthLeap_15 : decode cX3_nthLeap 15 = .ok (.iload 4, 2) := by decide +kernel
theorem dX3_nthLeap_17 : decode cX3_nthLeap 17 = .ok (.ifCond .lt 42, 3) := by decide +kernel
theorem dX3_nthLeap_20 : decode cX3_nthLeap 20 = .ok (.aload_n 0, 1) := by decide +kernel
theorem dX3_nthLeap_21 : decode cX3_nthLeap 21 = .ok (.aload_n 1, 1) := by decide +kernel
theorem dX3_nthLeap_22 : decode cX3_nthLeap 22 = .ok (.iload_n 2, 1) := by decide +kernel
theorem dX3_nthLeap_23 : decode cX3_nthLeap 23 = .ok (.iload 5, 2) := by decide +kernel
theorem dX3_nthLeap_25 : decode cX3_nthLeap 25 = .ok (.invokevirtual 69, 3) := by decide +kernel
theorem dX3_nthLeap_28 : decode cX3_nthLeap 28 = .ok (.ifCond .eq 25, 3) := by decide +kernel
theorem dX3_nthLeap_31 : decode cX3_nthLeap 31 = .ok (.aload_n 0, 1) := by decide +kernel
theorem dX3_nthLeap_32 : decode cX3_nthLeap 32 = .ok (.aload_n 1, 1) := by decide +kernel
theorem dX3_nthLeap_33 : decode cX3_nthLeap 33 = .ok (.iload_n 2, 1) := by decide +kernel
theorem dX3_nthLeap_34 : decode cX3_nthLeap 34 = .ok (.iload 5, 2) := by decide +kernel
theorem dX3_nthLeap_36 : decode cX3_nthLeap 36 = .ok (.invokevirtual 73, 3) := by decide +kernel
theorem dX3_nthLeap_39 : decode cX3_nthLeap 39 = .ok (.ifCond .eq 14, 3) := by decide +kernel
theorem dX3_nthLeap_42 : decode cX3_nthLeap 42 = .ok (.iload 4, 2) := by decide +kernel
theorem dX3_nthLeap_44 : decode cX3_nthLeap 44 = .ok (.ifCond .ne 6, 3) := by decide +kernel
theorem dX3_nthLeap_47 : decode cX3_nthLeap 47 = .ok (.iload 5, 2) := by decide +kernel
theorem dX3_nthLeap_49 : decode cX3_nthLeap 49 = .ok (.ireturn, 1) := by decide +kernel
theorem dX3_nthLeap_50 : decode cX3_nthLeap 50 = .ok (.iinc 4 (-1), 3) := by decide +kernel
theorem dX3_nthLeap_53 : decode cX3_nthLeap 53 = .ok (.iinc 5 1, 3) := by decide +kernel
theorem dX3_nthLeap_56 : decode cX3_nthLeap 56 = .ok (.goto (-50), 3) := by decide +kernel
theorem dX3_nthLeap_59 : decode cX3_nthLeap 59 = .ok (.iconst (-1), 1) := by decide +kernel
theorem dX3_nthLeap_60 : decode cX3_nthLeap 60 = .ok (.ireturn, 1) := by decide +kernel
theorem dX3_countLeaps_0 : decode cX3_countLeaps 0 = .ok (.iconst 0, 1) := by decide +kernel
theorem dX3_countLeaps_1 : decode cX3_countLeaps 1 = .ok (.istore_n 3, 1) := by decide +kernel
theorem dX3_countLeaps_2 : decode cX3_countLeaps 2 = .ok (.iconst 1, 1) := by decide +kernel
theorem dX3_countLeaps_3 : decode cX3_countLeaps 3 = .ok (.istore 4, 2) := by decide +kernel
theorem dX3_countLeaps_5 : decode cX3_countLeaps 5 = .ok (.iload 4, 2) := by decide +kernel
theorem dX3_countLeaps_7 : decode cX3_countLeaps 7 = .ok (.aload_n 1, 1) := by decide +kernel
theorem dX3_countLeaps_8 : decode cX3_countLeaps 8 = .ok (.invokevirtual 65, 3) := by decide +kernel
theorem dX3_countLeaps_11 : decode cX3_countLeaps 11 = .ok (.if_icmp .gt 34, 3) := by decide +kernel
theorem dX3_countLeaps_14 : decode cX3_countLeaps 14 = .ok (.aload_n 0, 1) := by decide +kernel
theorem dX3_countLeaps_15 : decode cX3_countLeaps 15 = .ok (.aload_n 1, 1) := by decide +kernel
theorem dX3_countLeaps_16 : decode cX3_countLeaps 16 = .ok (.iload_n 2, 1) := by decide +kernel
theorem dX3_countLeaps_17 : decode cX3_countLeaps 17 = .ok (.iload 4, 2) := by decide +kernel
theorem dX3_countLeaps_19 : decode cX3_countLeaps 19 = .ok (.invokevirtual 69, 3) := by decide +kernel
theorem dX3_countLeaps_22 : decode cX3_countLeaps 22 = .ok (.ifCond .eq 17, 3) := by decide +kernel
theorem dX3_countLeaps_25 : decode cX3_countLeaps 25 = .ok (.aload_n 0, 1) := by decide +kernel
theorem dX3_countLeaps_26 : decode cX3_countLeaps 26 = .ok (.aload_n 1, 1) := by decide +kernel
theorem dX3_countLeaps_27 : decode cX3_countLeaps 27 = .ok (.iload_n 2, 1) := by decide +kernel
theorem dX3_countLeaps_28 : decode cX3_countLeaps 28 = .ok (.iload 4, 2) := by decide +kernel
theorem dX3_countLeaps_30 : decode cX3_countLeaps 30 = .ok (.invokevirtual 73, 3) := by decide +kernel
theorem dX3_countLeaps_33 : decode cX3_countLeaps 33 = .ok (.ifCond .eq 6, 3) := by decide +kernel
theorem dX3_countLeaps_36 : decode cX3_countLeaps 36 = .ok (.iinc 3 1, 3) := by decide +kernel
theorem dX3_countLeaps_39 : decode cX3_countLeaps 39 = .ok (.iinc 4 1, 3) := by decide +kernel
theorem dX3_countLeaps_42 : decode cX3_countLeaps 42 = .ok (.goto (-37), 3) := by decide +kernel
theorem dX3_countLeaps_45 : decode cX3_countLeaps 45 = .ok (.iload_n 3, 1) := by decide +kernel
theorem dX3_countLeaps_46 : decode cX3_countLeaps 46 = .ok (.ireturn, 1) := by decide +kernel
theorem dX3_hasSingleLeaps_0 : decode cX3_hasSingleLeaps 0 = .ok (.iconst 0, 1) := by decide +kernel
theorem dX3_hasSingleLeaps_1 : decode cX3_hasSingleLeaps 1 = .ok (.istore_n 3, 1) := by decide +kernel
theorem dX3_hasSingleLeaps_2 : decode cX3_hasSingleLeaps 2 = .ok (.iload_n 3, 1) := by decide +kernel
theorem dX3_hasSingleLeaps_3 : decode cX3_hasSingleLeaps 3 = .ok (.iload_n 2, 1) := by decide +kernel
theorem dX3_hasSingleLeaps_4 : decode cX3_hasSingleLeaps 4 = .ok (.if_icmp .ge 40, 3) := by decide +kernel
theorem dX3_hasSingleLeaps_7 : decode cX3_hasSingleLeaps 7 = .ok (.aload_n 0, 1) := by decide +kernel
theorem dX3_hasSingleLeaps_8 : decode cX3_hasSingleLeaps 8 = .ok (.aload_n 1, 1) := by decide +kernel
theorem dX3_hasSingleLeaps_9 : decode cX3_hasSingleLeaps 9 = .ok (.iload_n 2, 1) := by decide +kernel
theorem dX3_hasSingleLeaps_10 : decode cX3_hasSingleLeaps 10 = .ok (.iload_n 3, 1) := by decide +kernel
theorem dX3_hasSingleLeaps_11 : decode cX3_hasSingleLeaps 11 = .ok (.invokevirtual 61, 3) := by decide +kernel
theorem dX3_hasSingleLeaps_14 : decode cX3_hasSingleLeaps 14 = .ok (.istore 4, 2) := by decide +kernel
theorem dX3_hasSingleLeaps_16 : decode cX3_hasSingleLeaps 16 = .ok (.iload 4, 2) := by decide +kernel
theorem dX3_hasSingleLeaps_18 : decode cX3_hasSingleLeaps 18 = .ok (.invokestatic 44, 3) := by decide +kernel
theorem dX3_hasSingleLeaps_21 : decode cX3_hasSingleLeaps 21 = .ok (.iconst 1, 1) := by decide +kernel
theorem dX3_hasSingleLeaps_22 : decode cX3_hasSingleLeaps 22 = .ok (.if_icmp .eq 16, 3) := by decide +kernel
theorem dX3_hasSingleLeaps_25 : decode cX3_hasSingleLeaps 25 = .ok (.aload_n 0, 1) := by decide +kernel
theorem dX3_hasSingleLeaps_26 : decode cX3_hasSingleLeaps 26 = .ok (.aload_n 1, 1) := by decide +kernel
theorem dX3_hasSingleLeaps_27 : decode cX3_hasSingleLeaps 27 = .ok (.iload_n 2, 1) := by decide +kernel
theorem dX3_hasSingleLeaps_28 : decode cX3_hasSingleLeaps 28 = .ok (.iload 4, 2) := by decide +kernel
theorem dX3_hasSingleLeaps_30 : decode cX3_hasSingleLeaps 30 = .ok (.invokevirtual 73, 3) := by decide +kernel
theorem dX3_hasSingleLeaps_33 : decode cX3_hasSingleLeaps 33 = .ok (.ifCond .eq 5, 3) := by decide +kernel
theorem dX3_hasSingleLeaps_36 : decode cX3_hasSingleLeaps 36 = .ok (.iconst 0, 1) := by decide +kernel
theorem dX3_hasSingleLeaps_37 : decode cX3_hasSingleLeaps 37 = .ok (.ireturn, 1) := by decide +kernel
theorem dX3_hasSingleLeaps_38 : decode cX3_hasSingleLeaps 38 = .ok (.iinc 3 1, 3) := by decide +kernel
theorem dX3_hasSingleLeaps_41 : decode cX3_hasSingleLeaps 41 = .ok (.goto (-39), 3) := by decide +kernel
theorem dX3_hasSingleLeaps_44 : decode cX3_hasSingleLeaps 44 = .ok (.iconst 1, 1) := by decide +kernel
theorem dX3_hasSingleLeaps_45 : decode cX3_hasSingleLeaps 45 = .ok (.ireturn, 1) := by decide +kernel
theorem dX4_init_0 : decode cX4_init 0 = .ok (.aload_n 0, 1) := by decide +kernel
theorem dX4_init_1 : decode cX4_init 1 = .ok (.invokespecial 3, 3) := by decide +kernel
theorem dX4_init_4 : decode cX4_init 4 = .ok (.aload_n 0, 1) := by decide +kernel
theorem dX4_init_5 : decode cX4_init 5 = .ok (.sipush 128, 3) := by decide +kernel
theorem dX4_init_8 : decode cX4_init 8 = .ok (.newarray .int, 2) := by decide +kernel
theorem dX4_init_10 : decode cX4_init 10 = .ok (.putfield 9, 3) := by decide +kernel
theorem dX4_init_13 : decode cX4_init 13 = .ok (.aload_n 0, 1) := by decide +kernel
theorem dX4_init_14 : decode cX4_init 14 = .ok (.sipush 128, 3) := by decide +kernel
theorem dX4_init_17 : decode cX4_init 17 = .ok (.newarray .int, 2) := by decide +kernel
theorem dX4_init_19 : decode cX4_init 19 = .ok (.putfield 15, 3) := by decide +kernel
theorem dX4_init_22 : decode cX4_init 22 = .ok (.return_, 1) := by decide +kernel
theorem dX4_begin_0 : decode cX4_begin 0 = .ok (.aload_n 0, 1) := by decide +kernel
theorem dX4_begin_1 : decode cX4_begin 1 = .ok (.getfield 18, 3) := by decide +kernel
theorem dX4_begin_4 : decode cX4_begin 4 = .ok (.ifCond .ne 39, 3) := by decide +kernel
theorem dX4_begin_7 : decode cX4_begin 7 = .ok (.iconst 0, 1) := by decide +kernel
theorem dX4_begin_8 : decode cX4_begin 8 = .ok (.istore_n 1, 1) := by decide +kernel
theorem dX4_begin_9 : decode cX4_begin 9 = .ok (.iload_n 1, 1) := by decide +kernel
theorem dX4_begin_10 : decode cX4_begin 10 = .ok (.aload_n 0, 1) := by decide +kernel
theorem dX4_begin_11 : decode cX4_begin 11 = .ok (.getfield 9, 3) := by decide +kernel
theorem dX4_begin_14 : decode cX4_begin 14 = .ok (.arraylength, 1) := by decide +kernel
theorem dX4_begin_15 : decode cX4_begin 15 = .ok (.if_icmp .ge 23, 3) := by decide +kernel
theorem dX4_begin_18 : decode cX4_begin 18 = .ok (.aload_n 0, 1) := by decide +kernel
theorem dX4_begin_19 : decode cX4_begin 19 = .ok (.getfield 9, 3) := by decide +kernel
theorem dX4_begin_22 : decode cX4_begin 22 = .ok (.iload_n 1, 1) := by decide +kernel
theorem dX4_begin_23 : decode cX4_begin 23 = .ok (.iconst 0, 1) := by decide +kernel
theorem dX4_begin_24 : decode cX4_begin 24 = .ok (.iastore, 1) := by decide +kernel
theorem dX4_begin_25 : decode cX4_begin 25 = .ok (.aload_n 0, 1) := by decide +kernel
theorem dX4_begin_26 : decode cX4_begin 26 = .ok (.getfield 15, 3) := by decide +kernel
theorem dX4_begin_29 : decode cX4_begin 29 = .ok (.iload_n 1, 1) := by decide +kernel
theorem dX4_begin_30 : decode cX4_begin 30 = .ok (.iconst 0, 1) := by decide +kernel
theorem dX4_begin_31 : decode cX4_begin 31 = .ok (.iastore, 1) := by decide +kernel
theorem dX4_begin_32 : decode cX4_begin 32 = .ok (.iinc 1 1, 3) := by decide +kernel
theorem dX4_begin_35 : decode cX4_begin 35 = .ok (.goto (-26), 3) := by decide +kernel
theorem dX4_begin_38 : decode cX4_begin 38 = .ok (.aload_n 0, 1) := by decide +kernel
theorem dX4_begin_39 : decode cX4_begin 39 = .ok (.iconst 1, 1) := by decide +kernel
theorem dX4_begin_40 : decode cX4_begin 40 = .ok (.putfield 18, 3) := by decide +kernel
theorem dX4_begin_43 : decode cX4_begin 43 = .ok (.return_, 1) := by decide +kernel
theorem dX4_falls_0 : decode cX4_falls 0 = .ok (.iload_n 2, 1) := by decide +kernel
theorem dX4_falls_1 : decode cX4_falls 1 = .ok (.invokestatic 22, 3) := by decide +kernel
theorem dX4_falls_4 : decode cX4_falls 4 = .ok (.iconst 1, 1) := by decide +kernel
theorem dX4_falls_5 : decode cX4_falls 5 = .ok (.if_icmp .ne 5, 3) := by decide +kernel
theorem dX4_falls_8 : decode cX4_falls 8 = .ok (.iconst 1, 1) := by decide +kernel
theorem dX4_falls_9 : decode cX4_falls 9 = .ok (.ireturn, 1) := by decide +kernel
theorem dX4_falls_10 : decode cX4_falls 10 = .ok (.iload_n 2, 1) := by decide +kernel
theorem dX4_falls_11 : decode cX4_falls 11 = .ok (.iconst 5, 1) := by decide +kernel
theorem dX4_falls_12 : decode cX4_falls 12 = .ok (.ishr, 1) := by decide +kernel
theorem dX4_falls_13 : decode cX4_falls 13 = .ok (.istore 4, 2) := by decide +kernel
theorem dX4_falls_15 : decode cX4_falls 15 = .ok (.iconst 1, 1) := by decide +kernel
theorem dX4_falls_16 : decode cX4_falls 16 = .ok (.iload_n 2, 1) := by decide +kernel
theorem dX4_falls_17 : decode cX4_falls 17 = .ok (.bipush 31, 2) := by decide +kernel
theorem dX4_falls_19 : decode cX4_falls 19 = .ok (.iand, 1) := by decide +kernel
theorem dX4_falls_20 : decode cX4_falls 20 = .ok (.ishl, 1) := by decide +kernel
theorem dX4_falls_21 : decode cX4_falls 21 = .ok (.istore 5, 2) := by decide +kernel
theorem dX4_falls_23 : decode cX4_falls 23 = .ok (.aload_n 0, 1) := by decide +kernel
theorem dX4_falls_24 : decode cX4_falls 24 = .ok (.getfield 9, 3) := by decide +kernel
theorem dX4_falls_27 : decode cX4_falls 27 = .ok (.iload 4, 2) := by decide +kernel
theorem dX4_falls_29 : decode cX4_falls 29 = .ok (.iaload, 1) := by decide +kernel
theorem dX4_falls_30 : decode cX4_falls 30 = .ok (.iload 5, 2) := by decide +kernel
theorem dX4_falls_32 : decode cX4_falls 32 = .ok (.iand, 1) := by decide +kernel
theorem dX4_falls_33 : decode cX4_falls 33 = .ok (.ifCond .ne 37, 3) := by decide +kernel
theorem dX4_falls_36 : decode cX4_falls 36 = .ok (.aload_n 0, 1) := by decide +kernel
theorem dX4_falls_37 : decode cX4_falls 37 = .ok (.getfield 9, 3) := by decide +kernel
theorem dX4_falls_40 : decode cX4_falls 40 = .ok (.iload 4, 2) := by decide +kernel
theorem dX4_falls_42 : decode cX4_falls 42 = .ok (.dup2, 1) := by decide +kernel
theorem dX4_falls_43 : decode cX4_falls 43 = .ok (.iaload, 1) := by decide +kernel
theorem dX4_falls_44 : decode cX4_falls 44 = .ok (.iload 5, 2) := by decide +kernel
theorem dX4_falls_46 : decode cX4_falls 46 = .ok (.ior, 1) := by decide +kernel
theorem dX4_falls_47 : decode cX4_falls 47 = .ok (.iastore, 1) := by decide +kernel
theorem dX4_falls_48 : decode cX4_falls 48 = .ok (.aload_n 0, 1) := by decide +kernel
theorem dX4_falls_49 : decode cX4_falls 49 = .ok (.aload_n 1, 1) := by decide +kernel
theorem dX4_falls_50 : decode cX4_falls 50 = .ok (.iload_n 2, 1) := by decide +kernel
theorem dX4_falls_51 : decode cX4_falls 51 = .ok (.iload_n 3, 1) := by decide +kernel
theorem dX4_falls_52 : decode cX4_falls 52 = .ok (.invokevirtual 28, 3) := by decide +kernel
theorem dX4_falls_55 : decode cX4_falls 55 = .ok (.ifCond .lt 15, 3) := by decide +kernel
theorem dX4_falls_58 : decode cX4_falls 58 = .ok (.aload_n 0, 1) := by decide +kernel
theorem dX4_falls_59 : decode cX4_falls 59 = .ok (.getfield 15, 3) := by decide +kernel
theorem dX4_falls_62 : decode cX4_falls 62 = .ok (.iload 4, 2) := by decide +kernel
theorem dX4_falls_64 : decode cX4_falls 64 = .ok (.dup2, 1) := by decide +kernel
theorem dX4_falls_65 : decode cX4_falls 65 = .ok (.iaload, 1) := by decide +kernel
theorem dX4_falls_66 : decode cX4_falls 66 = .ok (.iload 5, 2) := by decide +kernel
theorem dX4_falls_68 : decode cX4_falls 68 = .ok (.ior, 1) := by decide +kernel
theorem dX4_falls_69 : decode cX4_falls 69 = .ok (.iastore, 1) := by decide +kernel
theorem dX4_falls_70 : decode cX4_falls 70 = .ok (.aload_n 0, 1) := by decide +kernel
theorem dX4_falls_71 : decode cX4_falls 71 = .ok (.getfield 15, 3) := by decide +kernel
theorem dX4_falls_74 : decode cX4_falls 74 = .ok (.iload 4, 2) := by decide +kernel
theorem dX4_falls_76 : decode cX4_falls 76 = .ok (.iaload, 1) := by decide +kernel
theorem dX4_falls_77 : decode cX4_falls 77 = .ok (.iload 5, 2) := by decide +kernel
theorem dX4_falls_79 : decode cX4_falls 79 = .ok (.iand, 1) := by decide +kernel
theorem dX4_falls_80 : decode cX4_falls 80 = .ok (.ifCond .eq 7, 3) := by decide +kernel
theorem dX4_falls_83 : decode cX4_falls 83 = .ok (.iconst 1, 1) := by decide +kernel
theorem dX4_falls_84 : decode cX4_falls 84 = .ok (.goto 4, 3) := by decide +kernel
theorem dX4_falls_87 : decode cX4_falls 87 = .ok (.iconst 0, 1) := by decide +kernel
theorem dX4_falls_88 : decode cX4_falls 88 = .ok (.ireturn, 1) := by decide +kernel
theorem dX4_leastPoint_0 : decode cX4_leastPoint 0 = .ok (.iload_n 3, 1) := by decide +kernel
theorem dX4_leastPoint_1 : decode cX4_leastPoint 1 = .ok (.bipush 7, 2) := by decide +kernel
theorem dX4_leastPoint_3 : decode cX4_leastPoint 3 = .ok (.if_icmp .le 6, 3) := by decide +kernel
theorem dX4_leastPoint_6 : decode cX4_leastPoint 6 = .ok (.bipush (-2), 2) := by decide +kernel
theorem dX4_leastPoint_8 : decode cX4_leastPoint 8 = .ok (.ireturn, 1) := by decide +kernel
theorem dX4_leastPoint_9 : decode cX4_leastPoint 9 = .ok (.iconst 0, 1) := by decide +kernel
theorem dX4_leastPoint_10 : decode cX4_leastPoint 10 = .ok (.istore 4, 2) := by decide +kernel
theorem dX4_leastPoint_12 : decode cX4_leastPoint 12 = .ok (.iload 4, 2) := by decide +kernel
theorem dX4_leastPoint_14 : decode cX4_leastPoint 14 = .ok (.aload_n 1, 1) := by decide +kernel
theorem dX4_leastPoint_15 : decode cX4_leastPoint 15 = .ok (.getfield 32, 3) := by decide +kernel
theorem dX4_leastPoint_18 : decode cX4_leastPoint 18 = .ok (.if_icmp .ge 64, 3) := by decide +kernel
theorem dX4_leastPoint_21 : decode cX4_leastPoint 21 = .ok (.aload_n 1, 1) := by decide +kernel
theorem dX4_leastPoint_22 : decode cX4_leastPoint 22 = .ok (.iload_n 2, 1) := by decide +kernel
theorem dX4_leastPoint_23 : decode cX4_leastPoint 23 = .ok (.iload 4, 2) := by decide +kernel
theorem dX4_leastPoint_25 : decode cX4_leastPoint 25 = .ok (.invokevirtual 38, 3) := by decide +kernel
theorem dX4_leastPoint_28 : decode cX4_leastPoint 28 = .ok (.ifCond .eq 48, 3) := by decide +kernel
theorem dX4_leastPoint_31 : decode cX4_leastPoint 31 = .ok (.aload_n 0, 1) := by decide +kernel
theorem dX4_leastPoint_32 : decode cX4_leastPoint 32 = .ok (.aload_n 1, 1) := by decide +kernel
theorem dX4_leastPoint_33 : decode cX4_leastPoint 33 = .ok (.iload_n 2, 1) := by decide +kernel
theorem dX4_leastPoint_34 : decode cX4_leastPoint 34 = .ok (.aload_n 1, 1) := by decide +kernel
theorem dX4_leastPoint_35 : decode cX4_leastPoint 35 = .ok (.getfield 42, 3) := by decide +kernel
theorem dX4_leastPoint_38 : decode cX4_leastPoint 38 = .ok (.iload 4, 2) := by decide +kernel
theorem dX4_leastPoint_40 : decode cX4_leastPoint 40 = .ok (.iaload, 1) := by decide +kernel
theorem dX4_leastPoint_41 : decode cX4_leastPoint 41 = .ok (.iand, 1) := by decide +kernel
theorem dX4_leastPoint_42 : decode cX4_leastPoint 42 = .ok (.iload_n 3, 1) := by decide +kernel
theorem dX4_leastPoint_43 : decode cX4_leastPoint 43 = .ok (.iconst 1, 1) := by decide +kernel
theorem dX4_leastPoint_44 : decode cX4_leastPoint 44 = .ok (.iadd, 1) := by decide +kernel
theorem dX4_leastPoint_45 : decode cX4_leastPoint 45 = .ok (.invokevirtual 45, 3) := by decide +kernel
theorem dX4_leastPoint_48 : decode cX4_leastPoint 48 = .ok (.ifCond .eq 28, 3) := by decide +kernel
theorem dX4_leastPoint_51 : decode cX4_leastPoint 51 = .ok (.aload_n 0, 1) := by decide +kernel
theorem dX4_leastPoint_52 : decode cX4_leastPoint 52 = .ok (.aload_n 1, 1) := by decide +kernel
theorem dX4_leastPoint_53 : decode cX4_leastPoint 53 = .ok (.iload_n 2, 1) := by decide +kernel
theorem dX4_leastPoint_54 : decode cX4_leastPoint 54 = .ok (.aload_n 1, 1) := by decide +kernel
theorem dX4_leastPoint_55 : decode cX4_leastPoint 55 = .ok (.getfield 42, 3) := by decide +kernel
theorem dX4_leastPoint_58 : decode cX4_leastPoint 58 = .ok (.iload 4, 2) := by decide +kernel
theorem dX4_leastPoint_60 : decode cX4_leastPoint 60 = .ok (.iaload, 1) := by decide +kernel
theorem dX4_leastPoint_61 : decode cX4_leastPoint 61 = .ok (.iconst (-1), 1) := by decide +kernel
theorem dX4_leastPoint_62 : decode cX4_leastPoint 62 = .ok (.ixor, 1) := by decide +kernel
theorem dX4_leastPoint_63 : decode cX4_leastPoint 63 = .ok (.iand, 1) := by decide +kernel
theorem dX4_leastPoint_64 : decode cX4_leastPoint 64 = .ok (.iload_n 3, 1) := by decide +kernel
theorem dX4_leastPoint_65 : decode cX4_leastPoint 65 = .ok (.iconst 1, 1) := by decide +kernel
theorem dX4_leastPoint_66 : decode cX4_leastPoint 66 = .ok (.iadd, 1) := by decide +kernel
theorem dX4_leastPoint_67 : decode cX4_leastPoint 67 = .ok (.invokevirtual 45, 3) := by decide +kernel
theorem dX4_leastPoint_70 : decode cX4_leastPoint 70 = .ok (.ifCond .eq 6, 3) := by decide +kernel
theorem dX4_leastPoint_73 : decode cX4_leastPoint 73 = .ok (.iload 4, 2) := by decide +kernel
theorem dX4_leastPoint_75 : decode cX4_leastPoint 75 = .ok (.ireturn, 1) := by decide +kernel
theorem dX4_leastPoint_76 : decode cX4_leastPoint 76 = .ok (.iinc 4 1, 3) := by decide +kernel
theorem dX4_leastPoint_79 : decode cX4_leastPoint 79 = .ok (.goto (-67), 3) := by decide +kernel
theorem dX4_leastPoint_82 : decode cX4_leastPoint 82 = .ok (.bipush (-2), 2) := by decide +kernel
theorem dX4_leastPoint_84 : decode cX4_leastPoint 84 = .ok (.ireturn, 1) := by decide +kernel
theorem dX5_init_0 : decode cX5_init 0 = .ok (.aload_n 0, 1) := by decide +kernel
theorem dX5_init_1 : decode cX5_init 1 = .ok (.invokespecial 3, 3) := by decide +kernel
theorem dX5_init_4 : decode cX5_init 4 = .ok (.aload_n 0, 1) := by decide +kernel
theorem dX5_init_5 : decode cX5_init 5 = .ok (.sipush 200, 3) := by decide +kernel
theorem dX5_init_8 : decode cX5_init 8 = .ok (.newarray .int, 2) := by decide +kernel
theorem dX5_init_10 : decode cX5_init 10 = .ok (.putfield 11, 3) := by decide +kernel
theorem dX5_init_13 : decode cX5_init 13 = .ok (.aload_n 0, 1) := by decide +kernel
theorem dX5_init_14 : decode cX5_init 14 = .ok (.bipush 12, 2) := by decide +kernel
theorem dX5_init_16 : decode cX5_init 16 = .ok (.newarray .int, 2) := by decide +kernel
theorem dX5_init_18 : decode cX5_init 18 = .ok (.putfield 15, 3) := by decide +kernel
theorem dX5_init_21 : decode cX5_init 21 = .ok (.return_, 1) := by decide +kernel
theorem dX5_hasRoom_0 : decode cX5_hasRoom 0 = .ok (.aload_n 0, 1) := by decide +kernel
theorem dX5_hasRoom_1 : decode cX5_hasRoom 1 = .ok (.getfield 18, 3) := by decide +kernel
theorem dX5_hasRoom_4 : decode cX5_hasRoom 4 = .ok (.bipush 20, 2) := by decide +kernel
theorem dX5_hasRoom_6 : decode cX5_hasRoom 6 = .ok (.iadd, 1) := by decide +kernel
theorem dX5_hasRoom_7 : decode cX5_hasRoom 7 = .ok (.sipush 200, 3) := by decide +kernel
theorem dX5_hasRoom_10 : decode cX5_hasRoom 10 = .ok (.if_icmp .gt 7, 3) := by decide +kernel
theorem dX5_hasRoom_13 : decode cX5_hasRoom 13 = .ok (.iconst 1, 1) := by decide +kernel
theorem dX5_hasRoom_14 : decode cX5_hasRoom 14 = .ok (.goto 4, 3) := by decide +kernel
theorem dX5_hasRoom_17 : decode cX5_hasRoom 17 = .ok (.iconst 0, 1) := by decide +kernel
theorem dX5_hasRoom_18 : decode cX5_hasRoom 18 = .ok (.ireturn, 1) := by decide +kernel
theorem dX5_takeFour_0 : decode cX5_takeFour 0 = .ok (.bipush 24, 2) := by decide +kernel
theorem dX5_takeFour_2 : decode cX5_takeFour 2 = .ok (.istore_n 2, 1) := by decide +kernel
theorem dX5_takeFour_3 : decode cX5_takeFour 3 = .ok (.iload_n 2, 1) := by decide +kernel
theorem dX5_takeFour_4 : decode cX5_takeFour 4 = .ok (.ifCond .lt 45, 3) := by decide +kernel
theorem dX5_takeFour_7 : decode cX5_takeFour 7 = .ok (.aload_n 0, 1) := by decide +kernel
theorem dX5_takeFour_8 : decode cX5_takeFour 8 = .ok (.getfield 18, 3) := by decide +kernel
theorem dX5_takeFour_11 : decode cX5_takeFour 11 = .ok (.sipush 200, 3) := by decide +kernel
theorem dX5_takeFour_14 : decode cX5_takeFour 14 = .ok (.if_icmp .ge 29, 3) := by decide +kernel
theorem dX5_takeFour_17 : decode cX5_takeFour 17 = .ok (.aload_n 0, 1) := by decide +kernel
theorem dX5_takeFour_18 : decode cX5_takeFour 18 = .ok (.getfield 11, 3) := by decide +kernel
theorem dX5_takeFour_21 : decode cX5_takeFour 21 = .ok (.aload_n 0, 1) := by decide +kernel
theorem dX5_takeFour_22 : decode cX5_takeFour 22 = .ok (.getfield 18, 3) := by decide +kernel
theorem dX5_takeFour_25 : decode cX5_takeFour 25 = .ok (.iload_n 1, 1) := by decide +kernel
theorem dX5_takeFour_26 : decode cX5_takeFour 26 = .ok (.iload_n 2, 1) := by decide +kernel
theorem dX5_takeFour_27 : decode cX5_takeFour 27 = .ok (.iushr, 1) := by decide +kernel
theorem dX5_takeFour_28 : decode cX5_takeFour 28 = .ok (.sipush 255, 3) := by decide +kernel
theorem dX5_takeFour_31 : decode cX5_takeFour 31 = .ok (.iand, 1) := by decide +kernel
theorem dX5_takeFour_32 : decode cX5_takeFour 32 = .ok (.iastore, 1) := by decide +kernel
theorem dX5_takeFour_33 : decode cX5_takeFour 33 = .ok (.aload_n 0, 1) := by decide +kernel
theorem dX5_takeFour_34 : decode cX5_takeFour 34 = .ok (.dup, 1) := by decide +kernel
theorem dX5_takeFour_35 : decode cX5_takeFour 35 = .ok (.getfield 18, 3) := by decide +kernel
theorem dX5_takeFour_38 : decode cX5_takeFour 38 = .ok (.iconst 1, 1) := by decide +kernel
theorem dX5_takeFour_39 : decode cX5_takeFour 39 = .ok (.iadd, 1) := by decide +kernel
theorem dX5_takeFour_40 : decode cX5_takeFour 40 = .ok (.putfield 18, 3) := by decide +kernel
theorem dX5_takeFour_43 : decode cX5_takeFour 43 = .ok (.iinc 2 (-8), 3) := by decide +kernel
theorem dX5_takeFour_46 : decode cX5_takeFour 46 = .ok (.goto (-43), 3) := by decide +kernel
theorem dX5_takeFour_49 : decode cX5_takeFour 49 = .ok (.return_, 1) := by decide +kernel
theorem dX5_readAll_0 : decode cX5_readAll 0 = .ok (.aload_n 0, 1) := by decide +kernel
theorem dX5_readAll_1 : decode cX5_readAll 1 = .ok (.iconst 0, 1) := by decide +kernel
theorem dX5_readAll_2 : decode cX5_readAll 2 = .ok (.iload_n 1, 1) := by decide +kernel
theorem dX5_readAll_3 : decode cX5_readAll 3 = .ok (.aload_n 0, 1) := by decide +kernel
theorem dX5_readAll_4 : decode cX5_readAll 4 = .ok (.getfield 18, 3) := by decide +kernel
theorem dX5_readAll_7 : decode cX5_readAll 7 = .ok (.invokestatic 22, 3) := by decide +kernel
theorem dX5_readAll_10 : decode cX5_readAll 10 = .ok (.invokestatic 28, 3) := by decide +kernel
theorem dX5_readAll_13 : decode cX5_readAll 13 = .ok (.putfield 31, 3) := by decide +kernel
theorem dX5_readAll_16 : decode cX5_readAll 16 = .ok (.aload_n 0, 1) := by decide +kernel
theorem dX5_readAll_17 : decode cX5_readAll 17 = .ok (.iconst 0, 1) := by decide +kernel
theorem dX5_readAll_18 : decode cX5_readAll 18 = .ok (.putfield 34, 3) := by decide +kernel
theorem dX5_readAll_21 : decode cX5_readAll 21 = .ok (.aload_n 0, 1) := by decide +kernel
theorem dX5_readAll_22 : decode cX5_readAll 22 = .ok (.iconst 0, 1) := by decide +kernel
theorem dX5_readAll_23 : decode cX5_readAll 23 = .ok (.putfield 18, 3) := by decide +kernel
theorem dX5_readAll_26 : decode cX5_readAll 26 = .ok (.aload_n 0, 1) := by decide +kernel
theorem dX5_readAll_27 : decode cX5_readAll 27 = .ok (.iconst 0, 1) := by decide +kernel
theorem dX5_readAll_28 : decode cX5_readAll 28 = .ok (.putfield 37, 3) := by decide +kernel
theorem dX5_readAll_31 : decode cX5_readAll 31 = .ok (.aload_n 0, 1) := by decide +kernel
theorem dX5_readAll_32 : decode cX5_readAll 32 = .ok (.iconst (-1), 1) := by decide +kernel
theorem dX5_readAll_33 : decode cX5_readAll 33 = .ok (.putfield 40, 3) := by decide +kernel
theorem dX5_readAll_36 : decode cX5_readAll 36 = .ok (.aload_n 0, 1) := by decide +kernel
theorem dX5_readAll_37 : decode cX5_readAll 37 = .ok (.iconst 0, 1) := by decide +kernel
theorem dX5_readAll_38 : decode cX5_readAll 38 = .ok (.putfield 43, 3) := by decide +kernel
theorem dX5_readAll_41 : decode cX5_readAll 41 = .ok (.aload_n 0, 1) := by decide +kernel
theorem dX5_readAll_42 : decode cX5_readAll 42 = .ok (.iconst 0, 1) := by decide +kernel
theorem dX5_readAll_43 : decode cX5_readAll 43 = .ok (.putfield 46, 3) := by decide +kernel
theorem dX5_readAll_46 : decode cX5_readAll 46 = .ok (.aload_n 0, 1) := by decide +kernel
theorem dX5_readAll_47 : decode cX5_readAll 47 = .ok (.iconst 0, 1) := by decide +kernel
theorem dX5_readAll_48 : decode cX5_readAll 48 = .ok (.putfield 49, 3) := by decide +kernel
theorem dX5_readAll_51 : decode cX5_readAll 51 = .ok (.iconst 0, 1) := by decide +kernel
theorem dX5_readAll_52 : decode cX5_readAll 52 = .ok (.istore_n 2, 1) := by decide +kernel
theorem dX5_readAll_53 : decode cX5_readAll 53 = .ok (.iload_n 2, 1) := by decide +kernel
theorem dX5_readAll_54 : decode cX5_readAll 54 = .ok (.sipush 200, 3) := by decide +kernel
theorem dX5_readAll_57 : decode cX5_readAll 57 = .ok (.if_icmp .gt 65, 3) := by decide +kernel
theorem dX5_readAll_60 : decode cX5_readAll 60 = .ok (.aload_n 0, 1) := by decide +kernel
theorem dX5_readAll_61 : decode cX5_readAll 61 = .ok (.invokevirtual 52, 3) := by decide +kernel
theorem dX5_readAll_64 : decode cX5_readAll 64 = .ok (.ifCond .ne 5, 3) := by decide +kernel
theorem dX5_readAll_67 : decode cX5_readAll 67 = .ok (.iconst 0, 1) := by decide +kernel
theorem dX5_readAll_68 : decode cX5_readAll 68 = .ok (.ireturn, 1) := by decide +kernel
theorem dX5_readAll_69 : decode cX5_readAll 69 = .ok (.aload_n 0, 1) := by decide +kernel
theorem dX5_readAll_70 : decode cX5_readAll 70 = .ok (.invokevirtual 56, 3) := by decide +kernel
theorem dX5_readAll_73 : decode cX5_readAll 73 = .ok (.aload_n 0, 1) := by decide +kernel
theorem dX5_readAll_74 : decode cX5_readAll 74 = .ok (.getfield 59, 3) := by decide +kernel
theorem dX5_readAll_77 : decode cX5_readAll 77 = .ok (.ifCond .ne 25, 3) := by decide +kernel
theorem dX5_readAll_80 : decode cX5_readAll 80 = .ok (.aload_n 0, 1) := by decide +kernel
theorem dX5_readAll_81 : decode cX5_readAll 81 = .ok (.getfield 49, 3) := by decide +kernel
theorem dX5_readAll_84 : decode cX5_readAll 84 = .ok (.ifCond .gt 12, 3) := by decide +kernel
theorem dX5_readAll_87 : decode cX5_readAll 87 = .ok (.aload_n 0, 1) := by decide +kernel
theorem dX5_readAll_88 : decode cX5_readAll 88 = .ok (.bipush 6, 2) := by decide +kernel
theorem dX5_readAll_90 : decode cX5_readAll 90 = .ok (.invokevirtual 62, 3) := by decide +kernel
theorem dX5_readAll_93 : decode cX5_readAll 93 = .ok (.ifCond .eq 7, 3) := by decide +kernel
theorem dX5_readAll_96 : decode cX5_readAll 96 = .ok (.iconst 1, 1) := by decide +kernel
theorem dX5_readAll_97 : decode cX5_readAll 97 = .ok (.goto 4, 3) := by decide +kernel
theorem dX5_readAll_100 : decode cX5_readAll 100 = .ok (.iconst 0, 1) := by decide +kernel
theorem dX5_readAll_101 : decode cX5_readAll 101 = .ok (.ireturn, 1) := by decide +kernel
theorem dX5_readAll_102 : decode cX5_readAll 102 = .ok (.aload_n 0, 1) := by decide +kernel
theorem dX5_readAll_103 : decode cX5_readAll 103 = .ok (.getfield 59, 3) := by decide +kernel
theorem dX5_readAll_106 : decode cX5_readAll 106 = .ok (.iconst 3, 1) := by decide +kernel
theorem dX5_readAll_107 : decode cX5_readAll 107 = .ok (.if_icmp .eq 9, 3) := by decide +kernel
theorem dX5_readAll_110 : decode cX5_readAll 110 = .ok (.aload_n 0, 1) := by decide +kernel
theorem dX5_readAll_111 : decode cX5_readAll 111 = .ok (.iconst 1, 1) := by decide +kernel
theorem dX5_readAll_112 : decode cX5_readAll 112 = .ok (.invokevirtual 62, 3) := by decide +kernel
theorem dX5_readAll_115 : decode cX5_readAll 115 = .ok (.ireturn, 1) := by decide +kernel
theorem dX5_readAll_116 : decode cX5_readAll 116 = .ok (.iinc 2 1, 3) := by decide +kernel
theorem dX5_readAll_119 : decode cX5_readAll 119 = .ok (.goto (-66), 3) := by decide +kernel
theorem dX5_readAll_122 : decode cX5_readAll 122 = .ok (.aload_n 0, 1) := by decide +kernel
theorem dX5_readAll_123 : decode cX5_readAll 123 = .ok (.iconst 1, 1) := by decide +kernel
theorem dX5_readAll_124 : decode cX5_readAll 124 = .ok (.invokevirtual 62, 3) := by decide +kernel
theorem dX5_readAll_127 : decode cX5_readAll 127 = .ok (.ireturn, 1) := by decide +kernel
theorem dX5_failed_0 : decode cX5_failed 0 = .ok (.aload_n 0, 1) := by decide +kernel
theorem dX5_failed_1 : decode cX5_failed 1 = .ok (.iload_n 1, 1) := by decide +kernel
theorem dX5_failed_2 : decode cX5_failed 2 = .ok (.putfield 37, 3) := by decide +kernel
theorem dX5_failed_5 : decode cX5_failed 5 = .ok (.aload_n 0, 1) := by decide +kernel
theorem dX5_failed_6 : decode cX5_failed 6 = .ok (.aload_n 0, 1) := by decide +kernel
theorem dX5_failed_7 : decode cX5_failed 7 = .ok (.getfield 66, 3) := by decide +kernel
theorem dX5_failed_10 : decode cX5_failed 10 = .ok (.putfield 40, 3) := by decide +kernel
theorem dX5_failed_13 : decode cX5_failed 13 = .ok (.iconst 0, 1) := by decide +kernel
theorem dX5_failed_14 : decode cX5_failed 14 = .ok (.ireturn, 1) := by decide +kernel
theorem dX5_readLine_0 : decode cX5_readLine 0 = .ok (.aload_n 0, 1) := by decide +kernel
theorem dX5_readLine_1 : decode cX5_readLine 1 = .ok (.invokevirtual 56, 3) := by decide +kernel
theorem dX5_readLine_4 : decode cX5_readLine 4 = .ok (.aload_n 0, 1) := by decide +kernel
theorem dX5_readLine_5 : decode cX5_readLine 5 = .ok (.ldc 69, 2) := by decide +kernel
theorem dX5_readLine_7 : decode cX5_readLine 7 = .ok (.invokevirtual 71, 3) := by decide +kernel
theorem dX5_readLine_10 : decode cX5_readLine 10 = .ok (.ifCond .eq 8, 3) := by decide +kernel
theorem dX5_readLine_13 : decode cX5_readLine 13 = .ok (.aload_n 0, 1) := by decide +kernel
theorem dX5_readLine_14 : decode cX5_readLine 14 = .ok (.invokevirtual 75, 3) := by decide +kernel
theorem dX5_readLine_17 : decode cX5_readLine 17 = .ok (.ireturn, 1) := by decide +kernel
theorem dX5_readLine_18 : decode cX5_readLine 18 = .ok (.aload_n 0, 1) := by decide +kernel
theorem dX5_readLine_19 : decode cX5_readLine 19 = .ok (.ldc 78, 2) := by decide +kernel
theorem dX5_readLine_21 : decode cX5_readLine 21 = .ok (.invokevirtual 71, 3) := by decide +kernel
theorem dX5_readLine_24 : decode cX5_readLine 24 = .ok (.ifCond .eq 8, 3) := by decide +kernel
theorem dX5_readLine_27 : decode cX5_readLine 27 = .ok (.aload_n 0, 1) := by decide +kernel
theorem dX5_readLine_28 : decode cX5_readLine 28 = .ok (.invokevirtual 80, 3) := by decide +kernel
theorem dX5_readLine_31 : decode cX5_readLine 31 = .ok (.ireturn, 1) := by decide +kernel
theorem dX5_readLine_32 : decode cX5_readLine 32 = .ok (.aload_n 0, 1) := by decide +kernel
theorem dX5_readLine_33 : decode cX5_readLine 33 = .ok (.iconst 1, 1) := by decide +kernel
theorem dX5_readLine_34 : decode cX5_readLine 34 = .ok (.invokevirtual 62, 3) := by decide +kernel
theorem dX5_readLine_37 : decode cX5_readLine 37 = .ok (.ireturn, 1) := by decide +kernel
theorem dX5_readHead_0 : decode cX5_readHead 0 = .ok (.aload_n 0, 1) := by decide +kernel
theorem dX5_readHead_1 : decode cX5_readHead 1 = .ok (.getfield 43, 3) := by decide +kernel
theorem dX5_readHead_4 : decode cX5_readHead 4 = .ok (.ifCond .le 9, 3) := by decide +kernel
theorem dX5_readHead_7 : decode cX5_readHead 7 = .ok (.aload_n 0, 1) := by decide +kernel
theorem dX5_readHead_8 : decode cX5_readHead 8 = .ok (.iconst 4, 1) := by decide +kernel
theorem dX5_readHead_9 : decode cX5_readHead 9 = .ok (.invokevirtual 62, 3) := by decide +kernel
theorem dX5_readHead_12 : decode cX5_readHead 12 = .ok (.ireturn, 1) := by decide +kernel
theorem dX5_readHead_13 : decode cX5_readHead 13 = .ok (.aload_n 0, 1) := by decide +kernel
theorem dX5_readHead_14 : decode cX5_readHead 14 = .ok (.ldc 83, 2) := by decide +kernel
theorem dX5_readHead_16 : decode cX5_readHead 16 = .ok (.invokevirtual 84, 3) := by decide +kernel
theorem dX5_readHead_19 : decode cX5_readHead 19 = .ok (.ifCond .eq 12, 3) := by decide +kernel
theorem dX5_readHead_22 : decode cX5_readHead 22 = .ok (.aload_n 0, 1) := by decide +kernel
theorem dX5_readHead_23 : decode cX5_readHead 23 = .ok (.bipush 7, 2) := by decide +kernel
theorem dX5_readHead_25 : decode cX5_readHead 25 = .ok (.invokevirtual 87, 3) := by decide +kernel
theorem dX5_readHead_28 : decode cX5_readHead 28 = .ok (.ifCond .ne 5, 3) := by decide +kernel
theorem dX5_readHead_31 : decode cX5_readHead 31 = .ok (.iconst 0, 1) := by decide +kernel
theorem dX5_readHead_32 : decode cX5_readHead 32 = .ok (.ireturn, 1) := by decide +kernel
theorem dX5_readHead_33 : decode cX5_readHead 33 = .ok (.aload_n 0, 1) := by decide +kernel
theorem dX5_readHead_34 : decode cX5_readHead 34 = .ok (.aload_n 0, 1) := by decide +kernel
theorem dX5_readHead_35 : decode cX5_readHead 35 = .ok (.getfield 90, 3) := by decide +kernel
theorem dX5_readHead_38 : decode cX5_readHead 38 = .ok (.putfield 43, 3) := by decide +kernel
theorem dX5_readHead_41 : decode cX5_readHead 41 = .ok (.aload_n 0, 1) := by decide +kernel
theorem dX5_readHead_42 : decode cX5_readHead 42 = .ok (.ldc 93, 2) := by decide +kernel
theorem dX5_readHead_44 : decode cX5_readHead 44 = .ok (.invokevirtual 84, 3) := by decide +kernel
theorem dX5_readHead_47 : decode cX5_readHead 47 = .ok (.ifCond .eq 18, 3) := by decide +kernel
theorem dX5_readHead_50 : decode cX5_readHead 50 = .ok (.aload_n 0, 1) := by decide +kernel
theorem dX5_readHead_51 : decode cX5_readHead 51 = .ok (.iconst 5, 1) := by decide +kernel
theorem dX5_readHead_52 : decode cX5_readHead 52 = .ok (.aload_n 0, 1) := by decide +kernel
theorem dX5_readHead_53 : decode cX5_readHead 53 = .ok (.getfield 43, 3) := by decide +kernel
theorem dX5_readHead_56 : decode cX5_readHead 56 = .ok (.invokestatic 22, 3) := by decide +kernel
theorem dX5_readHead_59 : decode cX5_readHead 59 = .ok (.invokevirtual 87, 3) := by decide +kernel
theorem dX5_readHead_62 : decode cX5_readHead 62 = .ok (.ifCond .ne 5, 3) := by decide +kernel
theorem dX5_readHead_65 : decode cX5_readHead 65 = .ok (.iconst 0, 1) := by decide +kernel
theorem dX5_readHead_66 : decode cX5_readHead 66 = .ok (.ireturn, 1) := by decide +kernel
theorem dX5_readHead_67 : decode cX5_readHead 67 = .ok (.aload_n 0, 1) := by decide +kernel
theorem dX5_readHead_68 : decode cX5_readHead 68 = .ok (.aload_n 0, 1) := by decide +kernel
theorem dX5_readHead_69 : decode cX5_readHead 69 = .ok (.getfield 90, 3) := by decide +kernel
theorem dX5_readHead_72 : decode cX5_readHead 72 = .ok (.putfield 46, 3) := by decide +kernel
theorem dX5_readHead_75 : decode cX5_readHead 75 = .ok (.iconst 1, 1) := by decide +kernel
theorem dX5_readHead_76 : decode cX5_readHead 76 = .ok (.ireturn, 1) := by decide +kernel
theorem dX5_readFacet_0 : decode cX5_readFacet 0 = .ok (.aload_n 0, 1) := by decide +kernel
theorem dX5_readFacet_1 : decode cX5_readFacet 1 = .ok (.getfield 43, 3) := by decide +kernel
theorem dX5_readFacet_4 : decode cX5_readFacet 4 = .ok (.ifCond .ne 10, 3) := by decide +kernel
theorem dX5_readFacet_7 : decode cX5_readFacet 7 = .ok (.aload_n 0, 1) := by decide +kernel
theorem dX5_readFacet_8 : decode cX5_readFacet 8 = .ok (.bipush 6, 2) := by decide +kernel
theorem dX5_readFacet_10 : decode cX5_readFacet 10 = .ok (.invokevirtual 62, 3) := by decide +kernel
theorem dX5_readFacet_13 : decode cX5_readFacet 13 = .ok (.ireturn, 1) := by decide +kernel
theorem dX5_readFacet_14 : decode cX5_readFacet 14 = .ok (.aload_n 0, 1) := by decide +kernel
theorem dX5_readFacet_15 : decode cX5_readFacet 15 = .ok (.getfield 49, 3) := by decide +kernel
theorem dX5_readFacet_18 : decode cX5_readFacet 18 = .ok (.bipush 12, 2) := by decide +kernel
theorem dX5_readFacet_20 : decode cX5_readFacet 20 = .ok (.if_icmp .lt 9, 3) := by decide +kernel
theorem dX5_readFacet_23 : decode cX5_readFacet 23 = .ok (.aload_n 0, 1) := by decide +kernel
theorem dX5_readFacet_24 : decode cX5_readFacet 24 = .ok (.iconst 5, 1) := by decide +kernel
theorem dX5_readFacet_25 : decode cX5_readFacet 25 = .ok (.invokevirtual 62, 3) := by decide +kernel
theorem dX5_readFacet_28 : decode cX5_readFacet 28 = .ok (.ireturn, 1) := by decide +kernel
theorem dX5_readFacet_29 : decode cX5_readFacet 29 = .ok (.aload_n 0, 1) := by decide +kernel
theorem dX5_readFacet_30 : decode cX5_readFacet 30 = .ok (.invokevirtual 56, 3) := by decide +kernel
theorem dX5_readFacet_33 : decode cX5_readFacet 33 = .ok (.aload_n 0, 1) := by decide +kernel
theorem dX5_readFacet_34 : decode cX5_readFacet 34 = .ok (.getfield 59, 3) := by decide +kernel
theorem dX5_readFacet_37 : decode cX5_readFacet 37 = .ok (.iconst 1, 1) := by decide +kernel
theorem dX5_readFacet_38 : decode cX5_readFacet 38 = .ok (.if_icmp .eq 9, 3) := by decide +kernel
theorem dX5_readFacet_41 : decode cX5_readFacet 41 = .ok (.aload_n 0, 1) := by decide +kernel
theorem dX5_readFacet_42 : decode cX5_readFacet 42 = .ok (.iconst 1, 1) := by decide +kernel
theorem dX5_readFacet_43 : decode cX5_readFacet 43 = .ok (.invokevirtual 62, 3) := by decide +kernel
theorem dX5_readFacet_46 : decode cX5_readFacet 46 = .ok (.ireturn, 1) := by decide +kernel
theorem dX5_readFacet_47 : decode cX5_readFacet 47 = .ok (.aload_n 0, 1) := by decide +kernel
theorem dX5_readFacet_48 : decode cX5_readFacet 48 = .ok (.invokevirtual 94, 3) := by decide +kernel
theorem dX5_readFacet_51 : decode cX5_readFacet 51 = .ok (.istore_n 1, 1) := by decide +kernel
theorem dX5_readFacet_52 : decode cX5_readFacet 52 = .ok (.iload_n 1, 1) := by decide +kernel
theorem dX5_readFacet_53 : decode cX5_readFacet 53 = .ok (.invokestatic 98, 3) := by decide +kernel
theorem dX5_readFacet_56 : decode cX5_readFacet 56 = .ok (.aload_n 0, 1) := by decide +kernel
theorem dX5_readFacet_57 : decode cX5_readFacet 57 = .ok (.getfield 46, 3) := by decide +kernel
theorem dX5_readFacet_60 : decode cX5_readFacet 60 = .ok (.if_icmp .eq 9, 3) := by decide +kernel
theorem dX5_readFacet_63 : decode cX5_readFacet 63 = .ok (.aload_n 0, 1) := by decide +kernel
theorem dX5_readFacet_64 : decode cX5_readFacet 64 = .ok (.iconst 3, 1) := by decide +kernel
theorem dX5_readFacet_65 : decode cX5_readFacet 65 = .ok (.invokevirtual 62, 3) := by decide +kernel
theorem dX5_readFacet_68 : decode cX5_readFacet 68 = .ok (.ireturn, 1) := by decide +kernel
theorem dX5_readFacet_69 : decode cX5_readFacet 69 = .ok (.iconst 0, 1) := by decide +kernel
theorem dX5_readFacet_70 : decode cX5_readFacet 70 = .ok (.istore_n 2, 1) := by decide +kernel
theorem dX5_readFacet_71 : decode cX5_readFacet 71 = .ok (.iload_n 2, 1) := by decide +kernel
theorem dX5_readFacet_72 : decode cX5_readFacet 72 = .ok (.aload_n 0, 1) := by decide +kernel
theorem dX5_readFacet_73 : decode cX5_readFacet 73 = .ok (.getfield 49, 3) := by decide +kernel
theorem dX5_readFacet_76 : decode cX5_readFacet 76 = .ok (.if_icmp .ge 25, 3) := by decide +kernel
theorem dX5_readFacet_79 : decode cX5_readFacet 79 = .ok (.aload_n 0, 1) := by decide +kernel
theorem dX5_readFacet_80 : decode cX5_readFacet 80 = .ok (.getfield 15, 3) := by decide +kernel
theorem dX5_readFacet_83 : decode cX5_readFacet 83 = .ok (.iload_n 2, 1) := by decide +kernel
theorem dX5_readFacet_84 : decode cX5_readFacet 84 = .ok (.iaload, 1) := by decide +kernel
theorem dX5_readFacet_85 : decode cX5_readFacet 85 = .ok (.iload_n 1, 1) := by decide +kernel
theorem dX5_readFacet_86 : decode cX5_readFacet 86 = .ok (.if_icmp .ne 9, 3) := by decide +kernel
theorem dX5_readFacet_89 : decode cX5_readFacet 89 = .ok (.aload_n 0, 1) := by decide +kernel
theorem dX5_readFacet_90 : decode cX5_readFacet 90 = .ok (.iconst 4, 1) := by decide +kernel
theorem dX5_readFacet_91 : decode cX5_readFacet 91 = .ok (.invokevirtual 62, 3) := by decide +kernel
theorem dX5_readFacet_94 : decode cX5_readFacet 94 = .ok (.ireturn, 1) := by decide +kernel
theorem dX5_readFacet_95 : decode cX5_readFacet 95 = .ok (.iinc 2 1, 3) := by decide +kernel
theorem dX5_readFacet_98 : decode cX5_readFacet 98 = .ok (.goto (-27), 3) := by decide +kernel
theorem dX5_readFacet_101 : decode cX5_readFacet 101 = .ok (.aload_n 0, 1) := by decide +kernel
theorem dX5_readFacet_102 : decode cX5_readFacet 102 = .ok (.getfield 15, 3) := by decide +kernel
theorem dX5_readFacet_105 : decode cX5_readFacet 105 = .ok (.aload_n 0, 1) := by decide +kernel
theorem dX5_readFacet_106 : decode cX5_readFacet 106 = .ok (.getfield 49, 3) := by decide +kernel
theorem dX5_readFacet_109 : decode cX5_readFacet 109 = .ok (.iload_n 1, 1) := by decide +kernel
theorem dX5_readFacet_110 : decode cX5_readFacet 110 = .ok (.iastore, 1) := by decide +kernel
theorem dX5_readFacet_111 : decode cX5_readFacet 111 = .ok (.aload_n 0, 1) := by decide +kernel
theorem dX5_readFacet_112 : decode cX5_readFacet 112 = .ok (.dup, 1) := by decide +kernel
theorem dX5_readFacet_113 : decode cX5_readFacet 113 = .ok (.getfield 49, 3) := by decide +kernel
theorem dX5_readFacet_116 : decode cX5_readFacet 116 = .ok (.iconst 1, 1) := by decide +kernel
theorem dX5_readFacet_117 : decode cX5_readFacet 117 = .ok (.iadd, 1) := by decide +kernel
theorem dX5_readFacet_118 : decode cX5_readFacet 118 = .ok (.putfield 49, 3) := by decide +kernel
theorem dX5_readFacet_121 : decode cX5_readFacet 121 = .ok (.iconst 1, 1) := by decide +kernel
theorem dX5_readFacet_122 : decode cX5_readFacet 122 = .ok (.ireturn, 1) := by decide +kernel
theorem dX5_meets_0 : decode cX5_meets 0 = .ok (.aload_n 0, 1) := by decide +kernel
theorem dX5_meets_1 : decode cX5_meets 1 = .ok (.invokevirtual 56, 3) := by decide +kernel
theorem dX5_meets_4 : decode cX5_meets 4 = .ok (.aload_n 0, 1) := by decide +kernel
theorem dX5_meets_5 : decode cX5_meets 5 = .ok (.aload_n 1, 1) := by decide +kernel
theorem dX5_meets_6 : decode cX5_meets 6 = .ok (.invokevirtual 71, 3) := by decide +kernel
theorem dX5_meets_9 : decode cX5_meets 9 = .ok (.ifCond .ne 11, 3) := by decide +kernel
theorem dX5_meets_12 : decode cX5_meets 12 = .ok (.aload_n 0, 1) := by decide +kernel
theorem dX5_meets_13 : decode cX5_meets 13 = .ok (.iconst 1, 1) := by decide +kernel
theorem dX5_meets_14 : decode cX5_meets 14 = .ok (.invokevirtual 62, 3) := by decide +kernel
theorem dX5_meets_17 : decode cX5_meets 17 = .ok (.ifCond .eq 7, 3) := by decide +kernel
theorem dX5_meets_20 : decode cX5_meets 20 = .ok (.iconst 1, 1) := by decide +kernel
theorem dX5_meets_21 : decode cX5_meets 21 = .ok (.goto 4, 3) := by decide +kernel
theorem dX5_meets_24 : decode cX5_meets 24 = .ok (.iconst 0, 1) := by decide +kernel
theorem dX5_meets_25 : decode cX5_meets 25 = .ok (.ireturn, 1) := by decide +kernel
theorem dX5_meetsWhole_0 : decode cX5_meetsWhole 0 = .ok (.aload_n 0, 1) := by decide +kernel
theorem dX5_meetsWhole_1 : decode cX5_meetsWhole 1 = .ok (.invokevirtual 56, 3) := by decide +kernel
theorem dX5_meetsWhole_4 : decode cX5_meetsWhole 4 = .ok (.aload_n 0, 1) := by decide +kernel
theorem dX5_meetsWhole_5 : decode cX5_meetsWhole 5 = .ok (.getfield 59, 3) := by decide +kernel
theorem dX5_meetsWhole_8 : decode cX5_meetsWhole 8 = .ok (.iconst 2, 1) := by decide +kernel
theorem dX5_meetsWhole_9 : decode cX5_meetsWhole 9 = .ok (.if_icmp .eq 9, 3) := by decide +kernel
theorem dX5_meetsWhole_12 : decode cX5_meetsWhole 12 = .ok (.aload_n 0, 1) := by decide +kernel
theorem dX5_meetsWhole_13 : decode cX5_meetsWhole 13 = .ok (.iconst 1, 1) := by decide +kernel
theorem dX5_meetsWhole_14 : decode cX5_meetsWhole 14 = .ok (.invokevirtual 62, 3) := by decide +kernel
theorem dX5_meetsWhole_17 : decode cX5_meetsWhole 17 = .ok (.ireturn, 1) := by decide +kernel
theorem dX5_meetsWhole_18 : decode cX5_meetsWhole 18 = .ok (.aload_n 0, 1) := by decide +kernel
theorem dX5_meetsWhole_19 : decode cX5_meetsWhole 19 = .ok (.iconst 0, 1) := by decide +kernel
theorem dX5_meetsWhole_20 : decode cX5_meetsWhole 20 = .ok (.putfield 90, 3) := by decide +kernel
theorem dX5_meetsWhole_23 : decode cX5_meetsWhole 23 = .ok (.aload_n 0, 1) := by decide +kernel
theorem dX5_meetsWhole_24 : decode cX5_meetsWhole 24 = .ok (.getfield 66, 3) := by decide +kernel
theorem dX5_meetsWhole_27 : decode cX5_meetsWhole 27 = .ok (.istore_n 2, 1) := by decide +kernel
theorem dX5_meetsWhole_28 : decode cX5_meetsWhole 28 = .ok (.iload_n 2, 1) := by decide +kernel
theorem dX5_meetsWhole_29 : decode cX5_meetsWhole 29 = .ok (.aload_n 0, 1) := by decide +kernel
theorem dX5_meetsWhole_30 : decode cX5_meetsWhole 30 = .ok (.getfield 34, 3) := by decide +kernel
theorem dX5_meetsWhole_33 : decode cX5_meetsWhole 33 = .ok (.if_icmp .ge 37, 3) := by decide +kernel
theorem dX5_meetsWhole_36 : decode cX5_meetsWhole 36 = .ok (.iload_n 2, 1) := by decide +kernel
theorem dX5_meetsWhole_37 : decode cX5_meetsWhole 37 = .ok (.sipush 200, 3) := by decide +kernel
theorem dX5_meetsWhole_40 : decode cX5_meetsWhole 40 = .ok (.if_icmp .ge 30, 3) := by decide +kernel
theorem dX5_meetsWhole_43 : decode cX5_meetsWhole 43 = .ok (.aload_n 0, 1) := by decide +kernel
theorem dX5_meetsWhole_44 : decode cX5_meetsWhole 44 = .ok (.aload_n 0, 1) := by decide +kernel
theorem dX5_meetsWhole_45 : decode cX5_meetsWhole 45 = .ok (.getfield 90, 3) := by decide +kernel
theorem dX5_meetsWhole_48 : decode cX5_meetsWhole 48 = .ok (.bipush 10, 2) := by decide +kernel
theorem dX5_meetsWhole_50 : decode cX5_meetsWhole 50 = .ok (.imul, 1) := by decide +kernel
theorem dX5_meetsWhole_51 : decode cX5_meetsWhole 51 = .ok (.aload_n 0, 1) := by decide +kernel
theorem dX5_meetsWhole_52 : decode cX5_meetsWhole 52 = .ok (.getfield 11, 3) := by decide +kernel
theorem dX5_meetsWhole_55 : decode cX5_meetsWhole 55 = .ok (.iload_n 2, 1) := by decide +kernel
theorem dX5_meetsWhole_56 : decode cX5_meetsWhole 56 = .ok (.iaload, 1) := by decide +kernel
theorem dX5_meetsWhole_57 : decode cX5_meetsWhole 57 = .ok (.iadd, 1) := by decide +kernel
theorem dX5_meetsWhole_58 : decode cX5_meetsWhole 58 = .ok (.bipush 48, 2) := by decide +kernel
theorem dX5_meetsWhole_60 : decode cX5_meetsWhole 60 = .ok (.isub, 1) := by decide +kernel
theorem dX5_meetsWhole_61 : decode cX5_meetsWhole 61 = .ok (.putfield 90, 3) := by decide +kernel
theorem dX5_meetsWhole_64 : decode cX5_meetsWhole 64 = .ok (.iinc 2 1, 3) := by decide +kernel
theorem dX5_meetsWhole_67 : decode cX5_meetsWhole 67 = .ok (.goto (-39), 3) := by decide +kernel
theorem dX5_meetsWhole_70 : decode cX5_meetsWhole 70 = .ok (.aload_n 0, 1) := by decide +kernel
theorem dX5_meetsWhole_71 : decode cX5_meetsWhole 71 = .ok (.getfield 90, 3) := by decide +kernel
theorem dX5_meetsWhole_74 : decode cX5_meetsWhole 74 = .ok (.iconst 1, 1) := by decide +kernel
theorem dX5_meetsWhole_75 : decode cX5_meetsWhole 75 = .ok (.if_icmp .lt 11, 3) := by decide +kernel
theorem dX5_meetsWhole_78 : decode cX5_meetsWhole 78 = .ok (.aload_n 0, 1) := by decide +kernel
theorem dX5_meetsWhole_79 : decode cX5_meetsWhole 79 = .ok (.getfield 90, 3) := by decide +kernel
theorem dX5_meetsWhole_82 : decode cX5_meetsWhole 82 = .ok (.iload_n 1, 1) := by decide +kernel
theorem dX5_meetsWhole_83 : decode cX5_meetsWhole 83 = .ok (.if_icmp .le 11, 3) := by decide +kernel
theorem dX5_meetsWhole_86 : decode cX5_meetsWhole 86 = .ok (.aload_n 0, 1) := by decide +kernel
theorem dX5_meetsWhole_87 : decode cX5_meetsWhole 87 = .ok (.iconst 2, 1) := by decide +kernel
theorem dX5_meetsWhole_88 : decode cX5_meetsWhole 88 = .ok (.invokevirtual 62, 3) := by decide +kernel
theorem dX5_meetsWhole_91 : decode cX5_meetsWhole 91 = .ok (.ifCond .eq 7, 3) := by decide +kernel
theorem dX5_meetsWhole_94 : decode cX5_meetsWhole 94 = .ok (.iconst 1, 1) := by decide +kernel
theorem dX5_meetsWhole_95 : decode cX5_meetsWhole 95 = .ok (.goto 4, 3) := by decide +kernel
theorem dX5_meetsWhole_98 : decode cX5_meetsWhole 98 = .ok (.iconst 0, 1) := by decide +kernel
theorem dX5_meetsWhole_99 : decode cX5_meetsWhole 99 = .ok (.ireturn, 1) := by decide +kernel
theorem dX5_wordSet_0 : decode cX5_wordSet 0 = .ok (.iconst 0, 1) := by decide +kernel
theorem dX5_wordSet_1 : decode cX5_wordSet 1 = .ok (.istore_n 1, 1) := by decide +kernel
theorem dX5_wordSet_2 : decode cX5_wordSet 2 = .ok (.aload_n 0, 1) := by decide +kernel
theorem dX5_wordSet_3 : decode cX5_wordSet 3 = .ok (.getfield 66, 3) := by decide +kernel
theorem dX5_wordSet_6 : decode cX5_wordSet 6 = .ok (.istore_n 2, 1) := by decide +kernel
theorem dX5_wordSet_7 : decode cX5_wordSet 7 = .ok (.iload_n 2, 1) := by decide +kernel
theorem dX5_wordSet_8 : decode cX5_wordSet 8 = .ok (.aload_n 0, 1) := by decide +kernel
theorem dX5_wordSet_9 : decode cX5_wordSet 9 = .ok (.getfield 34, 3) := by decide +kernel
theorem dX5_wordSet_12 : decode cX5_wordSet 12 = .ok (.if_icmp .ge 51, 3) := by decide +kernel
theorem dX5_wordSet_15 : decode cX5_wordSet 15 = .ok (.iload_n 2, 1) := by decide +kernel
theorem dX5_wordSet_16 : decode cX5_wordSet 16 = .ok (.sipush 200, 3) := by decide +kernel
theorem dX5_wordSet_19 : decode cX5_wordSet 19 = .ok (.if_icmp .ge 44, 3) := by decide +kernel
theorem dX5_wordSet_22 : decode cX5_wordSet 22 = .ok (.aload_n 0, 1) := by decide +kernel
theorem dX5_wordSet_23 : decode cX5_wordSet 23 = .ok (.getfield 11, 3) := by decide +kernel
theorem dX5_wordSet_26 : decode cX5_wordSet 26 = .ok (.iload_n 2, 1) := by decide +kernel
theorem dX5_wordSet_27 : decode cX5_wordSet 27 = .ok (.iaload, 1) := by decide +kernel
theorem dX5_wordSet_28 : decode cX5_wordSet 28 = .ok (.bipush 97, 2) := by decide +kernel
theorem dX5_wordSet_30 : decode cX5_wordSet 30 = .ok (.isub, 1) := by decide +kernel
theorem dX5_wordSet_31 : decode cX5_wordSet 31 = .ok (.istore_n 3, 1) := by decide +kernel
theorem dX5_wordSet_32 : decode cX5_wordSet 32 = .ok (.iload_n 3, 1) := by decide +kernel
theorem dX5_wordSet_33 : decode cX5_wordSet 33 = .ok (.aload_n 0, 1) := by decide +kernel
theorem dX5_wordSet_34 : decode cX5_wordSet 34 = .ok (.getfield 43, 3) := by decide +kernel
theorem dX5_wordSet_37 : decode cX5_wordSet 37 = .ok (.if_icmp .ge 12, 3) := by decide +kernel
theorem dX5_wordSet_40 : decode cX5_wordSet 40 = .ok (.iload_n 1, 1) := by decide +kernel
theorem dX5_wordSet_41 : decode cX5_wordSet 41 = .ok (.iload_n 3, 1) := by decide +kernel
theorem dX5_wordSet_42 : decode cX5_wordSet 42 = .ok (.ishr, 1) := by decide +kernel
theorem dX5_wordSet_43 : decode cX5_wordSet 43 = .ok (.iconst 1, 1) := by decide +kernel
theorem dX5_wordSet_44 : decode cX5_wordSet 44 = .ok (.iand, 1) := by decide +kernel
theorem dX5_wordSet_45 : decode cX5_wordSet 45 = .ok (.iconst 1, 1) := by decide +kernel
theorem dX5_wordSet_46 : decode cX5_wordSet 46 = .ok (.if_icmp .ne 5, 3) := by decide +kernel
theorem dX5_wordSet_49 : decode cX5_wordSet 49 = .ok (.iconst 0, 1) := by decide +kernel
theorem dX5_wordSet_50 : decode cX5_wordSet 50 = .ok (.ireturn, 1) := by decide +kernel
theorem dX5_wordSet_51 : decode cX5_wordSet 51 = .ok (.iload_n 1, 1) := by decide +kernel
theorem dX5_wordSet_52 : decode cX5_wordSet 52 = .ok (.iconst 1, 1) := by decide +kernel
theorem dX5_wordSet_53 : decode cX5_wordSet 53 = .ok (.iload_n 3, 1) := by decide +kernel
theorem dX5_wordSet_54 : decode cX5_wordSet 54 = .ok (.ishl, 1) := by decide +kernel
theorem dX5_wordSet_55 : decode cX5_wordSet 55 = .ok (.ior, 1) := by decide +kernel
theorem dX5_wordSet_56 : decode cX5_wordSet 56 = .ok (.istore_n 1, 1) := by decide +kernel
theorem dX5_wordSet_57 : decode cX5_wordSet 57 = .ok (.iinc 2 1, 3) := by decide +kernel
theorem dX5_wordSet_60 : decode cX5_wordSet 60 = .ok (.goto (-53), 3) := by decide +kernel
theorem dX5_wordSet_63 : decode cX5_wordSet 63 = .ok (.iload_n 1, 1) := by decide +kernel
theorem dX5_wordSet_64 : decode cX5_wordSet 64 = .ok (.ireturn, 1) := by decide +kernel
theorem dX5_wordIs_0 : decode cX5_wordIs 0 = .ok (.aload_n 0, 1) := by decide +kernel
theorem dX5_wordIs_1 : decode cX5_wordIs 1 = .ok (.getfield 59, 3) := by decide +kernel
theorem dX5_wordIs_4 : decode cX5_wordIs 4 = .ok (.iconst 1, 1) := by decide +kernel
theorem dX5_wordIs_5 : decode cX5_wordIs 5 = .ok (.if_icmp .ne 19, 3) := by decide +kernel
theorem dX5_wordIs_8 : decode cX5_wordIs 8 = .ok (.aload_n 0, 1) := by decide +kernel
theorem dX5_wordIs_9 : decode cX5_wordIs 9 = .ok (.getfield 34, 3) := by decide +kernel
theorem dX5_wordIs_12 : decode cX5_wordIs 12 = .ok (.aload_n 0, 1) := by decide +kernel
theorem dX5_wordIs_13 : decode cX5_wordIs 13 = .ok (.getfield 66, 3) := by decide +kernel
theorem dX5_wordIs_16 : decode cX5_wordIs 16 = .ok (.isub, 1) := by decide +kernel
theorem dX5_wordIs_17 : decode cX5_wordIs 17 = .ok (.aload_n 1, 1) := by decide +kernel
theorem dX5_wordIs_18 : decode cX5_wordIs 18 = .ok (.invokevirtual 104, 3) := by decide +kernel
theorem dX5_wordIs_21 : decode cX5_wordIs 21 = .ok (.if_icmp .eq 5, 3) := by decide +kernel
theorem dX5_wordIs_24 : decode cX5_wordIs 24 = .ok (.iconst 0, 1) := by decide +kernel
theorem dX5_wordIs_25 : decode cX5_wordIs 25 = .ok (.ireturn, 1) := by decide +kernel
theorem dX5_wordIs_26 : decode cX5_wordIs 26 = .ok (.iconst 0, 1) := by decide +kernel
theorem dX5_wordIs_27 : decode cX5_wordIs 27 = .ok (.istore_n 2, 1) := by decide +kernel
theorem dX5_wordIs_28 : decode cX5_wordIs 28 = .ok (.iload_n 2, 1) := by decide +kernel
theorem dX5_wordIs_29 : decode cX5_wordIs 29 = .ok (.aload_n 1, 1) := by decide +kernel
theorem dX5_wordIs_30 : decode cX5_wordIs 30 = .ok (.invokevirtual 104, 3) := by decide +kernel
theorem dX5_wordIs_33 : decode cX5_wordIs 33 = .ok (.if_icmp .ge 42, 3) := by decide +kernel
theorem dX5_wordIs_36 : decode cX5_wordIs 36 = .ok (.aload_n 0, 1) := by decide +kernel
theorem dX5_wordIs_37 : decode cX5_wordIs 37 = .ok (.getfield 66, 3) := by decide +kernel
theorem dX5_wordIs_40 : decode cX5_wordIs 40 = .ok (.iload_n 2, 1) := by decide +kernel
theorem dX5_wordIs_41 : decode cX5_wordIs 41 = .ok (.iadd, 1) := by decide +kernel
theorem dX5_wordIs_42 : decode cX5_wordIs 42 = .ok (.sipush 200, 3) := by decide +kernel
theorem dX5_wordIs_45 : decode cX5_wordIs 45 = .ok (.if_icmp .ge 30, 3) := by decide +kernel
theorem dX5_wordIs_48 : decode cX5_wordIs 48 = .ok (.aload_n 0, 1) := by decide +kernel
theorem dX5_wordIs_49 : decode cX5_wordIs 49 = .ok (.getfield 11, 3) := by decide +kernel
theorem dX5_wordIs_52 : decode cX5_wordIs 52 = .ok (.aload_n 0, 1) := by decide +kernel
theorem dX5_wordIs_53 : decode cX5_wordIs 53 = .ok (.getfield 66, 3) := by decide +kernel
theorem dX5_wordIs_56 : decode cX5_wordIs 56 = .ok (.iload_n 2, 1) := by decide +kernel
theorem dX5_wordIs_57 : decode cX5_wordIs 57 = .ok (.iadd, 1) := by decide +kernel
theorem dX5_wordIs_58 : decode cX5_wordIs 58 = .ok (.iaload, 1) := by decide +kernel
theorem dX5_wordIs_59 : decode cX5_wordIs 59 = .ok (.aload_n 1, 1) := by decide +kernel
theorem dX5_wordIs_60 : decode cX5_wordIs 60 = .ok (.iload_n 2, 1) := by decide +kernel
theorem dX5_wordIs_61 : decode cX5_wordIs 61 = .ok (.invokevirtual 109, 3) := by decide +kernel
theorem dX5_wordIs_64 : decode cX5_wordIs 64 = .ok (.if_icmp .eq 5, 3) := by decide +kernel
theorem dX5_wordIs_67 : decode cX5_wordIs 67 = .ok (.iconst 0, 1) := by decide +kernel
theorem dX5_wordIs_68 : decode cX5_wordIs 68 = .ok (.ireturn, 1) := by decide +kernel
theorem dX5_wordIs_69 : decode cX5_wordIs 69 = .ok (.iinc 2 1, 3) := by decide +kernel
theorem dX5_wordIs_72 : decode cX5_wordIs 72 = .ok (.goto (-44), 3) := by decide +kernel
theorem dX5_wordIs_75 : decode cX5_wordIs 75 = .ok (.iconst 1, 1) := by decide +kernel
theorem dX5_wordIs_76 : decode cX5_wordIs 76 = .ok (.ireturn, 1) := by decide +kernel
theorem dX5_step_0 : decode cX5_step 0 = .ok (.aload_n 0, 1) := by decide +kernel
theorem dX5_step_1 : decode cX5_step 1 = .ok (.aload_n 0, 1) := by decide +kernel
theorem dX5_step_2 : decode cX5_step 2 = .ok (.getfield 34, 3) := by decide +kernel
theorem dX5_step_5 : decode cX5_step 5 = .ok (.putfield 66, 3) := by decide +kernel
theorem dX5_step_8 : decode cX5_step 8 = .ok (.aload_n 0, 1) := by decide +kernel
theorem dX5_step_9 : decode cX5_step 9 = .ok (.getfield 66, 3) := by decide +kernel
theorem dX5_step_12 : decode cX5_step 12 = .ok (.aload_n 0, 1) := by decide +kernel
theorem dX5_step_13 : decode cX5_step 13 = .ok (.getfield 31, 3) := by decide +kernel
theorem dX5_step_16 : decode cX5_step 16 = .ok (.if_icmp .ge 30, 3) := by decide +kernel
theorem dX5_step_19 : decode cX5_step 19 = .ok (.aload_n 0, 1) := by decide +kernel
theorem dX5_step_20 : decode cX5_step 20 = .ok (.getfield 11, 3) := by decide +kernel
theorem dX5_step_23 : decode cX5_step 23 = .ok (.aload_n 0, 1) := by decide +kernel
theorem dX5_step_24 : decode cX5_step 24 = .ok (.getfield 66, 3) := by decide +kernel
theorem dX5_step_27 : decode cX5_step 27 = .ok (.iaload, 1) := by decide +kernel
theorem dX5_step_28 : decode cX5_step 28 = .ok (.bipush 32, 2) := by decide +kernel
theorem dX5_step_30 : decode cX5_step 30 = .ok (.if_icmp .ne 16, 3) := by decide +kernel
theorem dX5_step_33 : decode cX5_step 33 = .ok (.aload_n 0, 1) := by decide +kernel
theorem dX5_step_34 : decode cX5_step 34 = .ok (.dup, 1) := by decide +kernel
theorem dX5_step_35 : decode cX5_step 35 = .ok (.getfield 66, 3) := by decide +kernel
theorem dX5_step_38 : decode cX5_step 38 = .ok (.iconst 1, 1) := by decide +kernel
theorem dX5_step_39 : decode cX5_step 39 = .ok (.iadd, 1) := by decide +kernel
theorem dX5_step_40 : decode cX5_step 40 = .ok (.putfield 66, 3) := by decide +kernel
theorem dX5_step_43 : decode cX5_step 43 = .ok (.goto (-35), 3) := by decide +kernel
theorem dX5_step_46 : decode cX5_step 46 = .ok (.aload_n 0, 1) := by decide +kernel
theorem dX5_step_47 : decode cX5_step 47 = .ok (.aload_n 0, 1) := by decide +kernel
theorem dX5_step_48 : decode cX5_step 48 = .ok (.getfield 66, 3) := by decide +kernel
theorem dX5_step_51 : decode cX5_step 51 = .ok (.putfield 34, 3) := by decide +kernel
theorem dX5_step_54 : decode cX5_step 54 = .ok (.aload_n 0, 1) := by decide +kernel
theorem dX5_step_55 : decode cX5_step 55 = .ok (.getfield 66, 3) := by decide +kernel
theorem dX5_step_58 : decode cX5_step 58 = .ok (.aload_n 0, 1) := by decide +kernel
theorem dX5_step_59 : decode cX5_step 59 = .ok (.getfield 31, 3) := by decide +kernel
theorem dX5_step_62 : decode cX5_step 62 = .ok (.if_icmp .lt 11, 3) := by decide +kernel
theorem dX5_step_65 : decode cX5_step 65 = .ok (.aload_n 0, 1) := by decide +kernel
theorem dX5_step_66 : decode cX5_step 66 = .ok (.iconst 0, 1) := by decide +kernel
theorem dX5_step_67 : decode cX5_step 67 = .ok (.putfield 59, 3) := by decide +kernel
theorem dX5_step_70 : decode cX5_step 70 = .ok (.goto 107, 3) := by decide +kernel
theorem dX5_step_73 : decode cX5_step 73 = .ok (.aload_n 0, 1) := by decide +kernel
theorem dX5_step_74 : decode cX5_step 74 = .ok (.getfield 11, 3) := by decide +kernel
theorem dX5_step_77 : decode cX5_step 77 = .ok (.aload_n 0, 1) := by decide +kernel
theorem dX5_step_78 : decode cX5_step 78 = .ok (.getfield 66, 3) := by decide +kernel
theorem dX5_step_81 : decode cX5_step 81 = .ok (.iaload, 1) := by decide +kernel
theorem dX5_step_82 : decode cX5_step 82 = .ok (.invokestatic 113, 3) := by decide +kernel
theorem dX5_step_85 : decode cX5_step 85 = .ok (.ifCond .eq 24, 3) := by decide +kernel
theorem dX5_step_88 : decode cX5_step 88 = .ok (.aload_n 0, 1) := by decide +kernel
theorem dX5_step_89 : decode cX5_step 89 = .ok (.aload_n 0, 1) := by decide +kernel
theorem dX5_step_90 : decode cX5_step 90 = .ok (.invokevirtual 116, 3) := by decide +kernel
theorem dX5_step_93 : decode cX5_step 93 = .ok (.bipush 7, 2) := by decide +kernel
theorem dX5_step_95 : decode cX5_step 95 = .ok (.if_icmp .gt 7, 3) := by decide +kernel
theorem dX5_step_98 : decode cX5_step 98 = .ok (.iconst 1, 1) := by decide +kernel
theorem dX5_step_99 : decode cX5_step 99 = .ok (.goto 4, 3) := by decide +kernel
theorem dX5_step_102 : decode cX5_step 102 = .ok (.iconst 4, 1) := by decide +kernel
theorem dX5_step_103 : decode cX5_step 103 = .ok (.putfield 59, 3) := by decide +kernel
theorem dX5_step_106 : decode cX5_step 106 = .ok (.goto 71, 3) := by decide +kernel
theorem dX5_step_109 : decode cX5_step 109 = .ok (.aload_n 0, 1) := by decide +kernel
theorem dX5_step_110 : decode cX5_step 110 = .ok (.getfield 11, 3) := by decide +kernel
theorem dX5_step_113 : decode cX5_step 113 = .ok (.aload_n 0, 1) := by decide +kernel
theorem dX5_step_114 : decode cX5_step 114 = .ok (.getfield 66, 3) := by decide +kernel
theorem dX5_step_117 : decode cX5_step 117 = .ok (.iaload, 1) := by decide +kernel
theorem dX5_step_118 : decode cX5_step 118 = .ok (.invokestatic 119, 3) := by decide +kernel
theorem dX5_step_121 : decode cX5_step 121 = .ok (.ifCond .eq 23, 3) := by decide +kernel
theorem dX5_step_124 : decode cX5_step 124 = .ok (.aload_n 0, 1) := by decide +kernel
theorem dX5_step_125 : decode cX5_step 125 = .ok (.aload_n 0, 1) := by decide +kernel
theorem dX5_step_126 : decode cX5_step 126 = .ok (.invokevirtual 122, 3) := by decide +kernel
theorem dX5_step_129 : decode cX5_step 129 = .ok (.iconst 2, 1) := by decide +kernel
theorem dX5_step_130 : decode cX5_step 130 = .ok (.if_icmp .gt 7, 3) := by decide +kernel
theorem dX5_step_133 : decode cX5_step 133 = .ok (.iconst 2, 1) := by decide +kernel
theorem dX5_step_134 : decode cX5_step 134 = .ok (.goto 4, 3) := by decide +kernel
theorem dX5_step_137 : decode cX5_step 137 = .ok (.iconst 4, 1) := by decide +kernel
theorem dX5_step_138 : decode cX5_step 138 = .ok (.putfield 59, 3) := by decide +kernel
theorem dX5_step_141 : decode cX5_step 141 = .ok (.goto 36, 3) := by decide +kernel
theorem dX5_step_144 : decode cX5_step 144 = .ok (.aload_n 0, 1) := by decide +kernel
theorem dX5_step_145 : decode cX5_step 145 = .ok (.aload_n 0, 1) := by decide +kernel
theorem dX5_step_146 : decode cX5_step 146 = .ok (.getfield 11, 3) := by decide +kernel
theorem dX5_step_149 : decode cX5_step 149 = .ok (.aload_n 0, 1) := by decide +kernel
theorem dX5_step_150 : decode cX5_step 150 = .ok (.getfield 66, 3) := by decide +kernel
theorem dX5_step_153 : decode cX5_step 153 = .ok (.iaload, 1) := by decide +kernel
theorem dX5_step_154 : decode cX5_step 154 = .ok (.bipush 59, 2) := by decide +kernel
theorem dX5_step_156 : decode cX5_step 156 = .ok (.if_icmp .ne 7, 3) := by decide +kernel
theorem dX5_step_159 : decode cX5_step 159 = .ok (.iconst 3, 1) := by decide +kernel
theorem dX5_step_160 : decode cX5_step 160 = .ok (.goto 4, 3) := by decide +kernel
theorem dX5_step_163 : decode cX5_step 163 = .ok (.iconst 4, 1) := by decide +kernel
theorem dX5_step_164 : decode cX5_step 164 = .ok (.putfield 59, 3) := by decide +kernel
theorem dX5_step_167 : decode cX5_step 167 = .ok (.aload_n 0, 1) := by decide +kernel
theorem dX5_step_168 : decode cX5_step 168 = .ok (.aload_n 0, 1) := by decide +kernel
theorem dX5_step_169 : decode cX5_step 169 = .ok (.getfield 66, 3) := by decide +kernel
theorem dX5_step_172 : decode cX5_step 172 = .ok (.iconst 1, 1) := by decide +kernel
theorem dX5_step_173 : decode cX5_step 173 = .ok (.iadd, 1) := by decide +kernel
theorem dX5_step_174 : decode cX5_step 174 = .ok (.putfield 34, 3) := by decide +kernel
theorem dX5_step_177 : decode cX5_step 177 = .ok (.return_, 1) := by decide +kernel
theorem dX5_passLetters_0 : decode cX5_passLetters 0 = .ok (.aload_n 0, 1) := by decide +kernel
theorem dX5_passLetters_1 : decode cX5_passLetters 1 = .ok (.getfield 34, 3) := by decide +kernel
theorem dX5_passLetters_4 : decode cX5_passLetters 4 = .ok (.aload_n 0, 1) := by decide +kernel
theorem dX5_passLetters_5 : decode cX5_passLetters 5 = .ok (.getfield 31, 3) := by decide +kernel
theorem dX5_passLetters_8 : decode cX5_passLetters 8 = .ok (.if_icmp .ge 31, 3) := by decide +kernel
theorem dX5_passLetters_11 : decode cX5_passLetters 11 = .ok (.aload_n 0, 1) := by decide +kernel
theorem dX5_passLetters_12 : decode cX5_passLetters 12 = .ok (.getfield 11, 3) := by decide +kernel
theorem dX5_passLetters_15 : decode cX5_passLetters 15 = .ok (.aload_n 0, 1) := by decide +kernel
theorem dX5_passLetters_16 : decode cX5_passLetters 16 = .ok (.getfield 34, 3) := by decide +kernel
theorem dX5_passLetters_19 : decode cX5_passLetters 19 = .ok (.iaload, 1) := by decide +kernel
theorem dX5_passLetters_20 : decode cX5_passLetters 20 = .ok (.invokestatic 113, 3) := by decide +kernel
theorem dX5_passLetters_23 : decode cX5_passLetters 23 = .ok (.ifCond .eq 16, 3) := by decide +kernel
theorem dX5_passLetters_26 : decode cX5_passLetters 26 = .ok (.aload_n 0, 1) := by decide +kernel
theorem dX5_passLetters_27 : decode cX5_passLetters 27 = .ok (.dup, 1) := by decide +kernel
theorem dX5_passLetters_28 : decode cX5_passLetters 28 = .ok (.getfield 34, 3) := by decide +kernel
theorem dX5_passLetters_31 : decode cX5_passLetters 31 = .ok (.iconst 1, 1) := by decide +kernel
theorem dX5_passLetters_32 : decode cX5_passLetters 32 = .ok (.iadd, 1) := by decide +kernel
theorem dX5_passLetters_33 : decode cX5_passLetters 33 = .ok (.putfield 34, 3) := by decide +kernel
theorem dX5_passLetters_36 : decode cX5_passLetters 36 = .ok (.goto (-36), 3) := by decide +kernel
theorem dX5_passLetters_39 : decode cX5_passLetters 39 = .ok (.aload_n 0, 1) := by decide +kernel
theorem dX5_passLetters_40 : decode cX5_passLetters 40 = .ok (.getfield 34, 3) := by decide +kernel
theorem dX5_passLetters_43 : decode cX5_passLetters 43 = .ok (.aload_n 0, 1) := by decide +kernel
theorem dX5_passLetters_44 : decode cX5_passLetters 44 = .ok (.getfield 66, 3) := by decide +kernel
theorem dX5_passLetters_47 : decode cX5_passLetters 47 = .ok (.isub, 1) := by decide +kernel
theorem dX5_passLetters_48 : decode cX5_passLetters 48 = .ok (.ireturn, 1) := by decide +kernel
theorem dX5_passDigits_0 : decode cX5_passDigits 0 = .ok (.aload_n 0, 1) := by decide +kernel
theorem dX5_passDigits_1 : decode cX5_passDigits 1 = .ok (.getfield 34, 3) := by decide +kernel
theorem dX5_passDigits_4 : decode cX5_passDigits 4 = .ok (.aload_n 0, 1) := by decide +kernel
theorem dX5_passDigits_5 : decode cX5_passDigits 5 = .ok (.getfield 31, 3) := by decide +kernel
theorem dX5_passDigits_8 : decode cX5_passDigits 8 = .ok (.if_icmp .ge 31, 3) := by decide +kernel
theorem dX5_passDigits_11 : decode cX5_passDigits 11 = .ok (.aload_n 0, 1) := by decide +kernel
theorem dX5_passDigits_12 : decode cX5_passDigits 12 = .ok (.getfield 11, 3) := by decide +kernel
theorem dX5_passDigits_15 : decode cX5_passDigits 15 = .ok (.aload_n 0, 1) := by decide +kernel
theorem dX5_passDigits_16 : decode cX5_passDigits 16 = .ok (.getfield 34, 3) := by decide +kernel
theorem dX5_passDigits_19 : decode cX5_passDigits 19 = .ok (.iaload, 1) := by decide +kernel
theorem dX5_passDigits_20 : decode cX5_passDigits 20 = .ok (.invokestatic 119, 3) := by decide +kernel
theorem dX5_passDigits_23 : decode cX5_passDigits 23 = .ok (.ifCond .eq 16, 3) := by decide +kernel
theorem dX5_passDigits_26 : decode cX5_passDigits 26 = .ok (.aload_n 0, 1) := by decide +kernel
theorem dX5_passDigits_27 : decode cX5_passDigits 27 = .ok (.dup, 1) := by decide +kernel
theorem dX5_passDigits_28 : decode cX5_passDigits 28 = .ok (.getfield 34, 3) := by decide +kernel
theorem dX5_passDigits_31 : decode cX5_passDigits 31 = .ok (.iconst 1, 1) := by decide +kernel
theorem dX5_passDigits_32 : decode cX5_passDigits 32 = .ok (.iadd, 1) := by decide +kernel
theorem dX5_passDigits_33 : decode cX5_passDigits 33 = .ok (.putfield 34, 3) := by decide +kernel
theorem dX5_passDigits_36 : decode cX5_passDigits 36 = .ok (.goto (-36), 3) := by decide +kernel
theorem dX5_passDigits_39 : decode cX5_passDigits 39 = .ok (.aload_n 0, 1) := by decide +kernel
theorem dX5_passDigits_40 : decode cX5_passDigits 40 = .ok (.getfield 34, 3) := by decide +kernel
theorem dX5_passDigits_43 : decode cX5_passDigits 43 = .ok (.aload_n 0, 1) := by decide +kernel
theorem dX5_passDigits_44 : decode cX5_passDigits 44 = .ok (.getfield 66, 3) := by decide +kernel
theorem dX5_passDigits_47 : decode cX5_passDigits 47 = .ok (.isub, 1) := by decide +kernel
theorem dX5_passDigits_48 : decode cX5_passDigits 48 = .ok (.ireturn, 1) := by decide +kernel
theorem dX5_isLetter_0 : decode cX5_isLetter 0 = .ok (.iload_n 0, 1) := by decide +kernel
theorem dX5_isLetter_1 : decode cX5_isLetter 1 = .ok (.bipush 97, 2) := by decide +kernel
theorem dX5_isLetter_3 : decode cX5_isLetter 3 = .ok (.if_icmp .lt 13, 3) := by decide +kernel
theorem dX5_isLetter_6 : decode cX5_isLetter 6 = .ok (.iload_n 0, 1) := by decide +kernel
theorem dX5_isLetter_7 : decode cX5_isLetter 7 = .ok (.bipush 122, 2) := by decide +kernel
theorem dX5_isLetter_9 : decode cX5_isLetter 9 = .ok (.if_icmp .gt 7, 3) := by decide +kernel
theorem dX5_isLetter_12 : decode cX5_isLetter 12 = .ok (.iconst 1, 1) := by decide +kernel
theorem dX5_isLetter_13 : decode cX5_isLetter 13 = .ok (.goto 4, 3) := by decide +kernel
theorem dX5_isLetter_16 : decode cX5_isLetter 16 = .ok (.iconst 0, 1) := by decide +kernel
theorem dX5_isLetter_17 : decode cX5_isLetter 17 = .ok (.ireturn, 1) := by decide +kernel
theorem dX5_isDigit_0 : decode cX5_isDigit 0 = .ok (.iload_n 0, 1) := by decide +kernel
theorem dX5_isDigit_1 : decode cX5_isDigit 1 = .ok (.bipush 48, 2) := by decide +kernel
theorem dX5_isDigit_3 : decode cX5_isDigit 3 = .ok (.if_icmp .lt 13, 3) := by decide +kernel
theorem dX5_isDigit_6 : decode cX5_isDigit 6 = .ok (.iload_n 0, 1) := by decide +kernel
theorem dX5_isDigit_7 : decode cX5_isDigit 7 = .ok (.bipush 57, 2) := by decide +kernel
theorem dX5_isDigit_9 : decode cX5_isDigit 9 = .ok (.if_icmp .gt 7, 3) := by decide +kernel
theorem dX5_isDigit_12 : decode cX5_isDigit 12 = .ok (.iconst 1, 1) := by decide +kernel
theorem dX5_isDigit_13 : decode cX5_isDigit 13 = .ok (.goto 4, 3) := by decide +kernel
theorem dX5_isDigit_16 : decode cX5_isDigit 16 = .ok (.iconst 0, 1) := by decide +kernel
theorem dX5_isDigit_17 : decode cX5_isDigit 17 = .ok (.ireturn, 1) := by decide +kernel
theorem dJ6_bitCount_0f7a4_0 : decode cJ6_bitCount_0f7a4 0 = .ok (.iload_n 0, 1) := by decide +kernel
theorem dJ6_bitCount_0f7a4_1 : decode cJ6_bitCount_0f7a4 1 = .ok (.iload_n 0, 1) := by decide +kernel
theorem dJ6_bitCount_0f7a4_2 : decode cJ6_bitCount_0f7a4 2 = .ok (.iconst 1, 1) := by decide +kernel
theorem dJ6_bitCount_0f7a4_3 : decode cJ6_bitCount_0f7a4 3 = .ok (.iushr, 1) := by decide +kernel
theorem dJ6_bitCount_0f7a4_4 : decode cJ6_bitCount_0f7a4 4 = .ok (.ldc_w 265, 3) := by decide +kernel
theorem dJ6_bitCount_0f7a4_7 : decode cJ6_bitCount_0f7a4 7 = .ok (.iand, 1) := by decide +kernel
theorem dJ6_bitCount_0f7a4_8 : decode cJ6_bitCount_0f7a4 8 = .ok (.isub, 1) := by decide +kernel
theorem dJ6_bitCount_0f7a4_9 : decode cJ6_bitCount_0f7a4 9 = .ok (.istore_n 0, 1) := by decide +kernel
theorem dJ6_bitCount_0f7a4_10 : decode cJ6_bitCount_0f7a4 10 = .ok (.iload_n 0, 1) := by decide +kernel
theorem dJ6_bitCount_0f7a4_11 : decode cJ6_bitCount_0f7a4 11 = .ok (.ldc_w 266, 3) := by decide +kernel
theorem dJ6_bitCount_0f7a4_14 : decode cJ6_bitCount_0f7a4 14 = .ok (.iand, 1) := by decide +kernel
theorem dJ6_bitCount_0f7a4_15 : decode cJ6_bitCount_0f7a4 15 = .ok (.iload_n 0, 1) := by decide +kernel
theorem dJ6_bitCount_0f7a4_16 : decode cJ6_bitCount_0f7a4 16 = .ok (.iconst 2, 1) := by decide +kernel
theorem dJ6_bitCount_0f7a4_17 : decode cJ6_bitCount_0f7a4 17 = .ok (.iushr, 1) := by decide +kernel
theorem dJ6_bitCount_0f7a4_18 : decode cJ6_bitCount_0f7a4 18 = .ok (.ldc_w 266, 3) := by decide +kernel
theorem dJ6_bitCount_0f7a4_21 : decode cJ6_bitCount_0f7a4 21 = .ok (.iand, 1) := by decide +kernel
theorem dJ6_bitCount_0f7a4_22 : decode cJ6_bitCount_0f7a4 22 = .ok (.iadd, 1) := by decide +kernel
theorem dJ6_bitCount_0f7a4_23 : decode cJ6_bitCount_0f7a4 23 = .ok (.istore_n 0, 1) := by decide +kernel
theorem dJ6_bitCount_0f7a4_24 : decode cJ6_bitCount_0f7a4 24 = .ok (.iload_n 0, 1) := by decide +kernel
theorem dJ6_bitCount_0f7a4_25 : decode cJ6_bitCount_0f7a4 25 = .ok (.iload_n 0, 1) := by decide +kernel
theorem dJ6_bitCount_0f7a4_26 : decode cJ6_bitCount_0f7a4 26 = .ok (.iconst 4, 1) := by decide +kernel
theorem dJ6_bitCount_0f7a4_27 : decode cJ6_bitCount_0f7a4 27 = .ok (.iushr, 1) := by decide +kernel
theorem dJ6_bitCount_0f7a4_28 : decode cJ6_bitCount_0f7a4 28 = .ok (.iadd, 1) := by decide +kernel
theorem dJ6_bitCount_0f7a4_29 : decode cJ6_bitCount_0f7a4 29 = .ok (.ldc_w 267, 3) := by decide +kernel
theorem dJ6_bitCount_0f7a4_32 : decode cJ6_bitCount_0f7a4 32 = .ok (.iand, 1) := by decide +kernel
theorem dJ6_bitCount_0f7a4_33 : decode cJ6_bitCount_0f7a4 33 = .ok (.istore_n 0, 1) := by decide +kernel
theorem dJ6_bitCount_0f7a4_34 : decode cJ6_bitCount_0f7a4 34 = .ok (.iload_n 0, 1) := by decide +kernel
theorem dJ6_bitCount_0f7a4_35 : decode cJ6_bitCount_0f7a4 35 = .ok (.iload_n 0, 1) := by decide +kernel
theorem dJ6_bitCount_0f7a4_36 : decode cJ6_bitCount_0f7a4 36 = .ok (.bipush 8, 2) := by decide +kernel
theorem dJ6_bitCount_0f7a4_38 : decode cJ6_bitCount_0f7a4 38 = .ok (.iushr, 1) := by decide +kernel
theorem dJ6_bitCount_0f7a4_39 : decode cJ6_bitCount_0f7a4 39 = .ok (.iadd, 1) := by decide +kernel
theorem dJ6_bitCount_0f7a4_40 : decode cJ6_bitCount_0f7a4 40 = .ok (.istore_n 0, 1) := by decide +kernel
theorem dJ6_bitCount_0f7a4_41 : decode cJ6_bitCount_0f7a4 41 = .ok (.iload_n 0, 1) := by decide +kernel
theorem dJ6_bitCount_0f7a4_42 : decode cJ6_bitCount_0f7a4 42 = .ok (.iload_n 0, 1) := by decide +kernel
theorem dJ6_bitCount_0f7a4_43 : decode cJ6_bitCount_0f7a4 43 = .ok (.bipush 16, 2) := by decide +kernel
theorem dJ6_bitCount_0f7a4_45 : decode cJ6_bitCount_0f7a4 45 = .ok (.iushr, 1) := by decide +kernel
theorem dJ6_bitCount_0f7a4_46 : decode cJ6_bitCount_0f7a4 46 = .ok (.iadd, 1) := by decide +kernel
theorem dJ6_bitCount_0f7a4_47 : decode cJ6_bitCount_0f7a4 47 = .ok (.istore_n 0, 1) := by decide +kernel
theorem dJ6_bitCount_0f7a4_48 : decode cJ6_bitCount_0f7a4 48 = .ok (.iload_n 0, 1) := by decide +kernel
theorem dJ6_bitCount_0f7a4_49 : decode cJ6_bitCount_0f7a4 49 = .ok (.bipush 63, 2) := by decide +kernel
theorem dJ6_bitCount_0f7a4_51 : decode cJ6_bitCount_0f7a4 51 = .ok (.iand, 1) := by decide +kernel
theorem dJ6_bitCount_0f7a4_52 : decode cJ6_bitCount_0f7a4 52 = .ok (.ireturn, 1) := by decide +kernel
theorem dJ9_max_7cf53_0 : decode cJ9_max_7cf53 0 = .ok (.iload_n 0, 1) := by decide +kernel
theorem dJ9_max_7cf53_1 : decode cJ9_max_7cf53 1 = .ok (.iload_n 1, 1) := by decide +kernel
theorem dJ9_max_7cf53_2 : decode cJ9_max_7cf53 2 = .ok (.if_icmp .lt 7, 3) := by decide +kernel
theorem dJ9_max_7cf53_5 : decode cJ9_max_7cf53 5 = .ok (.iload_n 0, 1) := by decide +kernel
theorem dJ9_max_7cf53_6 : decode cJ9_max_7cf53 6 = .ok (.goto 4, 3) := by decide +kernel
theorem dJ9_max_7cf53_9 : decode cJ9_max_7cf53 9 = .ok (.iload_n 1, 1) := by decide +kernel
theorem dJ9_max_7cf53_10 : decode cJ9_max_7cf53 10 = .ok (.ireturn, 1) := by decide +kernel
theorem dJ9_min_7cf53_0 : decode cJ9_min_7cf53 0 = .ok (.iload_n 0, 1) := by decide +kernel
theorem dJ9_min_7cf53_1 : decode cJ9_min_7cf53 1 = .ok (.iload_n 1, 1) := by decide +kernel
theorem dJ9_min_7cf53_2 : decode cJ9_min_7cf53 2 = .ok (.if_icmp .gt 7, 3) := by decide +kernel
theorem dJ9_min_7cf53_5 : decode cJ9_min_7cf53 5 = .ok (.iload_n 0, 1) := by decide +kernel
theorem dJ9_min_7cf53_6 : decode cJ9_min_7cf53 6 = .ok (.goto 4, 3) := by decide +kernel
theorem dJ9_min_7cf53_9 : decode cJ9_min_7cf53 9 = .ok (.iload_n 1, 1) := by decide +kernel
theorem dJ9_min_7cf53_10 : decode cJ9_min_7cf53 10 = .ok (.ireturn, 1) := by decide +kernel
theorem dJ0_length_8abf5_0 : decode cJ0_length_8abf5 0 = .ok (.aload_n 0, 1) := by decide +kernel
theorem dJ0_length_8abf5_1 : decode cJ0_length_8abf5 1 = .ok (.getfield 9, 3) := by decide +kernel
theorem dJ0_length_8abf5_4 : decode cJ0_length_8abf5 4 = .ok (.arraylength, 1) := by decide +kernel
theorem dJ0_length_8abf5_5 : decode cJ0_length_8abf5 5 = .ok (.aload_n 0, 1) := by decide +kernel
theorem dJ0_length_8abf5_6 : decode cJ0_length_8abf5 6 = .ok (.invokevirtual 335, 3) := by decide +kernel
theorem dJ0_length_8abf5_9 : decode cJ0_length_8abf5 9 = .ok (.ishr, 1) := by decide +kernel
theorem dJ0_length_8abf5_10 : decode cJ0_length_8abf5 10 = .ok (.ireturn, 1) := by decide +kernel
theorem dJ0_charAt_5068e_0 : decode cJ0_charAt_5068e 0 = .ok (.aload_n 0, 1) := by decide +kernel
theorem dJ0_charAt_5068e_1 : decode cJ0_charAt_5068e 1 = .ok (.invokevirtual 492, 3) := by decide +kernel
theorem dJ0_charAt_5068e_4 : decode cJ0_charAt_5068e 4 = .ok (.ifCond .eq 12, 3) := by decide +kernel
theorem dJ0_charAt_5068e_7 : decode cJ0_charAt_5068e 7 = .ok (.aload_n 0, 1) := by decide +kernel
theorem dJ0_charAt_5068e_8 : decode cJ0_charAt_5068e 8 = .ok (.getfield 9, 3) := by decide +kernel
theorem dJ0_charAt_5068e_11 : decode cJ0_charAt_5068e 11 = .ok (.iload_n 1, 1) := by decide +kernel
theorem dJ0_charAt_5068e_12 : decode cJ0_charAt_5068e 12 = .ok (.invokestatic 495, 3) := by decide +kernel
theorem dJ0_charAt_5068e_15 : decode cJ0_charAt_5068e 15 = .ok (.ireturn, 1) := by decide +kernel
theorem dJ0_charAt_5068e_16 : decode cJ0_charAt_5068e 16 = .ok (.aload_n 0, 1) := by decide +kernel
theorem dJ0_charAt_5068e_17 : decode cJ0_charAt_5068e 17 = .ok (.getfield 9, 3) := by decide +kernel
theorem dJ0_charAt_5068e_20 : decode cJ0_charAt_5068e 20 = .ok (.iload_n 1, 1) := by decide +kernel
theorem dJ0_charAt_5068e_21 : decode cJ0_charAt_5068e 21 = .ok (.invokestatic 498, 3) := by decide +kernel
theorem dJ0_charAt_5068e_24 : decode cJ0_charAt_5068e 24 = .ok (.ireturn, 1) := by decide +kernel
theorem dJ0_coder_7d493_0 : decode cJ0_coder_7d493 0 = .ok (.getstatic 38, 3) := by decide +kernel
theorem dJ0_coder_7d493_3 : decode cJ0_coder_7d493 3 = .ok (.ifCond .eq 10, 3) := by decide +kernel
theorem dJ0_coder_7d493_6 : decode cJ0_coder_7d493 6 = .ok (.aload_n 0, 1) := by decide +kernel
theorem dJ0_coder_7d493_7 : decode cJ0_coder_7d493 7 = .ok (.getfield 15, 3) := by decide +kernel
theorem dJ0_coder_7d493_10 : decode cJ0_coder_7d493 10 = .ok (.goto 4, 3) := by decide +kernel
theorem dJ0_coder_7d493_13 : decode cJ0_coder_7d493 13 = .ok (.iconst 1, 1) := by decide +kernel
theorem dJ0_coder_7d493_14 : decode cJ0_coder_7d493 14 = .ok (.ireturn, 1) := by decide +kernel
theorem dJ0_isLatin1_aae02_0 : decode cJ0_isLatin1_aae02 0 = .ok (.getstatic 38, 3) := by decide +kernel
theorem dJ0_isLatin1_aae02_3 : decode cJ0_isLatin1_aae02 3 = .ok (.ifCond .eq 14, 3) := by decide +kernel
theorem dJ0_isLatin1_aae02_6 : decode cJ0_isLatin1_aae02 6 = .ok (.aload_n 0, 1) := by decide +kernel
theorem dJ0_isLatin1_aae02_7 : decode cJ0_isLatin1_aae02 7 = .ok (.getfield 15, 3) := by decide +kernel
theorem dJ0_isLatin1_aae02_10 : decode cJ0_isLatin1_aae02 10 = .ok (.ifCond .ne 7, 3) := by decide +kernel
theorem dJ0_isLatin1_aae02_13 : decode cJ0_isLatin1_aae02 13 = .ok (.iconst 1, 1) := by decide +kernel
theorem dJ0_isLatin1_aae02_14 : decode cJ0_isLatin1_aae02 14 = .ok (.goto 4, 3) := by decide +kernel
theorem dJ0_isLatin1_aae02_17 : decode cJ0_isLatin1_aae02 17 = .ok (.iconst 0, 1) := by decide +kernel
theorem dJ0_isLatin1_aae02_18 : decode cJ0_isLatin1_aae02 18 = .ok (.ireturn, 1) := by decide +kernel
theorem dJ0_checkIndex_df160_0 : decode cJ0_checkIndex_df160 0 = .ok (.iload_n 0, 1) := by decide +kernel
theorem dJ0_checkIndex_df160_1 : decode cJ0_checkIndex_df160 1 = .ok (.iload_n 1, 1) := by decide +kernel
theorem dJ0_checkIndex_df160_2 : decode cJ0_checkIndex_df160 2 = .ok (.getstatic 1053, 3) := by decide +kernel
theorem dJ0_checkIndex_df160_5 : decode cJ0_checkIndex_df160 5 = .ok (.invokestatic 1059, 3) := by decide +kernel
theorem dJ0_checkIndex_df160_8 : decode cJ0_checkIndex_df160 8 = .ok (.pop, 1) := by decide +kernel
theorem dJ0_checkIndex_df160_9 : decode cJ0_checkIndex_df160 9 = .ok (.return_, 1) := by decide +kernel
theorem dJ1_charAt_3b067_0 : decode cJ1_charAt_3b067 0 = .ok (.iload_n 1, 1) := by decide +kernel
theorem dJ1_charAt_3b067_1 : decode cJ1_charAt_3b067 1 = .ok (.aload_n 0, 1) := by decide +kernel
theorem dJ1_charAt_3b067_2 : decode cJ1_charAt_3b067 2 = .ok (.arraylength, 1) := by decide +kernel
theorem dJ1_charAt_3b067_3 : decode cJ1_charAt_3b067 3 = .ok (.invokestatic 9, 3) := by decide +kernel
theorem dJ1_charAt_3b067_6 : decode cJ1_charAt_3b067 6 = .ok (.aload_n 0, 1) := by decide +kernel
theorem dJ1_charAt_3b067_7 : decode cJ1_charAt_3b067 7 = .ok (.iload_n 1, 1) := by decide +kernel
theorem dJ1_charAt_3b067_8 : decode cJ1_charAt_3b067 8 = .ok (.baload, 1) := by decide +kernel
theorem dJ1_charAt_3b067_9 : decode cJ1_charAt_3b067 9 = .ok (.sipush 255, 3) := by decide +kernel
theorem dJ1_charAt_3b067_12 : decode cJ1_charAt_3b067 12 = .ok (.iand, 1) := by decide +kernel
theorem dJ1_charAt_3b067_13 : decode cJ1_charAt_3b067 13 = .ok (.i2c, 1) := by decide +kernel
theorem dJ1_charAt_3b067_14 : decode cJ1_charAt_3b067 14 = .ok (.ireturn, 1) := by decide +kernel
theorem dJ2_getChar_3b067_0 : decode cJ2_getChar_3b067 0 = .ok (.getstatic 44, 3) := by decide +kernel
theorem dJ2_getChar_3b067_3 : decode cJ2_getChar_3b067 3 = .ok (.ifCond .ne 25, 3) := by decide +kernel
theorem dJ2_getChar_3b067_6 : decode cJ2_getChar_3b067 6 = .ok (.iload_n 1, 1) := by decide +kernel
theorem dJ2_getChar_3b067_7 : decode cJ2_getChar_3b067 7 = .ok (.ifCond .lt 11, 3) := by decide +kernel
theorem dJ2_getChar_3b067_10 : decode cJ2_getChar_3b067 10 = .ok (.iload_n 1, 1) := by decide +kernel
theorem dJ2_getChar_3b067_11 : decode cJ2_getChar_3b067 11 = .ok (.aload_n 0, 1) := by decide +kernel
theorem dJ2_getChar_3b067_12 : decode cJ2_getChar_3b067 12 = .ok (.invokestatic 48, 3) := by decide +kernel
theorem dJ2_getChar_3b067_15 : decode cJ2_getChar_3b067 15 = .ok (.if_icmp .lt 13, 3) := by decide +kernel
theorem dJ2_getChar_3b067_18 : decode cJ2_getChar_3b067 18 = .ok (.new 52, 3) := by decide +kernel
theorem dJ2_getChar_3b067_21 : decode cJ2_getChar_3b067 21 = .ok (.dup, 1) := by decide +kernel
theorem dJ2_getChar_3b067_22 : decode cJ2_getChar_3b067 22 = .ok (.ldc 54, 2) := by decide +kernel
theorem dJ2_getChar_3b067_24 : decode cJ2_getChar_3b067 24 = .ok (.invokespecial 56, 3) := by decide +kernel
theorem dJ2_getChar_3b067_27 : decode cJ2_getChar_3b067 27 = .ok (.athrow, 1) := by decide +kernel
theorem dJ2_getChar_3b067_28 : decode cJ2_getChar_3b067 28 = .ok (.iload_n 1, 1) := by decide +kernel
theorem dJ2_getChar_3b067_29 : decode cJ2_getChar_3b067 29 = .ok (.iconst 1, 1) := by decide +kernel
theorem dJ2_getChar_3b067_30 : decode cJ2_getChar_3b067 30 = .ok (.ishl, 1) := by decide +kernel
theorem dJ2_getChar_3b067_31 : decode cJ2_getChar_3b067 31 = .ok (.istore_n 1, 1) := by decide +kernel
theorem dJ2_getChar_3b067_32 : decode cJ2_getChar_3b067 32 = .ok (.aload_n 0, 1) := by decide +kernel
theorem dJ2_getChar_3b067_33 : decode cJ2_getChar_3b067 33 = .ok (.iload_n 1, 1) := by decide +kernel
theorem dJ2_getChar_3b067_34 : decode cJ2_getChar_3b067 34 = .ok (.iinc 1 1, 3) := by decide +kernel
theorem dJ2_getChar_3b067_37 : decode cJ2_getChar_3b067 37 = .ok (.baload, 1) := by decide +kernel
theorem dJ2_getChar_3b067_38 : decode cJ2_getChar_3b067 38 = .ok (.sipush 255, 3) := by decide +kernel
theorem dJ2_getChar_3b067_41 : decode cJ2_getChar_3b067 41 = .ok (.iand, 1) := by decide +kernel
theorem dJ2_getChar_3b067_42 : decode cJ2_getChar_3b067 42 = .ok (.getstatic 59, 3) := by decide +kernel
theorem dJ2_getChar_3b067_45 : decode cJ2_getChar_3b067 45 = .ok (.ishl, 1) := by decide +kernel
theorem dJ2_getChar_3b067_46 : decode cJ2_getChar_3b067 46 = .ok (.aload_n 0, 1) := by decide +kernel
theorem dJ2_getChar_3b067_47 : decode cJ2_getChar_3b067 47 = .ok (.iload_n 1, 1) := by decide +kernel
theorem dJ2_getChar_3b067_48 : decode cJ2_getChar_3b067 48 = .ok (.baload, 1) := by decide +kernel
theorem dJ2_getChar_3b067_49 : decode cJ2_getChar_3b067 49 = .ok (.sipush 255, 3) := by decide +kernel
theorem dJ2_getChar_3b067_52 : decode cJ2_getChar_3b067 52 = .ok (.iand, 1) := by decide +kernel
theorem dJ2_getChar_3b067_53 : decode cJ2_getChar_3b067 53 = .ok (.getstatic 63, 3) := by decide +kernel
theorem dJ2_getChar_3b067_56 : decode cJ2_getChar_3b067 56 = .ok (.ishl, 1) := by decide +kernel
theorem dJ2_getChar_3b067_57 : decode cJ2_getChar_3b067 57 = .ok (.ior, 1) := by decide +kernel
theorem dJ2_getChar_3b067_58 : decode cJ2_getChar_3b067 58 = .ok (.i2c, 1) := by decide +kernel
theorem dJ2_getChar_3b067_59 : decode cJ2_getChar_3b067 59 = .ok (.ireturn, 1) := by decide +kernel
theorem dJ2_length_9d52b_0 : decode cJ2_length_9d52b 0 = .ok (.aload_n 0, 1) := by decide +kernel
theorem dJ2_length_9d52b_1 : decode cJ2_length_9d52b 1 = .ok (.arraylength, 1) := by decide +kernel
theorem dJ2_length_9d52b_2 : decode cJ2_length_9d52b 2 = .ok (.iconst 1, 1) := by decide +kernel
theorem dJ2_length_9d52b_3 : decode cJ2_length_9d52b 3 = .ok (.ishr, 1) := by decide +kernel
theorem dJ2_length_9d52b_4 : decode cJ2_length_9d52b 4 = .ok (.ireturn, 1) := by decide +kernel
theorem dJ2_charAt_3b067_0 : decode cJ2_charAt_3b067 0 = .ok (.iload_n 1, 1) := by decide +kernel
theorem dJ2_charAt_3b067_1 : decode cJ2_charAt_3b067 1 = .ok (.aload_n 0, 1) := by decide +kernel
theorem dJ2_charAt_3b067_2 : decode cJ2_charAt_3b067 2 = .ok (.invokestatic 67, 3) := by decide +kernel
theorem dJ2_charAt_3b067_5 : decode cJ2_charAt_3b067 5 = .ok (.aload_n 0, 1) := by decide +kernel
theorem dJ2_charAt_3b067_6 : decode cJ2_charAt_3b067 6 = .ok (.iload_n 1, 1) := by decide +kernel
theorem dJ2_charAt_3b067_7 : decode cJ2_charAt_3b067 7 = .ok (.invokestatic 71, 3) := by decide +kernel
theorem dJ2_charAt_3b067_10 : decode cJ2_charAt_3b067 10 = .ok (.ireturn, 1) := by decide +kernel
theorem dJ2_checkIndex_2214a_0 : decode cJ2_checkIndex_2214a 0 = .ok (.iload_n 0, 1) := by decide +kernel
theorem dJ2_checkIndex_2214a_1 : decode cJ2_checkIndex_2214a 1 = .ok (.aload_n 1, 1) := by decide +kernel
theorem dJ2_checkIndex_2214a_2 : decode cJ2_checkIndex_2214a 2 = .ok (.invokestatic 48, 3) := by decide +kernel
theorem dJ2_checkIndex_2214a_5 : decode cJ2_checkIndex_2214a 5 = .ok (.invokestatic 414, 3) := by decide +kernel
theorem dJ2_checkIndex_2214a_8 : decode cJ2_checkIndex_2214a 8 = .ok (.return_, 1) := by decide +kernel
theorem dJ3_checkIndex_8e157_0 : decode cJ3_checkIndex_8e157 0 = .ok (.iload_n 0, 1) := by decide +kernel
theorem dJ3_checkIndex_8e157_1 : decode cJ3_checkIndex_8e157 1 = .ok (.ifCond .lt 8, 3) := by decide +kernel
theorem dJ3_checkIndex_8e157_4 : decode cJ3_checkIndex_8e157 4 = .ok (.iload_n 0, 1) := by decide +kernel
theorem dJ3_checkIndex_8e157_5 : decode cJ3_checkIndex_8e157 5 = .ok (.iload_n 1, 1) := by decide +kernel
theorem dJ3_checkIndex_8e157_6 : decode cJ3_checkIndex_8e157 6 = .ok (.if_icmp .lt 10, 3) := by decide +kernel
theorem dJ3_checkIndex_8e157_9 : decode cJ3_checkIndex_8e157 9 = .ok (.aload_n 2, 1) := by decide +kernel
theorem dJ3_checkIndex_8e157_10 : decode cJ3_checkIndex_8e157 10 = .ok (.iload_n 0, 1) := by decide +kernel
theorem dJ3_checkIndex_8e157_11 : decode cJ3_checkIndex_8e157 11 = .ok (.iload_n 1, 1) := by decide +kernel
theorem dJ3_checkIndex_8e157_12 : decode cJ3_checkIndex_8e157 12 = .ok (.invokestatic 95, 3) := by decide +kernel
theorem dJ3_checkIndex_8e157_15 : decode cJ3_checkIndex_8e157 15 = .ok (.athrow, 1) := by decide +kernel
theorem dJ3_checkIndex_8e157_16 : decode cJ3_checkIndex_8e157 16 = .ok (.iload_n 0, 1) := by decide +kernel
theorem dJ3_checkIndex_8e157_17 : decode cJ3_checkIndex_8e157 17 = .ok (.ireturn, 1) := by decide +kernel
