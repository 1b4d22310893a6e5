theorem dX7_init_0 : decode cX7_init 0 = .ok (.aload_n 0, 1) := by decide +kernel
theorem dX7_init_1 : decode cX7_init 1 = .ok (.invokespecial 3, 3) := by decide +kernel
theorem dX7_init_4 : decode cX7_init 4 = .ok (.aload_n 0, 1) := by decide +kernel
theorem dX7_init_5 : decode cX7_init 5 = .ok (.iconst (-1), 1) := by decide +kernel
theorem dX7_init_6 : decode cX7_init 6 = .ok (.putfield 9, 3) := by decide +kernel
theorem dX7_init_9 : decode cX7_init 9 = .ok (.aload_n 0, 1) := by decide +kernel
theorem dX7_init_10 : decode cX7_init 10 = .ok (.sipush 200, 3) := by decide +kernel
theorem dX7_init_13 : decode cX7_init 13 = .ok (.newarray .int, 2) := by decide +kernel
theorem dX7_init_15 : decode cX7_init 15 = .ok (.putfield 13, 3) := by decide +kernel
theorem dX7_init_18 : decode cX7_init 18 = .ok (.aload_n 0, 1) := by decide +kernel
theorem dX7_init_19 : decode cX7_init 19 = .ok (.bipush 12, 2) := by decide +kernel
theorem dX7_init_21 : decode cX7_init 21 = .ok (.newarray .int, 2) := by decide +kernel
theorem dX7_init_23 : decode cX7_init 23 = .ok (.putfield 17, 3) := by decide +kernel
theorem dX7_init_26 : decode cX7_init 26 = .ok (.aload_n 0, 1) := by decide +kernel
theorem dX7_init_27 : decode cX7_init 27 = .ok (.bipush 12, 2) := by decide +kernel
theorem dX7_init_29 : decode cX7_init 29 = .ok (.newarray .int, 2) := by decide +kernel
theorem dX7_init_31 : decode cX7_init 31 = .ok (.putfield 20, 3) := by decide +kernel
theorem dX7_init_34 : decode cX7_init 34 = .ok (.aload_n 0, 1) := by decide +kernel
theorem dX7_init_35 : decode cX7_init 35 = .ok (.bipush 12, 2) := by decide +kernel
theorem dX7_init_37 : decode cX7_init 37 = .ok (.newarray .int, 2) := by decide +kernel
theorem dX7_init_39 : decode cX7_init 39 = .ok (.putfield 23, 3) := by decide +kernel
theorem dX7_init_42 : decode cX7_init 42 = .ok (.aload_n 0, 1) := by decide +kernel
theorem dX7_init_43 : decode cX7_init 43 = .ok (.sipush 128, 3) := by decide +kernel
theorem dX7_init_46 : decode cX7_init 46 = .ok (.newarray .boolean, 2) := by decide +kernel
theorem dX7_init_48 : decode cX7_init 48 = .ok (.putfield 26, 3) := by decide +kernel
theorem dX7_init_51 : decode cX7_init 51 = .ok (.aload_n 0, 1) := by decide +kernel
theorem dX7_init_52 : decode cX7_init 52 = .ok (.sipush 128, 3) := by decide +kernel
theorem dX7_init_55 : decode cX7_init 55 = .ok (.newarray .long, 2) := by decide +kernel
theorem dX7_init_57 : decode cX7_init 57 = .ok (.putfield 30, 3) := by decide +kernel
theorem dX7_init_60 : decode cX7_init 60 = .ok (.aload_n 0, 1) := by decide +kernel
theorem dX7_init_61 : decode cX7_init 61 = .ok (.sipush 128, 3) := by decide +kernel
theorem dX7_init_64 : decode cX7_init 64 = .ok (.newarray .int, 2) := by decide +kernel
theorem dX7_init_66 : decode cX7_init 66 = .ok (.putfield 34, 3) := by decide +kernel
theorem dX7_init_69 : decode cX7_init 69 = .ok (.aload_n 0, 1) := by decide +kernel
theorem dX7_init_70 : decode cX7_init 70 = .ok (.sipush 128, 3) := by decide +kernel
theorem dX7_init_73 : decode cX7_init 73 = .ok (.newarray .int, 2) := by decide +kernel
theorem dX7_init_75 : decode cX7_init 75 = .ok (.putfield 37, 3) := by decide +kernel
theorem dX7_init_78 : decode cX7_init 78 = .ok (.aload_n 0, 1) := by decide +kernel
theorem dX7_init_79 : decode cX7_init 79 = .ok (.sipush 128, 3) := by decide +kernel
theorem dX7_init_82 : decode cX7_init 82 = .ok (.newarray .int, 2) := by decide +kernel
theorem dX7_init_84 : decode cX7_init 84 = .ok (.putfield 40, 3) := by decide +kernel
theorem dX7_init_87 : decode cX7_init 87 = .ok (.aload_n 0, 1) := by decide +kernel
theorem dX7_init_88 : decode cX7_init 88 = .ok (.sipush 4096, 3) := by decide +kernel
theorem dX7_init_91 : decode cX7_init 91 = .ok (.newarray .int, 2) := by decide +kernel
theorem dX7_init_93 : decode cX7_init 93 = .ok (.putfield 43, 3) := by decide +kernel
theorem dX7_init_96 : decode cX7_init 96 = .ok (.aload_n 0, 1) := by decide +kernel
theorem dX7_init_97 : decode cX7_init 97 = .ok (.sipush 4096, 3) := by decide +kernel
theorem dX7_init_100 : decode cX7_init 100 = .ok (.newarray .int, 2) := by decide +kernel
theorem dX7_init_102 : decode cX7_init 102 = .ok (.putfield 46, 3) := by decide +kernel
theorem dX7_init_105 : decode cX7_init 105 = .ok (.aload_n 0, 1) := by decide +kernel
theorem dX7_init_106 : decode cX7_init 106 = .ok (.bipush 12, 2) := by decide +kernel
theorem dX7_init_108 : decode cX7_init 108 = .ok (.newarray .int, 2) := by decide +kernel
theorem dX7_init_110 : decode cX7_init 110 = .ok (.putfield 49, 3) := by decide +kernel
theorem dX7_init_113 : decode cX7_init 113 = .ok (.aload_n 0, 1) := by decide +kernel
theorem dX7_init_114 : decode cX7_init 114 = .ok (.bipush 12, 2) := by decide +kernel
theorem dX7_init_116 : decode cX7_init 116 = .ok (.newarray .int, 2) := by decide +kernel
theorem dX7_init_118 : decode cX7_init 118 = .ok (.putfield 52, 3) := by decide +kernel
theorem dX7_init_121 : decode cX7_init 121 = .ok (.return_, 1) := by decide +kernel
theorem dX7_thrown_0 : decode cX7_thrown 0 = .ok (.aload_n 0, 1) := by decide +kernel
theorem dX7_thrown_1 : decode cX7_thrown 1 = .ok (.getfield 55, 3) := by decide +kernel
theorem dX7_thrown_4 : decode cX7_thrown 4 = .ok (.ireturn, 1) := by decide +kernel
theorem dX7_in_0 : decode cX7_in 0 = .ok (.iload_n 0, 1) := by decide +kernel
theorem dX7_in_1 : decode cX7_in 1 = .ok (.iload_n 1, 1) := by decide +kernel
theorem dX7_in_2 : decode cX7_in 2 = .ok (.if_icmp .lt 12, 3) := by decide +kernel
theorem dX7_in_5 : decode cX7_in 5 = .ok (.iload_n 0, 1) := by decide +kernel
theorem dX7_in_6 : decode cX7_in 6 = .ok (.iload_n 2, 1) := by decide +kernel
theorem dX7_in_7 : decode cX7_in 7 = .ok (.if_icmp .gt 7, 3) := by decide +kernel
theorem dX7_in_10 : decode cX7_in 10 = .ok (.iconst 1, 1) := by decide +kernel
theorem dX7_in_11 : decode cX7_in 11 = .ok (.goto 4, 3) := by decide +kernel
theorem dX7_in_14 : decode cX7_in 14 = .ok (.iconst 0, 1) := by decide +kernel
theorem dX7_in_15 : decode cX7_in 15 = .ok (.ireturn, 1) := by decide +kernel
theorem dX7_has_0 : decode cX7_has 0 = .ok (.iload_n 0, 1) := by decide +kernel
theorem dX7_has_1 : decode cX7_has 1 = .ok (.iload_n 1, 1) := by decide +kernel
theorem dX7_has_2 : decode cX7_has 2 = .ok (.ishr, 1) := by decide +kernel
theorem dX7_has_3 : decode cX7_has 3 = .ok (.iconst 1, 1) := by decide +kernel
theorem dX7_has_4 : decode cX7_has 4 = .ok (.iand, 1) := by decide +kernel
theorem dX7_has_5 : decode cX7_has 5 = .ok (.iconst 1, 1) := by decide +kernel
theorem dX7_has_6 : decode cX7_has 6 = .ok (.if_icmp .ne 7, 3) := by decide +kernel
theorem dX7_has_9 : decode cX7_has 9 = .ok (.iconst 1, 1) := by decide +kernel
theorem dX7_has_10 : decode cX7_has 10 = .ok (.goto 4, 3) := by decide +kernel
theorem dX7_has_13 : decode cX7_has 13 = .ok (.iconst 0, 1) := by decide +kernel
theorem dX7_has_14 : decode cX7_has 14 = .ok (.ireturn, 1) := by decide +kernel
theorem dX7_many_0 : decode cX7_many 0 = .ok (.iconst 0, 1) := by decide +kernel
theorem dX7_many_1 : decode cX7_many 1 = .ok (.istore_n 1, 1) := by decide +kernel
theorem dX7_many_2 : decode cX7_many 2 = .ok (.iload_n 0, 1) := by decide +kernel
theorem dX7_many_3 : decode cX7_many 3 = .ok (.istore_n 2, 1) := by decide +kernel
theorem dX7_many_4 : decode cX7_many 4 = .ok (.iload_n 2, 1) := by decide +kernel
theorem dX7_many_5 : decode cX7_many 5 = .ok (.ifCond .eq 15, 3) := by decide +kernel
theorem dX7_many_8 : decode cX7_many 8 = .ok (.iinc 1 1, 3) := by decide +kernel
theorem dX7_many_11 : decode cX7_many 11 = .ok (.iload_n 2, 1) := by decide +kernel
theorem dX7_many_12 : decode cX7_many 12 = .ok (.iload_n 2, 1) := by decide +kernel
theorem dX7_many_13 : decode cX7_many 13 = .ok (.iconst 1, 1) := by decide +kernel
theorem dX7_many_14 : decode cX7_many 14 = .ok (.isub, 1) := by decide +kernel
theorem dX7_many_15 : decode cX7_many 15 = .ok (.iand, 1) := by decide +kernel
theorem dX7_many_16 : decode cX7_many 16 = .ok (.istore_n 2, 1) := by decide +kernel
theorem dX7_many_17 : decode cX7_many 17 = .ok (.goto (-13), 3) := by decide +kernel
theorem dX7_many_20 : decode cX7_many 20 = .ok (.iload_n 1, 1) := by decide +kernel
theorem dX7_many_21 : decode cX7_many 21 = .ok (.ireturn, 1) := by decide +kernel
theorem dX7_lies_0 : decode cX7_lies 0 = .ok (.iload_n 0, 1) := by decide +kernel
theorem dX7_lies_1 : decode cX7_lies 1 = .ok (.iload_n 1, 1) := by decide +kernel
theorem dX7_lies_2 : decode cX7_lies 2 = .ok (.iconst (-1), 1) := by decide +kernel
theorem dX7_lies_3 : decode cX7_lies 3 = .ok (.ixor, 1) := by decide +kernel
theorem dX7_lies_4 : decode cX7_lies 4 = .ok (.iand, 1) := by decide +kernel
theorem dX7_lies_5 : decode cX7_lies 5 = .ok (.ifCond .ne 7, 3) := by decide +kernel
theorem dX7_lies_8 : decode cX7_lies 8 = .ok (.iconst 1, 1) := by decide +kernel
theorem dX7_lies_9 : decode cX7_lies 9 = .ok (.goto 4, 3) := by decide +kernel
theorem dX7_lies_12 : decode cX7_lies 12 = .ok (.iconst 0, 1) := by decide +kernel
theorem dX7_lies_13 : decode cX7_lies 13 = .ok (.ireturn, 1) := by decide +kernel
theorem dX7_no_0 : decode cX7_no 0 = .ok (.aload_n 0, 1) := by decide +kernel
theorem dX7_no_1 : decode cX7_no 1 = .ok (.iload_n 1, 1) := by decide +kernel
theorem dX7_no_2 : decode cX7_no 2 = .ok (.putfield 58, 3) := by decide +kernel
theorem dX7_no_5 : decode cX7_no 5 = .ok (.iconst (-1), 1) := by decide +kernel
theorem dX7_no_6 : decode cX7_no 6 = .ok (.ireturn, 1) := by decide +kernel
theorem dX7_isRefused_0 : decode cX7_isRefused 0 = .ok (.aload_n 0, 1) := by decide +kernel
theorem dX7_isRefused_1 : decode cX7_isRefused 1 = .ok (.iconst 0, 1) := by decide +kernel
theorem dX7_isRefused_2 : decode cX7_isRefused 2 = .ok (.putfield 55, 3) := by decide +kernel
theorem dX7_isRefused_5 : decode cX7_isRefused 5 = .ok (.aload_n 0, 1) := by decide +kernel
theorem dX7_isRefused_6 : decode cX7_isRefused 6 = .ok (.iconst (-1), 1) := by decide +kernel
theorem dX7_isRefused_7 : decode cX7_isRefused 7 = .ok (.putfield 9, 3) := by decide +kernel
theorem dX7_isRefused_10 : decode cX7_isRefused 10 = .ok (.aload_n 0, 1) := by decide +kernel
theorem dX7_isRefused_11 : decode cX7_isRefused 11 = .ok (.iload_n 1, 1) := by decide +kernel
theorem dX7_isRefused_12 : decode cX7_isRefused 12 = .ok (.putfield 58, 3) := by decide +kernel
theorem dX7_isRefused_15 : decode cX7_isRefused 15 = .ok (.iload_n 1, 1) := by decide +kernel
theorem dX7_isRefused_16 : decode cX7_isRefused 16 = .ok (.ifCond .eq 7, 3) := by decide +kernel
theorem dX7_isRefused_19 : decode cX7_isRefused 19 = .ok (.iconst 1, 1) := by decide +kernel
theorem dX7_isRefused_20 : decode cX7_isRefused 20 = .ok (.goto 4, 3) := by decide +kernel
theorem dX7_isRefused_23 : decode cX7_isRefused 23 = .ok (.iconst 0, 1) := by decide +kernel
theorem dX7_isRefused_24 : decode cX7_isRefused 24 = .ok (.ireturn, 1) := by decide +kernel
theorem dX7_unless_0 : decode cX7_unless 0 = .ok (.iload_n 0, 1) := by decide +kernel
theorem dX7_unless_1 : decode cX7_unless 1 = .ok (.ifCond .eq 7, 3) := by decide +kernel
theorem dX7_unless_4 : decode cX7_unless 4 = .ok (.iconst 0, 1) := by decide +kernel
theorem dX7_unless_5 : decode cX7_unless 5 = .ok (.goto 4, 3) := by decide +kernel
theorem dX7_unless_8 : decode cX7_unless 8 = .ok (.iconst 1, 1) := by decide +kernel
theorem dX7_unless_9 : decode cX7_unless 9 = .ok (.ireturn, 1) := by decide +kernel
theorem dX7_unless__0 : decode cX7_unless_ 0 = .ok (.iload_n 0, 1) := by decide +kernel
theorem dX7_unless__1 : decode cX7_unless_ 1 = .ok (.ifCond .ne 7, 3) := by decide +kernel
theorem dX7_unless__4 : decode cX7_unless_ 4 = .ok (.iconst 1, 1) := by decide +kernel
theorem dX7_unless__5 : decode cX7_unless_ 5 = .ok (.goto 12, 3) := by decide +kernel
theorem dX7_unless__8 : decode cX7_unless_ 8 = .ok (.iload_n 1, 1) := by decide +kernel
theorem dX7_unless__9 : decode cX7_unless_ 9 = .ok (.ifCond .eq 7, 3) := by decide +kernel
theorem dX7_unless__12 : decode cX7_unless_ 12 = .ok (.iconst 0, 1) := by decide +kernel
theorem dX7_unless__13 : decode cX7_unless_ 13 = .ok (.goto 4, 3) := by decide +kernel
theorem dX7_unless__16 : decode cX7_unless_ 16 = .ok (.iconst 2, 1) := by decide +kernel
theorem dX7_unless__17 : decode cX7_unless_ 17 = .ok (.ireturn, 1) := by decide +kernel
theorem dX7_feed_0 : decode cX7_feed 0 = .ok (.aload_n 0, 1) := by decide +kernel
theorem dX7_feed_1 : decode cX7_feed 1 = .ok (.iconst 0, 1) := by decide +kernel
theorem dX7_feed_2 : decode cX7_feed 2 = .ok (.putfield 55, 3) := by decide +kernel
theorem dX7_feed_5 : decode cX7_feed 5 = .ok (.aload_n 0, 1) := by decide +kernel
theorem dX7_feed_6 : decode cX7_feed 6 = .ok (.getfield 61, 3) := by decide +kernel
theorem dX7_feed_9 : decode cX7_feed 9 = .ok (.sipush 180, 3) := by decide +kernel
theorem dX7_feed_12 : decode cX7_feed 12 = .ok (.if_icmp .le 5, 3) := by decide +kernel
theorem dX7_feed_15 : decode cX7_feed 15 = .ok (.iconst (-1), 1) := by decide +kernel
theorem dX7_feed_16 : decode cX7_feed 16 = .ok (.ireturn, 1) := by decide +kernel
theorem dX7_feed_17 : decode cX7_feed 17 = .ok (.aload_n 0, 1) := by decide +kernel
theorem dX7_feed_18 : decode cX7_feed 18 = .ok (.iload_n 1, 1) := by decide +kernel
theorem dX7_feed_19 : decode cX7_feed 19 = .ok (.invokevirtual 64, 3) := by decide +kernel
theorem dX7_feed_22 : decode cX7_feed 22 = .ok (.aload_n 0, 1) := by decide +kernel
theorem dX7_feed_23 : decode cX7_feed 23 = .ok (.iload_n 2, 1) := by decide +kernel
theorem dX7_feed_24 : decode cX7_feed 24 = .ok (.invokevirtual 64, 3) := by decide +kernel
theorem dX7_feed_27 : decode cX7_feed 27 = .ok (.aload_n 0, 1) := by decide +kernel
theorem dX7_feed_28 : decode cX7_feed 28 = .ok (.iload_n 3, 1) := by decide +kernel
theorem dX7_feed_29 : decode cX7_feed 29 = .ok (.invokevirtual 64, 3) := by decide +kernel
theorem dX7_feed_32 : decode cX7_feed 32 = .ok (.aload_n 0, 1) := by decide +kernel
theorem dX7_feed_33 : decode cX7_feed 33 = .ok (.iload 4, 2) := by decide +kernel
theorem dX7_feed_35 : decode cX7_feed 35 = .ok (.invokevirtual 64, 3) := by decide +kernel
theorem dX7_feed_38 : decode cX7_feed 38 = .ok (.aload_n 0, 1) := by decide +kernel
theorem dX7_feed_39 : decode cX7_feed 39 = .ok (.iload 5, 2) := by decide +kernel
theorem dX7_feed_41 : decode cX7_feed 41 = .ok (.invokevirtual 64, 3) := by decide +kernel
theorem dX7_feed_44 : decode cX7_feed 44 = .ok (.aload_n 0, 1) := by decide +kernel
theorem dX7_feed_45 : decode cX7_feed 45 = .ok (.getfield 61, 3) := by decide +kernel
theorem dX7_feed_48 : decode cX7_feed 48 = .ok (.ireturn, 1) := by decide +kernel
theorem dX7_laysWord_0 : decode cX7_laysWord 0 = .ok (.iconst 0, 1) := by decide +kernel
theorem dX7_laysWord_1 : decode cX7_laysWord 1 = .ok (.istore_n 2, 1) := by decide +kernel
theorem dX7_laysWord_2 : decode cX7_laysWord 2 = .ok (.iload_n 2, 1) := by decide +kernel
theorem dX7_laysWord_3 : decode cX7_laysWord 3 = .ok (.iconst 4, 1) := by decide +kernel
theorem dX7_laysWord_4 : decode cX7_laysWord 4 = .ok (.if_icmp .ge 33, 3) := by decide +kernel
theorem dX7_laysWord_7 : decode cX7_laysWord 7 = .ok (.aload_n 0, 1) := by decide +kernel
theorem dX7_laysWord_8 : decode cX7_laysWord 8 = .ok (.getfield 13, 3) := by decide +kernel
theorem dX7_laysWord_11 : decode cX7_laysWord 11 = .ok (.aload_n 0, 1) := by decide +kernel
theorem dX7_laysWord_12 : decode cX7_laysWord 12 = .ok (.getfield 61, 3) := by decide +kernel
theorem dX7_laysWord_15 : decode cX7_laysWord 15 = .ok (.iload_n 2, 1) := by decide +kernel
theorem dX7_laysWord_16 : decode cX7_laysWord 16 = .ok (.iadd, 1) := by decide +kernel
theorem dX7_laysWord_17 : decode cX7_laysWord 17 = .ok (.iload_n 1, 1) := by decide +kernel
theorem dX7_laysWord_18 : decode cX7_laysWord 18 = .ok (.bipush 24, 2) := by decide +kernel
theorem dX7_laysWord_20 : decode cX7_laysWord 20 = .ok (.bipush 8, 2) := by decide +kernel
theorem dX7_laysWord_22 : decode cX7_laysWord 22 = .ok (.iload_n 2, 1) := by decide +kernel
theorem dX7_laysWord_23 : decode cX7_laysWord 23 = .ok (.imul, 1) := by decide +kernel
theorem dX7_laysWord_24 : decode cX7_laysWord 24 = .ok (.isub, 1) := by decide +kernel
theorem dX7_laysWord_25 : decode cX7_laysWord 25 = .ok (.ishr, 1) := by decide +kernel
theorem dX7_laysWord_26 : decode cX7_laysWord 26 = .ok (.sipush 255, 3) := by decide +kernel
theorem dX7_laysWord_29 : decode cX7_laysWord 29 = .ok (.iand, 1) := by decide +kernel
theorem dX7_laysWord_30 : decode cX7_laysWord 30 = .ok (.iastore, 1) := by decide +kernel
theorem dX7_laysWord_31 : decode cX7_laysWord 31 = .ok (.iinc 2 1, 3) := by decide +kernel
theorem dX7_laysWord_34 : decode cX7_laysWord 34 = .ok (.goto (-32), 3) := by decide +kernel
theorem dX7_laysWord_37 : decode cX7_laysWord 37 = .ok (.aload_n 0, 1) := by decide +kernel
theorem dX7_laysWord_38 : decode cX7_laysWord 38 = .ok (.dup, 1) := by decide +kernel
theorem dX7_laysWord_39 : decode cX7_laysWord 39 = .ok (.getfield 61, 3) := by decide +kernel
theorem dX7_laysWord_42 : decode cX7_laysWord 42 = .ok (.iconst 4, 1) := by decide +kernel
theorem dX7_laysWord_43 : decode cX7_laysWord 43 = .ok (.iadd, 1) := by decide +kernel
theorem dX7_laysWord_44 : decode cX7_laysWord 44 = .ok (.putfield 61, 3) := by decide +kernel
theorem dX7_laysWord_47 : decode cX7_laysWord 47 = .ok (.return_, 1) := by decide +kernel
theorem dX7_see_0 : decode cX7_see 0 = .ok (.iload_n 1, 1) := by decide +kernel
theorem dX7_see_1 : decode cX7_see 1 = .ok (.aload_n 0, 1) := by decide +kernel
theorem dX7_see_2 : decode cX7_see 2 = .ok (.getfield 68, 3) := by decide +kernel
theorem dX7_see_5 : decode cX7_see 5 = .ok (.if_icmp .ge 12, 3) := by decide +kernel
theorem dX7_see_8 : decode cX7_see 8 = .ok (.aload_n 0, 1) := by decide +kernel
theorem dX7_see_9 : decode cX7_see 9 = .ok (.getfield 13, 3) := by decide +kernel
theorem dX7_see_12 : decode cX7_see 12 = .ok (.iload_n 1, 1) := by decide +kernel
theorem dX7_see_13 : decode cX7_see 13 = .ok (.iaload, 1) := by decide +kernel
theorem dX7_see_14 : decode cX7_see 14 = .ok (.goto 4, 3) := by decide +kernel
theorem dX7_see_17 : decode cX7_see 17 = .ok (.iconst (-1), 1) := by decide +kernel
theorem dX7_see_18 : decode cX7_see 18 = .ok (.ireturn, 1) := by decide +kernel
theorem dX7_goesOn_0 : decode cX7_goesOn 0 = .ok (.aload_n 0, 1) := by decide +kernel
theorem dX7_goesOn_1 : decode cX7_goesOn 1 = .ok (.aload_n 0, 1) := by decide +kernel
theorem dX7_goesOn_2 : decode cX7_goesOn 2 = .ok (.getfield 71, 3) := by decide +kernel
theorem dX7_goesOn_5 : decode cX7_goesOn 5 = .ok (.invokevirtual 74, 3) := by decide +kernel
theorem dX7_goesOn_8 : decode cX7_goesOn 8 = .ok (.bipush 32, 2) := by decide +kernel
theorem dX7_goesOn_10 : decode cX7_goesOn 10 = .ok (.if_icmp .ne 16, 3) := by decide +kernel
theorem dX7_goesOn_13 : decode cX7_goesOn 13 = .ok (.aload_n 0, 1) := by decide +kernel
theorem dX7_goesOn_14 : decode cX7_goesOn 14 = .ok (.dup, 1) := by decide +kernel
theorem dX7_goesOn_15 : decode cX7_goesOn 15 = .ok (.getfield 71, 3) := by decide +kernel
theorem dX7_goesOn_18 : decode cX7_goesOn 18 = .ok (.iconst 1, 1) := by decide +kernel
theorem dX7_goesOn_19 : decode cX7_goesOn 19 = .ok (.iadd, 1) := by decide +kernel
theorem dX7_goesOn_20 : decode cX7_goesOn 20 = .ok (.putfield 71, 3) := by decide +kernel
theorem dX7_goesOn_23 : decode cX7_goesOn 23 = .ok (.goto (-23), 3) := by decide +kernel
theorem dX7_goesOn_26 : decode cX7_goesOn 26 = .ok (.aload_n 0, 1) := by decide +kernel
theorem dX7_goesOn_27 : decode cX7_goesOn 27 = .ok (.aload_n 0, 1) := by decide +kernel
theorem dX7_goesOn_28 : decode cX7_goesOn 28 = .ok (.getfield 71, 3) := by decide +kernel
theorem dX7_goesOn_31 : decode cX7_goesOn 31 = .ok (.putfield 78, 3) := by decide +kernel
theorem dX7_goesOn_34 : decode cX7_goesOn 34 = .ok (.aload_n 0, 1) := by decide +kernel
theorem dX7_goesOn_35 : decode cX7_goesOn 35 = .ok (.aload_n 0, 1) := by decide +kernel
theorem dX7_goesOn_36 : decode cX7_goesOn 36 = .ok (.getfield 71, 3) := by decide +kernel
theorem dX7_goesOn_39 : decode cX7_goesOn 39 = .ok (.invokevirtual 74, 3) := by decide +kernel
theorem dX7_goesOn_42 : decode cX7_goesOn 42 = .ok (.istore_n 1, 1) := by decide +kernel
theorem dX7_goesOn_43 : decode cX7_goesOn 43 = .ok (.iload_n 1, 1) := by decide +kernel
theorem dX7_goesOn_44 : decode cX7_goesOn 44 = .ok (.iconst (-1), 1) := by decide +kernel
theorem dX7_goesOn_45 : decode cX7_goesOn 45 = .ok (.if_icmp .ne 9, 3) := by decide +kernel
theorem dX7_goesOn_48 : decode cX7_goesOn 48 = .ok (.aload_n 0, 1) := by decide +kernel
theorem dX7_goesOn_49 : decode cX7_goesOn 49 = .ok (.iconst 0, 1) := by decide +kernel
theorem dX7_goesOn_50 : decode cX7_goesOn 50 = .ok (.putfield 81, 3) := by decide +kernel
theorem dX7_goesOn_53 : decode cX7_goesOn 53 = .ok (.return_, 1) := by decide +kernel
theorem dX7_goesOn_54 : decode cX7_goesOn 54 = .ok (.iload_n 1, 1) := by decide +kernel
theorem dX7_goesOn_55 : decode cX7_goesOn 55 = .ok (.bipush 97, 2) := by decide +kernel
theorem dX7_goesOn_57 : decode cX7_goesOn 57 = .ok (.bipush 122, 2) := by decide +kernel
theorem dX7_goesOn_59 : decode cX7_goesOn 59 = .ok (.invokestatic 84, 3) := by decide +kernel
theorem dX7_goesOn_62 : decode cX7_goesOn 62 = .ok (.ifCond .eq 58, 3) := by decide +kernel
theorem dX7_goesOn_65 : decode cX7_goesOn 65 = .ok (.aload_n 0, 1) := by decide +kernel
theorem dX7_goesOn_66 : decode cX7_goesOn 66 = .ok (.aload_n 0, 1) := by decide +kernel
theorem dX7_goesOn_67 : decode cX7_goesOn 67 = .ok (.getfield 71, 3) := by decide +kernel
theorem dX7_goesOn_70 : decode cX7_goesOn 70 = .ok (.invokevirtual 74, 3) := by decide +kernel
theorem dX7_goesOn_73 : decode cX7_goesOn 73 = .ok (.bipush 97, 2) := by decide +kernel
theorem dX7_goesOn_75 : decode cX7_goesOn 75 = .ok (.bipush 122, 2) := by decide +kernel
theorem dX7_goesOn_77 : decode cX7_goesOn 77 = .ok (.invokestatic 84, 3) := by decide +kernel
theorem dX7_goesOn_80 : decode cX7_goesOn 80 = .ok (.ifCond .eq 16, 3) := by decide +kernel
theorem dX7_goesOn_83 : decode cX7_goesOn 83 = .ok (.aload_n 0, 1) := by decide +kernel
theorem dX7_goesOn_84 : decode cX7_goesOn 84 = .ok (.dup, 1) := by decide +kernel
theorem dX7_goesOn_85 : decode cX7_goesOn 85 = .ok (.getfield 71, 3) := by decide +kernel
theorem dX7_goesOn_88 : decode cX7_goesOn 88 = .ok (.iconst 1, 1) := by decide +kernel
theorem dX7_goesOn_89 : decode cX7_goesOn 89 = .ok (.iadd, 1) := by decide +kernel
theorem dX7_goesOn_90 : decode cX7_goesOn 90 = .ok (.putfield 71, 3) := by decide +kernel
theorem dX7_goesOn_93 : decode cX7_goesOn 93 = .ok (.goto (-28), 3) := by decide +kernel
theorem dX7_goesOn_96 : decode cX7_goesOn 96 = .ok (.aload_n 0, 1) := by decide +kernel
theorem dX7_goesOn_97 : decode cX7_goesOn 97 = .ok (.aload_n 0, 1) := by decide +kernel
theorem dX7_goesOn_98 : decode cX7_goesOn 98 = .ok (.getfield 71, 3) := by decide +kernel
theorem dX7_goesOn_101 : decode cX7_goesOn 101 = .ok (.aload_n 0, 1) := by decide +kernel
theorem dX7_goesOn_102 : decode cX7_goesOn 102 = .ok (.getfield 78, 3) := by decide +kernel
theorem dX7_goesOn_105 : decode cX7_goesOn 105 = .ok (.isub, 1) := by decide +kernel
theorem dX7_goesOn_106 : decode cX7_goesOn 106 = .ok (.bipush 7, 2) := by decide +kernel
theorem dX7_goesOn_108 : decode cX7_goesOn 108 = .ok (.if_icmp .le 7, 3) := by decide +kernel
theorem dX7_goesOn_111 : decode cX7_goesOn 111 = .ok (.iconst 1, 1) := by decide +kernel
theorem dX7_goesOn_112 : decode cX7_goesOn 112 = .ok (.goto 4, 3) := by decide +kernel
theorem dX7_goesOn_115 : decode cX7_goesOn 115 = .ok (.iconst 2, 1) := by decide +kernel
theorem dX7_goesOn_116 : decode cX7_goesOn 116 = .ok (.putfield 81, 3) := by decide +kernel
theorem dX7_goesOn_119 : decode cX7_goesOn 119 = .ok (.return_, 1) := by decide +kernel
theorem dX7_goesOn_120 : decode cX7_goesOn 120 = .ok (.iload_n 1, 1) := by decide +kernel
theorem dX7_goesOn_121 : decode cX7_goesOn 121 = .ok (.bipush 48, 2) := by decide +kernel
theorem dX7_goesOn_123 : decode cX7_goesOn 123 = .ok (.bipush 57, 2) := by decide +kernel
theorem dX7_goesOn_125 : decode cX7_goesOn 125 = .ok (.invokestatic 84, 3) := by decide +kernel
theorem dX7_goesOn_128 : decode cX7_goesOn 128 = .ok (.ifCond .eq 105, 3) := by decide +kernel
theorem dX7_goesOn_131 : decode cX7_goesOn 131 = .ok (.aload_n 0, 1) := by decide +kernel
theorem dX7_goesOn_132 : decode cX7_goesOn 132 = .ok (.iconst 0, 1) := by decide +kernel
theorem dX7_goesOn_133 : decode cX7_goesOn 133 = .ok (.putfield 88, 3) := by decide +kernel
theorem dX7_goesOn_136 : decode cX7_goesOn 136 = .ok (.aload_n 0, 1) := by decide +kernel
theorem dX7_goesOn_137 : decode cX7_goesOn 137 = .ok (.aload_n 0, 1) := by decide +kernel
theorem dX7_goesOn_138 : decode cX7_goesOn 138 = .ok (.getfield 71, 3) := by decide +kernel
theorem dX7_goesOn_141 : decode cX7_goesOn 141 = .ok (.invokevirtual 74, 3) := by decide +kernel
theorem dX7_goesOn_144 : decode cX7_goesOn 144 = .ok (.bipush 48, 2) := by decide +kernel
theorem dX7_goesOn_146 : decode cX7_goesOn 146 = .ok (.bipush 57, 2) := by decide +kernel
theorem dX7_goesOn_148 : decode cX7_goesOn 148 = .ok (.invokestatic 84, 3) := by decide +kernel
theorem dX7_goesOn_151 : decode cX7_goesOn 151 = .ok (.ifCond .eq 59, 3) := by decide +kernel
theorem dX7_goesOn_154 : decode cX7_goesOn 154 = .ok (.aload_n 0, 1) := by decide +kernel
theorem dX7_goesOn_155 : decode cX7_goesOn 155 = .ok (.aload_n 0, 1) := by decide +kernel
theorem dX7_goesOn_156 : decode cX7_goesOn 156 = .ok (.getfield 71, 3) := by decide +kernel
theorem dX7_goesOn_159 : decode cX7_goesOn 159 = .ok (.aload_n 0, 1) := by decide +kernel
theorem dX7_goesOn_160 : decode cX7_goesOn 160 = .ok (.getfield 78, 3) := by decide +kernel
theorem dX7_goesOn_163 : decode cX7_goesOn 163 = .ok (.isub, 1) := by decide +kernel
theorem dX7_goesOn_164 : decode cX7_goesOn 164 = .ok (.iconst 2, 1) := by decide +kernel
theorem dX7_goesOn_165 : decode cX7_goesOn 165 = .ok (.if_icmp .ge 25, 3) := by decide +kernel
theorem dX7_goesOn_168 : decode cX7_goesOn 168 = .ok (.bipush 10, 2) := by decide +kernel
theorem dX7_goesOn_170 : decode cX7_goesOn 170 = .ok (.aload_n 0, 1) := by decide +kernel
theorem dX7_goesOn_171 : decode cX7_goesOn 171 = .ok (.getfield 88, 3) := by decide +kernel
theorem dX7_goesOn_174 : decode cX7_goesOn 174 = .ok (.imul, 1) := by decide +kernel
theorem dX7_goesOn_175 : decode cX7_goesOn 175 = .ok (.aload_n 0, 1) := by decide +kernel
theorem dX7_goesOn_176 : decode cX7_goesOn 176 = .ok (.aload_n 0, 1) := by decide +kernel
theorem dX7_goesOn_177 : decode cX7_goesOn 177 = .ok (.getfield 71, 3) := by decide +kernel
theorem dX7_goesOn_180 : decode cX7_goesOn 180 = .ok (.invokevirtual 74, 3) := by decide +kernel
theorem dX7_goesOn_183 : decode cX7_goesOn 183 = .ok (.iadd, 1) := by decide +kernel
theorem dX7_goesOn_184 : decode cX7_goesOn 184 = .ok (.bipush 48, 2) := by decide +kernel
theorem dX7_goesOn_186 : decode cX7_goesOn 186 = .ok (.isub, 1) := by decide +kernel
theorem dX7_goesOn_187 : decode cX7_goesOn 187 = .ok (.goto 7, 3) := by decide +kernel
theorem dX7_goesOn_190 : decode cX7_goesOn 190 = .ok (.aload_n 0, 1) := by decide +kernel
theorem dX7_goesOn_191 : decode cX7_goesOn 191 = .ok (.getfield 88, 3) := by decide +kernel
theorem dX7_goesOn_194 : decode cX7_goesOn 194 = .ok (.putfield 88, 3) := by decide +kernel
theorem dX7_goesOn_197 : decode cX7_goesOn 197 = .ok (.aload_n 0, 1) := by decide +kernel
theorem dX7_goesOn_198 : decode cX7_goesOn 198 = .ok (.dup, 1) := by decide +kernel
theorem dX7_goesOn_199 : decode cX7_goesOn 199 = .ok (.getfield 71, 3) := by decide +kernel
theorem dX7_goesOn_202 : decode cX7_goesOn 202 = .ok (.iconst 1, 1) := by decide +kernel
theorem dX7_goesOn_203 : decode cX7_goesOn 203 = .ok (.iadd, 1) := by decide +kernel
theorem dX7_goesOn_204 : decode cX7_goesOn 204 = .ok (.putfield 71, 3) := by decide +kernel
theorem dX7_goesOn_207 : decode cX7_goesOn 207 = .ok (.goto (-71), 3) := by decide +kernel
theorem dX7_goesOn_210 : decode cX7_goesOn 210 = .ok (.aload_n 0, 1) := by decide +kernel
theorem dX7_goesOn_211 : decode cX7_goesOn 211 = .ok (.aload_n 0, 1) := by decide +kernel
theorem dX7_goesOn_212 : decode cX7_goesOn 212 = .ok (.getfield 71, 3) := by decide +kernel
theorem dX7_goesOn_215 : decode cX7_goesOn 215 = .ok (.aload_n 0, 1) := by decide +kernel
theorem dX7_goesOn_216 : decode cX7_goesOn 216 = .ok (.getfield 78, 3) := by decide +kernel
theorem dX7_goesOn_219 : decode cX7_goesOn 219 = .ok (.isub, 1) := by decide +kernel
theorem dX7_goesOn_220 : decode cX7_goesOn 220 = .ok (.iconst 2, 1) := by decide +kernel
theorem dX7_goesOn_221 : decode cX7_goesOn 221 = .ok (.if_icmp .le 7, 3) := by decide +kernel
theorem dX7_goesOn_224 : decode cX7_goesOn 224 = .ok (.iconst 1, 1) := by decide +kernel
theorem dX7_goesOn_225 : decode cX7_goesOn 225 = .ok (.goto 4, 3) := by decide +kernel
theorem dX7_goesOn_228 : decode cX7_goesOn 228 = .ok (.iconst 3, 1) := by decide +kernel
theorem dX7_goesOn_229 : decode cX7_goesOn 229 = .ok (.putfield 81, 3) := by decide +kernel
theorem dX7_goesOn_232 : decode cX7_goesOn 232 = .ok (.return_, 1) := by decide +kernel
theorem dX7_goesOn_233 : decode cX7_goesOn 233 = .ok (.aload_n 0, 1) := by decide +kernel
theorem dX7_goesOn_234 : decode cX7_goesOn 234 = .ok (.dup, 1) := by decide +kernel
theorem dX7_goesOn_235 : decode cX7_goesOn 235 = .ok (.getfield 71, 3) := by decide +kernel
theorem dX7_goesOn_238 : decode cX7_goesOn 238 = .ok (.iconst 1, 1) := by decide +kernel
theorem dX7_goesOn_239 : decode cX7_goesOn 239 = .ok (.iadd, 1) := by decide +kernel
theorem dX7_goesOn_240 : decode cX7_goesOn 240 = .ok (.putfield 71, 3) := by decide +kernel
theorem dX7_goesOn_243 : decode cX7_goesOn 243 = .ok (.aload_n 0, 1) := by decide +kernel
theorem dX7_goesOn_244 : decode cX7_goesOn 244 = .ok (.iload_n 1, 1) := by decide +kernel
theorem dX7_goesOn_245 : decode cX7_goesOn 245 = .ok (.bipush 59, 2) := by decide +kernel
theorem dX7_goesOn_247 : decode cX7_goesOn 247 = .ok (.if_icmp .ne 7, 3) := by decide +kernel
theorem dX7_goesOn_250 : decode cX7_goesOn 250 = .ok (.iload_n 1, 1) := by decide +kernel
theorem dX7_goesOn_251 : decode cX7_goesOn 251 = .ok (.goto 4, 3) := by decide +kernel
theorem dX7_goesOn_254 : decode cX7_goesOn 254 = .ok (.iconst 1, 1) := by decide +kernel
theorem dX7_goesOn_255 : decode cX7_goesOn 255 = .ok (.putfield 81, 3) := by decide +kernel
theorem dX7_goesOn_258 : decode cX7_goesOn 258 = .ok (.return_, 1) := by decide +kernel
theorem dX7_isWord_0 : decode cX7_isWord 0 = .ok (.aload_n 0, 1) := by decide +kernel
theorem dX7_isWord_1 : decode cX7_isWord 1 = .ok (.getfield 81, 3) := by decide +kernel
theorem dX7_isWord_4 : decode cX7_isWord 4 = .ok (.iconst 2, 1) := by decide +kernel
theorem dX7_isWord_5 : decode cX7_isWord 5 = .ok (.if_icmp .ne 19, 3) := by decide +kernel
theorem dX7_isWord_8 : decode cX7_isWord 8 = .ok (.aload_n 0, 1) := by decide +kernel
theorem dX7_isWord_9 : decode cX7_isWord 9 = .ok (.getfield 71, 3) := by decide +kernel
theorem dX7_isWord_12 : decode cX7_isWord 12 = .ok (.aload_n 0, 1) := by decide +kernel
theorem dX7_isWord_13 : decode cX7_isWord 13 = .ok (.getfield 78, 3) := by decide +kernel
theorem dX7_isWord_16 : decode cX7_isWord 16 = .ok (.isub, 1) := by decide +kernel
theorem dX7_isWord_17 : decode cX7_isWord 17 = .ok (.aload_n 1, 1) := by decide +kernel
theorem dX7_isWord_18 : decode cX7_isWord 18 = .ok (.invokevirtual 91, 3) := by decide +kernel
theorem dX7_isWord_21 : decode cX7_isWord 21 = .ok (.if_icmp .eq 5, 3) := by decide +kernel
theorem dX7_isWord_24 : decode cX7_isWord 24 = .ok (.iconst 0, 1) := by decide +kernel
theorem dX7_isWord_25 : decode cX7_isWord 25 = .ok (.ireturn, 1) := by decide +kernel
theorem dX7_isWord_26 : decode cX7_isWord 26 = .ok (.iconst 0, 1) := by decide +kernel
theorem dX7_isWord_27 : decode cX7_isWord 27 = .ok (.istore_n 2, 1) := by decide +kernel
theorem dX7_isWord_28 : decode cX7_isWord 28 = .ok (.iload_n 2, 1) := by decide +kernel
theorem dX7_isWord_29 : decode cX7_isWord 29 = .ok (.aload_n 1, 1) := by decide +kernel
theorem dX7_isWord_30 : decode cX7_isWord 30 = .ok (.invokevirtual 91, 3) := by decide +kernel
theorem dX7_isWord_33 : decode cX7_isWord 33 = .ok (.if_icmp .ge 30, 3) := by decide +kernel
theorem dX7_isWord_36 : decode cX7_isWord 36 = .ok (.aload_n 0, 1) := by decide +kernel
theorem dX7_isWord_37 : decode cX7_isWord 37 = .ok (.getfield 13, 3) := by decide +kernel
theorem dX7_isWord_40 : decode cX7_isWord 40 = .ok (.aload_n 0, 1) := by decide +kernel
theorem dX7_isWord_41 : decode cX7_isWord 41 = .ok (.getfield 78, 3) := by decide +kernel
theorem dX7_isWord_44 : decode cX7_isWord 44 = .ok (.iload_n 2, 1) := by decide +kernel
theorem dX7_isWord_45 : decode cX7_isWord 45 = .ok (.iadd, 1) := by decide +kernel
theorem dX7_isWord_46 : decode cX7_isWord 46 = .ok (.iaload, 1) := by decide +kernel
theorem dX7_isWord_47 : decode cX7_isWord 47 = .ok (.aload_n 1, 1) := by decide +kernel
theorem dX7_isWord_48 : decode cX7_isWord 48 = .ok (.iload_n 2, 1) := by decide +kernel
theorem dX7_isWord_49 : decode cX7_isWord 49 = .ok (.invokevirtual 97, 3) := by decide +kernel
theorem dX7_isWord_52 : decode cX7_isWord 52 = .ok (.if_icmp .eq 5, 3) := by decide +kernel
theorem dX7_isWord_55 : decode cX7_isWord 55 = .ok (.iconst 0, 1) := by decide +kernel
theorem dX7_isWord_56 : decode cX7_isWord 56 = .ok (.ireturn, 1) := by decide +kernel
theorem dX7_isWord_57 : decode cX7_isWord 57 = .ok (.iinc 2 1, 3) := by decide +kernel
theorem dX7_isWord_60 : decode cX7_isWord 60 = .ok (.goto (-32), 3) := by decide +kernel
theorem dX7_isWord_63 : decode cX7_isWord 63 = .ok (.iconst 1, 1) := by decide +kernel
theorem dX7_isWord_64 : decode cX7_isWord 64 = .ok (.ireturn, 1) := by decide +kernel
theorem dX7_errs_0 : decode cX7_errs 0 = .ok (.aload_n 0, 1) := by decide +kernel
theorem dX7_errs_1 : decode cX7_errs 1 = .ok (.iload_n 1, 1) := by decide +kernel
theorem dX7_errs_2 : decode cX7_errs 2 = .ok (.putfield 101, 3) := by decide +kernel
theorem dX7_errs_5 : decode cX7_errs 5 = .ok (.aload_n 0, 1) := by decide +kernel
theorem dX7_errs_6 : decode cX7_errs 6 = .ok (.aload_n 0, 1) := by decide +kernel
theorem dX7_errs_7 : decode cX7_errs 7 = .ok (.getfield 78, 3) := by decide +kernel
theorem dX7_errs_10 : decode cX7_errs 10 = .ok (.putfield 104, 3) := by decide +kernel
theorem dX7_errs_13 : decode cX7_errs 13 = .ok (.iconst 0, 1) := by decide +kernel
theorem dX7_errs_14 : decode cX7_errs 14 = .ok (.ireturn, 1) := by decide +kernel
theorem dX7_after_0 : decode cX7_after 0 = .ok (.aload_n 0, 1) := by decide +kernel
theorem dX7_after_1 : decode cX7_after 1 = .ok (.aload_n 1, 1) := by decide +kernel
theorem dX7_after_2 : decode cX7_after 2 = .ok (.invokevirtual 107, 3) := by decide +kernel
theorem dX7_after_5 : decode cX7_after 5 = .ok (.istore 4, 2) := by decide +kernel
theorem dX7_after_7 : decode cX7_after 7 = .ok (.iload 4, 2) := by decide +kernel
theorem dX7_after_9 : decode cX7_after 9 = .ok (.ifCond .eq 7, 3) := by decide +kernel
theorem dX7_after_12 : decode cX7_after 12 = .ok (.aload_n 0, 1) := by decide +kernel
theorem dX7_after_13 : decode cX7_after 13 = .ok (.invokevirtual 111, 3) := by decide +kernel
theorem dX7_after_16 : decode cX7_after 16 = .ok (.iload 4, 2) := by decide +kernel
theorem dX7_after_18 : decode cX7_after 18 = .ok (.ifCond .eq 23, 3) := by decide +kernel
theorem dX7_after_21 : decode cX7_after 21 = .ok (.aload_n 0, 1) := by decide +kernel
theorem dX7_after_22 : decode cX7_after 22 = .ok (.getfield 81, 3) := by decide +kernel
theorem dX7_after_25 : decode cX7_after 25 = .ok (.iconst 3, 1) := by decide +kernel
theorem dX7_after_26 : decode cX7_after 26 = .ok (.if_icmp .ne 15, 3) := by decide +kernel
theorem dX7_after_29 : decode cX7_after 29 = .ok (.aload_n 0, 1) := by decide +kernel
theorem dX7_after_30 : decode cX7_after 30 = .ok (.getfield 88, 3) := by decide +kernel
theorem dX7_after_33 : decode cX7_after 33 = .ok (.iload_n 2, 1) := by decide +kernel
theorem dX7_after_34 : decode cX7_after 34 = .ok (.iload_n 3, 1) := by decide +kernel
theorem dX7_after_35 : decode cX7_after 35 = .ok (.invokestatic 84, 3) := by decide +kernel
theorem dX7_after_38 : decode cX7_after 38 = .ok (.ifCond .ne 29, 3) := by decide +kernel
theorem dX7_after_41 : decode cX7_after 41 = .ok (.aload_n 0, 1) := by decide +kernel
theorem dX7_after_42 : decode cX7_after 42 = .ok (.iload 4, 2) := by decide +kernel
theorem dX7_after_44 : decode cX7_after 44 = .ok (.ifCond .eq 15, 3) := by decide +kernel
theorem dX7_after_47 : decode cX7_after 47 = .ok (.aload_n 0, 1) := by decide +kernel
theorem dX7_after_48 : decode cX7_after 48 = .ok (.getfield 81, 3) := by decide +kernel
theorem dX7_after_51 : decode cX7_after 51 = .ok (.iconst 3, 1) := by decide +kernel
theorem dX7_after_52 : decode cX7_after 52 = .ok (.if_icmp .ne 7, 3) := by decide +kernel
theorem dX7_after_55 : decode cX7_after 55 = .ok (.iconst 2, 1) := by decide +kernel
theorem dX7_after_56 : decode cX7_after 56 = .ok (.goto 4, 3) := by decide +kernel
theorem dX7_after_59 : decode cX7_after 59 = .ok (.iconst 1, 1) := by decide +kernel
theorem dX7_after_60 : decode cX7_after 60 = .ok (.invokevirtual 114, 3) := by decide +kernel
theorem dX7_after_63 : decode cX7_after 63 = .ok (.istore 5, 2) := by decide +kernel
theorem dX7_after_65 : decode cX7_after 65 = .ok (.iconst (-1), 1) := by decide +kernel
theorem dX7_after_66 : decode cX7_after 66 = .ok (.ireturn, 1) := by decide +kernel
theorem dX7_after_67 : decode cX7_after 67 = .ok (.aload_n 0, 1) := by decide +kernel
theorem dX7_after_68 : decode cX7_after 68 = .ok (.getfield 88, 3) := by decide +kernel
theorem dX7_after_71 : decode cX7_after 71 = .ok (.istore 5, 2) := by decide +kernel
theorem dX7_after_73 : decode cX7_after 73 = .ok (.aload_n 0, 1) := by decide +kernel
theorem dX7_after_74 : decode cX7_after 74 = .ok (.invokevirtual 111, 3) := by decide +kernel
theorem dX7_after_77 : decode cX7_after 77 = .ok (.iload 5, 2) := by decide +kernel
theorem dX7_after_79 : decode cX7_after 79 = .ok (.ireturn, 1) := by decide +kernel
theorem dX7_readComplex_0 : decode cX7_readComplex 0 = .ok (.aload_n 0, 1) := by decide +kernel
theorem dX7_readComplex_1 : decode cX7_readComplex 1 = .ok (.getfield 118, 3) := by decide +kernel
theorem dX7_readComplex_4 : decode cX7_readComplex 4 = .ok (.ifCond .le 9, 3) := by decide +kernel
theorem dX7_readComplex_7 : decode cX7_readComplex 7 = .ok (.aload_n 0, 1) := by decide +kernel
theorem dX7_readComplex_8 : decode cX7_readComplex 8 = .ok (.iconst 4, 1) := by decide +kernel
theorem dX7_readComplex_9 : decode cX7_readComplex 9 = .ok (.invokevirtual 114, 3) := by decide +kernel
theorem dX7_readComplex_12 : decode cX7_readComplex 12 = .ok (.ireturn, 1) := by decide +kernel
theorem dX7_readComplex_13 : decode cX7_readComplex 13 = .ok (.aload_n 0, 1) := by decide +kernel
theorem dX7_readComplex_14 : decode cX7_readComplex 14 = .ok (.invokevirtual 111, 3) := by decide +kernel
theorem dX7_readComplex_17 : decode cX7_readComplex 17 = .ok (.aload_n 0, 1) := by decide +kernel
theorem dX7_readComplex_18 : decode cX7_readComplex 18 = .ok (.ldc 121, 2) := by decide +kernel
theorem dX7_readComplex_20 : decode cX7_readComplex 20 = .ok (.iconst 1, 1) := by decide +kernel
theorem dX7_readComplex_21 : decode cX7_readComplex 21 = .ok (.bipush 7, 2) := by decide +kernel
theorem dX7_readComplex_23 : decode cX7_readComplex 23 = .ok (.invokevirtual 123, 3) := by decide +kernel
theorem dX7_readComplex_26 : decode cX7_readComplex 26 = .ok (.istore_n 1, 1) := by decide +kernel
theorem dX7_readComplex_27 : decode cX7_readComplex 27 = .ok (.iload_n 1, 1) := by decide +kernel
theorem dX7_readComplex_28 : decode cX7_readComplex 28 = .ok (.iconst (-1), 1) := by decide +kernel
theorem dX7_readComplex_29 : decode cX7_readComplex 29 = .ok (.if_icmp .ne 5, 3) := by decide +kernel
theorem dX7_readComplex_32 : decode cX7_readComplex 32 = .ok (.iconst 0, 1) := by decide +kernel
theorem dX7_readComplex_33 : decode cX7_readComplex 33 = .ok (.ireturn, 1) := by decide +kernel
theorem dX7_readComplex_34 : decode cX7_readComplex 34 = .ok (.aload_n 0, 1) := by decide +kernel
theorem dX7_readComplex_35 : decode cX7_readComplex 35 = .ok (.aload_n 0, 1) := by decide +kernel
theorem dX7_readComplex_36 : decode cX7_readComplex 36 = .ok (.ldc 127, 2) := by decide +kernel
theorem dX7_readComplex_38 : decode cX7_readComplex 38 = .ok (.iconst 1, 1) := by decide +kernel
theorem dX7_readComplex_39 : decode cX7_readComplex 39 = .ok (.iload_n 1, 1) := by decide +kernel
theorem dX7_readComplex_40 : decode cX7_readComplex 40 = .ok (.iconst 5, 1) := by decide +kernel
theorem dX7_readComplex_41 : decode cX7_readComplex 41 = .ok (.if_icmp .ge 7, 3) := by decide +kernel
theorem dX7_readComplex_44 : decode cX7_readComplex 44 = .ok (.iload_n 1, 1) := by decide +kernel
theorem dX7_readComplex_45 : decode cX7_readComplex 45 = .ok (.goto 4, 3) := by decide +kernel
theorem dX7_readComplex_48 : decode cX7_readComplex 48 = .ok (.iconst 5, 1) := by decide +kernel
theorem dX7_readComplex_49 : decode cX7_readComplex 49 = .ok (.invokevirtual 123, 3) := by decide +kernel
theorem dX7_readComplex_52 : decode cX7_readComplex 52 = .ok (.putfield 129, 3) := by decide +kernel
theorem dX7_readComplex_55 : decode cX7_readComplex 55 = .ok (.aload_n 0, 1) := by decide +kernel
theorem dX7_readComplex_56 : decode cX7_readComplex 56 = .ok (.getfield 129, 3) := by decide +kernel
theorem dX7_readComplex_59 : decode cX7_readComplex 59 = .ok (.iconst (-1), 1) := by decide +kernel
theorem dX7_readComplex_60 : decode cX7_readComplex 60 = .ok (.if_icmp .ne 5, 3) := by decide +kernel
theorem dX7_readComplex_63 : decode cX7_readComplex 63 = .ok (.iconst 0, 1) := by decide +kernel
theorem dX7_readComplex_64 : decode cX7_readComplex 64 = .ok (.ireturn, 1) := by decide +kernel
theorem dX7_readComplex_65 : decode cX7_readComplex 65 = .ok (.aload_n 0, 1) := by decide +kernel
theorem dX7_readComplex_66 : decode cX7_readComplex 66 = .ok (.iload_n 1, 1) := by decide +kernel
theorem dX7_readComplex_67 : decode cX7_readComplex 67 = .ok (.putfield 118, 3) := by decide +kernel
theorem dX7_readComplex_70 : decode cX7_readComplex 70 = .ok (.iconst 1, 1) := by decide +kernel
theorem dX7_readComplex_71 : decode cX7_readComplex 71 = .ok (.ireturn, 1) := by decide +kernel
theorem dX7_pointsOf_0 : decode cX7_pointsOf 0 = .ok (.iconst 0, 1) := by decide +kernel
theorem dX7_pointsOf_1 : decode cX7_pointsOf 1 = .ok (.istore_n 1, 1) := by decide +kernel
theorem dX7_pointsOf_2 : decode cX7_pointsOf 2 = .ok (.aload_n 0, 1) := by decide +kernel
theorem dX7_pointsOf_3 : decode cX7_pointsOf 3 = .ok (.getfield 78, 3) := by decide +kernel
theorem dX7_pointsOf_6 : decode cX7_pointsOf 6 = .ok (.istore_n 2, 1) := by decide +kernel
theorem dX7_pointsOf_7 : decode cX7_pointsOf 7 = .ok (.iload_n 2, 1) := by decide +kernel
theorem dX7_pointsOf_8 : decode cX7_pointsOf 8 = .ok (.aload_n 0, 1) := by decide +kernel
theorem dX7_pointsOf_9 : decode cX7_pointsOf 9 = .ok (.getfield 71, 3) := by decide +kernel
theorem dX7_pointsOf_12 : decode cX7_pointsOf 12 = .ok (.if_icmp .ge 43, 3) := by decide +kernel
theorem dX7_pointsOf_15 : decode cX7_pointsOf 15 = .ok (.aload_n 0, 1) := by decide +kernel
theorem dX7_pointsOf_16 : decode cX7_pointsOf 16 = .ok (.getfield 13, 3) := by decide +kernel
theorem dX7_pointsOf_19 : decode cX7_pointsOf 19 = .ok (.iload_n 2, 1) := by decide +kernel
theorem dX7_pointsOf_20 : decode cX7_pointsOf 20 = .ok (.iaload, 1) := by decide +kernel
theorem dX7_pointsOf_21 : decode cX7_pointsOf 21 = .ok (.bipush 97, 2) := by decide +kernel
theorem dX7_pointsOf_23 : decode cX7_pointsOf 23 = .ok (.isub, 1) := by decide +kernel
theorem dX7_pointsOf_24 : decode cX7_pointsOf 24 = .ok (.istore_n 3, 1) := by decide +kernel
theorem dX7_pointsOf_25 : decode cX7_pointsOf 25 = .ok (.iload_n 3, 1) := by decide +kernel
theorem dX7_pointsOf_26 : decode cX7_pointsOf 26 = .ok (.aload_n 0, 1) := by decide +kernel
theorem dX7_pointsOf_27 : decode cX7_pointsOf 27 = .ok (.getfield 118, 3) := by decide +kernel
theorem dX7_pointsOf_30 : decode cX7_pointsOf 30 = .ok (.if_icmp .ge 11, 3) := by decide +kernel
theorem dX7_pointsOf_33 : decode cX7_pointsOf 33 = .ok (.iload_n 1, 1) := by decide +kernel
theorem dX7_pointsOf_34 : decode cX7_pointsOf 34 = .ok (.iload_n 3, 1) := by decide +kernel
theorem dX7_pointsOf_35 : decode cX7_pointsOf 35 = .ok (.invokestatic 132, 3) := by decide +kernel
theorem dX7_pointsOf_38 : decode cX7_pointsOf 38 = .ok (.ifCond .eq 5, 3) := by decide +kernel
theorem dX7_pointsOf_41 : decode cX7_pointsOf 41 = .ok (.iconst (-1), 1) := by decide +kernel
theorem dX7_pointsOf_42 : decode cX7_pointsOf 42 = .ok (.ireturn, 1) := by decide +kernel
theorem dX7_pointsOf_43 : decode cX7_pointsOf 43 = .ok (.iload_n 1, 1) := by decide +kernel
theorem dX7_pointsOf_44 : decode cX7_pointsOf 44 = .ok (.iconst 1, 1) := by decide +kernel
theorem dX7_pointsOf_45 : decode cX7_pointsOf 45 = .ok (.iload_n 3, 1) := by decide +kernel
theorem dX7_pointsOf_46 : decode cX7_pointsOf 46 = .ok (.ishl, 1) := by decide +kernel
theorem dX7_pointsOf_47 : decode cX7_pointsOf 47 = .ok (.ior, 1) := by decide +kernel
theorem dX7_pointsOf_48 : decode cX7_pointsOf 48 = .ok (.istore_n 1, 1) := by decide +kernel
theorem dX7_pointsOf_49 : decode cX7_pointsOf 49 = .ok (.iinc 2 1, 3) := by decide +kernel
theorem dX7_pointsOf_52 : decode cX7_pointsOf 52 = .ok (.goto (-45), 3) := by decide +kernel
theorem dX7_pointsOf_55 : decode cX7_pointsOf 55 = .ok (.iload_n 1, 1) := by decide +kernel
theorem dX7_pointsOf_56 : decode cX7_pointsOf 56 = .ok (.invokestatic 136, 3) := by decide +kernel
theorem dX7_pointsOf_59 : decode cX7_pointsOf 59 = .ok (.aload_n 0, 1) := by decide +kernel
theorem dX7_pointsOf_60 : decode cX7_pointsOf 60 = .ok (.getfield 129, 3) := by decide +kernel
theorem dX7_pointsOf_63 : decode cX7_pointsOf 63 = .ok (.if_icmp .ne 7, 3) := by decide +kernel
theorem dX7_pointsOf_66 : decode cX7_pointsOf 66 = .ok (.iload_n 1, 1) := by decide +kernel
theorem dX7_pointsOf_67 : decode cX7_pointsOf 67 = .ok (.goto 4, 3) := by decide +kernel
theorem dX7_pointsOf_70 : decode cX7_pointsOf 70 = .ok (.iconst (-1), 1) := by decide +kernel
theorem dX7_pointsOf_71 : decode cX7_pointsOf 71 = .ok (.ireturn, 1) := by decide +kernel
theorem dX7_readFacet_0 : decode cX7_readFacet 0 = .ok (.aload_n 0, 1) := by decide +kernel
theorem dX7_readFacet_1 : decode cX7_readFacet 1 = .ok (.getfield 139, 3) := by decide +kernel
theorem dX7_readFacet_4 : decode cX7_readFacet 4 = .ok (.bipush 12, 2) := by decide +kernel
theorem dX7_readFacet_6 : decode cX7_readFacet 6 = .ok (.if_icmp .ne 9, 3) := by decide +kernel
theorem dX7_readFacet_9 : decode cX7_readFacet 9 = .ok (.aload_n 0, 1) := by decide +kernel
theorem dX7_readFacet_10 : decode cX7_readFacet 10 = .ok (.iconst 5, 1) := by decide +kernel
theorem dX7_readFacet_11 : decode cX7_readFacet 11 = .ok (.invokevirtual 114, 3) := by decide +kernel
theorem dX7_readFacet_14 : decode cX7_readFacet 14 = .ok (.ireturn, 1) := by decide +kernel
theorem dX7_readFacet_15 : decode cX7_readFacet 15 = .ok (.aload_n 0, 1) := by decide +kernel
theorem dX7_readFacet_16 : decode cX7_readFacet 16 = .ok (.getfield 118, 3) := by decide +kernel
theorem dX7_readFacet_19 : decode cX7_readFacet 19 = .ok (.ifCond .ne 10, 3) := by decide +kernel
theorem dX7_readFacet_22 : decode cX7_readFacet 22 = .ok (.aload_n 0, 1) := by decide +kernel
theorem dX7_readFacet_23 : decode cX7_readFacet 23 = .ok (.bipush 6, 2) := by decide +kernel
theorem dX7_readFacet_25 : decode cX7_readFacet 25 = .ok (.invokevirtual 114, 3) := by decide +kernel
theorem dX7_readFacet_28 : decode cX7_readFacet 28 = .ok (.ireturn, 1) := by decide +kernel
theorem dX7_readFacet_29 : decode cX7_readFacet 29 = .ok (.aload_n 0, 1) := by decide +kernel
theorem dX7_readFacet_30 : decode cX7_readFacet 30 = .ok (.invokevirtual 111, 3) := by decide +kernel
theorem dX7_readFacet_33 : decode cX7_readFacet 33 = .ok (.aload_n 0, 1) := by decide +kernel
theorem dX7_readFacet_34 : decode cX7_readFacet 34 = .ok (.getfield 81, 3) := by decide +kernel
theorem dX7_readFacet_37 : decode cX7_readFacet 37 = .ok (.iconst 2, 1) := by decide +kernel
theorem dX7_readFacet_38 : decode cX7_readFacet 38 = .ok (.if_icmp .eq 9, 3) := by decide +kernel
theorem dX7_readFacet_41 : decode cX7_readFacet 41 = .ok (.aload_n 0, 1) := by decide +kernel
theorem dX7_readFacet_42 : decode cX7_readFacet 42 = .ok (.iconst 1, 1) := by decide +kernel
theorem dX7_readFacet_43 : decode cX7_readFacet 43 = .ok (.invokevirtual 114, 3) := by decide +kernel
theorem dX7_readFacet_46 : decode cX7_readFacet 46 = .ok (.ireturn, 1) := by decide +kernel
theorem dX7_readFacet_47 : decode cX7_readFacet 47 = .ok (.aload_n 0, 1) := by decide +kernel
theorem dX7_readFacet_48 : decode cX7_readFacet 48 = .ok (.invokevirtual 142, 3) := by decide +kernel
theorem dX7_readFacet_51 : decode cX7_readFacet 51 = .ok (.istore_n 1, 1) := by decide +kernel
theorem dX7_readFacet_52 : decode cX7_readFacet 52 = .ok (.iload_n 1, 1) := by decide +kernel
theorem dX7_readFacet_53 : decode cX7_readFacet 53 = .ok (.iconst (-1), 1) := by decide +kernel
theorem dX7_readFacet_54 : decode cX7_readFacet 54 = .ok (.if_icmp .ne 9, 3) := by decide +kernel
theorem dX7_readFacet_57 : decode cX7_readFacet 57 = .ok (.aload_n 0, 1) := by decide +kernel
theorem dX7_readFacet_58 : decode cX7_readFacet 58 = .ok (.iconst 3, 1) := by decide +kernel
theorem dX7_readFacet_59 : decode cX7_readFacet 59 = .ok (.invokevirtual 114, 3) := by decide +kernel
theorem dX7_readFacet_62 : decode cX7_readFacet 62 = .ok (.ireturn, 1) := by decide +kernel
theorem dX7_readFacet_63 : decode cX7_readFacet 63 = .ok (.iconst 0, 1) := by decide +kernel
theorem dX7_readFacet_64 : decode cX7_readFacet 64 = .ok (.istore_n 2, 1) := by decide +kernel
theorem dX7_readFacet_65 : decode cX7_readFacet 65 = .ok (.iload_n 2, 1) := by decide +kernel
theorem dX7_readFacet_66 : decode cX7_readFacet 66 = .ok (.aload_n 0, 1) := by decide +kernel
theorem dX7_readFacet_67 : decode cX7_readFacet 67 = .ok (.getfield 139, 3) := by decide +kernel
theorem dX7_readFacet_70 : decode cX7_readFacet 70 = .ok (.if_icmp .ge 25, 3) := by decide +kernel
theorem dX7_readFacet_73 : decode cX7_readFacet 73 = .ok (.aload_n 0, 1) := by decide +kernel
theorem dX7_readFacet_74 : decode cX7_readFacet 74 = .ok (.getfield 23, 3) := by decide +kernel
theorem dX7_readFacet_77 : decode cX7_readFacet 77 = .ok (.iload_n 2, 1) := by decide +kernel
theorem dX7_readFacet_78 : decode cX7_readFacet 78 = .ok (.iaload, 1) := by decide +kernel
theorem dX7_readFacet_79 : decode cX7_readFacet 79 = .ok (.iload_n 1, 1) := by decide +kernel
theorem dX7_readFacet_80 : decode cX7_readFacet 80 = .ok (.if_icmp .ne 9, 3) := by decide +kernel
theorem dX7_readFacet_83 : decode cX7_readFacet 83 = .ok (.aload_n 0, 1) := by decide +kernel
theorem dX7_readFacet_84 : decode cX7_readFacet 84 = .ok (.iconst 4, 1) := by decide +kernel
theorem dX7_readFacet_85 : decode cX7_readFacet 85 = .ok (.invokevirtual 114, 3) := by decide +kernel
theorem dX7_readFacet_88 : decode cX7_readFacet 88 = .ok (.ireturn, 1) := by decide +kernel
theorem dX7_readFacet_89 : decode cX7_readFacet 89 = .ok (.iinc 2 1, 3) := by decide +kernel
theorem dX7_readFacet_92 : decode cX7_readFacet 92 = .ok (.goto (-27), 3) := by decide +kernel
theorem dX7_readFacet_95 : decode cX7_readFacet 95 = .ok (.aload_n 0, 1) := by decide +kernel
theorem dX7_readFacet_96 : decode cX7_readFacet 96 = .ok (.getfield 23, 3) := by decide +kernel
theorem dX7_readFacet_99 : decode cX7_readFacet 99 = .ok (.aload_n 0, 1) := by decide +kernel
theorem dX7_readFacet_100 : decode cX7_readFacet 100 = .ok (.getfield 139, 3) := by decide +kernel
theorem dX7_readFacet_103 : decode cX7_readFacet 103 = .ok (.iload_n 1, 1) := by decide +kernel
theorem dX7_readFacet_104 : decode cX7_readFacet 104 = .ok (.iastore, 1) := by decide +kernel
theorem dX7_readFacet_105 : decode cX7_readFacet 105 = .ok (.aload_n 0, 1) := by decide +kernel
theorem dX7_readFacet_106 : decode cX7_readFacet 106 = .ok (.dup, 1) := by decide +kernel
theorem dX7_readFacet_107 : decode cX7_readFacet 107 = .ok (.getfield 139, 3) := by decide +kernel
theorem dX7_readFacet_110 : decode cX7_readFacet 110 = .ok (.iconst 1, 1) := by decide +kernel
theorem dX7_readFacet_111 : decode cX7_readFacet 111 = .ok (.iadd, 1) := by decide +kernel
theorem dX7_readFacet_112 : decode cX7_readFacet 112 = .ok (.putfield 139, 3) := by decide +kernel
theorem dX7_readFacet_115 : decode cX7_readFacet 115 = .ok (.aload_n 0, 1) := by decide +kernel
theorem dX7_readFacet_116 : decode cX7_readFacet 116 = .ok (.invokevirtual 111, 3) := by decide +kernel
theorem dX7_readFacet_119 : decode cX7_readFacet 119 = .ok (.iconst 1, 1) := by decide +kernel
theorem dX7_readFacet_120 : decode cX7_readFacet 120 = .ok (.ireturn, 1) := by decide +kernel
theorem dX7_readLine_0 : decode cX7_readLine 0 = .ok (.aload_n 0, 1) := by decide +kernel
theorem dX7_readLine_1 : decode cX7_readLine 1 = .ok (.ldc 145, 2) := by decide +kernel
theorem dX7_readLine_3 : decode cX7_readLine 3 = .ok (.invokevirtual 107, 3) := by decide +kernel
theorem dX7_readLine_6 : decode cX7_readLine 6 = .ok (.ifCond .eq 8, 3) := by decide +kernel
theorem dX7_readLine_9 : decode cX7_readLine 9 = .ok (.aload_n 0, 1) := by decide +kernel
theorem dX7_readLine_10 : decode cX7_readLine 10 = .ok (.invokevirtual 147, 3) := by decide +kernel
theorem dX7_readLine_13 : decode cX7_readLine 13 = .ok (.ireturn, 1) := by decide +kernel
theorem dX7_readLine_14 : decode cX7_readLine 14 = .ok (.aload_n 0, 1) := by decide +kernel
theorem dX7_readLine_15 : decode cX7_readLine 15 = .ok (.ldc 151, 2) := by decide +kernel
theorem dX7_readLine_17 : decode cX7_readLine 17 = .ok (.invokevirtual 107, 3) := by decide +kernel
theorem dX7_readLine_20 : decode cX7_readLine 20 = .ok (.ifCond .eq 10, 3) := by decide +kernel
theorem dX7_readLine_23 : decode cX7_readLine 23 = .ok (.aload_n 0, 1) := by decide +kernel
theorem dX7_readLine_24 : decode cX7_readLine 24 = .ok (.invokevirtual 153, 3) := by decide +kernel
theorem dX7_readLine_27 : decode cX7_readLine 27 = .ok (.goto 8, 3) := by decide +kernel
theorem dX7_readLine_30 : decode cX7_readLine 30 = .ok (.aload_n 0, 1) := by decide +kernel
theorem dX7_readLine_31 : decode cX7_readLine 31 = .ok (.iconst 1, 1) := by decide +kernel
theorem dX7_readLine_32 : decode cX7_readLine 32 = .ok (.invokevirtual 114, 3) := by decide +kernel
theorem dX7_readLine_35 : decode cX7_readLine 35 = .ok (.ireturn, 1) := by decide +kernel
theorem dX7_readAll_0 : decode cX7_readAll 0 = .ok (.aload_n 0, 1) := by decide +kernel
theorem dX7_readAll_1 : decode cX7_readAll 1 = .ok (.iload_n 1, 1) := by decide +kernel
theorem dX7_readAll_2 : decode cX7_readAll 2 = .ok (.putfield 68, 3) := by decide +kernel
theorem dX7_readAll_5 : decode cX7_readAll 5 = .ok (.aload_n 0, 1) := by decide +kernel
theorem dX7_readAll_6 : decode cX7_readAll 6 = .ok (.iconst 0, 1) := by decide +kernel
theorem dX7_readAll_7 : decode cX7_readAll 7 = .ok (.putfield 71, 3) := by decide +kernel
theorem dX7_readAll_10 : decode cX7_readAll 10 = .ok (.aload_n 0, 1) := by decide +kernel
theorem dX7_readAll_11 : decode cX7_readAll 11 = .ok (.iconst 0, 1) := by decide +kernel
theorem dX7_readAll_12 : decode cX7_readAll 12 = .ok (.putfield 118, 3) := by decide +kernel
theorem dX7_readAll_15 : decode cX7_readAll 15 = .ok (.aload_n 0, 1) := by decide +kernel
theorem dX7_readAll_16 : decode cX7_readAll 16 = .ok (.iconst 0, 1) := by decide +kernel
theorem dX7_readAll_17 : decode cX7_readAll 17 = .ok (.putfield 139, 3) := by decide +kernel
theorem dX7_readAll_20 : decode cX7_readAll 20 = .ok (.aload_n 0, 1) := by decide +kernel
theorem dX7_readAll_21 : decode cX7_readAll 21 = .ok (.invokevirtual 111, 3) := by decide +kernel
theorem dX7_readAll_24 : decode cX7_readAll 24 = .ok (.aload_n 0, 1) := by decide +kernel
theorem dX7_readAll_25 : decode cX7_readAll 25 = .ok (.invokevirtual 156, 3) := by decide +kernel
theorem dX7_readAll_28 : decode cX7_readAll 28 = .ok (.ifCond .ne 5, 3) := by decide +kernel
theorem dX7_readAll_31 : decode cX7_readAll 31 = .ok (.iconst 0, 1) := by decide +kernel
theorem dX7_readAll_32 : decode cX7_readAll 32 = .ok (.ireturn, 1) := by decide +kernel
theorem dX7_readAll_33 : decode cX7_readAll 33 = .ok (.aload_n 0, 1) := by decide +kernel
theorem dX7_readAll_34 : decode cX7_readAll 34 = .ok (.getfield 81, 3) := by decide +kernel
theorem dX7_readAll_37 : decode cX7_readAll 37 = .ok (.bipush 59, 2) := by decide +kernel
theorem dX7_readAll_39 : decode cX7_readAll 39 = .ok (.if_icmp .ne 16, 3) := by decide +kernel
theorem dX7_readAll_42 : decode cX7_readAll 42 = .ok (.aload_n 0, 1) := by decide +kernel
theorem dX7_readAll_43 : decode cX7_readAll 43 = .ok (.invokevirtual 111, 3) := by decide +kernel
theorem dX7_readAll_46 : decode cX7_readAll 46 = .ok (.aload_n 0, 1) := by decide +kernel
theorem dX7_readAll_47 : decode cX7_readAll 47 = .ok (.invokevirtual 156, 3) := by decide +kernel
theorem dX7_readAll_50 : decode cX7_readAll 50 = .ok (.ifCond .ne (-17), 3) := by decide +kernel
theorem dX7_readAll_53 : decode cX7_readAll 53 = .ok (.iconst 0, 1) := by decide +kernel
theorem dX7_readAll_54 : decode cX7_readAll 54 = .ok (.ireturn, 1) := by decide +kernel
theorem dX7_readAll_55 : decode cX7_readAll 55 = .ok (.aload_n 0, 1) := by decide +kernel
theorem dX7_readAll_56 : decode cX7_readAll 56 = .ok (.getfield 81, 3) := by decide +kernel
theorem dX7_readAll_59 : decode cX7_readAll 59 = .ok (.ifCond .eq 9, 3) := by decide +kernel
theorem dX7_readAll_62 : decode cX7_readAll 62 = .ok (.aload_n 0, 1) := by decide +kernel
theorem dX7_readAll_63 : decode cX7_readAll 63 = .ok (.iconst 1, 1) := by decide +kernel
theorem dX7_readAll_64 : decode cX7_readAll 64 = .ok (.invokevirtual 114, 3) := by decide +kernel
theorem dX7_readAll_67 : decode cX7_readAll 67 = .ok (.ireturn, 1) := by decide +kernel
theorem dX7_readAll_68 : decode cX7_readAll 68 = .ok (.aload_n 0, 1) := by decide +kernel
theorem dX7_readAll_69 : decode cX7_readAll 69 = .ok (.getfield 139, 3) := by decide +kernel
theorem dX7_readAll_72 : decode cX7_readAll 72 = .ok (.ifCond .gt 12, 3) := by decide +kernel
theorem dX7_readAll_75 : decode cX7_readAll 75 = .ok (.aload_n 0, 1) := by decide +kernel
theorem dX7_readAll_76 : decode cX7_readAll 76 = .ok (.bipush 6, 2) := by decide +kernel
theorem dX7_readAll_78 : decode cX7_readAll 78 = .ok (.invokevirtual 114, 3) := by decide +kernel
theorem dX7_readAll_81 : decode cX7_readAll 81 = .ok (.ifCond .eq 7, 3) := by decide +kernel
theorem dX7_readAll_84 : decode cX7_readAll 84 = .ok (.iconst 1, 1) := by decide +kernel
theorem dX7_readAll_85 : decode cX7_readAll 85 = .ok (.goto 4, 3) := by decide +kernel
theorem dX7_readAll_88 : decode cX7_readAll 88 = .ok (.iconst 0, 1) := by decide +kernel
theorem dX7_readAll_89 : decode cX7_readAll 89 = .ok (.ireturn, 1) := by decide +kernel
theorem dX7_complex_0 : decode cX7_complex 0 = .ok (.aload_n 0, 1) := by decide +kernel
theorem dX7_complex_1 : decode cX7_complex 1 = .ok (.iload_n 1, 1) := by decide +kernel
theorem dX7_complex_2 : decode cX7_complex 2 = .ok (.iconst 0, 1) := by decide +kernel
theorem dX7_complex_3 : decode cX7_complex 3 = .ok (.aload_n 0, 1) := by decide +kernel
theorem dX7_complex_4 : decode cX7_complex 4 = .ok (.getfield 61, 3) := by decide +kernel
theorem dX7_complex_7 : decode cX7_complex 7 = .ok (.invokestatic 84, 3) := by decide +kernel
theorem dX7_complex_10 : decode cX7_complex 10 = .ok (.ifCond .eq 7, 3) := by decide +kernel
theorem dX7_complex_13 : decode cX7_complex 13 = .ok (.iconst 0, 1) := by decide +kernel
theorem dX7_complex_14 : decode cX7_complex 14 = .ok (.goto 4, 3) := by decide +kernel
theorem dX7_complex_17 : decode cX7_complex 17 = .ok (.iconst 2, 1) := by decide +kernel
theorem dX7_complex_18 : decode cX7_complex 18 = .ok (.invokevirtual 159, 3) := by decide +kernel
theorem dX7_complex_21 : decode cX7_complex 21 = .ok (.ifCond .eq 5, 3) := by decide +kernel
theorem dX7_complex_24 : decode cX7_complex 24 = .ok (.iconst (-1), 1) := by decide +kernel
theorem dX7_complex_25 : decode cX7_complex 25 = .ok (.ireturn, 1) := by decide +kernel
theorem dX7_complex_26 : decode cX7_complex 26 = .ok (.aload_n 0, 1) := by decide +kernel
theorem dX7_complex_27 : decode cX7_complex 27 = .ok (.iconst 0, 1) := by decide +kernel
theorem dX7_complex_28 : decode cX7_complex 28 = .ok (.putfield 61, 3) := by decide +kernel
theorem dX7_complex_31 : decode cX7_complex 31 = .ok (.aload_n 0, 1) := by decide +kernel
theorem dX7_complex_32 : decode cX7_complex 32 = .ok (.iconst 0, 1) := by decide +kernel
theorem dX7_complex_33 : decode cX7_complex 33 = .ok (.putfield 162, 3) := by decide +kernel
theorem dX7_complex_36 : decode cX7_complex 36 = .ok (.aload_n 0, 1) := by decide +kernel
theorem dX7_complex_37 : decode cX7_complex 37 = .ok (.iload_n 1, 1) := by decide +kernel
theorem dX7_complex_38 : decode cX7_complex 38 = .ok (.invokevirtual 165, 3) := by decide +kernel
theorem dX7_complex_41 : decode cX7_complex 41 = .ok (.ifCond .ne 25, 3) := by decide +kernel
theorem dX7_complex_44 : decode cX7_complex 44 = .ok (.aload_n 0, 1) := by decide +kernel
theorem dX7_complex_45 : decode cX7_complex 45 = .ok (.aload_n 0, 1) := by decide +kernel
theorem dX7_complex_46 : decode cX7_complex 46 = .ok (.getfield 101, 3) := by decide +kernel
theorem dX7_complex_49 : decode cX7_complex 49 = .ok (.putfield 162, 3) := by decide +kernel
theorem dX7_complex_52 : decode cX7_complex 52 = .ok (.aload_n 0, 1) := by decide +kernel
theorem dX7_complex_53 : decode cX7_complex 53 = .ok (.aload_n 0, 1) := by decide +kernel
theorem dX7_complex_54 : decode cX7_complex 54 = .ok (.getfield 104, 3) := by decide +kernel
theorem dX7_complex_57 : decode cX7_complex 57 = .ok (.putfield 9, 3) := by decide +kernel
theorem dX7_complex_60 : decode cX7_complex 60 = .ok (.aload_n 0, 1) := by decide +kernel
theorem dX7_complex_61 : decode cX7_complex 61 = .ok (.iconst 4, 1) := by decide +kernel
theorem dX7_complex_62 : decode cX7_complex 62 = .ok (.invokevirtual 168, 3) := by decide +kernel
theorem dX7_complex_65 : decode cX7_complex 65 = .ok (.ireturn, 1) := by decide +kernel
theorem dX7_complex_66 : decode cX7_complex 66 = .ok (.aload_n 0, 1) := by decide +kernel
theorem dX7_complex_67 : decode cX7_complex 67 = .ok (.aload_n 0, 1) := by decide +kernel
theorem dX7_complex_68 : decode cX7_complex 68 = .ok (.getfield 118, 3) := by decide +kernel
theorem dX7_complex_71 : decode cX7_complex 71 = .ok (.putfield 171, 3) := by decide +kernel
theorem dX7_complex_74 : decode cX7_complex 74 = .ok (.aload_n 0, 1) := by decide +kernel
theorem dX7_complex_75 : decode cX7_complex 75 = .ok (.aload_n 0, 1) := by decide +kernel
theorem dX7_complex_76 : decode cX7_complex 76 = .ok (.getfield 129, 3) := by decide +kernel
theorem dX7_complex_79 : decode cX7_complex 79 = .ok (.putfield 173, 3) := by decide +kernel
theorem dX7_complex_82 : decode cX7_complex 82 = .ok (.aload_n 0, 1) := by decide +kernel
theorem dX7_complex_83 : decode cX7_complex 83 = .ok (.aload_n 0, 1) := by decide +kernel
theorem dX7_complex_84 : decode cX7_complex 84 = .ok (.getfield 139, 3) := by decide +kernel
theorem dX7_complex_87 : decode cX7_complex 87 = .ok (.putfield 176, 3) := by decide +kernel
theorem dX7_complex_90 : decode cX7_complex 90 = .ok (.iconst 0, 1) := by decide +kernel
theorem dX7_complex_91 : decode cX7_complex 91 = .ok (.istore_n 2, 1) := by decide +kernel
theorem dX7_complex_92 : decode cX7_complex 92 = .ok (.iload_n 2, 1) := by decide +kernel
theorem dX7_complex_93 : decode cX7_complex 93 = .ok (.aload_n 0, 1) := by decide +kernel
theorem dX7_complex_94 : decode cX7_complex 94 = .ok (.getfield 176, 3) := by decide +kernel
theorem dX7_complex_97 : decode cX7_complex 97 = .ok (.if_icmp .ge 28, 3) := by decide +kernel
theorem dX7_complex_100 : decode cX7_complex 100 = .ok (.aload_n 0, 1) := by decide +kernel
theorem dX7_complex_101 : decode cX7_complex 101 = .ok (.getfield 17, 3) := by decide +kernel
theorem dX7_complex_104 : decode cX7_complex 104 = .ok (.iload_n 2, 1) := by decide +kernel
theorem dX7_complex_105 : decode cX7_complex 105 = .ok (.aload_n 0, 1) := by decide +kernel
theorem dX7_complex_106 : decode cX7_complex 106 = .ok (.getfield 23, 3) := by decide +kernel
theorem dX7_complex_109 : decode cX7_complex 109 = .ok (.iload_n 2, 1) := by decide +kernel
theorem dX7_complex_110 : decode cX7_complex 110 = .ok (.iaload, 1) := by decide +kernel
theorem dX7_complex_111 : decode cX7_complex 111 = .ok (.iastore, 1) := by decide +kernel
theorem dX7_complex_112 : decode cX7_complex 112 = .ok (.aload_n 0, 1) := by decide +kernel
theorem dX7_complex_113 : decode cX7_complex 113 = .ok (.getfield 20, 3) := by decide +kernel
theorem dX7_complex_116 : decode cX7_complex 116 = .ok (.iload_n 2, 1) := by decide +kernel
theorem dX7_complex_117 : decode cX7_complex 117 = .ok (.iload_n 2, 1) := by decide +kernel
theorem dX7_complex_118 : decode cX7_complex 118 = .ok (.iastore, 1) := by decide +kernel
theorem dX7_complex_119 : decode cX7_complex 119 = .ok (.iinc 2 1, 3) := by decide +kernel
theorem dX7_complex_122 : decode cX7_complex 122 = .ok (.goto (-30), 3) := by decide +kernel
theorem dX7_complex_125 : decode cX7_complex 125 = .ok (.aload_n 0, 1) := by decide +kernel
theorem dX7_complex_126 : decode cX7_complex 126 = .ok (.iconst 1, 1) := by decide +kernel
theorem dX7_complex_127 : decode cX7_complex 127 = .ok (.putfield 179, 3) := by decide +kernel
theorem dX7_complex_130 : decode cX7_complex 130 = .ok (.aload_n 0, 1) := by decide +kernel
theorem dX7_complex_131 : decode cX7_complex 131 = .ok (.getfield 176, 3) := by decide +kernel
theorem dX7_complex_134 : decode cX7_complex 134 = .ok (.ireturn, 1) := by decide +kernel
theorem dX7_fault_0 : decode cX7_fault 0 = .ok (.aload_n 0, 1) := by decide +kernel
theorem dX7_fault_1 : decode cX7_fault 1 = .ok (.iconst 0, 1) := by decide +kernel
theorem dX7_fault_2 : decode cX7_fault 2 = .ok (.putfield 55, 3) := by decide +kernel
theorem dX7_fault_5 : decode cX7_fault 5 = .ok (.aload_n 0, 1) := by decide +kernel
theorem dX7_fault_6 : decode cX7_fault 6 = .ok (.getfield 162, 3) := by decide +kernel
theorem dX7_fault_9 : decode cX7_fault 9 = .ok (.ireturn, 1) := by decide +kernel
theorem dX7_where_0 : decode cX7_where 0 = .ok (.aload_n 0, 1) := by decide +kernel
theorem dX7_where_1 : decode cX7_where 1 = .ok (.iconst 0, 1) := by decide +kernel
theorem dX7_where_2 : decode cX7_where 2 = .ok (.putfield 55, 3) := by decide +kernel
theorem dX7_where_5 : decode cX7_where 5 = .ok (.aload_n 0, 1) := by decide +kernel
theorem dX7_where_6 : decode cX7_where 6 = .ok (.getfield 58, 3) := by decide +kernel
theorem dX7_where_9 : decode cX7_where 9 = .ok (.iconst 4, 1) := by decide +kernel
theorem dX7_where_10 : decode cX7_where 10 = .ok (.if_icmp .ne 10, 3) := by decide +kernel
theorem dX7_where_13 : decode cX7_where 13 = .ok (.aload_n 0, 1) := by decide +kernel
theorem dX7_where_14 : decode cX7_where 14 = .ok (.getfield 9, 3) := by decide +kernel
theorem dX7_where_17 : decode cX7_where 17 = .ok (.goto 4, 3) := by decide +kernel
theorem dX7_where_20 : decode cX7_where 20 = .ok (.iconst (-1), 1) := by decide +kernel
theorem dX7_where_21 : decode cX7_where 21 = .ok (.ireturn, 1) := by decide +kernel
theorem dX7_laysFaces_0 : decode cX7_laysFaces 0 = .ok (.iconst 0, 1) := by decide +kernel
theorem dX7_laysFaces_1 : decode cX7_laysFaces 1 = .ok (.istore_n 3, 1) := by decide +kernel
theorem dX7_laysFaces_2 : decode cX7_laysFaces 2 = .ok (.iload_n 3, 1) := by decide +kernel
theorem dX7_laysFaces_3 : decode cX7_laysFaces 3 = .ok (.sipush 128, 3) := by decide +kernel
theorem dX7_laysFaces_6 : decode cX7_laysFaces 6 = .ok (.if_icmp .ge 54, 3) := by decide +kernel
theorem dX7_laysFaces_9 : decode cX7_laysFaces 9 = .ok (.aload_n 0, 1) := by decide +kernel
theorem dX7_laysFaces_10 : decode cX7_laysFaces 10 = .ok (.getfield 26, 3) := by decide +kernel
theorem dX7_laysFaces_13 : decode cX7_laysFaces 13 = .ok (.iload_n 3, 1) := by decide +kernel
theorem dX7_laysFaces_14 : decode cX7_laysFaces 14 = .ok (.iconst 0, 1) := by decide +kernel
theorem dX7_laysFaces_15 : decode cX7_laysFaces 15 = .ok (.bastore, 1) := by decide +kernel
theorem dX7_laysFaces_16 : decode cX7_laysFaces 16 = .ok (.iconst 0, 1) := by decide +kernel
theorem dX7_laysFaces_17 : decode cX7_laysFaces 17 = .ok (.istore 4, 2) := by decide +kernel
theorem dX7_laysFaces_19 : decode cX7_laysFaces 19 = .ok (.iload 4, 2) := by decide +kernel
theorem dX7_laysFaces_21 : decode cX7_laysFaces 21 = .ok (.iload_n 2, 1) := by decide +kernel
theorem dX7_laysFaces_22 : decode cX7_laysFaces 22 = .ok (.if_icmp .ge 32, 3) := by decide +kernel
theorem dX7_laysFaces_25 : decode cX7_laysFaces 25 = .ok (.aload_n 0, 1) := by decide +kernel
theorem dX7_laysFaces_26 : decode cX7_laysFaces 26 = .ok (.getfield 26, 3) := by decide +kernel
theorem dX7_laysFaces_29 : decode cX7_laysFaces 29 = .ok (.iload_n 3, 1) := by decide +kernel
theorem dX7_laysFaces_30 : decode cX7_laysFaces 30 = .ok (.baload, 1) := by decide +kernel
theorem dX7_laysFaces_31 : decode cX7_laysFaces 31 = .ok (.ifCond .ne 23, 3) := by decide +kernel
theorem dX7_laysFaces_34 : decode cX7_laysFaces 34 = .ok (.aload_n 0, 1) := by decide +kernel
theorem dX7_laysFaces_35 : decode cX7_laysFaces 35 = .ok (.getfield 26, 3) := by decide +kernel
theorem dX7_laysFaces_38 : decode cX7_laysFaces 38 = .ok (.iload_n 3, 1) := by decide +kernel
theorem dX7_laysFaces_39 : decode cX7_laysFaces 39 = .ok (.iload_n 3, 1) := by decide +kernel
theorem dX7_laysFaces_40 : decode cX7_laysFaces 40 = .ok (.aload_n 1, 1) := by decide +kernel
theorem dX7_laysFaces_41 : decode cX7_laysFaces 41 = .ok (.iload 4, 2) := by decide +kernel
theorem dX7_laysFaces_43 : decode cX7_laysFaces 43 = .ok (.iaload, 1) := by decide +kernel
theorem dX7_laysFaces_44 : decode cX7_laysFaces 44 = .ok (.invokestatic 183, 3) := by decide +kernel
theorem dX7_laysFaces_47 : decode cX7_laysFaces 47 = .ok (.bastore, 1) := by decide +kernel
theorem dX7_laysFaces_48 : decode cX7_laysFaces 48 = .ok (.iinc 4 1, 3) := by decide +kernel
theorem dX7_laysFaces_51 : decode cX7_laysFaces 51 = .ok (.goto (-32), 3) := by decide +kernel
theorem dX7_laysFaces_54 : decode cX7_laysFaces 54 = .ok (.iinc 3 1, 3) := by decide +kernel
theorem dX7_laysFaces_57 : decode cX7_laysFaces 57 = .ok (.goto (-55), 3) := by decide +kernel
theorem dX7_laysFaces_60 : decode cX7_laysFaces 60 = .ok (.return_, 1) := by decide +kernel
theorem dX7_facesOf_0 : decode cX7_facesOf 0 = .ok (.iconst 0, 1) := by decide +kernel
theorem dX7_facesOf_1 : decode cX7_facesOf 1 = .ok (.istore_n 2, 1) := by decide +kernel
theorem dX7_facesOf_2 : decode cX7_facesOf 2 = .ok (.iconst 0, 1) := by decide +kernel
theorem dX7_facesOf_3 : decode cX7_facesOf 3 = .ok (.istore_n 3, 1) := by decide +kernel
theorem dX7_facesOf_4 : decode cX7_facesOf 4 = .ok (.iload_n 3, 1) := by decide +kernel
theorem dX7_facesOf_5 : decode cX7_facesOf 5 = .ok (.sipush 128, 3) := by decide +kernel
theorem dX7_facesOf_8 : decode cX7_facesOf 8 = .ok (.if_icmp .ge 34, 3) := by decide +kernel
theorem dX7_facesOf_11 : decode cX7_facesOf 11 = .ok (.iload_n 2, 1) := by decide +kernel
theorem dX7_facesOf_12 : decode cX7_facesOf 12 = .ok (.aload_n 0, 1) := by decide +kernel
theorem dX7_facesOf_13 : decode cX7_facesOf 13 = .ok (.getfield 26, 3) := by decide +kernel
theorem dX7_facesOf_16 : decode cX7_facesOf 16 = .ok (.iload_n 3, 1) := by decide +kernel
theorem dX7_facesOf_17 : decode cX7_facesOf 17 = .ok (.baload, 1) := by decide +kernel
theorem dX7_facesOf_18 : decode cX7_facesOf 18 = .ok (.ifCond .eq 15, 3) := by decide +kernel
theorem dX7_facesOf_21 : decode cX7_facesOf 21 = .ok (.iload_n 3, 1) := by decide +kernel
theorem dX7_facesOf_22 : decode cX7_facesOf 22 = .ok (.invokestatic 136, 3) := by decide +kernel
theorem dX7_facesOf_25 : decode cX7_facesOf 25 = .ok (.iload_n 1, 1) := by decide +kernel
theorem dX7_facesOf_26 : decode cX7_facesOf 26 = .ok (.if_icmp .ne 7, 3) := by decide +kernel
theorem dX7_facesOf_29 : decode cX7_facesOf 29 = .ok (.iconst 1, 1) := by decide +kernel
theorem dX7_facesOf_30 : decode cX7_facesOf 30 = .ok (.goto 4, 3) := by decide +kernel
theorem dX7_facesOf_33 : decode cX7_facesOf 33 = .ok (.iconst 0, 1) := by decide +kernel
theorem dX7_facesOf_34 : decode cX7_facesOf 34 = .ok (.iadd, 1) := by decide +kernel
theorem dX7_facesOf_35 : decode cX7_facesOf 35 = .ok (.istore_n 2, 1) := by decide +kernel
theorem dX7_facesOf_36 : decode cX7_facesOf 36 = .ok (.iinc 3 1, 3) := by decide +kernel
theorem dX7_facesOf_39 : decode cX7_facesOf 39 = .ok (.goto (-35), 3) := by decide +kernel
theorem dX7_facesOf_42 : decode cX7_facesOf 42 = .ok (.iload_n 2, 1) := by decide +kernel
theorem dX7_facesOf_43 : decode cX7_facesOf 43 = .ok (.ireturn, 1) := by decide +kernel
theorem dX7_rankOf_0 : decode cX7_rankOf 0 = .ok (.iload_n 1, 1) := by decide +kernel
theorem dX7_rankOf_1 : decode cX7_rankOf 1 = .ok (.ifCond .ne 5, 3) := by decide +kernel
theorem dX7_rankOf_4 : decode cX7_rankOf 4 = .ok (.iconst 0, 1) := by decide +kernel
theorem dX7_rankOf_5 : decode cX7_rankOf 5 = .ok (.ireturn, 1) := by decide +kernel
theorem dX7_rankOf_6 : decode cX7_rankOf 6 = .ok (.iconst 0, 1) := by decide +kernel
theorem dX7_rankOf_7 : decode cX7_rankOf 7 = .ok (.istore_n 2, 1) := by decide +kernel
theorem dX7_rankOf_8 : decode cX7_rankOf 8 = .ok (.iconst 0, 1) := by decide +kernel
theorem dX7_rankOf_9 : decode cX7_rankOf 9 = .ok (.istore_n 3, 1) := by decide +kernel
theorem dX7_rankOf_10 : decode cX7_rankOf 10 = .ok (.iload_n 3, 1) := by decide +kernel
theorem dX7_rankOf_11 : decode cX7_rankOf 11 = .ok (.sipush 128, 3) := by decide +kernel
theorem dX7_rankOf_14 : decode cX7_rankOf 14 = .ok (.if_icmp .ge 38, 3) := by decide +kernel
theorem dX7_rankOf_17 : decode cX7_rankOf 17 = .ok (.aload_n 0, 1) := by decide +kernel
theorem dX7_rankOf_18 : decode cX7_rankOf 18 = .ok (.getfield 26, 3) := by decide +kernel
theorem dX7_rankOf_21 : decode cX7_rankOf 21 = .ok (.iload_n 3, 1) := by decide +kernel
theorem dX7_rankOf_22 : decode cX7_rankOf 22 = .ok (.baload, 1) := by decide +kernel
theorem dX7_rankOf_23 : decode cX7_rankOf 23 = .ok (.ifCond .eq 23, 3) := by decide +kernel
theorem dX7_rankOf_26 : decode cX7_rankOf 26 = .ok (.iload_n 3, 1) := by decide +kernel
theorem dX7_rankOf_27 : decode cX7_rankOf 27 = .ok (.invokestatic 136, 3) := by decide +kernel
theorem dX7_rankOf_30 : decode cX7_rankOf 30 = .ok (.iload_n 1, 1) := by decide +kernel
theorem dX7_rankOf_31 : decode cX7_rankOf 31 = .ok (.iconst 1, 1) := by decide +kernel
theorem dX7_rankOf_32 : decode cX7_rankOf 32 = .ok (.isub, 1) := by decide +kernel
theorem dX7_rankOf_33 : decode cX7_rankOf 33 = .ok (.if_icmp .ne 13, 3) := by decide +kernel
theorem dX7_rankOf_36 : decode cX7_rankOf 36 = .ok (.aload_n 0, 1) := by decide +kernel
theorem dX7_rankOf_37 : decode cX7_rankOf 37 = .ok (.getfield 34, 3) := by decide +kernel
theorem dX7_rankOf_40 : decode cX7_rankOf 40 = .ok (.iload_n 3, 1) := by decide +kernel
theorem dX7_rankOf_41 : decode cX7_rankOf 41 = .ok (.iload_n 2, 1) := by decide +kernel
theorem dX7_rankOf_42 : decode cX7_rankOf 42 = .ok (.iastore, 1) := by decide +kernel
theorem dX7_rankOf_43 : decode cX7_rankOf 43 = .ok (.iinc 2 1, 3) := by decide +kernel
theorem dX7_rankOf_46 : decode cX7_rankOf 46 = .ok (.iinc 3 1, 3) := by decide +kernel
theorem dX7_rankOf_49 : decode cX7_rankOf 49 = .ok (.goto (-39), 3) := by decide +kernel
theorem dX7_rankOf_52 : decode cX7_rankOf 52 = .ok (.iconst 0, 1) := by decide +kernel
theorem dX7_rankOf_53 : decode cX7_rankOf 53 = .ok (.istore_n 3, 1) := by decide +kernel
theorem dX7_rankOf_54 : decode cX7_rankOf 54 = .ok (.iconst 0, 1) := by decide +kernel
theorem dX7_rankOf_55 : decode cX7_rankOf 55 = .ok (.istore 4, 2) := by decide +kernel
theorem dX7_rankOf_57 : decode cX7_rankOf 57 = .ok (.iload 4, 2) := by decide +kernel
theorem dX7_rankOf_59 : decode cX7_rankOf 59 = .ok (.sipush 128, 3) := by decide +kernel
theorem dX7_rankOf_62 : decode cX7_rankOf 62 = .ok (.if_icmp .ge 93, 3) := by decide +kernel
theorem dX7_rankOf_65 : decode cX7_rankOf 65 = .ok (.aload_n 0, 1) := by decide +kernel
theorem dX7_rankOf_66 : decode cX7_rankOf 66 = .ok (.getfield 26, 3) := by decide +kernel
theorem dX7_rankOf_69 : decode cX7_rankOf 69 = .ok (.iload 4, 2) := by decide +kernel
theorem dX7_rankOf_71 : decode cX7_rankOf 71 = .ok (.baload, 1) := by decide +kernel
theorem dX7_rankOf_72 : decode cX7_rankOf 72 = .ok (.ifCond .eq 77, 3) := by decide +kernel
theorem dX7_rankOf_75 : decode cX7_rankOf 75 = .ok (.iload 4, 2) := by decide +kernel
theorem dX7_rankOf_77 : decode cX7_rankOf 77 = .ok (.invokestatic 136, 3) := by decide +kernel
theorem dX7_rankOf_80 : decode cX7_rankOf 80 = .ok (.iload_n 1, 1) := by decide +kernel
theorem dX7_rankOf_81 : decode cX7_rankOf 81 = .ok (.if_icmp .ne 68, 3) := by decide +kernel
theorem dX7_rankOf_84 : decode cX7_rankOf 84 = .ok (.aload_n 0, 1) := by decide +kernel
theorem dX7_rankOf_85 : decode cX7_rankOf 85 = .ok (.getfield 30, 3) := by decide +kernel
theorem dX7_rankOf_88 : decode cX7_rankOf 88 = .ok (.iload_n 3, 1) := by decide +kernel
theorem dX7_rankOf_89 : decode cX7_rankOf 89 = .ok (.lconst 0, 1) := by decide +kernel
theorem dX7_rankOf_90 : decode cX7_rankOf 90 = .ok (.lastore, 1) := by decide +kernel
theorem dX7_rankOf_91 : decode cX7_rankOf 91 = .ok (.iconst 0, 1) := by decide +kernel
theorem dX7_rankOf_92 : decode cX7_rankOf 92 = .ok (.istore 5, 2) := by decide +kernel
theorem dX7_rankOf_94 : decode cX7_rankOf 94 = .ok (.iload 5, 2) := by decide +kernel
theorem dX7_rankOf_96 : decode cX7_rankOf 96 = .ok (.bipush 7, 2) := by decide +kernel
theorem dX7_rankOf_98 : decode cX7_rankOf 98 = .ok (.if_icmp .ge 48, 3) := by decide +kernel
theorem dX7_rankOf_101 : decode cX7_rankOf 101 = .ok (.aload_n 0, 1) := by decide +kernel
theorem dX7_rankOf_102 : decode cX7_rankOf 102 = .ok (.getfield 30, 3) := by decide +kernel
theorem dX7_rankOf_105 : decode cX7_rankOf 105 = .ok (.iload_n 3, 1) := by decide +kernel
theorem dX7_rankOf_106 : decode cX7_rankOf 106 = .ok (.dup2, 1) := by decide +kernel
theorem dX7_rankOf_107 : decode cX7_rankOf 107 = .ok (.laload, 1) := by decide +kernel
theorem dX7_rankOf_108 : decode cX7_rankOf 108 = .ok (.iload 4, 2) := by decide +kernel
theorem dX7_rankOf_110 : decode cX7_rankOf 110 = .ok (.iload 5, 2) := by decide +kernel
theorem dX7_rankOf_112 : decode cX7_rankOf 112 = .ok (.invokestatic 132, 3) := by decide +kernel
theorem dX7_rankOf_115 : decode cX7_rankOf 115 = .ok (.ifCond .eq 22, 3) := by decide +kernel
theorem dX7_rankOf_118 : decode cX7_rankOf 118 = .ok (.lconst 1, 1) := by decide +kernel
theorem dX7_rankOf_119 : decode cX7_rankOf 119 = .ok (.aload_n 0, 1) := by decide +kernel
theorem dX7_rankOf_120 : decode cX7_rankOf 120 = .ok (.getfield 34, 3) := by decide +kernel
theorem dX7_rankOf_123 : decode cX7_rankOf 123 = .ok (.iload 4, 2) := by decide +kernel
theorem dX7_rankOf_125 : decode cX7_rankOf 125 = .ok (.iconst 1, 1) := by decide +kernel
theorem dX7_rankOf_126 : decode cX7_rankOf 126 = .ok (.iload 5, 2) := by decide +kernel
theorem dX7_rankOf_128 : decode cX7_rankOf 128 = .ok (.ishl, 1) := by decide +kernel
theorem dX7_rankOf_129 : decode cX7_rankOf 129 = .ok (.iconst (-1), 1) := by decide +kernel
theorem dX7_rankOf_130 : decode cX7_rankOf 130 = .ok (.ixor, 1) := by decide +kernel
theorem dX7_rankOf_131 : decode cX7_rankOf 131 = .ok (.iand, 1) := by decide +kernel
theorem dX7_rankOf_132 : decode cX7_rankOf 132 = .ok (.iaload, 1) := by decide +kernel
theorem dX7_rankOf_133 : decode cX7_rankOf 133 = .ok (.lshl, 1) := by decide +kernel
theorem dX7_rankOf_134 : decode cX7_rankOf 134 = .ok (.goto 4, 3) := by decide +kernel
theorem dX7_rankOf_137 : decode cX7_rankOf 137 = .ok (.lconst 0, 1) := by decide +kernel
theorem dX7_rankOf_138 : decode cX7_rankOf 138 = .ok (.lor, 1) := by decide +kernel
theorem dX7_rankOf_139 : decode cX7_rankOf 139 = .ok (.lastore, 1) := by decide +kernel
theorem dX7_rankOf_140 : decode cX7_rankOf 140 = .ok (.iinc 5 1, 3) := by decide +kernel
theorem dX7_rankOf_143 : decode cX7_rankOf 143 = .ok (.goto (-49), 3) := by decide +kernel
theorem dX7_rankOf_146 : decode cX7_rankOf 146 = .ok (.iinc 3 1, 3) := by decide +kernel
theorem dX7_rankOf_149 : decode cX7_rankOf 149 = .ok (.iinc 4 1, 3) := by decide +kernel
theorem dX7_rankOf_152 : decode cX7_rankOf 152 = .ok (.goto (-95), 3) := by decide +kernel
theorem dX7_rankOf_155 : decode cX7_rankOf 155 = .ok (.aload_n 0, 1) := by decide +kernel
theorem dX7_rankOf_156 : decode cX7_rankOf 156 = .ok (.iload_n 3, 1) := by decide +kernel
theorem dX7_rankOf_157 : decode cX7_rankOf 157 = .ok (.invokevirtual 186, 3) := by decide +kernel
theorem dX7_rankOf_160 : decode cX7_rankOf 160 = .ok (.ireturn, 1) := by decide +kernel
theorem dX7_rankOfRows_0 : decode cX7_rankOfRows 0 = .ok (.iconst 0, 1) := by decide +kernel
theorem dX7_rankOfRows_1 : decode cX7_rankOfRows 1 = .ok (.istore_n 2, 1) := by decide +kernel
theorem dX7_rankOfRows_2 : decode cX7_rankOfRows 2 = .ok (.iconst 0, 1) := by decide +kernel
theorem dX7_rankOfRows_3 : decode cX7_rankOfRows 3 = .ok (.istore_n 3, 1) := by decide +kernel
theorem dX7_rankOfRows_4 : decode cX7_rankOfRows 4 = .ok (.iload_n 3, 1) := by decide +kernel
theorem dX7_rankOfRows_5 : decode cX7_rankOfRows 5 = .ok (.iload_n 1, 1) := by decide +kernel
theorem dX7_rankOfRows_6 : decode cX7_rankOfRows 6 = .ok (.if_icmp .ge 95, 3) := by decide +kernel
theorem dX7_rankOfRows_9 : decode cX7_rankOfRows 9 = .ok (.aload_n 0, 1) := by decide +kernel
theorem dX7_rankOfRows_10 : decode cX7_rankOfRows 10 = .ok (.getfield 30, 3) := by decide +kernel
theorem dX7_rankOfRows_13 : decode cX7_rankOfRows 13 = .ok (.iload_n 3, 1) := by decide +kernel
theorem dX7_rankOfRows_14 : decode cX7_rankOfRows 14 = .ok (.laload, 1) := by decide +kernel
theorem dX7_rankOfRows_15 : decode cX7_rankOfRows 15 = .ok (.lconst 0, 1) := by decide +kernel
theorem dX7_rankOfRows_16 : decode cX7_rankOfRows 16 = .ok (.lcmp, 1) := by decide +kernel
theorem dX7_rankOfRows_17 : decode cX7_rankOfRows 17 = .ok (.ifCond .eq 78, 3) := by decide +kernel
theorem dX7_rankOfRows_20 : decode cX7_rankOfRows 20 = .ok (.aload_n 0, 1) := by decide +kernel
theorem dX7_rankOfRows_21 : decode cX7_rankOfRows 21 = .ok (.getfield 30, 3) := by decide +kernel
theorem dX7_rankOfRows_24 : decode cX7_rankOfRows 24 = .ok (.iload_n 3, 1) := by decide +kernel
theorem dX7_rankOfRows_25 : decode cX7_rankOfRows 25 = .ok (.laload, 1) := by decide +kernel
theorem dX7_rankOfRows_26 : decode cX7_rankOfRows 26 = .ok (.aload_n 0, 1) := by decide +kernel
theorem dX7_rankOfRows_27 : decode cX7_rankOfRows 27 = .ok (.getfield 30, 3) := by decide +kernel
theorem dX7_rankOfRows_30 : decode cX7_rankOfRows 30 = .ok (.iload_n 3, 1) := by decide +kernel
theorem dX7_rankOfRows_31 : decode cX7_rankOfRows 31 = .ok (.laload, 1) := by decide +kernel
theorem dX7_rankOfRows_32 : decode cX7_rankOfRows 32 = .ok (.lneg, 1) := by decide +kernel
theorem dX7_rankOfRows_33 : decode cX7_rankOfRows 33 = .ok (.land, 1) := by decide +kernel
theorem dX7_rankOfRows_34 : decode cX7_rankOfRows 34 = .ok (.lstore 4, 2) := by decide +kernel
theorem dX7_rankOfRows_36 : decode cX7_rankOfRows 36 = .ok (.iconst 0, 1) := by decide +kernel
theorem dX7_rankOfRows_37 : decode cX7_rankOfRows 37 = .ok (.istore 6, 2) := by decide +kernel
theorem dX7_rankOfRows_39 : decode cX7_rankOfRows 39 = .ok (.iload 6, 2) := by decide +kernel
theorem dX7_rankOfRows_41 : decode cX7_rankOfRows 41 = .ok (.iload_n 1, 1) := by decide +kernel
theorem dX7_rankOfRows_42 : decode cX7_rankOfRows 42 = .ok (.if_icmp .ge 50, 3) := by decide +kernel
theorem dX7_rankOfRows_45 : decode cX7_rankOfRows 45 = .ok (.aload_n 0, 1) := by decide +kernel
theorem dX7_rankOfRows_46 : decode cX7_rankOfRows 46 = .ok (.getfield 30, 3) := by decide +kernel
theorem dX7_rankOfRows_49 : decode cX7_rankOfRows 49 = .ok (.iload 6, 2) := by decide +kernel
theorem dX7_rankOfRows_51 : decode cX7_rankOfRows 51 = .ok (.dup2, 1) := by decide +kernel
theorem dX7_rankOfRows_52 : decode cX7_rankOfRows 52 = .ok (.laload, 1) := by decide +kernel
theorem dX7_rankOfRows_53 : decode cX7_rankOfRows 53 = .ok (.iload 6, 2) := by decide +kernel
theorem dX7_rankOfRows_55 : decode cX7_rankOfRows 55 = .ok (.iload_n 3, 1) := by decide +kernel
theorem dX7_rankOfRows_56 : decode cX7_rankOfRows 56 = .ok (.if_icmp .eq 27, 3) := by decide +kernel
theorem dX7_rankOfRows_59 : decode cX7_rankOfRows 59 = .ok (.aload_n 0, 1) := by decide +kernel
theorem dX7_rankOfRows_60 : decode cX7_rankOfRows 60 = .ok (.getfield 30, 3) := by decide +kernel
theorem dX7_rankOfRows_63 : decode cX7_rankOfRows 63 = .ok (.iload 6, 2) := by decide +kernel
theorem dX7_rankOfRows_65 : decode cX7_rankOfRows 65 = .ok (.laload, 1) := by decide +kernel
theorem dX7_rankOfRows_66 : decode cX7_rankOfRows 66 = .ok (.lload 4, 2) := by decide +kernel
theorem dX7_rankOfRows_68 : decode cX7_rankOfRows 68 = .ok (.land, 1) := by decide +kernel
theorem dX7_rankOfRows_69 : decode cX7_rankOfRows 69 = .ok (.lconst 0, 1) := by decide +kernel
theorem dX7_rankOfRows_70 : decode cX7_rankOfRows 70 = .ok (.lcmp, 1) := by decide +kernel
theorem dX7_rankOfRows_71 : decode cX7_rankOfRows 71 = .ok (.ifCond .eq 12, 3) := by decide +kernel
theorem dX7_rankOfRows_74 : decode cX7_rankOfRows 74 = .ok (.aload_n 0, 1) := by decide +kernel
theorem dX7_rankOfRows_75 : decode cX7_rankOfRows 75 = .ok (.getfield 30, 3) := by decide +kernel
theorem dX7_rankOfRows_78 : decode cX7_rankOfRows 78 = .ok (.iload_n 3, 1) := by decide +kernel
theorem dX7_rankOfRows_79 : decode cX7_rankOfRows 79 = .ok (.laload, 1) := by decide +kernel
theorem dX7_rankOfRows_80 : decode cX7_rankOfRows 80 = .ok (.goto 4, 3) := by decide +kernel
theorem dX7_rankOfRows_83 : decode cX7_rankOfRows 83 = .ok (.lconst 0, 1) := by decide +kernel
theorem dX7_rankOfRows_84 : decode cX7_rankOfRows 84 = .ok (.lxor, 1) := by decide +kernel
theorem dX7_rankOfRows_85 : decode cX7_rankOfRows 85 = .ok (.lastore, 1) := by decide +kernel
theorem dX7_rankOfRows_86 : decode cX7_rankOfRows 86 = .ok (.iinc 6 1, 3) := by decide +kernel
theorem dX7_rankOfRows_89 : decode cX7_rankOfRows 89 = .ok (.goto (-50), 3) := by decide +kernel
theorem dX7_rankOfRows_92 : decode cX7_rankOfRows 92 = .ok (.iinc 2 1, 3) := by decide +kernel
theorem dX7_rankOfRows_95 : decode cX7_rankOfRows 95 = .ok (.iinc 3 1, 3) := by decide +kernel
theorem dX7_rankOfRows_98 : decode cX7_rankOfRows 98 = .ok (.goto (-94), 3) := by decide +kernel
theorem dX7_rankOfRows_101 : decode cX7_rankOfRows 101 = .ok (.iload_n 2, 1) := by decide +kernel
theorem dX7_rankOfRows_102 : decode cX7_rankOfRows 102 = .ok (.ireturn, 1) := by decide +kernel
theorem dX7_roundOf_0 : decode cX7_roundOf 0 = .ok (.aload_n 0, 1) := by decide +kernel
theorem dX7_roundOf_1 : decode cX7_roundOf 1 = .ok (.iload_n 1, 1) := by decide +kernel
theorem dX7_roundOf_2 : decode cX7_roundOf 2 = .ok (.invokevirtual 189, 3) := by decide +kernel
theorem dX7_roundOf_5 : decode cX7_roundOf 5 = .ok (.aload_n 0, 1) := by decide +kernel
theorem dX7_roundOf_6 : decode cX7_roundOf 6 = .ok (.iload_n 1, 1) := by decide +kernel
theorem dX7_roundOf_7 : decode cX7_roundOf 7 = .ok (.invokevirtual 192, 3) := by decide +kernel
theorem dX7_roundOf_10 : decode cX7_roundOf 10 = .ok (.isub, 1) := by decide +kernel
theorem dX7_roundOf_11 : decode cX7_roundOf 11 = .ok (.aload_n 0, 1) := by decide +kernel
theorem dX7_roundOf_12 : decode cX7_roundOf 12 = .ok (.iload_n 1, 1) := by decide +kernel
theorem dX7_roundOf_13 : decode cX7_roundOf 13 = .ok (.iconst 1, 1) := by decide +kernel
theorem dX7_roundOf_14 : decode cX7_roundOf 14 = .ok (.iadd, 1) := by decide +kernel
theorem dX7_roundOf_15 : decode cX7_roundOf 15 = .ok (.invokevirtual 192, 3) := by decide +kernel
theorem dX7_roundOf_18 : decode cX7_roundOf 18 = .ok (.isub, 1) := by decide +kernel
theorem dX7_roundOf_19 : decode cX7_roundOf 19 = .ok (.ireturn, 1) := by decide +kernel
theorem dX7_laysOwn_0 : decode cX7_laysOwn 0 = .ok (.aload_n 0, 1) := by decide +kernel
theorem dX7_laysOwn_1 : decode cX7_laysOwn 1 = .ok (.aload_n 0, 1) := by decide +kernel
theorem dX7_laysOwn_2 : decode cX7_laysOwn 2 = .ok (.getfield 17, 3) := by decide +kernel
theorem dX7_laysOwn_5 : decode cX7_laysOwn 5 = .ok (.aload_n 0, 1) := by decide +kernel
theorem dX7_laysOwn_6 : decode cX7_laysOwn 6 = .ok (.getfield 176, 3) := by decide +kernel
theorem dX7_laysOwn_9 : decode cX7_laysOwn 9 = .ok (.invokevirtual 195, 3) := by decide +kernel
theorem dX7_laysOwn_12 : decode cX7_laysOwn 12 = .ok (.return_, 1) := by decide +kernel
theorem dX7_isAsked_0 : decode cX7_isAsked 0 = .ok (.aload_n 0, 1) := by decide +kernel
theorem dX7_isAsked_1 : decode cX7_isAsked 1 = .ok (.aload_n 0, 1) := by decide +kernel
theorem dX7_isAsked_2 : decode cX7_isAsked 2 = .ok (.getfield 179, 3) := by decide +kernel
theorem dX7_isAsked_5 : decode cX7_isAsked 5 = .ok (.ifCond .eq 11, 3) := by decide +kernel
theorem dX7_isAsked_8 : decode cX7_isAsked 8 = .ok (.iload_n 1, 1) := by decide +kernel
theorem dX7_isAsked_9 : decode cX7_isAsked 9 = .ok (.ifCond .eq 7, 3) := by decide +kernel
theorem dX7_isAsked_12 : decode cX7_isAsked 12 = .ok (.iconst 1, 1) := by decide +kernel
theorem dX7_isAsked_13 : decode cX7_isAsked 13 = .ok (.goto 4, 3) := by decide +kernel
theorem dX7_isAsked_16 : decode cX7_isAsked 16 = .ok (.iconst 0, 1) := by decide +kernel
theorem dX7_isAsked_17 : decode cX7_isAsked 17 = .ok (.invokestatic 199, 3) := by decide +kernel
theorem dX7_isAsked_20 : decode cX7_isAsked 20 = .ok (.invokevirtual 159, 3) := by decide +kernel
theorem dX7_isAsked_23 : decode cX7_isAsked 23 = .ok (.ifCond .eq 5, 3) := by decide +kernel
theorem dX7_isAsked_26 : decode cX7_isAsked 26 = .ok (.iconst 0, 1) := by decide +kernel
theorem dX7_isAsked_27 : decode cX7_isAsked 27 = .ok (.ireturn, 1) := by decide +kernel
theorem dX7_isAsked_28 : decode cX7_isAsked 28 = .ok (.aload_n 0, 1) := by decide +kernel
theorem dX7_isAsked_29 : decode cX7_isAsked 29 = .ok (.invokevirtual 203, 3) := by decide +kernel
theorem dX7_isAsked_32 : decode cX7_isAsked 32 = .ok (.iconst 1, 1) := by decide +kernel
theorem dX7_isAsked_33 : decode cX7_isAsked 33 = .ok (.ireturn, 1) := by decide +kernel
theorem dX7_isSized_0 : decode cX7_isSized 0 = .ok (.aload_n 0, 1) := by decide +kernel
theorem dX7_isSized_1 : decode cX7_isSized 1 = .ok (.aload_n 0, 1) := by decide +kernel
theorem dX7_isSized_2 : decode cX7_isSized 2 = .ok (.getfield 179, 3) := by decide +kernel
theorem dX7_isSized_5 : decode cX7_isSized 5 = .ok (.iload_n 1, 1) := by decide +kernel
theorem dX7_isSized_6 : decode cX7_isSized 6 = .ok (.iconst 0, 1) := by decide +kernel
theorem dX7_isSized_7 : decode cX7_isSized 7 = .ok (.aload_n 0, 1) := by decide +kernel
theorem dX7_isSized_8 : decode cX7_isSized 8 = .ok (.getfield 173, 3) := by decide +kernel
theorem dX7_isSized_11 : decode cX7_isSized 11 = .ok (.invokestatic 84, 3) := by decide +kernel
theorem dX7_isSized_14 : decode cX7_isSized 14 = .ok (.invokestatic 206, 3) := by decide +kernel
theorem dX7_isSized_17 : decode cX7_isSized 17 = .ok (.invokevirtual 159, 3) := by decide +kernel
theorem dX7_isSized_20 : decode cX7_isSized 20 = .ok (.ifCond .eq 5, 3) := by decide +kernel
theorem dX7_isSized_23 : decode cX7_isSized 23 = .ok (.iconst 0, 1) := by decide +kernel
theorem dX7_isSized_24 : decode cX7_isSized 24 = .ok (.ireturn, 1) := by decide +kernel
theorem dX7_isSized_25 : decode cX7_isSized 25 = .ok (.aload_n 0, 1) := by decide +kernel
theorem dX7_isSized_26 : decode cX7_isSized 26 = .ok (.invokevirtual 203, 3) := by decide +kernel
theorem dX7_isSized_29 : decode cX7_isSized 29 = .ok (.iconst 1, 1) := by decide +kernel
theorem dX7_isSized_30 : decode cX7_isSized 30 = .ok (.ireturn, 1) := by decide +kernel
theorem dX7_allPoints_0 : decode cX7_allPoints 0 = .ok (.iconst 1, 1) := by decide +kernel
theorem dX7_allPoints_1 : decode cX7_allPoints 1 = .ok (.aload_n 0, 1) := by decide +kernel
theorem dX7_allPoints_2 : decode cX7_allPoints 2 = .ok (.getfield 171, 3) := by decide +kernel
theorem dX7_allPoints_5 : decode cX7_allPoints 5 = .ok (.ishl, 1) := by decide +kernel
theorem dX7_allPoints_6 : decode cX7_allPoints 6 = .ok (.iconst 1, 1) := by decide +kernel
theorem dX7_allPoints_7 : decode cX7_allPoints 7 = .ok (.isub, 1) := by decide +kernel
theorem dX7_allPoints_8 : decode cX7_allPoints 8 = .ok (.ireturn, 1) := by decide +kernel
theorem dX7_isMissing_0 : decode cX7_isMissing 0 = .ok (.aload_n 0, 1) := by decide +kernel
theorem dX7_isMissing_1 : decode cX7_isMissing 1 = .ok (.getfield 26, 3) := by decide +kernel
theorem dX7_isMissing_4 : decode cX7_isMissing 4 = .ok (.iload_n 1, 1) := by decide +kernel
theorem dX7_isMissing_5 : decode cX7_isMissing 5 = .ok (.baload, 1) := by decide +kernel
theorem dX7_isMissing_6 : decode cX7_isMissing 6 = .ok (.ifCond .ne 7, 3) := by decide +kernel
theorem dX7_isMissing_9 : decode cX7_isMissing 9 = .ok (.iload_n 1, 1) := by decide +kernel
theorem dX7_isMissing_10 : decode cX7_isMissing 10 = .ok (.ifCond .ne 5, 3) := by decide +kernel
theorem dX7_isMissing_13 : decode cX7_isMissing 13 = .ok (.iconst 0, 1) := by decide +kernel
theorem dX7_isMissing_14 : decode cX7_isMissing 14 = .ok (.ireturn, 1) := by decide +kernel
theorem dX7_isMissing_15 : decode cX7_isMissing 15 = .ok (.iconst 0, 1) := by decide +kernel
theorem dX7_isMissing_16 : decode cX7_isMissing 16 = .ok (.istore_n 2, 1) := by decide +kernel
theorem dX7_isMissing_17 : decode cX7_isMissing 17 = .ok (.iload_n 2, 1) := by decide +kernel
theorem dX7_isMissing_18 : decode cX7_isMissing 18 = .ok (.aload_n 0, 1) := by decide +kernel
theorem dX7_isMissing_19 : decode cX7_isMissing 19 = .ok (.getfield 171, 3) := by decide +kernel
theorem dX7_isMissing_22 : decode cX7_isMissing 22 = .ok (.if_icmp .ge 34, 3) := by decide +kernel
theorem dX7_isMissing_25 : decode cX7_isMissing 25 = .ok (.iload_n 1, 1) := by decide +kernel
theorem dX7_isMissing_26 : decode cX7_isMissing 26 = .ok (.iload_n 2, 1) := by decide +kernel
theorem dX7_isMissing_27 : decode cX7_isMissing 27 = .ok (.invokestatic 132, 3) := by decide +kernel
theorem dX7_isMissing_30 : decode cX7_isMissing 30 = .ok (.ifCond .eq 20, 3) := by decide +kernel
theorem dX7_isMissing_33 : decode cX7_isMissing 33 = .ok (.aload_n 0, 1) := by decide +kernel
theorem dX7_isMissing_34 : decode cX7_isMissing 34 = .ok (.getfield 26, 3) := by decide +kernel
theorem dX7_isMissing_37 : decode cX7_isMissing 37 = .ok (.iload_n 1, 1) := by decide +kernel
theorem dX7_isMissing_38 : decode cX7_isMissing 38 = .ok (.iconst 1, 1) := by decide +kernel
theorem dX7_isMissing_39 : decode cX7_isMissing 39 = .ok (.iload_n 2, 1) := by decide +kernel
theorem dX7_isMissing_40 : decode cX7_isMissing 40 = .ok (.ishl, 1) := by decide +kernel
theorem dX7_isMissing_41 : decode cX7_isMissing 41 = .ok (.iconst (-1), 1) := by decide +kernel
theorem dX7_isMissing_42 : decode cX7_isMissing 42 = .ok (.ixor, 1) := by decide +kernel
theorem dX7_isMissing_43 : decode cX7_isMissing 43 = .ok (.iand, 1) := by decide +kernel
theorem dX7_isMissing_44 : decode cX7_isMissing 44 = .ok (.baload, 1) := by decide +kernel
theorem dX7_isMissing_45 : decode cX7_isMissing 45 = .ok (.ifCond .ne 5, 3) := by decide +kernel
theorem dX7_isMissing_48 : decode cX7_isMissing 48 = .ok (.iconst 0, 1) := by decide +kernel
theorem dX7_isMissing_49 : decode cX7_isMissing 49 = .ok (.ireturn, 1) := by decide +kernel
theorem dX7_isMissing_50 : decode cX7_isMissing 50 = .ok (.iinc 2 1, 3) := by decide +kernel
theorem dX7_isMissing_53 : decode cX7_isMissing 53 = .ok (.goto (-36), 3) := by decide +kernel
theorem dX7_isMissing_56 : decode cX7_isMissing 56 = .ok (.iconst 1, 1) := by decide +kernel
theorem dX7_isMissing_57 : decode cX7_isMissing 57 = .ok (.ireturn, 1) := by decide +kernel
theorem dX7_laysMissing_0 : decode cX7_laysMissing 0 = .ok (.aload_n 0, 1) := by decide +kernel
theorem dX7_laysMissing_1 : decode cX7_laysMissing 1 = .ok (.iconst 0, 1) := by decide +kernel
theorem dX7_laysMissing_2 : decode cX7_laysMissing 2 = .ok (.putfield 209, 3) := by decide +kernel
theorem dX7_laysMissing_5 : decode cX7_laysMissing 5 = .ok (.iconst 1, 1) := by decide +kernel
theorem dX7_laysMissing_6 : decode cX7_laysMissing 6 = .ok (.istore_n 1, 1) := by decide +kernel
theorem dX7_laysMissing_7 : decode cX7_laysMissing 7 = .ok (.iload_n 1, 1) := by decide +kernel
theorem dX7_laysMissing_8 : decode cX7_laysMissing 8 = .ok (.aload_n 0, 1) := by decide +kernel
theorem dX7_laysMissing_9 : decode cX7_laysMissing 9 = .ok (.invokevirtual 212, 3) := by decide +kernel
theorem dX7_laysMissing_12 : decode cX7_laysMissing 12 = .ok (.if_icmp .gt 37, 3) := by decide +kernel
theorem dX7_laysMissing_15 : decode cX7_laysMissing 15 = .ok (.aload_n 0, 1) := by decide +kernel
theorem dX7_laysMissing_16 : decode cX7_laysMissing 16 = .ok (.iload_n 1, 1) := by decide +kernel
theorem dX7_laysMissing_17 : decode cX7_laysMissing 17 = .ok (.invokevirtual 215, 3) := by decide +kernel
theorem dX7_laysMissing_20 : decode cX7_laysMissing 20 = .ok (.ifCond .eq 23, 3) := by decide +kernel
theorem dX7_laysMissing_23 : decode cX7_laysMissing 23 = .ok (.aload_n 0, 1) := by decide +kernel
theorem dX7_laysMissing_24 : decode cX7_laysMissing 24 = .ok (.getfield 37, 3) := by decide +kernel
theorem dX7_laysMissing_27 : decode cX7_laysMissing 27 = .ok (.aload_n 0, 1) := by decide +kernel
theorem dX7_laysMissing_28 : decode cX7_laysMissing 28 = .ok (.getfield 209, 3) := by decide +kernel
theorem dX7_laysMissing_31 : decode cX7_laysMissing 31 = .ok (.iload_n 1, 1) := by decide +kernel
theorem dX7_laysMissing_32 : decode cX7_laysMissing 32 = .ok (.iastore, 1) := by decide +kernel
theorem dX7_laysMissing_33 : decode cX7_laysMissing 33 = .ok (.aload_n 0, 1) := by decide +kernel
theorem dX7_laysMissing_34 : decode cX7_laysMissing 34 = .ok (.dup, 1) := by decide +kernel
theorem dX7_laysMissing_35 : decode cX7_laysMissing 35 = .ok (.getfield 209, 3) := by decide +kernel
theorem dX7_laysMissing_38 : decode cX7_laysMissing 38 = .ok (.iconst 1, 1) := by decide +kernel
theorem dX7_laysMissing_39 : decode cX7_laysMissing 39 = .ok (.iadd, 1) := by decide +kernel
theorem dX7_laysMissing_40 : decode cX7_laysMissing 40 = .ok (.putfield 209, 3) := by decide +kernel
theorem dX7_laysMissing_43 : decode cX7_laysMissing 43 = .ok (.iinc 1 1, 3) := by decide +kernel
theorem dX7_laysMissing_46 : decode cX7_laysMissing 46 = .ok (.goto (-39), 3) := by decide +kernel
theorem dX7_laysMissing_49 : decode cX7_laysMissing 49 = .ok (.return_, 1) := by decide +kernel
theorem dX7_sumOfFaces_0 : decode cX7_sumOfFaces 0 = .ok (.iconst 0, 1) := by decide +kernel
theorem dX7_sumOfFaces_1 : decode cX7_sumOfFaces 1 = .ok (.istore_n 2, 1) := by decide +kernel
theorem dX7_sumOfFaces_2 : decode cX7_sumOfFaces 2 = .ok (.iconst 0, 1) := by decide +kernel
theorem dX7_sumOfFaces_3 : decode cX7_sumOfFaces 3 = .ok (.istore_n 3, 1) := by decide +kernel
theorem dX7_sumOfFaces_4 : decode cX7_sumOfFaces 4 = .ok (.iload_n 3, 1) := by decide +kernel
theorem dX7_sumOfFaces_5 : decode cX7_sumOfFaces 5 = .ok (.sipush 128, 3) := by decide +kernel
theorem dX7_sumOfFaces_8 : decode cX7_sumOfFaces 8 = .ok (.if_icmp .ge 43, 3) := by decide +kernel
theorem dX7_sumOfFaces_11 : decode cX7_sumOfFaces 11 = .ok (.iload_n 2, 1) := by decide +kernel
theorem dX7_sumOfFaces_12 : decode cX7_sumOfFaces 12 = .ok (.aload_n 0, 1) := by decide +kernel
theorem dX7_sumOfFaces_13 : decode cX7_sumOfFaces 13 = .ok (.getfield 26, 3) := by decide +kernel
theorem dX7_sumOfFaces_16 : decode cX7_sumOfFaces 16 = .ok (.iload_n 3, 1) := by decide +kernel
theorem dX7_sumOfFaces_17 : decode cX7_sumOfFaces 17 = .ok (.baload, 1) := by decide +kernel
theorem dX7_sumOfFaces_18 : decode cX7_sumOfFaces 18 = .ok (.ifCond .ne 7, 3) := by decide +kernel
theorem dX7_sumOfFaces_21 : decode cX7_sumOfFaces 21 = .ok (.iconst 0, 1) := by decide +kernel
theorem dX7_sumOfFaces_22 : decode cX7_sumOfFaces 22 = .ok (.goto 21, 3) := by decide +kernel
theorem dX7_sumOfFaces_25 : decode cX7_sumOfFaces 25 = .ok (.iload_n 1, 1) := by decide +kernel
theorem dX7_sumOfFaces_26 : decode cX7_sumOfFaces 26 = .ok (.ifCond .eq 16, 3) := by decide +kernel
theorem dX7_sumOfFaces_29 : decode cX7_sumOfFaces 29 = .ok (.iload_n 3, 1) := by decide +kernel
theorem dX7_sumOfFaces_30 : decode cX7_sumOfFaces 30 = .ok (.invokestatic 136, 3) := by decide +kernel
theorem dX7_sumOfFaces_33 : decode cX7_sumOfFaces 33 = .ok (.iconst 2, 1) := by decide +kernel
theorem dX7_sumOfFaces_34 : decode cX7_sumOfFaces 34 = .ok (.irem, 1) := by decide +kernel
theorem dX7_sumOfFaces_35 : decode cX7_sumOfFaces 35 = .ok (.ifCond .ne 7, 3) := by decide +kernel
theorem dX7_sumOfFaces_38 : decode cX7_sumOfFaces 38 = .ok (.iconst (-1), 1) := by decide +kernel
theorem dX7_sumOfFaces_39 : decode cX7_sumOfFaces 39 = .ok (.goto 4, 3) := by decide +kernel
theorem dX7_sumOfFaces_42 : decode cX7_sumOfFaces 42 = .ok (.iconst 1, 1) := by decide +kernel
theorem dX7_sumOfFaces_43 : decode cX7_sumOfFaces 43 = .ok (.iadd, 1) := by decide +kernel
theorem dX7_sumOfFaces_44 : decode cX7_sumOfFaces 44 = .ok (.istore_n 2, 1) := by decide +kernel
theorem dX7_sumOfFaces_45 : decode cX7_sumOfFaces 45 = .ok (.iinc 3 1, 3) := by decide +kernel
theorem dX7_sumOfFaces_48 : decode cX7_sumOfFaces 48 = .ok (.goto (-44), 3) := by decide +kernel
theorem dX7_sumOfFaces_51 : decode cX7_sumOfFaces 51 = .ok (.iload_n 2, 1) := by decide +kernel
theorem dX7_sumOfFaces_52 : decode cX7_sumOfFaces 52 = .ok (.ireturn, 1) := by decide +kernel
theorem dX7_pointsIn_0 : decode cX7_pointsIn 0 = .ok (.iload_n 1, 1) := by decide +kernel
theorem dX7_pointsIn_1 : decode cX7_pointsIn 1 = .ok (.ifCond .eq 10, 3) := by decide +kernel
theorem dX7_pointsIn_4 : decode cX7_pointsIn 4 = .ok (.aload_n 0, 1) := by decide +kernel
theorem dX7_pointsIn_5 : decode cX7_pointsIn 5 = .ok (.invokevirtual 212, 3) := by decide +kernel
theorem dX7_pointsIn_8 : decode cX7_pointsIn 8 = .ok (.goto 4, 3) := by decide +kernel
theorem dX7_pointsIn_11 : decode cX7_pointsIn 11 = .ok (.iconst 0, 1) := by decide +kernel
theorem dX7_pointsIn_12 : decode cX7_pointsIn 12 = .ok (.istore_n 2, 1) := by decide +kernel
theorem dX7_pointsIn_13 : decode cX7_pointsIn 13 = .ok (.iconst 0, 1) := by decide +kernel
theorem dX7_pointsIn_14 : decode cX7_pointsIn 14 = .ok (.istore_n 3, 1) := by decide +kernel
theorem dX7_pointsIn_15 : decode cX7_pointsIn 15 = .ok (.iload_n 3, 1) := by decide +kernel
theorem dX7_pointsIn_16 : decode cX7_pointsIn 16 = .ok (.aload_n 0, 1) := by decide +kernel
theorem dX7_pointsIn_17 : decode cX7_pointsIn 17 = .ok (.getfield 176, 3) := by decide +kernel
theorem dX7_pointsIn_20 : decode cX7_pointsIn 20 = .ok (.if_icmp .ge 33, 3) := by decide +kernel
theorem dX7_pointsIn_23 : decode cX7_pointsIn 23 = .ok (.iload_n 1, 1) := by decide +kernel
theorem dX7_pointsIn_24 : decode cX7_pointsIn 24 = .ok (.ifCond .eq 14, 3) := by decide +kernel
theorem dX7_pointsIn_27 : decode cX7_pointsIn 27 = .ok (.iload_n 2, 1) := by decide +kernel
theorem dX7_pointsIn_28 : decode cX7_pointsIn 28 = .ok (.aload_n 0, 1) := by decide +kernel
theorem dX7_pointsIn_29 : decode cX7_pointsIn 29 = .ok (.getfield 17, 3) := by decide +kernel
theorem dX7_pointsIn_32 : decode cX7_pointsIn 32 = .ok (.iload_n 3, 1) := by decide +kernel
theorem dX7_pointsIn_33 : decode cX7_pointsIn 33 = .ok (.iaload, 1) := by decide +kernel
theorem dX7_pointsIn_34 : decode cX7_pointsIn 34 = .ok (.iand, 1) := by decide +kernel
theorem dX7_pointsIn_35 : decode cX7_pointsIn 35 = .ok (.goto 11, 3) := by decide +kernel
theorem dX7_pointsIn_38 : decode cX7_pointsIn 38 = .ok (.iload_n 2, 1) := by decide +kernel
theorem dX7_pointsIn_39 : decode cX7_pointsIn 39 = .ok (.aload_n 0, 1) := by decide +kernel
theorem dX7_pointsIn_40 : decode cX7_pointsIn 40 = .ok (.getfield 17, 3) := by decide +kernel
theorem dX7_pointsIn_43 : decode cX7_pointsIn 43 = .ok (.iload_n 3, 1) := by decide +kernel
theorem dX7_pointsIn_44 : decode cX7_pointsIn 44 = .ok (.iaload, 1) := by decide +kernel
theorem dX7_pointsIn_45 : decode cX7_pointsIn 45 = .ok (.ior, 1) := by decide +kernel
theorem dX7_pointsIn_46 : decode cX7_pointsIn 46 = .ok (.istore_n 2, 1) := by decide +kernel
theorem dX7_pointsIn_47 : decode cX7_pointsIn 47 = .ok (.iinc 3 1, 3) := by decide +kernel
theorem dX7_pointsIn_50 : decode cX7_pointsIn 50 = .ok (.goto (-35), 3) := by decide +kernel
theorem dX7_pointsIn_53 : decode cX7_pointsIn 53 = .ok (.iload_n 2, 1) := by decide +kernel
theorem dX7_pointsIn_54 : decode cX7_pointsIn 54 = .ok (.ireturn, 1) := by decide +kernel
theorem dX7_about_0 : decode cX7_about 0 = .ok (.aload_n 0, 1) := by decide +kernel
theorem dX7_about_1 : decode cX7_about 1 = .ok (.iload_n 1, 1) := by decide +kernel
theorem dX7_about_2 : decode cX7_about 2 = .ok (.iconst 0, 1) := by decide +kernel
theorem dX7_about_3 : decode cX7_about 3 = .ok (.bipush 6, 2) := by decide +kernel
theorem dX7_about_5 : decode cX7_about 5 = .ok (.invokestatic 84, 3) := by decide +kernel
theorem dX7_about_8 : decode cX7_about 8 = .ok (.invokevirtual 218, 3) := by decide +kernel
theorem dX7_about_11 : decode cX7_about 11 = .ok (.ifCond .ne 5, 3) := by decide +kernel
theorem dX7_about_14 : decode cX7_about 14 = .ok (.iconst (-1), 1) := by decide +kernel
theorem dX7_about_15 : decode cX7_about 15 = .ok (.ireturn, 1) := by decide +kernel
theorem dX7_about_16 : decode cX7_about 16 = .ok (.aload_n 0, 1) := by decide +kernel
theorem dX7_about_17 : decode cX7_about 17 = .ok (.invokevirtual 222, 3) := by decide +kernel
theorem dX7_about_20 : decode cX7_about 20 = .ok (.iload_n 1, 1) := by decide +kernel
theorem dX7_about_21 : decode cX7_about 21 = .ok (.tableswitch 72 0 5 #[39, 44, 49, 54, 60, 66], 39) := by decide +kernel
theorem dX7_about_60 : decode cX7_about 60 = .ok (.aload_n 0, 1) := by decide +kernel
theorem dX7_about_61 : decode cX7_about 61 = .ok (.getfield 171, 3) := by decide +kernel
theorem dX7_about_64 : decode cX7_about 64 = .ok (.ireturn, 1) := by decide +kernel
theorem dX7_about_65 : decode cX7_about 65 = .ok (.aload_n 0, 1) := by decide +kernel
theorem dX7_about_66 : decode cX7_about 66 = .ok (.getfield 173, 3) := by decide +kernel
theorem dX7_about_69 : decode cX7_about 69 = .ok (.ireturn, 1) := by decide +kernel
theorem dX7_about_70 : decode cX7_about 70 = .ok (.aload_n 0, 1) := by decide +kernel
theorem dX7_about_71 : decode cX7_about 71 = .ok (.getfield 176, 3) := by decide +kernel
theorem dX7_about_74 : decode cX7_about 74 = .ok (.ireturn, 1) := by decide +kernel
theorem dX7_about_75 : decode cX7_about 75 = .ok (.aload_n 0, 1) := by decide +kernel
theorem dX7_about_76 : decode cX7_about 76 = .ok (.iconst 0, 1) := by decide +kernel
theorem dX7_about_77 : decode cX7_about 77 = .ok (.invokevirtual 225, 3) := by decide +kernel
theorem dX7_about_80 : decode cX7_about 80 = .ok (.ireturn, 1) := by decide +kernel
theorem dX7_about_81 : decode cX7_about 81 = .ok (.aload_n 0, 1) := by decide +kernel
theorem dX7_about_82 : decode cX7_about 82 = .ok (.iconst 0, 1) := by decide +kernel
theorem dX7_about_83 : decode cX7_about 83 = .ok (.invokevirtual 228, 3) := by decide +kernel
theorem dX7_about_86 : decode cX7_about 86 = .ok (.ireturn, 1) := by decide +kernel
theorem dX7_about_87 : decode cX7_about 87 = .ok (.aload_n 0, 1) := by decide +kernel
theorem dX7_about_88 : decode cX7_about 88 = .ok (.iconst 1, 1) := by decide +kernel
theorem dX7_about_89 : decode cX7_about 89 = .ok (.invokevirtual 228, 3) := by decide +kernel
theorem dX7_about_92 : decode cX7_about 92 = .ok (.ireturn, 1) := by decide +kernel
theorem dX7_about_93 : decode cX7_about 93 = .ok (.aload_n 0, 1) := by decide +kernel
theorem dX7_about_94 : decode cX7_about 94 = .ok (.getfield 209, 3) := by decide +kernel
theorem dX7_about_97 : decode cX7_about 97 = .ok (.ireturn, 1) := by decide +kernel
theorem dX7_isFacet_0 : decode cX7_isFacet 0 = .ok (.aload_n 0, 1) := by decide +kernel
theorem dX7_isFacet_1 : decode cX7_isFacet 1 = .ok (.getfield 179, 3) := by decide +kernel
theorem dX7_isFacet_4 : decode cX7_isFacet 4 = .ok (.ifCond .eq 21, 3) := by decide +kernel
theorem dX7_isFacet_7 : decode cX7_isFacet 7 = .ok (.iload_n 1, 1) := by decide +kernel
theorem dX7_isFacet_8 : decode cX7_isFacet 8 = .ok (.iconst 0, 1) := by decide +kernel
theorem dX7_isFacet_9 : decode cX7_isFacet 9 = .ok (.aload_n 0, 1) := by decide +kernel
theorem dX7_isFacet_10 : decode cX7_isFacet 10 = .ok (.getfield 176, 3) := by decide +kernel
theorem dX7_isFacet_13 : decode cX7_isFacet 13 = .ok (.iconst 1, 1) := by decide +kernel
theorem dX7_isFacet_14 : decode cX7_isFacet 14 = .ok (.isub, 1) := by decide +kernel
theorem dX7_isFacet_15 : decode cX7_isFacet 15 = .ok (.invokestatic 84, 3) := by decide +kernel
theorem dX7_isFacet_18 : decode cX7_isFacet 18 = .ok (.ifCond .eq 7, 3) := by decide +kernel
theorem dX7_isFacet_21 : decode cX7_isFacet 21 = .ok (.iconst 1, 1) := by decide +kernel
theorem dX7_isFacet_22 : decode cX7_isFacet 22 = .ok (.goto 4, 3) := by decide +kernel
theorem dX7_isFacet_25 : decode cX7_isFacet 25 = .ok (.iconst 0, 1) := by decide +kernel
theorem dX7_isFacet_26 : decode cX7_isFacet 26 = .ok (.ireturn, 1) := by decide +kernel
theorem dX7_facet_0 : decode cX7_facet 0 = .ok (.aload_n 0, 1) := by decide +kernel
theorem dX7_facet_1 : decode cX7_facet 1 = .ok (.aload_n 0, 1) := by decide +kernel
theorem dX7_facet_2 : decode cX7_facet 2 = .ok (.iload_n 1, 1) := by decide +kernel
theorem dX7_facet_3 : decode cX7_facet 3 = .ok (.invokevirtual 231, 3) := by decide +kernel
theorem dX7_facet_6 : decode cX7_facet 6 = .ok (.invokestatic 199, 3) := by decide +kernel
theorem dX7_facet_9 : decode cX7_facet 9 = .ok (.invokevirtual 159, 3) := by decide +kernel
theorem dX7_facet_12 : decode cX7_facet 12 = .ok (.ifCond .eq 7, 3) := by decide +kernel
theorem dX7_facet_15 : decode cX7_facet 15 = .ok (.iconst (-1), 1) := by decide +kernel
theorem dX7_facet_16 : decode cX7_facet 16 = .ok (.goto 9, 3) := by decide +kernel
theorem dX7_facet_19 : decode cX7_facet 19 = .ok (.aload_n 0, 1) := by decide +kernel
theorem dX7_facet_20 : decode cX7_facet 20 = .ok (.getfield 17, 3) := by decide +kernel
theorem dX7_facet_23 : decode cX7_facet 23 = .ok (.iload_n 1, 1) := by decide +kernel
theorem dX7_facet_24 : decode cX7_facet 24 = .ok (.iaload, 1) := by decide +kernel
theorem dX7_facet_25 : decode cX7_facet 25 = .ok (.ireturn, 1) := by decide +kernel
theorem dX7_withinOf_0 : decode cX7_withinOf 0 = .ok (.iconst 0, 1) := by decide +kernel
theorem dX7_withinOf_1 : decode cX7_withinOf 1 = .ok (.istore_n 2, 1) := by decide +kernel
theorem dX7_withinOf_2 : decode cX7_withinOf 2 = .ok (.iconst 0, 1) := by decide +kernel
theorem dX7_withinOf_3 : decode cX7_withinOf 3 = .ok (.istore_n 3, 1) := by decide +kernel
theorem dX7_withinOf_4 : decode cX7_withinOf 4 = .ok (.iload_n 3, 1) := by decide +kernel
theorem dX7_withinOf_5 : decode cX7_withinOf 5 = .ok (.aload_n 0, 1) := by decide +kernel
theorem dX7_withinOf_6 : decode cX7_withinOf 6 = .ok (.getfield 176, 3) := by decide +kernel
theorem dX7_withinOf_9 : decode cX7_withinOf 9 = .ok (.if_icmp .ge 32, 3) := by decide +kernel
theorem dX7_withinOf_12 : decode cX7_withinOf 12 = .ok (.iload_n 2, 1) := by decide +kernel
theorem dX7_withinOf_13 : decode cX7_withinOf 13 = .ok (.iload_n 1, 1) := by decide +kernel
theorem dX7_withinOf_14 : decode cX7_withinOf 14 = .ok (.aload_n 0, 1) := by decide +kernel
theorem dX7_withinOf_15 : decode cX7_withinOf 15 = .ok (.getfield 17, 3) := by decide +kernel
theorem dX7_withinOf_18 : decode cX7_withinOf 18 = .ok (.iload_n 3, 1) := by decide +kernel
theorem dX7_withinOf_19 : decode cX7_withinOf 19 = .ok (.iaload, 1) := by decide +kernel
theorem dX7_withinOf_20 : decode cX7_withinOf 20 = .ok (.invokestatic 183, 3) := by decide +kernel
theorem dX7_withinOf_23 : decode cX7_withinOf 23 = .ok (.ifCond .eq 9, 3) := by decide +kernel
theorem dX7_withinOf_26 : decode cX7_withinOf 26 = .ok (.iconst 1, 1) := by decide +kernel
theorem dX7_withinOf_27 : decode cX7_withinOf 27 = .ok (.iload_n 3, 1) := by decide +kernel
theorem dX7_withinOf_28 : decode cX7_withinOf 28 = .ok (.ishl, 1) := by decide +kernel
theorem dX7_withinOf_29 : decode cX7_withinOf 29 = .ok (.goto 4, 3) := by decide +kernel
theorem dX7_withinOf_32 : decode cX7_withinOf 32 = .ok (.iconst 0, 1) := by decide +kernel
theorem dX7_withinOf_33 : decode cX7_withinOf 33 = .ok (.ior, 1) := by decide +kernel
theorem dX7_withinOf_34 : decode cX7_withinOf 34 = .ok (.istore_n 2, 1) := by decide +kernel
theorem dX7_withinOf_35 : decode cX7_withinOf 35 = .ok (.iinc 3 1, 3) := by decide +kernel
theorem dX7_withinOf_38 : decode cX7_withinOf 38 = .ok (.goto (-34), 3) := by decide +kernel
theorem dX7_withinOf_41 : decode cX7_withinOf 41 = .ok (.iload_n 2, 1) := by decide +kernel
theorem dX7_withinOf_42 : decode cX7_withinOf 42 = .ok (.ireturn, 1) := by decide +kernel
theorem dX7_isSet_0 : decode cX7_isSet 0 = .ok (.iload_n 1, 1) := by decide +kernel
theorem dX7_isSet_1 : decode cX7_isSet 1 = .ok (.iconst 0, 1) := by decide +kernel
theorem dX7_isSet_2 : decode cX7_isSet 2 = .ok (.aload_n 0, 1) := by decide +kernel
theorem dX7_isSet_3 : decode cX7_isSet 3 = .ok (.invokevirtual 212, 3) := by decide +kernel
theorem dX7_isSet_6 : decode cX7_isSet 6 = .ok (.invokestatic 84, 3) := by decide +kernel
theorem dX7_isSet_9 : decode cX7_isSet 9 = .ok (.ireturn, 1) := by decide +kernel
theorem dX7_within_0 : decode cX7_within 0 = .ok (.aload_n 0, 1) := by decide +kernel
theorem dX7_within_1 : decode cX7_within 1 = .ok (.aload_n 0, 1) := by decide +kernel
theorem dX7_within_2 : decode cX7_within 2 = .ok (.getfield 179, 3) := by decide +kernel
theorem dX7_within_5 : decode cX7_within 5 = .ok (.aload_n 0, 1) := by decide +kernel
theorem dX7_within_6 : decode cX7_within 6 = .ok (.iload_n 1, 1) := by decide +kernel
theorem dX7_within_7 : decode cX7_within 7 = .ok (.invokevirtual 234, 3) := by decide +kernel
theorem dX7_within_10 : decode cX7_within 10 = .ok (.invokestatic 206, 3) := by decide +kernel
theorem dX7_within_13 : decode cX7_within 13 = .ok (.invokevirtual 159, 3) := by decide +kernel
theorem dX7_within_16 : decode cX7_within 16 = .ok (.ifCond .eq 7, 3) := by decide +kernel
theorem dX7_within_19 : decode cX7_within 19 = .ok (.iconst (-1), 1) := by decide +kernel
theorem dX7_within_20 : decode cX7_within 20 = .ok (.goto 8, 3) := by decide +kernel
theorem dX7_within_23 : decode cX7_within 23 = .ok (.aload_n 0, 1) := by decide +kernel
theorem dX7_within_24 : decode cX7_within 24 = .ok (.iload_n 1, 1) := by decide +kernel
theorem dX7_within_25 : decode cX7_within 25 = .ok (.invokevirtual 237, 3) := by decide +kernel
theorem dX7_within_28 : decode cX7_within 28 = .ok (.ireturn, 1) := by decide +kernel
theorem dX7_missing_0 : decode cX7_missing 0 = .ok (.aload_n 0, 1) := by decide +kernel
theorem dX7_missing_1 : decode cX7_missing 1 = .ok (.iconst 1, 1) := by decide +kernel
theorem dX7_missing_2 : decode cX7_missing 2 = .ok (.invokevirtual 218, 3) := by decide +kernel
theorem dX7_missing_5 : decode cX7_missing 5 = .ok (.ifCond .ne 5, 3) := by decide +kernel
theorem dX7_missing_8 : decode cX7_missing 8 = .ok (.iconst (-1), 1) := by decide +kernel
theorem dX7_missing_9 : decode cX7_missing 9 = .ok (.ireturn, 1) := by decide +kernel
theorem dX7_missing_10 : decode cX7_missing 10 = .ok (.aload_n 0, 1) := by decide +kernel
theorem dX7_missing_11 : decode cX7_missing 11 = .ok (.invokevirtual 222, 3) := by decide +kernel
theorem dX7_missing_14 : decode cX7_missing 14 = .ok (.iload_n 1, 1) := by decide +kernel
theorem dX7_missing_15 : decode cX7_missing 15 = .ok (.iconst 0, 1) := by decide +kernel
theorem dX7_missing_16 : decode cX7_missing 16 = .ok (.aload_n 0, 1) := by decide +kernel
theorem dX7_missing_17 : decode cX7_missing 17 = .ok (.getfield 209, 3) := by decide +kernel
theorem dX7_missing_20 : decode cX7_missing 20 = .ok (.iconst 1, 1) := by decide +kernel
theorem dX7_missing_21 : decode cX7_missing 21 = .ok (.isub, 1) := by decide +kernel
theorem dX7_missing_22 : decode cX7_missing 22 = .ok (.invokestatic 84, 3) := by decide +kernel
theorem dX7_missing_25 : decode cX7_missing 25 = .ok (.ifCond .eq 12, 3) := by decide +kernel
theorem dX7_missing_28 : decode cX7_missing 28 = .ok (.aload_n 0, 1) := by decide +kernel
theorem dX7_missing_29 : decode cX7_missing 29 = .ok (.getfield 37, 3) := by decide +kernel
theorem dX7_missing_32 : decode cX7_missing 32 = .ok (.iload_n 1, 1) := by decide +kernel
theorem dX7_missing_33 : decode cX7_missing 33 = .ok (.iaload, 1) := by decide +kernel
theorem dX7_missing_34 : decode cX7_missing 34 = .ok (.goto 8, 3) := by decide +kernel
theorem dX7_missing_37 : decode cX7_missing 37 = .ok (.aload_n 0, 1) := by decide +kernel
theorem dX7_missing_38 : decode cX7_missing 38 = .ok (.iconst 1, 1) := by decide +kernel
theorem dX7_missing_39 : decode cX7_missing 39 = .ok (.invokevirtual 168, 3) := by decide +kernel
theorem dX7_missing_42 : decode cX7_missing 42 = .ok (.ireturn, 1) := by decide +kernel
theorem dX7_faces_0 : decode cX7_faces 0 = .ok (.aload_n 0, 1) := by decide +kernel
theorem dX7_faces_1 : decode cX7_faces 1 = .ok (.iload_n 1, 1) := by decide +kernel
theorem dX7_faces_2 : decode cX7_faces 2 = .ok (.invokevirtual 240, 3) := by decide +kernel
theorem dX7_faces_5 : decode cX7_faces 5 = .ok (.ifCond .eq 11, 3) := by decide +kernel
theorem dX7_faces_8 : decode cX7_faces 8 = .ok (.aload_n 0, 1) := by decide +kernel
theorem dX7_faces_9 : decode cX7_faces 9 = .ok (.iload_n 1, 1) := by decide +kernel
theorem dX7_faces_10 : decode cX7_faces 10 = .ok (.invokevirtual 189, 3) := by decide +kernel
theorem dX7_faces_13 : decode cX7_faces 13 = .ok (.goto 4, 3) := by decide +kernel
theorem dX7_faces_16 : decode cX7_faces 16 = .ok (.iconst (-1), 1) := by decide +kernel
theorem dX7_faces_17 : decode cX7_faces 17 = .ok (.ireturn, 1) := by decide +kernel
theorem dX7_ways_0 : decode cX7_ways 0 = .ok (.iconst 1, 1) := by decide +kernel
theorem dX7_ways_1 : decode cX7_ways 1 = .ok (.istore_n 2, 1) := by decide +kernel
theorem dX7_ways_2 : decode cX7_ways 2 = .ok (.iconst 0, 1) := by decide +kernel
theorem dX7_ways_3 : decode cX7_ways 3 = .ok (.istore_n 3, 1) := by decide +kernel
theorem dX7_ways_4 : decode cX7_ways 4 = .ok (.iload_n 3, 1) := by decide +kernel
theorem dX7_ways_5 : decode cX7_ways 5 = .ok (.iload_n 1, 1) := by decide +kernel
theorem dX7_ways_6 : decode cX7_ways 6 = .ok (.if_icmp .ge 19, 3) := by decide +kernel
theorem dX7_ways_9 : decode cX7_ways 9 = .ok (.iload_n 2, 1) := by decide +kernel
theorem dX7_ways_10 : decode cX7_ways 10 = .ok (.iload_n 0, 1) := by decide +kernel
theorem dX7_ways_11 : decode cX7_ways 11 = .ok (.iload_n 3, 1) := by decide +kernel
theorem dX7_ways_12 : decode cX7_ways 12 = .ok (.isub, 1) := by decide +kernel
theorem dX7_ways_13 : decode cX7_ways 13 = .ok (.imul, 1) := by decide +kernel
theorem dX7_ways_14 : decode cX7_ways 14 = .ok (.iload_n 3, 1) := by decide +kernel
theorem dX7_ways_15 : decode cX7_ways 15 = .ok (.iconst 1, 1) := by decide +kernel
theorem dX7_ways_16 : decode cX7_ways 16 = .ok (.iadd, 1) := by decide +kernel
theorem dX7_ways_17 : decode cX7_ways 17 = .ok (.idiv, 1) := by decide +kernel
theorem dX7_ways_18 : decode cX7_ways 18 = .ok (.istore_n 2, 1) := by decide +kernel
theorem dX7_ways_19 : decode cX7_ways 19 = .ok (.iinc 3 1, 3) := by decide +kernel
theorem dX7_ways_22 : decode cX7_ways 22 = .ok (.goto (-18), 3) := by decide +kernel
theorem dX7_ways_25 : decode cX7_ways 25 = .ok (.iload_n 2, 1) := by decide +kernel
theorem dX7_ways_26 : decode cX7_ways 26 = .ok (.ireturn, 1) := by decide +kernel
theorem dX7_h_0 : decode cX7_h 0 = .ok (.aload_n 0, 1) := by decide +kernel
theorem dX7_h_1 : decode cX7_h 1 = .ok (.iload_n 1, 1) := by decide +kernel
theorem dX7_h_2 : decode cX7_h 2 = .ok (.invokevirtual 240, 3) := by decide +kernel
theorem dX7_h_5 : decode cX7_h 5 = .ok (.ifCond .ne 6, 3) := by decide +kernel
theorem dX7_h_8 : decode cX7_h 8 = .ok (.ldc 245, 2) := by decide +kernel
theorem dX7_h_10 : decode cX7_h 10 = .ok (.ireturn, 1) := by decide +kernel
theorem dX7_h_11 : decode cX7_h 11 = .ok (.iconst 0, 1) := by decide +kernel
theorem dX7_h_12 : decode cX7_h 12 = .ok (.istore_n 2, 1) := by decide +kernel
theorem dX7_h_13 : decode cX7_h 13 = .ok (.iconst 0, 1) := by decide +kernel
theorem dX7_h_14 : decode cX7_h 14 = .ok (.istore_n 3, 1) := by decide +kernel
theorem dX7_h_15 : decode cX7_h 15 = .ok (.iload_n 3, 1) := by decide +kernel
theorem dX7_h_16 : decode cX7_h 16 = .ok (.iload_n 1, 1) := by decide +kernel
theorem dX7_h_17 : decode cX7_h 17 = .ok (.if_icmp .gt 49, 3) := by decide +kernel
theorem dX7_h_20 : decode cX7_h 20 = .ok (.aload_n 0, 1) := by decide +kernel
theorem dX7_h_21 : decode cX7_h 21 = .ok (.iload_n 3, 1) := by decide +kernel
theorem dX7_h_22 : decode cX7_h 22 = .ok (.invokevirtual 189, 3) := by decide +kernel
theorem dX7_h_25 : decode cX7_h 25 = .ok (.aload_n 0, 1) := by decide +kernel
theorem dX7_h_26 : decode cX7_h 26 = .ok (.getfield 173, 3) := by decide +kernel
theorem dX7_h_29 : decode cX7_h 29 = .ok (.iload_n 3, 1) := by decide +kernel
theorem dX7_h_30 : decode cX7_h 30 = .ok (.isub, 1) := by decide +kernel
theorem dX7_h_31 : decode cX7_h 31 = .ok (.iload_n 1, 1) := by decide +kernel
theorem dX7_h_32 : decode cX7_h 32 = .ok (.iload_n 3, 1) := by decide +kernel
theorem dX7_h_33 : decode cX7_h 33 = .ok (.isub, 1) := by decide +kernel
theorem dX7_h_34 : decode cX7_h 34 = .ok (.invokestatic 246, 3) := by decide +kernel
theorem dX7_h_37 : decode cX7_h 37 = .ok (.imul, 1) := by decide +kernel
theorem dX7_h_38 : decode cX7_h 38 = .ok (.istore 4, 2) := by decide +kernel
theorem dX7_h_40 : decode cX7_h 40 = .ok (.iload_n 2, 1) := by decide +kernel
theorem dX7_h_41 : decode cX7_h 41 = .ok (.iload_n 1, 1) := by decide +kernel
theorem dX7_h_42 : decode cX7_h 42 = .ok (.iload_n 3, 1) := by decide +kernel
theorem dX7_h_43 : decode cX7_h 43 = .ok (.isub, 1) := by decide +kernel
theorem dX7_h_44 : decode cX7_h 44 = .ok (.iconst 2, 1) := by decide +kernel
theorem dX7_h_45 : decode cX7_h 45 = .ok (.irem, 1) := by decide +kernel
theorem dX7_h_46 : decode cX7_h 46 = .ok (.iconst 1, 1) := by decide +kernel
theorem dX7_h_47 : decode cX7_h 47 = .ok (.if_icmp .ne 9, 3) := by decide +kernel
theorem dX7_h_50 : decode cX7_h 50 = .ok (.iload 4, 2) := by decide +kernel
theorem dX7_h_52 : decode cX7_h 52 = .ok (.ineg, 1) := by decide +kernel
theorem dX7_h_53 : decode cX7_h 53 = .ok (.goto 5, 3) := by decide +kernel
theorem dX7_h_56 : decode cX7_h 56 = .ok (.iload 4, 2) := by decide +kernel
theorem dX7_h_58 : decode cX7_h 58 = .ok (.iadd, 1) := by decide +kernel
theorem dX7_h_59 : decode cX7_h 59 = .ok (.istore_n 2, 1) := by decide +kernel
theorem dX7_h_60 : decode cX7_h 60 = .ok (.iinc 3 1, 3) := by decide +kernel
theorem dX7_h_63 : decode cX7_h 63 = .ok (.goto (-48), 3) := by decide +kernel
theorem dX7_h_66 : decode cX7_h 66 = .ok (.iload_n 2, 1) := by decide +kernel
theorem dX7_h_67 : decode cX7_h 67 = .ok (.ireturn, 1) := by decide +kernel
theorem dX7_euler_0 : decode cX7_euler 0 = .ok (.aload_n 0, 1) := by decide +kernel
theorem dX7_euler_1 : decode cX7_euler 1 = .ok (.iconst 1, 1) := by decide +kernel
theorem dX7_euler_2 : decode cX7_euler 2 = .ok (.invokevirtual 218, 3) := by decide +kernel
theorem dX7_euler_5 : decode cX7_euler 5 = .ok (.ifCond .eq 11, 3) := by decide +kernel
theorem dX7_euler_8 : decode cX7_euler 8 = .ok (.aload_n 0, 1) := by decide +kernel
theorem dX7_euler_9 : decode cX7_euler 9 = .ok (.iconst 1, 1) := by decide +kernel
theorem dX7_euler_10 : decode cX7_euler 10 = .ok (.invokevirtual 225, 3) := by decide +kernel
theorem dX7_euler_13 : decode cX7_euler 13 = .ok (.goto 5, 3) := by decide +kernel
theorem dX7_euler_16 : decode cX7_euler 16 = .ok (.ldc 245, 2) := by decide +kernel
theorem dX7_euler_18 : decode cX7_euler 18 = .ok (.ireturn, 1) := by decide +kernel
theorem dX7_rank_0 : decode cX7_rank 0 = .ok (.aload_n 0, 1) := by decide +kernel
theorem dX7_rank_1 : decode cX7_rank 1 = .ok (.iload_n 1, 1) := by decide +kernel
theorem dX7_rank_2 : decode cX7_rank 2 = .ok (.invokevirtual 240, 3) := by decide +kernel
theorem dX7_rank_5 : decode cX7_rank 5 = .ok (.ifCond .eq 11, 3) := by decide +kernel
theorem dX7_rank_8 : decode cX7_rank 8 = .ok (.aload_n 0, 1) := by decide +kernel
theorem dX7_rank_9 : decode cX7_rank 9 = .ok (.iload_n 1, 1) := by decide +kernel
theorem dX7_rank_10 : decode cX7_rank 10 = .ok (.invokevirtual 192, 3) := by decide +kernel
theorem dX7_rank_13 : decode cX7_rank 13 = .ok (.goto 4, 3) := by decide +kernel
theorem dX7_rank_16 : decode cX7_rank 16 = .ok (.iconst (-1), 1) := by decide +kernel
theorem dX7_rank_17 : decode cX7_rank 17 = .ok (.ireturn, 1) := by decide +kernel
theorem dX7_round_0 : decode cX7_round 0 = .ok (.aload_n 0, 1) := by decide +kernel
theorem dX7_round_1 : decode cX7_round 1 = .ok (.iload_n 1, 1) := by decide +kernel
theorem dX7_round_2 : decode cX7_round 2 = .ok (.invokevirtual 240, 3) := by decide +kernel
theorem dX7_round_5 : decode cX7_round 5 = .ok (.ifCond .eq 11, 3) := by decide +kernel
theorem dX7_round_8 : decode cX7_round 8 = .ok (.aload_n 0, 1) := by decide +kernel
theorem dX7_round_9 : decode cX7_round 9 = .ok (.iload_n 1, 1) := by decide +kernel
theorem dX7_round_10 : decode cX7_round 10 = .ok (.invokevirtual 250, 3) := by decide +kernel
theorem dX7_round_13 : decode cX7_round 13 = .ok (.goto 4, 3) := by decide +kernel
theorem dX7_round_16 : decode cX7_round 16 = .ok (.iconst (-1), 1) := by decide +kernel
theorem dX7_round_17 : decode cX7_round 17 = .ok (.ireturn, 1) := by decide +kernel
theorem dX7_dual_0 : decode cX7_dual 0 = .ok (.aload_n 0, 1) := by decide +kernel
theorem dX7_dual_1 : decode cX7_dual 1 = .ok (.iconst 1, 1) := by decide +kernel
theorem dX7_dual_2 : decode cX7_dual 2 = .ok (.invokevirtual 218, 3) := by decide +kernel
theorem dX7_dual_5 : decode cX7_dual 5 = .ok (.ifCond .ne 5, 3) := by decide +kernel
theorem dX7_dual_8 : decode cX7_dual 8 = .ok (.iconst (-1), 1) := by decide +kernel
theorem dX7_dual_9 : decode cX7_dual 9 = .ok (.ireturn, 1) := by decide +kernel
theorem dX7_dual_10 : decode cX7_dual 10 = .ok (.aload_n 0, 1) := by decide +kernel
theorem dX7_dual_11 : decode cX7_dual 11 = .ok (.invokevirtual 222, 3) := by decide +kernel
theorem dX7_dual_14 : decode cX7_dual 14 = .ok (.iload_n 1, 1) := by decide +kernel
theorem dX7_dual_15 : decode cX7_dual 15 = .ok (.iconst 0, 1) := by decide +kernel
theorem dX7_dual_16 : decode cX7_dual 16 = .ok (.aload_n 0, 1) := by decide +kernel
theorem dX7_dual_17 : decode cX7_dual 17 = .ok (.getfield 209, 3) := by decide +kernel
theorem dX7_dual_20 : decode cX7_dual 20 = .ok (.iconst 1, 1) := by decide +kernel
theorem dX7_dual_21 : decode cX7_dual 21 = .ok (.isub, 1) := by decide +kernel
theorem dX7_dual_22 : decode cX7_dual 22 = .ok (.invokestatic 84, 3) := by decide +kernel
theorem dX7_dual_25 : decode cX7_dual 25 = .ok (.ifCond .eq 19, 3) := by decide +kernel
theorem dX7_dual_28 : decode cX7_dual 28 = .ok (.aload_n 0, 1) := by decide +kernel
theorem dX7_dual_29 : decode cX7_dual 29 = .ok (.invokevirtual 212, 3) := by decide +kernel
theorem dX7_dual_32 : decode cX7_dual 32 = .ok (.aload_n 0, 1) := by decide +kernel
theorem dX7_dual_33 : decode cX7_dual 33 = .ok (.getfield 37, 3) := by decide +kernel
theorem dX7_dual_36 : decode cX7_dual 36 = .ok (.iload_n 1, 1) := by decide +kernel
theorem dX7_dual_37 : decode cX7_dual 37 = .ok (.iaload, 1) := by decide +kernel
theorem dX7_dual_38 : decode cX7_dual 38 = .ok (.iconst (-1), 1) := by decide +kernel
theorem dX7_dual_39 : decode cX7_dual 39 = .ok (.ixor, 1) := by decide +kernel
theorem dX7_dual_40 : decode cX7_dual 40 = .ok (.iand, 1) := by decide +kernel
theorem dX7_dual_41 : decode cX7_dual 41 = .ok (.goto 8, 3) := by decide +kernel
theorem dX7_dual_44 : decode cX7_dual 44 = .ok (.aload_n 0, 1) := by decide +kernel
theorem dX7_dual_45 : decode cX7_dual 45 = .ok (.iconst 1, 1) := by decide +kernel
theorem dX7_dual_46 : decode cX7_dual 46 = .ok (.invokevirtual 168, 3) := by decide +kernel
theorem dX7_dual_49 : decode cX7_dual 49 = .ok (.ireturn, 1) := by decide +kernel
theorem dX7_dualRound_0 : decode cX7_dualRound 0 = .ok (.aload_n 0, 1) := by decide +kernel
theorem dX7_dualRound_1 : decode cX7_dualRound 1 = .ok (.aload_n 0, 1) := by decide +kernel
theorem dX7_dualRound_2 : decode cX7_dualRound 2 = .ok (.getfield 179, 3) := by decide +kernel
theorem dX7_dualRound_5 : decode cX7_dualRound 5 = .ok (.iload_n 1, 1) := by decide +kernel
theorem dX7_dualRound_6 : decode cX7_dualRound 6 = .ok (.iconst 0, 1) := by decide +kernel
theorem dX7_dualRound_7 : decode cX7_dualRound 7 = .ok (.aload_n 0, 1) := by decide +kernel
theorem dX7_dualRound_8 : decode cX7_dualRound 8 = .ok (.getfield 171, 3) := by decide +kernel
theorem dX7_dualRound_11 : decode cX7_dualRound 11 = .ok (.invokestatic 84, 3) := by decide +kernel
theorem dX7_dualRound_14 : decode cX7_dualRound 14 = .ok (.invokestatic 206, 3) := by decide +kernel
theorem dX7_dualRound_17 : decode cX7_dualRound 17 = .ok (.invokevirtual 159, 3) := by decide +kernel
theorem dX7_dualRound_20 : decode cX7_dualRound 20 = .ok (.ifCond .eq 5, 3) := by decide +kernel
theorem dX7_dualRound_23 : decode cX7_dualRound 23 = .ok (.iconst (-1), 1) := by decide +kernel
theorem dX7_dualRound_24 : decode cX7_dualRound 24 = .ok (.ireturn, 1) := by decide +kernel
theorem dX7_dualRound_25 : decode cX7_dualRound 25 = .ok (.aload_n 0, 1) := by decide +kernel
theorem dX7_dualRound_26 : decode cX7_dualRound 26 = .ok (.invokevirtual 203, 3) := by decide +kernel
theorem dX7_dualRound_29 : decode cX7_dualRound 29 = .ok (.aload_n 0, 1) := by decide +kernel
theorem dX7_dualRound_30 : decode cX7_dualRound 30 = .ok (.invokevirtual 222, 3) := by decide +kernel
theorem dX7_dualRound_33 : decode cX7_dualRound 33 = .ok (.iconst 0, 1) := by decide +kernel
theorem dX7_dualRound_34 : decode cX7_dualRound 34 = .ok (.istore_n 2, 1) := by decide +kernel
theorem dX7_dualRound_35 : decode cX7_dualRound 35 = .ok (.iload_n 2, 1) := by decide +kernel
theorem dX7_dualRound_36 : decode cX7_dualRound 36 = .ok (.aload_n 0, 1) := by decide +kernel
theorem dX7_dualRound_37 : decode cX7_dualRound 37 = .ok (.getfield 209, 3) := by decide +kernel
theorem dX7_dualRound_40 : decode cX7_dualRound 40 = .ok (.if_icmp .ge 28, 3) := by decide +kernel
theorem dX7_dualRound_43 : decode cX7_dualRound 43 = .ok (.aload_n 0, 1) := by decide +kernel
theorem dX7_dualRound_44 : decode cX7_dualRound 44 = .ok (.getfield 37, 3) := by decide +kernel
theorem dX7_dualRound_47 : decode cX7_dualRound 47 = .ok (.iload_n 2, 1) := by decide +kernel
theorem dX7_dualRound_48 : decode cX7_dualRound 48 = .ok (.aload_n 0, 1) := by decide +kernel
theorem dX7_dualRound_49 : decode cX7_dualRound 49 = .ok (.invokevirtual 212, 3) := by decide +kernel
theorem dX7_dualRound_52 : decode cX7_dualRound 52 = .ok (.aload_n 0, 1) := by decide +kernel
theorem dX7_dualRound_53 : decode cX7_dualRound 53 = .ok (.getfield 37, 3) := by decide +kernel
theorem dX7_dualRound_56 : decode cX7_dualRound 56 = .ok (.iload_n 2, 1) := by decide +kernel
theorem dX7_dualRound_57 : decode cX7_dualRound 57 = .ok (.iaload, 1) := by decide +kernel
theorem dX7_dualRound_58 : decode cX7_dualRound 58 = .ok (.iconst (-1), 1) := by decide +kernel
theorem dX7_dualRound_59 : decode cX7_dualRound 59 = .ok (.ixor, 1) := by decide +kernel
theorem dX7_dualRound_60 : decode cX7_dualRound 60 = .ok (.iand, 1) := by decide +kernel
theorem dX7_dualRound_61 : decode cX7_dualRound 61 = .ok (.iastore, 1) := by decide +kernel
theorem dX7_dualRound_62 : decode cX7_dualRound 62 = .ok (.iinc 2 1, 3) := by decide +kernel
theorem dX7_dualRound_65 : decode cX7_dualRound 65 = .ok (.goto (-30), 3) := by decide +kernel
theorem dX7_dualRound_68 : decode cX7_dualRound 68 = .ok (.aload_n 0, 1) := by decide +kernel
theorem dX7_dualRound_69 : decode cX7_dualRound 69 = .ok (.aload_n 0, 1) := by decide +kernel
theorem dX7_dualRound_70 : decode cX7_dualRound 70 = .ok (.getfield 37, 3) := by decide +kernel
theorem dX7_dualRound_73 : decode cX7_dualRound 73 = .ok (.aload_n 0, 1) := by decide +kernel
theorem dX7_dualRound_74 : decode cX7_dualRound 74 = .ok (.getfield 209, 3) := by decide +kernel
theorem dX7_dualRound_77 : decode cX7_dualRound 77 = .ok (.invokevirtual 195, 3) := by decide +kernel
theorem dX7_dualRound_80 : decode cX7_dualRound 80 = .ok (.aload_n 0, 1) := by decide +kernel
theorem dX7_dualRound_81 : decode cX7_dualRound 81 = .ok (.iload_n 1, 1) := by decide +kernel
theorem dX7_dualRound_82 : decode cX7_dualRound 82 = .ok (.invokevirtual 250, 3) := by decide +kernel
theorem dX7_dualRound_85 : decode cX7_dualRound 85 = .ok (.ireturn, 1) := by decide +kernel
theorem dX7_areNear_0 : decode cX7_areNear 0 = .ok (.iload_n 1, 1) := by decide +kernel
theorem dX7_areNear_1 : decode cX7_areNear 1 = .ok (.iload_n 2, 1) := by decide +kernel
theorem dX7_areNear_2 : decode cX7_areNear 2 = .ok (.if_icmp .eq 32, 3) := by decide +kernel
theorem dX7_areNear_5 : decode cX7_areNear 5 = .ok (.aload_n 0, 1) := by decide +kernel
theorem dX7_areNear_6 : decode cX7_areNear 6 = .ok (.getfield 17, 3) := by decide +kernel
theorem dX7_areNear_9 : decode cX7_areNear 9 = .ok (.iload_n 1, 1) := by decide +kernel
theorem dX7_areNear_10 : decode cX7_areNear 10 = .ok (.iaload, 1) := by decide +kernel
theorem dX7_areNear_11 : decode cX7_areNear 11 = .ok (.aload_n 0, 1) := by decide +kernel
theorem dX7_areNear_12 : decode cX7_areNear 12 = .ok (.getfield 17, 3) := by decide +kernel
theorem dX7_areNear_15 : decode cX7_areNear 15 = .ok (.iload_n 2, 1) := by decide +kernel
theorem dX7_areNear_16 : decode cX7_areNear 16 = .ok (.iaload, 1) := by decide +kernel
theorem dX7_areNear_17 : decode cX7_areNear 17 = .ok (.iand, 1) := by decide +kernel
theorem dX7_areNear_18 : decode cX7_areNear 18 = .ok (.invokestatic 136, 3) := by decide +kernel
theorem dX7_areNear_21 : decode cX7_areNear 21 = .ok (.aload_n 0, 1) := by decide +kernel
theorem dX7_areNear_22 : decode cX7_areNear 22 = .ok (.getfield 173, 3) := by decide +kernel
theorem dX7_areNear_25 : decode cX7_areNear 25 = .ok (.iconst 1, 1) := by decide +kernel
theorem dX7_areNear_26 : decode cX7_areNear 26 = .ok (.isub, 1) := by decide +kernel
theorem dX7_areNear_27 : decode cX7_areNear 27 = .ok (.if_icmp .ne 7, 3) := by decide +kernel
theorem dX7_areNear_30 : decode cX7_areNear 30 = .ok (.iconst 1, 1) := by decide +kernel
theorem dX7_areNear_31 : decode cX7_areNear 31 = .ok (.goto 4, 3) := by decide +kernel
theorem dX7_areNear_34 : decode cX7_areNear 34 = .ok (.iconst 0, 1) := by decide +kernel
theorem dX7_areNear_35 : decode cX7_areNear 35 = .ok (.ireturn, 1) := by decide +kernel
theorem dX7_nearTo_0 : decode cX7_nearTo 0 = .ok (.iconst 0, 1) := by decide +kernel
theorem dX7_nearTo_1 : decode cX7_nearTo 1 = .ok (.istore_n 2, 1) := by decide +kernel
theorem dX7_nearTo_2 : decode cX7_nearTo 2 = .ok (.iconst 0, 1) := by decide +kernel
theorem dX7_nearTo_3 : decode cX7_nearTo 3 = .ok (.istore_n 3, 1) := by decide +kernel
theorem dX7_nearTo_4 : decode cX7_nearTo 4 = .ok (.iload_n 3, 1) := by decide +kernel
theorem dX7_nearTo_5 : decode cX7_nearTo 5 = .ok (.aload_n 0, 1) := by decide +kernel
theorem dX7_nearTo_6 : decode cX7_nearTo 6 = .ok (.getfield 176, 3) := by decide +kernel
theorem dX7_nearTo_9 : decode cX7_nearTo 9 = .ok (.if_icmp .ge 28, 3) := by decide +kernel
theorem dX7_nearTo_12 : decode cX7_nearTo 12 = .ok (.iload_n 2, 1) := by decide +kernel
theorem dX7_nearTo_13 : decode cX7_nearTo 13 = .ok (.aload_n 0, 1) := by decide +kernel
theorem dX7_nearTo_14 : decode cX7_nearTo 14 = .ok (.iload_n 1, 1) := by decide +kernel
theorem dX7_nearTo_15 : decode cX7_nearTo 15 = .ok (.iload_n 3, 1) := by decide +kernel
theorem dX7_nearTo_16 : decode cX7_nearTo 16 = .ok (.invokevirtual 253, 3) := by decide +kernel
theorem dX7_nearTo_19 : decode cX7_nearTo 19 = .ok (.ifCond .eq 9, 3) := by decide +kernel
theorem dX7_nearTo_22 : decode cX7_nearTo 22 = .ok (.iconst 1, 1) := by decide +kernel
theorem dX7_nearTo_23 : decode cX7_nearTo 23 = .ok (.iload_n 3, 1) := by decide +kernel
theorem dX7_nearTo_24 : decode cX7_nearTo 24 = .ok (.ishl, 1) := by decide +kernel
theorem dX7_nearTo_25 : decode cX7_nearTo 25 = .ok (.goto 4, 3) := by decide +kernel
theorem dX7_nearTo_28 : decode cX7_nearTo 28 = .ok (.iconst 0, 1) := by decide +kernel
theorem dX7_nearTo_29 : decode cX7_nearTo 29 = .ok (.ior, 1) := by decide +kernel
theorem dX7_nearTo_30 : decode cX7_nearTo 30 = .ok (.istore_n 2, 1) := by decide +kernel
theorem dX7_nearTo_31 : decode cX7_nearTo 31 = .ok (.iinc 3 1, 3) := by decide +kernel
theorem dX7_nearTo_34 : decode cX7_nearTo 34 = .ok (.goto (-30), 3) := by decide +kernel
theorem dX7_nearTo_37 : decode cX7_nearTo 37 = .ok (.iload_n 2, 1) := by decide +kernel
theorem dX7_nearTo_38 : decode cX7_nearTo 38 = .ok (.ireturn, 1) := by decide +kernel
theorem dX7_near_0 : decode cX7_near 0 = .ok (.aload_n 0, 1) := by decide +kernel
theorem dX7_near_1 : decode cX7_near 1 = .ok (.aload_n 0, 1) := by decide +kernel
theorem dX7_near_2 : decode cX7_near 2 = .ok (.iload_n 1, 1) := by decide +kernel
theorem dX7_near_3 : decode cX7_near 3 = .ok (.invokevirtual 231, 3) := by decide +kernel
theorem dX7_near_6 : decode cX7_near 6 = .ok (.invokestatic 199, 3) := by decide +kernel
theorem dX7_near_9 : decode cX7_near 9 = .ok (.invokevirtual 159, 3) := by decide +kernel
theorem dX7_near_12 : decode cX7_near 12 = .ok (.ifCond .eq 7, 3) := by decide +kernel
theorem dX7_near_15 : decode cX7_near 15 = .ok (.iconst (-1), 1) := by decide +kernel
theorem dX7_near_16 : decode cX7_near 16 = .ok (.goto 8, 3) := by decide +kernel
theorem dX7_near_19 : decode cX7_near 19 = .ok (.aload_n 0, 1) := by decide +kernel
theorem dX7_near_20 : decode cX7_near 20 = .ok (.iload_n 1, 1) := by decide +kernel
theorem dX7_near_21 : decode cX7_near 21 = .ok (.invokevirtual 256, 3) := by decide +kernel
theorem dX7_near_24 : decode cX7_near 24 = .ok (.ireturn, 1) := by decide +kernel
theorem dX7_apart_0 : decode cX7_apart 0 = .ok (.aload_n 0, 1) := by decide +kernel
theorem dX7_apart_1 : decode cX7_apart 1 = .ok (.aload_n 0, 1) := by decide +kernel
theorem dX7_apart_2 : decode cX7_apart 2 = .ok (.iload_n 1, 1) := by decide +kernel
theorem dX7_apart_3 : decode cX7_apart 3 = .ok (.invokevirtual 231, 3) := by decide +kernel
theorem dX7_apart_6 : decode cX7_apart 6 = .ok (.ifCond .eq 15, 3) := by decide +kernel
theorem dX7_apart_9 : decode cX7_apart 9 = .ok (.aload_n 0, 1) := by decide +kernel
theorem dX7_apart_10 : decode cX7_apart 10 = .ok (.iload_n 2, 1) := by decide +kernel
theorem dX7_apart_11 : decode cX7_apart 11 = .ok (.invokevirtual 231, 3) := by decide +kernel
theorem dX7_apart_14 : decode cX7_apart 14 = .ok (.ifCond .eq 7, 3) := by decide +kernel
theorem dX7_apart_17 : decode cX7_apart 17 = .ok (.iconst 1, 1) := by decide +kernel
theorem dX7_apart_18 : decode cX7_apart 18 = .ok (.goto 4, 3) := by decide +kernel
theorem dX7_apart_21 : decode cX7_apart 21 = .ok (.iconst 0, 1) := by decide +kernel
theorem dX7_apart_22 : decode cX7_apart 22 = .ok (.invokestatic 199, 3) := by decide +kernel
theorem dX7_apart_25 : decode cX7_apart 25 = .ok (.invokevirtual 159, 3) := by decide +kernel
theorem dX7_apart_28 : decode cX7_apart 28 = .ok (.ifCond .eq 5, 3) := by decide +kernel
theorem dX7_apart_31 : decode cX7_apart 31 = .ok (.iconst (-1), 1) := by decide +kernel
theorem dX7_apart_32 : decode cX7_apart 32 = .ok (.ireturn, 1) := by decide +kernel
theorem dX7_apart_33 : decode cX7_apart 33 = .ok (.iconst 1, 1) := by decide +kernel
theorem dX7_apart_34 : decode cX7_apart 34 = .ok (.iload_n 1, 1) := by decide +kernel
theorem dX7_apart_35 : decode cX7_apart 35 = .ok (.ishl, 1) := by decide +kernel
theorem dX7_apart_36 : decode cX7_apart 36 = .ok (.istore_n 3, 1) := by decide +kernel
theorem dX7_apart_37 : decode cX7_apart 37 = .ok (.iconst 0, 1) := by decide +kernel
theorem dX7_apart_38 : decode cX7_apart 38 = .ok (.istore 4, 2) := by decide +kernel
theorem dX7_apart_40 : decode cX7_apart 40 = .ok (.iload 4, 2) := by decide +kernel
theorem dX7_apart_42 : decode cX7_apart 42 = .ok (.bipush 12, 2) := by decide +kernel
theorem dX7_apart_44 : decode cX7_apart 44 = .ok (.if_icmp .ge 68, 3) := by decide +kernel
theorem dX7_apart_47 : decode cX7_apart 47 = .ok (.iload_n 3, 1) := by decide +kernel
theorem dX7_apart_48 : decode cX7_apart 48 = .ok (.iload_n 2, 1) := by decide +kernel
theorem dX7_apart_49 : decode cX7_apart 49 = .ok (.invokestatic 132, 3) := by decide +kernel
theorem dX7_apart_52 : decode cX7_apart 52 = .ok (.ifCond .eq 6, 3) := by decide +kernel
theorem dX7_apart_55 : decode cX7_apart 55 = .ok (.iload 4, 2) := by decide +kernel
theorem dX7_apart_57 : decode cX7_apart 57 = .ok (.ireturn, 1) := by decide +kernel
theorem dX7_apart_58 : decode cX7_apart 58 = .ok (.iload_n 3, 1) := by decide +kernel
theorem dX7_apart_59 : decode cX7_apart 59 = .ok (.istore 5, 2) := by decide +kernel
theorem dX7_apart_61 : decode cX7_apart 61 = .ok (.iconst 0, 1) := by decide +kernel
theorem dX7_apart_62 : decode cX7_apart 62 = .ok (.istore 6, 2) := by decide +kernel
theorem dX7_apart_64 : decode cX7_apart 64 = .ok (.iload 6, 2) := by decide +kernel
theorem dX7_apart_66 : decode cX7_apart 66 = .ok (.aload_n 0, 1) := by decide +kernel
theorem dX7_apart_67 : decode cX7_apart 67 = .ok (.getfield 176, 3) := by decide +kernel
theorem dX7_apart_70 : decode cX7_apart 70 = .ok (.if_icmp .ge 33, 3) := by decide +kernel
theorem dX7_apart_73 : decode cX7_apart 73 = .ok (.iload 5, 2) := by decide +kernel
theorem dX7_apart_75 : decode cX7_apart 75 = .ok (.iload_n 3, 1) := by decide +kernel
theorem dX7_apart_76 : decode cX7_apart 76 = .ok (.iload 6, 2) := by decide +kernel
theorem dX7_apart_78 : decode cX7_apart 78 = .ok (.invokestatic 132, 3) := by decide +kernel
theorem dX7_apart_81 : decode cX7_apart 81 = .ok (.ifCond .eq 12, 3) := by decide +kernel
theorem dX7_apart_84 : decode cX7_apart 84 = .ok (.aload_n 0, 1) := by decide +kernel
theorem dX7_apart_85 : decode cX7_apart 85 = .ok (.iload 6, 2) := by decide +kernel
theorem dX7_apart_87 : decode cX7_apart 87 = .ok (.invokevirtual 256, 3) := by decide +kernel
theorem dX7_apart_90 : decode cX7_apart 90 = .ok (.goto 4, 3) := by decide +kernel
theorem dX7_apart_93 : decode cX7_apart 93 = .ok (.iconst 0, 1) := by decide +kernel
theorem dX7_apart_94 : decode cX7_apart 94 = .ok (.ior, 1) := by decide +kernel
theorem dX7_apart_95 : decode cX7_apart 95 = .ok (.istore 5, 2) := by decide +kernel
theorem dX7_apart_97 : decode cX7_apart 97 = .ok (.iinc 6 1, 3) := by decide +kernel
theorem dX7_apart_100 : decode cX7_apart 100 = .ok (.goto (-36), 3) := by decide +kernel
theorem dX7_apart_103 : decode cX7_apart 103 = .ok (.iload 5, 2) := by decide +kernel
theorem dX7_apart_105 : decode cX7_apart 105 = .ok (.istore_n 3, 1) := by decide +kernel
theorem dX7_apart_106 : decode cX7_apart 106 = .ok (.iinc 4 1, 3) := by decide +kernel
theorem dX7_apart_109 : decode cX7_apart 109 = .ok (.goto (-69), 3) := by decide +kernel
theorem dX7_apart_112 : decode cX7_apart 112 = .ok (.bipush (-2), 2) := by decide +kernel
theorem dX7_apart_114 : decode cX7_apart 114 = .ok (.ireturn, 1) := by decide +kernel
theorem dX7_joinsSet_0 : decode cX7_joinsSet 0 = .ok (.aload_n 0, 1) := by decide +kernel
theorem dX7_joinsSet_1 : decode cX7_joinsSet 1 = .ok (.iload_n 1, 1) := by decide +kernel
theorem dX7_joinsSet_2 : decode cX7_joinsSet 2 = .ok (.iaload, 1) := by decide +kernel
theorem dX7_joinsSet_3 : decode cX7_joinsSet 3 = .ok (.istore_n 3, 1) := by decide +kernel
theorem dX7_joinsSet_4 : decode cX7_joinsSet 4 = .ok (.iload_n 3, 1) := by decide +kernel
theorem dX7_joinsSet_5 : decode cX7_joinsSet 5 = .ok (.invokestatic 136, 3) := by decide +kernel
theorem dX7_joinsSet_8 : decode cX7_joinsSet 8 = .ok (.iconst 1, 1) := by decide +kernel
theorem dX7_joinsSet_9 : decode cX7_joinsSet 9 = .ok (.isub, 1) := by decide +kernel
theorem dX7_joinsSet_10 : decode cX7_joinsSet 10 = .ok (.istore 4, 2) := by decide +kernel
theorem dX7_joinsSet_12 : decode cX7_joinsSet 12 = .ok (.iconst 0, 1) := by decide +kernel
theorem dX7_joinsSet_13 : decode cX7_joinsSet 13 = .ok (.istore 5, 2) := by decide +kernel
theorem dX7_joinsSet_15 : decode cX7_joinsSet 15 = .ok (.iload 5, 2) := by decide +kernel
theorem dX7_joinsSet_17 : decode cX7_joinsSet 17 = .ok (.bipush 12, 2) := by decide +kernel
theorem dX7_joinsSet_19 : decode cX7_joinsSet 19 = .ok (.if_icmp .ge 95, 3) := by decide +kernel
theorem dX7_joinsSet_22 : decode cX7_joinsSet 22 = .ok (.iload_n 2, 1) := by decide +kernel
theorem dX7_joinsSet_23 : decode cX7_joinsSet 23 = .ok (.iload 5, 2) := by decide +kernel
theorem dX7_joinsSet_25 : decode cX7_joinsSet 25 = .ok (.invokestatic 132, 3) := by decide +kernel
theorem dX7_joinsSet_28 : decode cX7_joinsSet 28 = .ok (.ifCond .eq 80, 3) := by decide +kernel
theorem dX7_joinsSet_31 : decode cX7_joinsSet 31 = .ok (.iconst 0, 1) := by decide +kernel
theorem dX7_joinsSet_32 : decode cX7_joinsSet 32 = .ok (.istore 6, 2) := by decide +kernel
theorem dX7_joinsSet_34 : decode cX7_joinsSet 34 = .ok (.iconst 0, 1) := by decide +kernel
theorem dX7_joinsSet_35 : decode cX7_joinsSet 35 = .ok (.istore 7, 2) := by decide +kernel
theorem dX7_joinsSet_37 : decode cX7_joinsSet 37 = .ok (.iload 7, 2) := by decide +kernel
theorem dX7_joinsSet_39 : decode cX7_joinsSet 39 = .ok (.bipush 12, 2) := by decide +kernel
theorem dX7_joinsSet_41 : decode cX7_joinsSet 41 = .ok (.if_icmp .ge 60, 3) := by decide +kernel
theorem dX7_joinsSet_44 : decode cX7_joinsSet 44 = .ok (.iload 6, 2) := by decide +kernel
theorem dX7_joinsSet_46 : decode cX7_joinsSet 46 = .ok (.ifCond .ne 55, 3) := by decide +kernel
theorem dX7_joinsSet_49 : decode cX7_joinsSet 49 = .ok (.iload_n 2, 1) := by decide +kernel
theorem dX7_joinsSet_50 : decode cX7_joinsSet 50 = .ok (.iload 7, 2) := by decide +kernel
theorem dX7_joinsSet_52 : decode cX7_joinsSet 52 = .ok (.invokestatic 132, 3) := by decide +kernel
theorem dX7_joinsSet_55 : decode cX7_joinsSet 55 = .ok (.ifCond .eq 37, 3) := by decide +kernel
theorem dX7_joinsSet_58 : decode cX7_joinsSet 58 = .ok (.iload_n 3, 1) := by decide +kernel
theorem dX7_joinsSet_59 : decode cX7_joinsSet 59 = .ok (.aload_n 0, 1) := by decide +kernel
theorem dX7_joinsSet_60 : decode cX7_joinsSet 60 = .ok (.iload 7, 2) := by decide +kernel
theorem dX7_joinsSet_62 : decode cX7_joinsSet 62 = .ok (.iaload, 1) := by decide +kernel
theorem dX7_joinsSet_63 : decode cX7_joinsSet 63 = .ok (.iand, 1) := by decide +kernel
theorem dX7_joinsSet_64 : decode cX7_joinsSet 64 = .ok (.invokestatic 136, 3) := by decide +kernel
theorem dX7_joinsSet_67 : decode cX7_joinsSet 67 = .ok (.iload 4, 2) := by decide +kernel
theorem dX7_joinsSet_69 : decode cX7_joinsSet 69 = .ok (.if_icmp .ne 23, 3) := by decide +kernel
theorem dX7_joinsSet_72 : decode cX7_joinsSet 72 = .ok (.iload_n 3, 1) := by decide +kernel
theorem dX7_joinsSet_73 : decode cX7_joinsSet 73 = .ok (.aload_n 0, 1) := by decide +kernel
theorem dX7_joinsSet_74 : decode cX7_joinsSet 74 = .ok (.iload 5, 2) := by decide +kernel
theorem dX7_joinsSet_76 : decode cX7_joinsSet 76 = .ok (.iaload, 1) := by decide +kernel
theorem dX7_joinsSet_77 : decode cX7_joinsSet 77 = .ok (.iand, 1) := by decide +kernel
theorem dX7_joinsSet_78 : decode cX7_joinsSet 78 = .ok (.aload_n 0, 1) := by decide +kernel
theorem dX7_joinsSet_79 : decode cX7_joinsSet 79 = .ok (.iload 7, 2) := by decide +kernel
theorem dX7_joinsSet_81 : decode cX7_joinsSet 81 = .ok (.iaload, 1) := by decide +kernel
theorem dX7_joinsSet_82 : decode cX7_joinsSet 82 = .ok (.invokestatic 183, 3) := by decide +kernel
theorem dX7_joinsSet_85 : decode cX7_joinsSet 85 = .ok (.ifCond .eq 7, 3) := by decide +kernel
theorem dX7_joinsSet_88 : decode cX7_joinsSet 88 = .ok (.iconst 1, 1) := by decide +kernel
theorem dX7_joinsSet_89 : decode cX7_joinsSet 89 = .ok (.goto 4, 3) := by decide +kernel
theorem dX7_joinsSet_92 : decode cX7_joinsSet 92 = .ok (.iconst 0, 1) := by decide +kernel
theorem dX7_joinsSet_93 : decode cX7_joinsSet 93 = .ok (.istore 6, 2) := by decide +kernel
theorem dX7_joinsSet_95 : decode cX7_joinsSet 95 = .ok (.iinc 7 1, 3) := by decide +kernel
theorem dX7_joinsSet_98 : decode cX7_joinsSet 98 = .ok (.goto (-61), 3) := by decide +kernel
theorem dX7_joinsSet_101 : decode cX7_joinsSet 101 = .ok (.iload 6, 2) := by decide +kernel
theorem dX7_joinsSet_103 : decode cX7_joinsSet 103 = .ok (.ifCond .ne 5, 3) := by decide +kernel
theorem dX7_joinsSet_106 : decode cX7_joinsSet 106 = .ok (.iconst 0, 1) := by decide +kernel
theorem dX7_joinsSet_107 : decode cX7_joinsSet 107 = .ok (.ireturn, 1) := by decide +kernel
theorem dX7_joinsSet_108 : decode cX7_joinsSet 108 = .ok (.iinc 5 1, 3) := by decide +kernel
theorem dX7_joinsSet_111 : decode cX7_joinsSet 111 = .ok (.goto (-96), 3) := by decide +kernel
theorem dX7_joinsSet_114 : decode cX7_joinsSet 114 = .ok (.iconst 1, 1) := by decide +kernel
theorem dX7_joinsSet_115 : decode cX7_joinsSet 115 = .ok (.ireturn, 1) := by decide +kernel
theorem dX7_ahead_0 : decode cX7_ahead 0 = .ok (.iconst 0, 1) := by decide +kernel
theorem dX7_ahead_1 : decode cX7_ahead 1 = .ok (.istore_n 2, 1) := by decide +kernel
theorem dX7_ahead_2 : decode cX7_ahead 2 = .ok (.iconst 0, 1) := by decide +kernel
theorem dX7_ahead_3 : decode cX7_ahead 3 = .ok (.istore_n 3, 1) := by decide +kernel
theorem dX7_ahead_4 : decode cX7_ahead 4 = .ok (.iload_n 3, 1) := by decide +kernel
theorem dX7_ahead_5 : decode cX7_ahead 5 = .ok (.iload_n 1, 1) := by decide +kernel
theorem dX7_ahead_6 : decode cX7_ahead 6 = .ok (.if_icmp .ge 20, 3) := by decide +kernel
theorem dX7_ahead_9 : decode cX7_ahead 9 = .ok (.iload_n 2, 1) := by decide +kernel
theorem dX7_ahead_10 : decode cX7_ahead 10 = .ok (.iconst 1, 1) := by decide +kernel
theorem dX7_ahead_11 : decode cX7_ahead 11 = .ok (.aload_n 0, 1) := by decide +kernel
theorem dX7_ahead_12 : decode cX7_ahead 12 = .ok (.getfield 20, 3) := by decide +kernel
theorem dX7_ahead_15 : decode cX7_ahead 15 = .ok (.iload_n 3, 1) := by decide +kernel
theorem dX7_ahead_16 : decode cX7_ahead 16 = .ok (.iaload, 1) := by decide +kernel
theorem dX7_ahead_17 : decode cX7_ahead 17 = .ok (.ishl, 1) := by decide +kernel
theorem dX7_ahead_18 : decode cX7_ahead 18 = .ok (.ior, 1) := by decide +kernel
theorem dX7_ahead_19 : decode cX7_ahead 19 = .ok (.istore_n 2, 1) := by decide +kernel
theorem dX7_ahead_20 : decode cX7_ahead 20 = .ok (.iinc 3 1, 3) := by decide +kernel
theorem dX7_ahead_23 : decode cX7_ahead 23 = .ok (.goto (-19), 3) := by decide +kernel
theorem dX7_ahead_26 : decode cX7_ahead 26 = .ok (.iload_n 2, 1) := by decide +kernel
theorem dX7_ahead_27 : decode cX7_ahead 27 = .ok (.ireturn, 1) := by decide +kernel
theorem dX7_joinsAt_0 : decode cX7_joinsAt 0 = .ok (.aload_n 0, 1) := by decide +kernel
theorem dX7_joinsAt_1 : decode cX7_joinsAt 1 = .ok (.getfield 17, 3) := by decide +kernel
theorem dX7_joinsAt_4 : decode cX7_joinsAt 4 = .ok (.aload_n 0, 1) := by decide +kernel
theorem dX7_joinsAt_5 : decode cX7_joinsAt 5 = .ok (.getfield 20, 3) := by decide +kernel
theorem dX7_joinsAt_8 : decode cX7_joinsAt 8 = .ok (.iload_n 1, 1) := by decide +kernel
theorem dX7_joinsAt_9 : decode cX7_joinsAt 9 = .ok (.iaload, 1) := by decide +kernel
theorem dX7_joinsAt_10 : decode cX7_joinsAt 10 = .ok (.aload_n 0, 1) := by decide +kernel
theorem dX7_joinsAt_11 : decode cX7_joinsAt 11 = .ok (.iload_n 1, 1) := by decide +kernel
theorem dX7_joinsAt_12 : decode cX7_joinsAt 12 = .ok (.invokevirtual 259, 3) := by decide +kernel
theorem dX7_joinsAt_15 : decode cX7_joinsAt 15 = .ok (.invokestatic 262, 3) := by decide +kernel
theorem dX7_joinsAt_18 : decode cX7_joinsAt 18 = .ok (.ireturn, 1) := by decide +kernel
theorem dX7_restrictionAt_0 : decode cX7_restrictionAt 0 = .ok (.aload_n 0, 1) := by decide +kernel
theorem dX7_restrictionAt_1 : decode cX7_restrictionAt 1 = .ok (.getfield 17, 3) := by decide +kernel
theorem dX7_restrictionAt_4 : decode cX7_restrictionAt 4 = .ok (.aload_n 0, 1) := by decide +kernel
theorem dX7_restrictionAt_5 : decode cX7_restrictionAt 5 = .ok (.getfield 20, 3) := by decide +kernel
theorem dX7_restrictionAt_8 : decode cX7_restrictionAt 8 = .ok (.iload_n 1, 1) := by decide +kernel
theorem dX7_restrictionAt_9 : decode cX7_restrictionAt 9 = .ok (.iaload, 1) := by decide +kernel
theorem dX7_restrictionAt_10 : decode cX7_restrictionAt 10 = .ok (.iaload, 1) := by decide +kernel
theorem dX7_restrictionAt_11 : decode cX7_restrictionAt 11 = .ok (.istore_n 2, 1) := by decide +kernel
theorem dX7_restrictionAt_12 : decode cX7_restrictionAt 12 = .ok (.iconst 0, 1) := by decide +kernel
theorem dX7_restrictionAt_13 : decode cX7_restrictionAt 13 = .ok (.istore_n 3, 1) := by decide +kernel
theorem dX7_restrictionAt_14 : decode cX7_restrictionAt 14 = .ok (.iconst 0, 1) := by decide +kernel
theorem dX7_restrictionAt_15 : decode cX7_restrictionAt 15 = .ok (.istore 4, 2) := by decide +kernel
theorem dX7_restrictionAt_17 : decode cX7_restrictionAt 17 = .ok (.iload 4, 2) := by decide +kernel
theorem dX7_restrictionAt_19 : decode cX7_restrictionAt 19 = .ok (.bipush 7, 2) := by decide +kernel
theorem dX7_restrictionAt_21 : decode cX7_restrictionAt 21 = .ok (.if_icmp .ge 74, 3) := by decide +kernel
theorem dX7_restrictionAt_24 : decode cX7_restrictionAt 24 = .ok (.iload_n 2, 1) := by decide +kernel
theorem dX7_restrictionAt_25 : decode cX7_restrictionAt 25 = .ok (.iconst 1, 1) := by decide +kernel
theorem dX7_restrictionAt_26 : decode cX7_restrictionAt 26 = .ok (.iload 4, 2) := by decide +kernel
theorem dX7_restrictionAt_28 : decode cX7_restrictionAt 28 = .ok (.ishl, 1) := by decide +kernel
theorem dX7_restrictionAt_29 : decode cX7_restrictionAt 29 = .ok (.iconst (-1), 1) := by decide +kernel
theorem dX7_restrictionAt_30 : decode cX7_restrictionAt 30 = .ok (.ixor, 1) := by decide +kernel
theorem dX7_restrictionAt_31 : decode cX7_restrictionAt 31 = .ok (.iand, 1) := by decide +kernel
theorem dX7_restrictionAt_32 : decode cX7_restrictionAt 32 = .ok (.istore 5, 2) := by decide +kernel
theorem dX7_restrictionAt_34 : decode cX7_restrictionAt 34 = .ok (.iconst 0, 1) := by decide +kernel
theorem dX7_restrictionAt_35 : decode cX7_restrictionAt 35 = .ok (.istore 6, 2) := by decide +kernel
theorem dX7_restrictionAt_37 : decode cX7_restrictionAt 37 = .ok (.iload 6, 2) := by decide +kernel
theorem dX7_restrictionAt_39 : decode cX7_restrictionAt 39 = .ok (.iload_n 1, 1) := by decide +kernel
theorem dX7_restrictionAt_40 : decode cX7_restrictionAt 40 = .ok (.if_icmp .ge 49, 3) := by decide +kernel
theorem dX7_restrictionAt_43 : decode cX7_restrictionAt 43 = .ok (.iload_n 2, 1) := by decide +kernel
theorem dX7_restrictionAt_44 : decode cX7_restrictionAt 44 = .ok (.iload 4, 2) := by decide +kernel
theorem dX7_restrictionAt_46 : decode cX7_restrictionAt 46 = .ok (.invokestatic 132, 3) := by decide +kernel
theorem dX7_restrictionAt_49 : decode cX7_restrictionAt 49 = .ok (.ifCond .eq 40, 3) := by decide +kernel
theorem dX7_restrictionAt_52 : decode cX7_restrictionAt 52 = .ok (.iload_n 3, 1) := by decide +kernel
theorem dX7_restrictionAt_53 : decode cX7_restrictionAt 53 = .ok (.iload 5, 2) := by decide +kernel
theorem dX7_restrictionAt_55 : decode cX7_restrictionAt 55 = .ok (.aload_n 0, 1) := by decide +kernel
theorem dX7_restrictionAt_56 : decode cX7_restrictionAt 56 = .ok (.getfield 17, 3) := by decide +kernel
theorem dX7_restrictionAt_59 : decode cX7_restrictionAt 59 = .ok (.aload_n 0, 1) := by decide +kernel
theorem dX7_restrictionAt_60 : decode cX7_restrictionAt 60 = .ok (.getfield 20, 3) := by decide +kernel
theorem dX7_restrictionAt_63 : decode cX7_restrictionAt 63 = .ok (.iload 6, 2) := by decide +kernel
theorem dX7_restrictionAt_65 : decode cX7_restrictionAt 65 = .ok (.iaload, 1) := by decide +kernel
theorem dX7_restrictionAt_66 : decode cX7_restrictionAt 66 = .ok (.iaload, 1) := by decide +kernel
theorem dX7_restrictionAt_67 : decode cX7_restrictionAt 67 = .ok (.invokestatic 183, 3) := by decide +kernel
theorem dX7_restrictionAt_70 : decode cX7_restrictionAt 70 = .ok (.ifCond .eq 10, 3) := by decide +kernel
theorem dX7_restrictionAt_73 : decode cX7_restrictionAt 73 = .ok (.iconst 1, 1) := by decide +kernel
theorem dX7_restrictionAt_74 : decode cX7_restrictionAt 74 = .ok (.iload 4, 2) := by decide +kernel
theorem dX7_restrictionAt_76 : decode cX7_restrictionAt 76 = .ok (.ishl, 1) := by decide +kernel
theorem dX7_restrictionAt_77 : decode cX7_restrictionAt 77 = .ok (.goto 4, 3) := by decide +kernel
theorem dX7_restrictionAt_80 : decode cX7_restrictionAt 80 = .ok (.iconst 0, 1) := by decide +kernel
theorem dX7_restrictionAt_81 : decode cX7_restrictionAt 81 = .ok (.ior, 1) := by decide +kernel
theorem dX7_restrictionAt_82 : decode cX7_restrictionAt 82 = .ok (.istore_n 3, 1) := by decide +kernel
theorem dX7_restrictionAt_83 : decode cX7_restrictionAt 83 = .ok (.iinc 6 1, 3) := by decide +kernel
theorem dX7_restrictionAt_86 : decode cX7_restrictionAt 86 = .ok (.goto (-49), 3) := by decide +kernel
theorem dX7_restrictionAt_89 : decode cX7_restrictionAt 89 = .ok (.iinc 4 1, 3) := by decide +kernel
theorem dX7_restrictionAt_92 : decode cX7_restrictionAt 92 = .ok (.goto (-75), 3) := by decide +kernel
theorem dX7_restrictionAt_95 : decode cX7_restrictionAt 95 = .ok (.iload_n 3, 1) := by decide +kernel
theorem dX7_restrictionAt_96 : decode cX7_restrictionAt 96 = .ok (.ireturn, 1) := by decide +kernel
theorem dX7_ordered_0 : decode cX7_ordered 0 = .ok (.aload_n 0, 1) := by decide +kernel
theorem dX7_ordered_1 : decode cX7_ordered 1 = .ok (.aload_n 0, 1) := by decide +kernel
theorem dX7_ordered_2 : decode cX7_ordered 2 = .ok (.iload_n 1, 1) := by decide +kernel
theorem dX7_ordered_3 : decode cX7_ordered 3 = .ok (.invokevirtual 231, 3) := by decide +kernel
theorem dX7_ordered_6 : decode cX7_ordered 6 = .ok (.invokestatic 199, 3) := by decide +kernel
theorem dX7_ordered_9 : decode cX7_ordered 9 = .ok (.invokevirtual 159, 3) := by decide +kernel
theorem dX7_ordered_12 : decode cX7_ordered 12 = .ok (.ifCond .eq 7, 3) := by decide +kernel
theorem dX7_ordered_15 : decode cX7_ordered 15 = .ok (.iconst (-1), 1) := by decide +kernel
theorem dX7_ordered_16 : decode cX7_ordered 16 = .ok (.goto 9, 3) := by decide +kernel
theorem dX7_ordered_19 : decode cX7_ordered 19 = .ok (.aload_n 0, 1) := by decide +kernel
theorem dX7_ordered_20 : decode cX7_ordered 20 = .ok (.getfield 20, 3) := by decide +kernel
theorem dX7_ordered_23 : decode cX7_ordered 23 = .ok (.iload_n 1, 1) := by decide +kernel
theorem dX7_ordered_24 : decode cX7_ordered 24 = .ok (.iaload, 1) := by decide +kernel
theorem dX7_ordered_25 : decode cX7_ordered 25 = .ok (.ireturn, 1) := by decide +kernel
theorem dX7_joins_0 : decode cX7_joins 0 = .ok (.aload_n 0, 1) := by decide +kernel
theorem dX7_joins_1 : decode cX7_joins 1 = .ok (.aload_n 0, 1) := by decide +kernel
theorem dX7_joins_2 : decode cX7_joins 2 = .ok (.iload_n 1, 1) := by decide +kernel
theorem dX7_joins_3 : decode cX7_joins 3 = .ok (.invokevirtual 231, 3) := by decide +kernel
theorem dX7_joins_6 : decode cX7_joins 6 = .ok (.invokestatic 199, 3) := by decide +kernel
theorem dX7_joins_9 : decode cX7_joins 9 = .ok (.invokevirtual 159, 3) := by decide +kernel
theorem dX7_joins_12 : decode cX7_joins 12 = .ok (.ifCond .eq 5, 3) := by decide +kernel
theorem dX7_joins_15 : decode cX7_joins 15 = .ok (.iconst (-1), 1) := by decide +kernel
theorem dX7_joins_16 : decode cX7_joins 16 = .ok (.ireturn, 1) := by decide +kernel
theorem dX7_joins_17 : decode cX7_joins 17 = .ok (.aload_n 0, 1) := by decide +kernel
theorem dX7_joins_18 : decode cX7_joins 18 = .ok (.iload_n 1, 1) := by decide +kernel
theorem dX7_joins_19 : decode cX7_joins 19 = .ok (.invokevirtual 266, 3) := by decide +kernel
theorem dX7_joins_22 : decode cX7_joins 22 = .ok (.ifCond .eq 7, 3) := by decide +kernel
theorem dX7_joins_25 : decode cX7_joins 25 = .ok (.iconst 1, 1) := by decide +kernel
theorem dX7_joins_26 : decode cX7_joins 26 = .ok (.goto 4, 3) := by decide +kernel
theorem dX7_joins_29 : decode cX7_joins 29 = .ok (.iconst 0, 1) := by decide +kernel
theorem dX7_joins_30 : decode cX7_joins 30 = .ok (.ireturn, 1) := by decide +kernel
theorem dX7_restricted_0 : decode cX7_restricted 0 = .ok (.aload_n 0, 1) := by decide +kernel
theorem dX7_restricted_1 : decode cX7_restricted 1 = .ok (.aload_n 0, 1) := by decide +kernel
theorem dX7_restricted_2 : decode cX7_restricted 2 = .ok (.iload_n 1, 1) := by decide +kernel
theorem dX7_restricted_3 : decode cX7_restricted 3 = .ok (.invokevirtual 231, 3) := by decide +kernel
theorem dX7_restricted_6 : decode cX7_restricted 6 = .ok (.invokestatic 199, 3) := by decide +kernel
theorem dX7_restricted_9 : decode cX7_restricted 9 = .ok (.invokevirtual 159, 3) := by decide +kernel
theorem dX7_restricted_12 : decode cX7_restricted 12 = .ok (.ifCond .eq 7, 3) := by decide +kernel
theorem dX7_restricted_15 : decode cX7_restricted 15 = .ok (.iconst (-1), 1) := by decide +kernel
theorem dX7_restricted_16 : decode cX7_restricted 16 = .ok (.goto 8, 3) := by decide +kernel
theorem dX7_restricted_19 : decode cX7_restricted 19 = .ok (.aload_n 0, 1) := by decide +kernel
theorem dX7_restricted_20 : decode cX7_restricted 20 = .ok (.iload_n 1, 1) := by decide +kernel
theorem dX7_restricted_21 : decode cX7_restricted 21 = .ok (.invokevirtual 269, 3) := by decide +kernel
theorem dX7_restricted_24 : decode cX7_restricted 24 = .ok (.ireturn, 1) := by decide +kernel
theorem dX7_goodMany_0 : decode cX7_goodMany 0 = .ok (.iconst 0, 1) := by decide +kernel
theorem dX7_goodMany_1 : decode cX7_goodMany 1 = .ok (.istore_n 1, 1) := by decide +kernel
theorem dX7_goodMany_2 : decode cX7_goodMany 2 = .ok (.iload_n 1, 1) := by decide +kernel
theorem dX7_goodMany_3 : decode cX7_goodMany 3 = .ok (.aload_n 0, 1) := by decide +kernel
theorem dX7_goodMany_4 : decode cX7_goodMany 4 = .ok (.getfield 176, 3) := by decide +kernel
theorem dX7_goodMany_7 : decode cX7_goodMany 7 = .ok (.if_icmp .ge 17, 3) := by decide +kernel
theorem dX7_goodMany_10 : decode cX7_goodMany 10 = .ok (.aload_n 0, 1) := by decide +kernel
theorem dX7_goodMany_11 : decode cX7_goodMany 11 = .ok (.iload_n 1, 1) := by decide +kernel
theorem dX7_goodMany_12 : decode cX7_goodMany 12 = .ok (.invokevirtual 266, 3) := by decide +kernel
theorem dX7_goodMany_15 : decode cX7_goodMany 15 = .ok (.ifCond .eq 9, 3) := by decide +kernel
theorem dX7_goodMany_18 : decode cX7_goodMany 18 = .ok (.iinc 1 1, 3) := by decide +kernel
theorem dX7_goodMany_21 : decode cX7_goodMany 21 = .ok (.goto (-19), 3) := by decide +kernel
theorem dX7_goodMany_24 : decode cX7_goodMany 24 = .ok (.iload_n 1, 1) := by decide +kernel
theorem dX7_goodMany_25 : decode cX7_goodMany 25 = .ok (.ireturn, 1) := by decide +kernel
theorem dX7_good_0 : decode cX7_good 0 = .ok (.aload_n 0, 1) := by decide +kernel
theorem dX7_good_1 : decode cX7_good 1 = .ok (.aload_n 0, 1) := by decide +kernel
theorem dX7_good_2 : decode cX7_good 2 = .ok (.getfield 179, 3) := by decide +kernel
theorem dX7_good_5 : decode cX7_good 5 = .ok (.invokestatic 199, 3) := by decide +kernel
theorem dX7_good_8 : decode cX7_good 8 = .ok (.invokevirtual 159, 3) := by decide +kernel
theorem dX7_good_11 : decode cX7_good 11 = .ok (.ifCond .eq 7, 3) := by decide +kernel
theorem dX7_good_14 : decode cX7_good 14 = .ok (.iconst (-1), 1) := by decide +kernel
theorem dX7_good_15 : decode cX7_good 15 = .ok (.goto 7, 3) := by decide +kernel
theorem dX7_good_18 : decode cX7_good 18 = .ok (.aload_n 0, 1) := by decide +kernel
theorem dX7_good_19 : decode cX7_good 19 = .ok (.invokevirtual 272, 3) := by decide +kernel
theorem dX7_good_22 : decode cX7_good 22 = .ok (.ireturn, 1) := by decide +kernel
theorem dX7_sized_0 : decode cX7_sized 0 = .ok (.aload_n 0, 1) := by decide +kernel
theorem dX7_sized_1 : decode cX7_sized 1 = .ok (.iload_n 1, 1) := by decide +kernel
theorem dX7_sized_2 : decode cX7_sized 2 = .ok (.invokevirtual 240, 3) := by decide +kernel
theorem dX7_sized_5 : decode cX7_sized 5 = .ok (.ifCond .ne 5, 3) := by decide +kernel
theorem dX7_sized_8 : decode cX7_sized 8 = .ok (.iconst (-1), 1) := by decide +kernel
theorem dX7_sized_9 : decode cX7_sized 9 = .ok (.ireturn, 1) := by decide +kernel
theorem dX7_sized_10 : decode cX7_sized 10 = .ok (.iconst 0, 1) := by decide +kernel
theorem dX7_sized_11 : decode cX7_sized 11 = .ok (.istore_n 2, 1) := by decide +kernel
theorem dX7_sized_12 : decode cX7_sized 12 = .ok (.iconst 0, 1) := by decide +kernel
theorem dX7_sized_13 : decode cX7_sized 13 = .ok (.istore_n 3, 1) := by decide +kernel
theorem dX7_sized_14 : decode cX7_sized 14 = .ok (.iload_n 3, 1) := by decide +kernel
theorem dX7_sized_15 : decode cX7_sized 15 = .ok (.aload_n 0, 1) := by decide +kernel
theorem dX7_sized_16 : decode cX7_sized 16 = .ok (.getfield 176, 3) := by decide +kernel
theorem dX7_sized_19 : decode cX7_sized 19 = .ok (.if_icmp .ge 29, 3) := by decide +kernel
theorem dX7_sized_22 : decode cX7_sized 22 = .ok (.iload_n 2, 1) := by decide +kernel
theorem dX7_sized_23 : decode cX7_sized 23 = .ok (.aload_n 0, 1) := by decide +kernel
theorem dX7_sized_24 : decode cX7_sized 24 = .ok (.iload_n 3, 1) := by decide +kernel
theorem dX7_sized_25 : decode cX7_sized 25 = .ok (.invokevirtual 269, 3) := by decide +kernel
theorem dX7_sized_28 : decode cX7_sized 28 = .ok (.invokestatic 136, 3) := by decide +kernel
theorem dX7_sized_31 : decode cX7_sized 31 = .ok (.iload_n 1, 1) := by decide +kernel
theorem dX7_sized_32 : decode cX7_sized 32 = .ok (.if_icmp .ne 7, 3) := by decide +kernel
theorem dX7_sized_35 : decode cX7_sized 35 = .ok (.iconst 1, 1) := by decide +kernel
theorem dX7_sized_36 : decode cX7_sized 36 = .ok (.goto 4, 3) := by decide +kernel
theorem dX7_sized_39 : decode cX7_sized 39 = .ok (.iconst 0, 1) := by decide +kernel
theorem dX7_sized_40 : decode cX7_sized 40 = .ok (.iadd, 1) := by decide +kernel
theorem dX7_sized_41 : decode cX7_sized 41 = .ok (.istore_n 2, 1) := by decide +kernel
theorem dX7_sized_42 : decode cX7_sized 42 = .ok (.iinc 3 1, 3) := by decide +kernel
theorem dX7_sized_45 : decode cX7_sized 45 = .ok (.goto (-31), 3) := by decide +kernel
theorem dX7_sized_48 : decode cX7_sized 48 = .ok (.iload_n 2, 1) := by decide +kernel
theorem dX7_sized_49 : decode cX7_sized 49 = .ok (.ireturn, 1) := by decide +kernel
theorem dX7_isSpanning_0 : decode cX7_isSpanning 0 = .ok (.aload_n 0, 1) := by decide +kernel
theorem dX7_isSpanning_1 : decode cX7_isSpanning 1 = .ok (.iload_n 1, 1) := by decide +kernel
theorem dX7_isSpanning_2 : decode cX7_isSpanning 2 = .ok (.invokevirtual 269, 3) := by decide +kernel
theorem dX7_isSpanning_5 : decode cX7_isSpanning 5 = .ok (.aload_n 0, 1) := by decide +kernel
theorem dX7_isSpanning_6 : decode cX7_isSpanning 6 = .ok (.getfield 17, 3) := by decide +kernel
theorem dX7_isSpanning_9 : decode cX7_isSpanning 9 = .ok (.aload_n 0, 1) := by decide +kernel
theorem dX7_isSpanning_10 : decode cX7_isSpanning 10 = .ok (.getfield 20, 3) := by decide +kernel
theorem dX7_isSpanning_13 : decode cX7_isSpanning 13 = .ok (.iload_n 1, 1) := by decide +kernel
theorem dX7_isSpanning_14 : decode cX7_isSpanning 14 = .ok (.iaload, 1) := by decide +kernel
theorem dX7_isSpanning_15 : decode cX7_isSpanning 15 = .ok (.iaload, 1) := by decide +kernel
theorem dX7_isSpanning_16 : decode cX7_isSpanning 16 = .ok (.if_icmp .ne 7, 3) := by decide +kernel
theorem dX7_isSpanning_19 : decode cX7_isSpanning 19 = .ok (.iconst 1, 1) := by decide +kernel
theorem dX7_isSpanning_20 : decode cX7_isSpanning 20 = .ok (.goto 4, 3) := by decide +kernel
theorem dX7_isSpanning_23 : decode cX7_isSpanning 23 = .ok (.iconst 0, 1) := by decide +kernel
theorem dX7_isSpanning_24 : decode cX7_isSpanning 24 = .ok (.ireturn, 1) := by decide +kernel
theorem dX7_spanningAt_0 : decode cX7_spanningAt 0 = .ok (.iconst 0, 1) := by decide +kernel
theorem dX7_spanningAt_1 : decode cX7_spanningAt 1 = .ok (.istore_n 2, 1) := by decide +kernel
theorem dX7_spanningAt_2 : decode cX7_spanningAt 2 = .ok (.iconst 0, 1) := by decide +kernel
theorem dX7_spanningAt_3 : decode cX7_spanningAt 3 = .ok (.istore_n 3, 1) := by decide +kernel
theorem dX7_spanningAt_4 : decode cX7_spanningAt 4 = .ok (.iload_n 3, 1) := by decide +kernel
theorem dX7_spanningAt_5 : decode cX7_spanningAt 5 = .ok (.aload_n 0, 1) := by decide +kernel
theorem dX7_spanningAt_6 : decode cX7_spanningAt 6 = .ok (.getfield 176, 3) := by decide +kernel
theorem dX7_spanningAt_9 : decode cX7_spanningAt 9 = .ok (.if_icmp .ge 27, 3) := by decide +kernel
theorem dX7_spanningAt_12 : decode cX7_spanningAt 12 = .ok (.aload_n 0, 1) := by decide +kernel
theorem dX7_spanningAt_13 : decode cX7_spanningAt 13 = .ok (.iload_n 3, 1) := by decide +kernel
theorem dX7_spanningAt_14 : decode cX7_spanningAt 14 = .ok (.invokevirtual 275, 3) := by decide +kernel
theorem dX7_spanningAt_17 : decode cX7_spanningAt 17 = .ok (.ifCond .eq 13, 3) := by decide +kernel
theorem dX7_spanningAt_20 : decode cX7_spanningAt 20 = .ok (.iload_n 2, 1) := by decide +kernel
theorem dX7_spanningAt_21 : decode cX7_spanningAt 21 = .ok (.iload_n 1, 1) := by decide +kernel
theorem dX7_spanningAt_22 : decode cX7_spanningAt 22 = .ok (.if_icmp .ne 5, 3) := by decide +kernel
theorem dX7_spanningAt_25 : decode cX7_spanningAt 25 = .ok (.iload_n 3, 1) := by decide +kernel
theorem dX7_spanningAt_26 : decode cX7_spanningAt 26 = .ok (.ireturn, 1) := by decide +kernel
theorem dX7_spanningAt_27 : decode cX7_spanningAt 27 = .ok (.iinc 2 1, 3) := by decide +kernel
theorem dX7_spanningAt_30 : decode cX7_spanningAt 30 = .ok (.iinc 3 1, 3) := by decide +kernel
theorem dX7_spanningAt_33 : decode cX7_spanningAt 33 = .ok (.goto (-29), 3) := by decide +kernel
theorem dX7_spanningAt_36 : decode cX7_spanningAt 36 = .ok (.iconst (-1), 1) := by decide +kernel
theorem dX7_spanningAt_37 : decode cX7_spanningAt 37 = .ok (.ireturn, 1) := by decide +kernel
theorem dX7_spanning_0 : decode cX7_spanning 0 = .ok (.aload_n 0, 1) := by decide +kernel
theorem dX7_spanning_1 : decode cX7_spanning 1 = .ok (.aload_n 0, 1) := by decide +kernel
theorem dX7_spanning_2 : decode cX7_spanning 2 = .ok (.getfield 179, 3) := by decide +kernel
theorem dX7_spanning_5 : decode cX7_spanning 5 = .ok (.invokestatic 199, 3) := by decide +kernel
theorem dX7_spanning_8 : decode cX7_spanning 8 = .ok (.invokevirtual 159, 3) := by decide +kernel
theorem dX7_spanning_11 : decode cX7_spanning 11 = .ok (.ifCond .eq 5, 3) := by decide +kernel
theorem dX7_spanning_14 : decode cX7_spanning 14 = .ok (.iconst (-1), 1) := by decide +kernel
theorem dX7_spanning_15 : decode cX7_spanning 15 = .ok (.ireturn, 1) := by decide +kernel
theorem dX7_spanning_16 : decode cX7_spanning 16 = .ok (.aload_n 0, 1) := by decide +kernel
theorem dX7_spanning_17 : decode cX7_spanning 17 = .ok (.iload_n 1, 1) := by decide +kernel
theorem dX7_spanning_18 : decode cX7_spanning 18 = .ok (.invokevirtual 278, 3) := by decide +kernel
theorem dX7_spanning_21 : decode cX7_spanning 21 = .ok (.istore_n 2, 1) := by decide +kernel
theorem dX7_spanning_22 : decode cX7_spanning 22 = .ok (.iload_n 2, 1) := by decide +kernel
theorem dX7_spanning_23 : decode cX7_spanning 23 = .ok (.iconst (-1), 1) := by decide +kernel
theorem dX7_spanning_24 : decode cX7_spanning 24 = .ok (.if_icmp .ne 11, 3) := by decide +kernel
theorem dX7_spanning_27 : decode cX7_spanning 27 = .ok (.aload_n 0, 1) := by decide +kernel
theorem dX7_spanning_28 : decode cX7_spanning 28 = .ok (.iconst 1, 1) := by decide +kernel
theorem dX7_spanning_29 : decode cX7_spanning 29 = .ok (.invokevirtual 168, 3) := by decide +kernel
theorem dX7_spanning_32 : decode cX7_spanning 32 = .ok (.goto 4, 3) := by decide +kernel
theorem dX7_spanning_35 : decode cX7_spanning 35 = .ok (.iload_n 2, 1) := by decide +kernel
theorem dX7_spanning_36 : decode cX7_spanning 36 = .ok (.ireturn, 1) := by decide +kernel
theorem dX7_cycle_0 : decode cX7_cycle 0 = .ok (.aload_n 0, 1) := by decide +kernel
theorem dX7_cycle_1 : decode cX7_cycle 1 = .ok (.aload_n 0, 1) := by decide +kernel
theorem dX7_cycle_2 : decode cX7_cycle 2 = .ok (.getfield 179, 3) := by decide +kernel
theorem dX7_cycle_5 : decode cX7_cycle 5 = .ok (.invokestatic 199, 3) := by decide +kernel
theorem dX7_cycle_8 : decode cX7_cycle 8 = .ok (.invokevirtual 159, 3) := by decide +kernel
theorem dX7_cycle_11 : decode cX7_cycle 11 = .ok (.ifCond .eq 5, 3) := by decide +kernel
theorem dX7_cycle_14 : decode cX7_cycle 14 = .ok (.iconst (-1), 1) := by decide +kernel
theorem dX7_cycle_15 : decode cX7_cycle 15 = .ok (.ireturn, 1) := by decide +kernel
theorem dX7_cycle_16 : decode cX7_cycle 16 = .ok (.aload_n 0, 1) := by decide +kernel
theorem dX7_cycle_17 : decode cX7_cycle 17 = .ok (.iload_n 1, 1) := by decide +kernel
theorem dX7_cycle_18 : decode cX7_cycle 18 = .ok (.invokevirtual 278, 3) := by decide +kernel
theorem dX7_cycle_21 : decode cX7_cycle 21 = .ok (.istore_n 2, 1) := by decide +kernel
theorem dX7_cycle_22 : decode cX7_cycle 22 = .ok (.iload_n 2, 1) := by decide +kernel
theorem dX7_cycle_23 : decode cX7_cycle 23 = .ok (.iconst (-1), 1) := by decide +kernel
theorem dX7_cycle_24 : decode cX7_cycle 24 = .ok (.if_icmp .ne 9, 3) := by decide +kernel
theorem dX7_cycle_27 : decode cX7_cycle 27 = .ok (.aload_n 0, 1) := by decide +kernel
theorem dX7_cycle_28 : decode cX7_cycle 28 = .ok (.iconst 1, 1) := by decide +kernel
theorem dX7_cycle_29 : decode cX7_cycle 29 = .ok (.invokevirtual 168, 3) := by decide +kernel
theorem dX7_cycle_32 : decode cX7_cycle 32 = .ok (.ireturn, 1) := by decide +kernel
theorem dX7_cycle_33 : decode cX7_cycle 33 = .ok (.aload_n 0, 1) := by decide +kernel
theorem dX7_cycle_34 : decode cX7_cycle 34 = .ok (.invokevirtual 272, 3) := by decide +kernel
theorem dX7_cycle_37 : decode cX7_cycle 37 = .ok (.aload_n 0, 1) := by decide +kernel
theorem dX7_cycle_38 : decode cX7_cycle 38 = .ok (.getfield 176, 3) := by decide +kernel
theorem dX7_cycle_41 : decode cX7_cycle 41 = .ok (.if_icmp .ge 6, 3) := by decide +kernel
theorem dX7_cycle_44 : decode cX7_cycle 44 = .ok (.bipush (-2), 2) := by decide +kernel
theorem dX7_cycle_46 : decode cX7_cycle 46 = .ok (.ireturn, 1) := by decide +kernel
theorem dX7_cycle_47 : decode cX7_cycle 47 = .ok (.iconst 0, 1) := by decide +kernel
theorem dX7_cycle_48 : decode cX7_cycle 48 = .ok (.istore_n 3, 1) := by decide +kernel
theorem dX7_cycle_49 : decode cX7_cycle 49 = .ok (.iconst 0, 1) := by decide +kernel
theorem dX7_cycle_50 : decode cX7_cycle 50 = .ok (.istore 4, 2) := by decide +kernel
theorem dX7_cycle_52 : decode cX7_cycle 52 = .ok (.iload 4, 2) := by decide +kernel
theorem dX7_cycle_54 : decode cX7_cycle 54 = .ok (.aload_n 0, 1) := by decide +kernel
theorem dX7_cycle_55 : decode cX7_cycle 55 = .ok (.getfield 176, 3) := by decide +kernel
theorem dX7_cycle_58 : decode cX7_cycle 58 = .ok (.if_icmp .ge 34, 3) := by decide +kernel
theorem dX7_cycle_61 : decode cX7_cycle 61 = .ok (.iload_n 3, 1) := by decide +kernel
theorem dX7_cycle_62 : decode cX7_cycle 62 = .ok (.aload_n 0, 1) := by decide +kernel
theorem dX7_cycle_63 : decode cX7_cycle 63 = .ok (.iload 4, 2) := by decide +kernel
theorem dX7_cycle_65 : decode cX7_cycle 65 = .ok (.invokevirtual 275, 3) := by decide +kernel
theorem dX7_cycle_68 : decode cX7_cycle 68 = .ok (.ifCond .eq 7, 3) := by decide +kernel
theorem dX7_cycle_71 : decode cX7_cycle 71 = .ok (.iconst 0, 1) := by decide +kernel
theorem dX7_cycle_72 : decode cX7_cycle 72 = .ok (.goto 12, 3) := by decide +kernel
theorem dX7_cycle_75 : decode cX7_cycle 75 = .ok (.iconst 1, 1) := by decide +kernel
theorem dX7_cycle_76 : decode cX7_cycle 76 = .ok (.aload_n 0, 1) := by decide +kernel
theorem dX7_cycle_77 : decode cX7_cycle 77 = .ok (.getfield 20, 3) := by decide +kernel
theorem dX7_cycle_80 : decode cX7_cycle 80 = .ok (.iload 4, 2) := by decide +kernel
theorem dX7_cycle_82 : decode cX7_cycle 82 = .ok (.iaload, 1) := by decide +kernel
theorem dX7_cycle_83 : decode cX7_cycle 83 = .ok (.ishl, 1) := by decide +kernel
theorem dX7_cycle_84 : decode cX7_cycle 84 = .ok (.ior, 1) := by decide +kernel
theorem dX7_cycle_85 : decode cX7_cycle 85 = .ok (.istore_n 3, 1) := by decide +kernel
theorem dX7_cycle_86 : decode cX7_cycle 86 = .ok (.iinc 4 1, 3) := by decide +kernel
theorem dX7_cycle_89 : decode cX7_cycle 89 = .ok (.goto (-37), 3) := by decide +kernel
theorem dX7_cycle_92 : decode cX7_cycle 92 = .ok (.aload_n 0, 1) := by decide +kernel
theorem dX7_cycle_93 : decode cX7_cycle 93 = .ok (.aload_n 0, 1) := by decide +kernel
theorem dX7_cycle_94 : decode cX7_cycle 94 = .ok (.getfield 20, 3) := by decide +kernel
theorem dX7_cycle_97 : decode cX7_cycle 97 = .ok (.iload_n 2, 1) := by decide +kernel
theorem dX7_cycle_98 : decode cX7_cycle 98 = .ok (.iaload, 1) := by decide +kernel
theorem dX7_cycle_99 : decode cX7_cycle 99 = .ok (.iload_n 3, 1) := by decide +kernel
theorem dX7_cycle_100 : decode cX7_cycle 100 = .ok (.invokevirtual 281, 3) := by decide +kernel
theorem dX7_cycle_103 : decode cX7_cycle 103 = .ok (.ireturn, 1) := by decide +kernel
theorem dX7_solves_0 : decode cX7_solves 0 = .ok (.aload_n 0, 1) := by decide +kernel
theorem dX7_solves_1 : decode cX7_solves 1 = .ok (.invokevirtual 203, 3) := by decide +kernel
theorem dX7_solves_4 : decode cX7_solves 4 = .ok (.iconst 0, 1) := by decide +kernel
theorem dX7_solves_5 : decode cX7_solves 5 = .ok (.istore_n 3, 1) := by decide +kernel
theorem dX7_solves_6 : decode cX7_solves 6 = .ok (.iconst 0, 1) := by decide +kernel
theorem dX7_solves_7 : decode cX7_solves 7 = .ok (.istore 4, 2) := by decide +kernel
theorem dX7_solves_9 : decode cX7_solves 9 = .ok (.iload 4, 2) := by decide +kernel
theorem dX7_solves_11 : decode cX7_solves 11 = .ok (.sipush 128, 3) := by decide +kernel
theorem dX7_solves_14 : decode cX7_solves 14 = .ok (.if_icmp .ge 54, 3) := by decide +kernel
theorem dX7_solves_17 : decode cX7_solves 17 = .ok (.aload_n 0, 1) := by decide +kernel
theorem dX7_solves_18 : decode cX7_solves 18 = .ok (.getfield 26, 3) := by decide +kernel
theorem dX7_solves_21 : decode cX7_solves 21 = .ok (.iload 4, 2) := by decide +kernel
theorem dX7_solves_23 : decode cX7_solves 23 = .ok (.baload, 1) := by decide +kernel
theorem dX7_solves_24 : decode cX7_solves 24 = .ok (.ifCond .eq 38, 3) := by decide +kernel
theorem dX7_solves_27 : decode cX7_solves 27 = .ok (.iload 4, 2) := by decide +kernel
theorem dX7_solves_29 : decode cX7_solves 29 = .ok (.invokestatic 136, 3) := by decide +kernel
theorem dX7_solves_32 : decode cX7_solves 32 = .ok (.aload_n 0, 1) := by decide +kernel
theorem dX7_solves_33 : decode cX7_solves 33 = .ok (.getfield 173, 3) := by decide +kernel
theorem dX7_solves_36 : decode cX7_solves 36 = .ok (.iconst 1, 1) := by decide +kernel
theorem dX7_solves_37 : decode cX7_solves 37 = .ok (.isub, 1) := by decide +kernel
theorem dX7_solves_38 : decode cX7_solves 38 = .ok (.if_icmp .ne 24, 3) := by decide +kernel
theorem dX7_solves_41 : decode cX7_solves 41 = .ok (.aload_n 0, 1) := by decide +kernel
theorem dX7_solves_42 : decode cX7_solves 42 = .ok (.getfield 40, 3) := by decide +kernel
theorem dX7_solves_45 : decode cX7_solves 45 = .ok (.iload_n 3, 1) := by decide +kernel
theorem dX7_solves_46 : decode cX7_solves 46 = .ok (.aload_n 0, 1) := by decide +kernel
theorem dX7_solves_47 : decode cX7_solves 47 = .ok (.iload 4, 2) := by decide +kernel
theorem dX7_solves_49 : decode cX7_solves 49 = .ok (.invokevirtual 237, 3) := by decide +kernel
theorem dX7_solves_52 : decode cX7_solves 52 = .ok (.iload_n 2, 1) := by decide +kernel
theorem dX7_solves_53 : decode cX7_solves 53 = .ok (.iconst 1, 1) := by decide +kernel
theorem dX7_solves_54 : decode cX7_solves 54 = .ok (.iload_n 1, 1) := by decide +kernel
theorem dX7_solves_55 : decode cX7_solves 55 = .ok (.ishl, 1) := by decide +kernel
theorem dX7_solves_56 : decode cX7_solves 56 = .ok (.ior, 1) := by decide +kernel
theorem dX7_solves_57 : decode cX7_solves 57 = .ok (.iand, 1) := by decide +kernel
theorem dX7_solves_58 : decode cX7_solves 58 = .ok (.iastore, 1) := by decide +kernel
theorem dX7_solves_59 : decode cX7_solves 59 = .ok (.iinc 3 1, 3) := by decide +kernel
theorem dX7_solves_62 : decode cX7_solves 62 = .ok (.iinc 4 1, 3) := by decide +kernel
theorem dX7_solves_65 : decode cX7_solves 65 = .ok (.goto (-56), 3) := by decide +kernel
theorem dX7_solves_68 : decode cX7_solves 68 = .ok (.iconst 1, 1) := by decide +kernel
theorem dX7_solves_69 : decode cX7_solves 69 = .ok (.iload_n 1, 1) := by decide +kernel
theorem dX7_solves_70 : decode cX7_solves 70 = .ok (.ishl, 1) := by decide +kernel
theorem dX7_solves_71 : decode cX7_solves 71 = .ok (.istore 4, 2) := by decide +kernel
theorem dX7_solves_73 : decode cX7_solves 73 = .ok (.iconst 0, 1) := by decide +kernel
theorem dX7_solves_74 : decode cX7_solves 74 = .ok (.istore 5, 2) := by decide +kernel
theorem dX7_solves_76 : decode cX7_solves 76 = .ok (.iload 5, 2) := by decide +kernel
theorem dX7_solves_78 : decode cX7_solves 78 = .ok (.aload_n 0, 1) := by decide +kernel
theorem dX7_solves_79 : decode cX7_solves 79 = .ok (.getfield 176, 3) := by decide +kernel
theorem dX7_solves_82 : decode cX7_solves 82 = .ok (.if_icmp .ge 149, 3) := by decide +kernel
theorem dX7_solves_85 : decode cX7_solves 85 = .ok (.iconst (-1), 1) := by decide +kernel
theorem dX7_solves_86 : decode cX7_solves 86 = .ok (.istore 6, 2) := by decide +kernel
theorem dX7_solves_88 : decode cX7_solves 88 = .ok (.iconst 0, 1) := by decide +kernel
theorem dX7_solves_89 : decode cX7_solves 89 = .ok (.istore 7, 2) := by decide +kernel
theorem dX7_solves_91 : decode cX7_solves 91 = .ok (.iload 7, 2) := by decide +kernel
theorem dX7_solves_93 : decode cX7_solves 93 = .ok (.iload_n 3, 1) := by decide +kernel
theorem dX7_solves_94 : decode cX7_solves 94 = .ok (.if_icmp .ge 67, 3) := by decide +kernel
theorem dX7_solves_97 : decode cX7_solves 97 = .ok (.iload_n 2, 1) := by decide +kernel
theorem dX7_solves_98 : decode cX7_solves 98 = .ok (.iload 5, 2) := by decide +kernel
theorem dX7_solves_100 : decode cX7_solves 100 = .ok (.invokestatic 132, 3) := by decide +kernel
theorem dX7_solves_103 : decode cX7_solves 103 = .ok (.ifCond .eq 58, 3) := by decide +kernel
theorem dX7_solves_106 : decode cX7_solves 106 = .ok (.iload 6, 2) := by decide +kernel
theorem dX7_solves_108 : decode cX7_solves 108 = .ok (.iconst (-1), 1) := by decide +kernel
theorem dX7_solves_109 : decode cX7_solves 109 = .ok (.if_icmp .ne 52, 3) := by decide +kernel
theorem dX7_solves_112 : decode cX7_solves 112 = .ok (.aload_n 0, 1) := by decide +kernel
theorem dX7_solves_113 : decode cX7_solves 113 = .ok (.getfield 40, 3) := by decide +kernel
theorem dX7_solves_116 : decode cX7_solves 116 = .ok (.iload 7, 2) := by decide +kernel
theorem dX7_solves_118 : decode cX7_solves 118 = .ok (.iaload, 1) := by decide +kernel
theorem dX7_solves_119 : decode cX7_solves 119 = .ok (.iload 5, 2) := by decide +kernel
theorem dX7_solves_121 : decode cX7_solves 121 = .ok (.invokestatic 132, 3) := by decide +kernel
theorem dX7_solves_124 : decode cX7_solves 124 = .ok (.ifCond .eq 27, 3) := by decide +kernel
theorem dX7_solves_127 : decode cX7_solves 127 = .ok (.aload_n 0, 1) := by decide +kernel
theorem dX7_solves_128 : decode cX7_solves 128 = .ok (.getfield 40, 3) := by decide +kernel
theorem dX7_solves_131 : decode cX7_solves 131 = .ok (.iload 7, 2) := by decide +kernel
theorem dX7_solves_133 : decode cX7_solves 133 = .ok (.iaload, 1) := by decide +kernel
theorem dX7_solves_134 : decode cX7_solves 134 = .ok (.iload_n 2, 1) := by decide +kernel
theorem dX7_solves_135 : decode cX7_solves 135 = .ok (.iand, 1) := by decide +kernel
theorem dX7_solves_136 : decode cX7_solves 136 = .ok (.iconst 1, 1) := by decide +kernel
theorem dX7_solves_137 : decode cX7_solves 137 = .ok (.iload 5, 2) := by decide +kernel
theorem dX7_solves_139 : decode cX7_solves 139 = .ok (.ishl, 1) := by decide +kernel
theorem dX7_solves_140 : decode cX7_solves 140 = .ok (.iconst 1, 1) := by decide +kernel
theorem dX7_solves_141 : decode cX7_solves 141 = .ok (.isub, 1) := by decide +kernel
theorem dX7_solves_142 : decode cX7_solves 142 = .ok (.iand, 1) := by decide +kernel
theorem dX7_solves_143 : decode cX7_solves 143 = .ok (.ifCond .ne 8, 3) := by decide +kernel
theorem dX7_solves_146 : decode cX7_solves 146 = .ok (.iload 7, 2) := by decide +kernel
theorem dX7_solves_148 : decode cX7_solves 148 = .ok (.goto 5, 3) := by decide +kernel
theorem dX7_solves_151 : decode cX7_solves 151 = .ok (.iload 6, 2) := by decide +kernel
theorem dX7_solves_153 : decode cX7_solves 153 = .ok (.istore 6, 2) := by decide +kernel
theorem dX7_solves_155 : decode cX7_solves 155 = .ok (.iinc 7 1, 3) := by decide +kernel
theorem dX7_solves_158 : decode cX7_solves 158 = .ok (.goto (-67), 3) := by decide +kernel
theorem dX7_solves_161 : decode cX7_solves 161 = .ok (.iconst 0, 1) := by decide +kernel
theorem dX7_solves_162 : decode cX7_solves 162 = .ok (.istore 7, 2) := by decide +kernel
theorem dX7_solves_164 : decode cX7_solves 164 = .ok (.iload 7, 2) := by decide +kernel
theorem dX7_solves_166 : decode cX7_solves 166 = .ok (.iload_n 3, 1) := by decide +kernel
theorem dX7_solves_167 : decode cX7_solves 167 = .ok (.if_icmp .ge 58, 3) := by decide +kernel
theorem dX7_solves_170 : decode cX7_solves 170 = .ok (.iload 6, 2) := by decide +kernel
theorem dX7_solves_172 : decode cX7_solves 172 = .ok (.iconst (-1), 1) := by decide +kernel
theorem dX7_solves_173 : decode cX7_solves 173 = .ok (.if_icmp .eq 52, 3) := by decide +kernel
theorem dX7_solves_176 : decode cX7_solves 176 = .ok (.aload_n 0, 1) := by decide +kernel
theorem dX7_solves_177 : decode cX7_solves 177 = .ok (.getfield 40, 3) := by decide +kernel
theorem dX7_solves_180 : decode cX7_solves 180 = .ok (.iload 7, 2) := by decide +kernel
theorem dX7_solves_182 : decode cX7_solves 182 = .ok (.dup2, 1) := by decide +kernel
theorem dX7_solves_183 : decode cX7_solves 183 = .ok (.iaload, 1) := by decide +kernel
theorem dX7_solves_184 : decode cX7_solves 184 = .ok (.iload 7, 2) := by decide +kernel
theorem dX7_solves_186 : decode cX7_solves 186 = .ok (.iload 6, 2) := by decide +kernel
theorem dX7_solves_188 : decode cX7_solves 188 = .ok (.if_icmp .eq 28, 3) := by decide +kernel
theorem dX7_solves_191 : decode cX7_solves 191 = .ok (.aload_n 0, 1) := by decide +kernel
theorem dX7_solves_192 : decode cX7_solves 192 = .ok (.getfield 40, 3) := by decide +kernel
theorem dX7_solves_195 : decode cX7_solves 195 = .ok (.iload 7, 2) := by decide +kernel
theorem dX7_solves_197 : decode cX7_solves 197 = .ok (.iaload, 1) := by decide +kernel
theorem dX7_solves_198 : decode cX7_solves 198 = .ok (.iload 5, 2) := by decide +kernel
theorem dX7_solves_200 : decode cX7_solves 200 = .ok (.invokestatic 132, 3) := by decide +kernel
theorem dX7_solves_203 : decode cX7_solves 203 = .ok (.ifCond .eq 13, 3) := by decide +kernel
theorem dX7_solves_206 : decode cX7_solves 206 = .ok (.aload_n 0, 1) := by decide +kernel
theorem dX7_solves_207 : decode cX7_solves 207 = .ok (.getfield 40, 3) := by decide +kernel
theorem dX7_solves_210 : decode cX7_solves 210 = .ok (.iload 6, 2) := by decide +kernel
theorem dX7_solves_212 : decode cX7_solves 212 = .ok (.iaload, 1) := by decide +kernel
theorem dX7_solves_213 : decode cX7_solves 213 = .ok (.goto 4, 3) := by decide +kernel
theorem dX7_solves_216 : decode cX7_solves 216 = .ok (.iconst 0, 1) := by decide +kernel
theorem dX7_solves_217 : decode cX7_solves 217 = .ok (.ixor, 1) := by decide +kernel
theorem dX7_solves_218 : decode cX7_solves 218 = .ok (.iastore, 1) := by decide +kernel
theorem dX7_solves_219 : decode cX7_solves 219 = .ok (.iinc 7 1, 3) := by decide +kernel
theorem dX7_solves_222 : decode cX7_solves 222 = .ok (.goto (-58), 3) := by decide +kernel
theorem dX7_solves_225 : decode cX7_solves 225 = .ok (.iinc 5 1, 3) := by decide +kernel
theorem dX7_solves_228 : decode cX7_solves 228 = .ok (.goto (-152), 3) := by decide +kernel
theorem dX7_solves_231 : decode cX7_solves 231 = .ok (.iconst 0, 1) := by decide +kernel
theorem dX7_solves_232 : decode cX7_solves 232 = .ok (.istore 5, 2) := by decide +kernel
theorem dX7_solves_234 : decode cX7_solves 234 = .ok (.iload 5, 2) := by decide +kernel
theorem dX7_solves_236 : decode cX7_solves 236 = .ok (.aload_n 0, 1) := by decide +kernel
theorem dX7_solves_237 : decode cX7_solves 237 = .ok (.getfield 176, 3) := by decide +kernel
theorem dX7_solves_240 : decode cX7_solves 240 = .ok (.if_icmp .ge 88, 3) := by decide +kernel
theorem dX7_solves_243 : decode cX7_solves 243 = .ok (.iconst 0, 1) := by decide +kernel
theorem dX7_solves_244 : decode cX7_solves 244 = .ok (.istore 6, 2) := by decide +kernel
theorem dX7_solves_246 : decode cX7_solves 246 = .ok (.iload 6, 2) := by decide +kernel
theorem dX7_solves_248 : decode cX7_solves 248 = .ok (.iload_n 3, 1) := by decide +kernel
theorem dX7_solves_249 : decode cX7_solves 249 = .ok (.if_icmp .ge 73, 3) := by decide +kernel
theorem dX7_solves_252 : decode cX7_solves 252 = .ok (.iload_n 2, 1) := by decide +kernel
theorem dX7_solves_253 : decode cX7_solves 253 = .ok (.iload 5, 2) := by decide +kernel
theorem dX7_solves_255 : decode cX7_solves 255 = .ok (.invokestatic 132, 3) := by decide +kernel
theorem dX7_solves_258 : decode cX7_solves 258 = .ok (.ifCond .eq 23, 3) := by decide +kernel
theorem dX7_solves_261 : decode cX7_solves 261 = .ok (.aload_n 0, 1) := by decide +kernel
theorem dX7_solves_262 : decode cX7_solves 262 = .ok (.getfield 40, 3) := by decide +kernel
theorem dX7_solves_265 : decode cX7_solves 265 = .ok (.iload 6, 2) := by decide +kernel
theorem dX7_solves_267 : decode cX7_solves 267 = .ok (.iaload, 1) := by decide +kernel
theorem dX7_solves_268 : decode cX7_solves 268 = .ok (.iload_n 2, 1) := by decide +kernel
theorem dX7_solves_269 : decode cX7_solves 269 = .ok (.iand, 1) := by decide +kernel
theorem dX7_solves_270 : decode cX7_solves 270 = .ok (.iconst 1, 1) := by decide +kernel
theorem dX7_solves_271 : decode cX7_solves 271 = .ok (.iload 5, 2) := by decide +kernel
theorem dX7_solves_273 : decode cX7_solves 273 = .ok (.ishl, 1) := by decide +kernel
theorem dX7_solves_274 : decode cX7_solves 274 = .ok (.if_icmp .ne 7, 3) := by decide +kernel
theorem dX7_solves_277 : decode cX7_solves 277 = .ok (.iconst 1, 1) := by decide +kernel
theorem dX7_solves_278 : decode cX7_solves 278 = .ok (.goto 4, 3) := by decide +kernel
theorem dX7_solves_281 : decode cX7_solves 281 = .ok (.iconst 0, 1) := by decide +kernel
theorem dX7_solves_282 : decode cX7_solves 282 = .ok (.istore 7, 2) := by decide +kernel
theorem dX7_solves_284 : decode cX7_solves 284 = .ok (.iload 4, 2) := by decide +kernel
theorem dX7_solves_286 : decode cX7_solves 286 = .ok (.iload 7, 2) := by decide +kernel
theorem dX7_solves_288 : decode cX7_solves 288 = .ok (.ifCond .eq 24, 3) := by decide +kernel
theorem dX7_solves_291 : decode cX7_solves 291 = .ok (.aload_n 0, 1) := by decide +kernel
theorem dX7_solves_292 : decode cX7_solves 292 = .ok (.getfield 40, 3) := by decide +kernel
theorem dX7_solves_295 : decode cX7_solves 295 = .ok (.iload 6, 2) := by decide +kernel
theorem dX7_solves_297 : decode cX7_solves 297 = .ok (.iaload, 1) := by decide +kernel
theorem dX7_solves_298 : decode cX7_solves 298 = .ok (.iload_n 1, 1) := by decide +kernel
theorem dX7_solves_299 : decode cX7_solves 299 = .ok (.invokestatic 132, 3) := by decide +kernel
theorem dX7_solves_302 : decode cX7_solves 302 = .ok (.ifCond .eq 10, 3) := by decide +kernel
theorem dX7_solves_305 : decode cX7_solves 305 = .ok (.iconst 1, 1) := by decide +kernel
theorem dX7_solves_306 : decode cX7_solves 306 = .ok (.iload 5, 2) := by decide +kernel
theorem dX7_solves_308 : decode cX7_solves 308 = .ok (.ishl, 1) := by decide +kernel
theorem dX7_solves_309 : decode cX7_solves 309 = .ok (.goto 4, 3) := by decide +kernel
theorem dX7_solves_312 : decode cX7_solves 312 = .ok (.iconst 0, 1) := by decide +kernel
theorem dX7_solves_313 : decode cX7_solves 313 = .ok (.ior, 1) := by decide +kernel
theorem dX7_solves_314 : decode cX7_solves 314 = .ok (.istore 4, 2) := by decide +kernel
theorem dX7_solves_316 : decode cX7_solves 316 = .ok (.iinc 6 1, 3) := by decide +kernel
theorem dX7_solves_319 : decode cX7_solves 319 = .ok (.goto (-73), 3) := by decide +kernel
theorem dX7_solves_322 : decode cX7_solves 322 = .ok (.iinc 5 1, 3) := by decide +kernel
theorem dX7_solves_325 : decode cX7_solves 325 = .ok (.goto (-91), 3) := by decide +kernel
theorem dX7_solves_328 : decode cX7_solves 328 = .ok (.iload 4, 2) := by decide +kernel
theorem dX7_solves_330 : decode cX7_solves 330 = .ok (.ireturn, 1) := by decide +kernel
theorem dX7_mean_0 : decode cX7_mean 0 = .ok (.aload_n 0, 1) := by decide +kernel
theorem dX7_mean_1 : decode cX7_mean 1 = .ok (.aload_n 0, 1) := by decide +kernel
theorem dX7_mean_2 : decode cX7_mean 2 = .ok (.getfield 179, 3) := by decide +kernel
theorem dX7_mean_5 : decode cX7_mean 5 = .ok (.invokestatic 199, 3) := by decide +kernel
theorem dX7_mean_8 : decode cX7_mean 8 = .ok (.invokevirtual 159, 3) := by decide +kernel
theorem dX7_mean_11 : decode cX7_mean 11 = .ok (.ifCond .eq 7, 3) := by decide +kernel
theorem dX7_mean_14 : decode cX7_mean 14 = .ok (.ldc2_w 284, 3) := by decide +kernel
theorem dX7_mean_17 : decode cX7_mean 17 = .ok (.dreturn, 1) := by decide +kernel
theorem dX7_mean_18 : decode cX7_mean 18 = .ok (.iconst 0, 1) := by decide +kernel
theorem dX7_mean_19 : decode cX7_mean 19 = .ok (.istore_n 1, 1) := by decide +kernel
theorem dX7_mean_20 : decode cX7_mean 20 = .ok (.iconst 0, 1) := by decide +kernel
theorem dX7_mean_21 : decode cX7_mean 21 = .ok (.istore_n 2, 1) := by decide +kernel
theorem dX7_mean_22 : decode cX7_mean 22 = .ok (.iload_n 2, 1) := by decide +kernel
theorem dX7_mean_23 : decode cX7_mean 23 = .ok (.aload_n 0, 1) := by decide +kernel
theorem dX7_mean_24 : decode cX7_mean 24 = .ok (.getfield 176, 3) := by decide +kernel
theorem dX7_mean_27 : decode cX7_mean 27 = .ok (.if_icmp .ge 20, 3) := by decide +kernel
theorem dX7_mean_30 : decode cX7_mean 30 = .ok (.iload_n 1, 1) := by decide +kernel
theorem dX7_mean_31 : decode cX7_mean 31 = .ok (.aload_n 0, 1) := by decide +kernel
theorem dX7_mean_32 : decode cX7_mean 32 = .ok (.iload_n 2, 1) := by decide +kernel
theorem dX7_mean_33 : decode cX7_mean 33 = .ok (.invokevirtual 269, 3) := by decide +kernel
theorem dX7_mean_36 : decode cX7_mean 36 = .ok (.invokestatic 136, 3) := by decide +kernel
theorem dX7_mean_39 : decode cX7_mean 39 = .ok (.iadd, 1) := by decide +kernel
theorem dX7_mean_40 : decode cX7_mean 40 = .ok (.istore_n 1, 1) := by decide +kernel
theorem dX7_mean_41 : decode cX7_mean 41 = .ok (.iinc 2 1, 3) := by decide +kernel
theorem dX7_mean_44 : decode cX7_mean 44 = .ok (.goto (-22), 3) := by decide +kernel
theorem dX7_mean_47 : decode cX7_mean 47 = .ok (.iload_n 1, 1) := by decide +kernel
theorem dX7_mean_48 : decode cX7_mean 48 = .ok (.i2d, 1) := by decide +kernel
theorem dX7_mean_49 : decode cX7_mean 49 = .ok (.aload_n 0, 1) := by decide +kernel
theorem dX7_mean_50 : decode cX7_mean 50 = .ok (.getfield 176, 3) := by decide +kernel
theorem dX7_mean_53 : decode cX7_mean 53 = .ok (.i2d, 1) := by decide +kernel
theorem dX7_mean_54 : decode cX7_mean 54 = .ok (.ddiv, 1) := by decide +kernel
theorem dX7_mean_55 : decode cX7_mean 55 = .ok (.dreturn, 1) := by decide +kernel
theorem dX7_cellOf_0 : decode cX7_cellOf 0 = .ok (.iconst 0, 1) := by decide +kernel
theorem dX7_cellOf_1 : decode cX7_cellOf 1 = .ok (.istore_n 2, 1) := by decide +kernel
theorem dX7_cellOf_2 : decode cX7_cellOf 2 = .ok (.iload_n 2, 1) := by decide +kernel
theorem dX7_cellOf_3 : decode cX7_cellOf 3 = .ok (.aload_n 0, 1) := by decide +kernel
theorem dX7_cellOf_4 : decode cX7_cellOf 4 = .ok (.getfield 176, 3) := by decide +kernel
theorem dX7_cellOf_7 : decode cX7_cellOf 7 = .ok (.if_icmp .ge 29, 3) := by decide +kernel
theorem dX7_cellOf_10 : decode cX7_cellOf 10 = .ok (.iload_n 1, 1) := by decide +kernel
theorem dX7_cellOf_11 : decode cX7_cellOf 11 = .ok (.aload_n 0, 1) := by decide +kernel
theorem dX7_cellOf_12 : decode cX7_cellOf 12 = .ok (.getfield 17, 3) := by decide +kernel
theorem dX7_cellOf_15 : decode cX7_cellOf 15 = .ok (.aload_n 0, 1) := by decide +kernel
theorem dX7_cellOf_16 : decode cX7_cellOf 16 = .ok (.getfield 20, 3) := by decide +kernel
theorem dX7_cellOf_19 : decode cX7_cellOf 19 = .ok (.iload_n 2, 1) := by decide +kernel
theorem dX7_cellOf_20 : decode cX7_cellOf 20 = .ok (.iaload, 1) := by decide +kernel
theorem dX7_cellOf_21 : decode cX7_cellOf 21 = .ok (.iaload, 1) := by decide +kernel
theorem dX7_cellOf_22 : decode cX7_cellOf 22 = .ok (.invokestatic 183, 3) := by decide +kernel
theorem dX7_cellOf_25 : decode cX7_cellOf 25 = .ok (.ifCond .eq 5, 3) := by decide +kernel
theorem dX7_cellOf_28 : decode cX7_cellOf 28 = .ok (.iload_n 2, 1) := by decide +kernel
theorem dX7_cellOf_29 : decode cX7_cellOf 29 = .ok (.ireturn, 1) := by decide +kernel
theorem dX7_cellOf_30 : decode cX7_cellOf 30 = .ok (.iinc 2 1, 3) := by decide +kernel
theorem dX7_cellOf_33 : decode cX7_cellOf 33 = .ok (.goto (-31), 3) := by decide +kernel
theorem dX7_cellOf_36 : decode cX7_cellOf 36 = .ok (.bipush (-2), 2) := by decide +kernel
theorem dX7_cellOf_38 : decode cX7_cellOf 38 = .ok (.ireturn, 1) := by decide +kernel
theorem dX7_cell_0 : decode cX7_cell 0 = .ok (.aload_n 0, 1) := by decide +kernel
theorem dX7_cell_1 : decode cX7_cell 1 = .ok (.aload_n 0, 1) := by decide +kernel
theorem dX7_cell_2 : decode cX7_cell 2 = .ok (.getfield 179, 3) := by decide +kernel
theorem dX7_cell_5 : decode cX7_cell 5 = .ok (.aload_n 0, 1) := by decide +kernel
theorem dX7_cell_6 : decode cX7_cell 6 = .ok (.iload_n 1, 1) := by decide +kernel
theorem dX7_cell_7 : decode cX7_cell 7 = .ok (.invokevirtual 234, 3) := by decide +kernel
theorem dX7_cell_10 : decode cX7_cell 10 = .ok (.invokestatic 206, 3) := by decide +kernel
theorem dX7_cell_13 : decode cX7_cell 13 = .ok (.invokevirtual 159, 3) := by decide +kernel
theorem dX7_cell_16 : decode cX7_cell 16 = .ok (.ifCond .eq 7, 3) := by decide +kernel
theorem dX7_cell_19 : decode cX7_cell 19 = .ok (.iconst (-1), 1) := by decide +kernel
theorem dX7_cell_20 : decode cX7_cell 20 = .ok (.goto 8, 3) := by decide +kernel
theorem dX7_cell_23 : decode cX7_cell 23 = .ok (.aload_n 0, 1) := by decide +kernel
theorem dX7_cell_24 : decode cX7_cell 24 = .ok (.iload_n 1, 1) := by decide +kernel
theorem dX7_cell_25 : decode cX7_cell 25 = .ok (.invokevirtual 286, 3) := by decide +kernel
theorem dX7_cell_28 : decode cX7_cell 28 = .ok (.ireturn, 1) := by decide +kernel
theorem dX7_fresh_0 : decode cX7_fresh 0 = .ok (.aload_n 0, 1) := by decide +kernel
theorem dX7_fresh_1 : decode cX7_fresh 1 = .ok (.aload_n 0, 1) := by decide +kernel
theorem dX7_fresh_2 : decode cX7_fresh 2 = .ok (.iload_n 1, 1) := by decide +kernel
theorem dX7_fresh_3 : decode cX7_fresh 3 = .ok (.invokevirtual 231, 3) := by decide +kernel
theorem dX7_fresh_6 : decode cX7_fresh 6 = .ok (.invokestatic 199, 3) := by decide +kernel
theorem dX7_fresh_9 : decode cX7_fresh 9 = .ok (.invokevirtual 159, 3) := by decide +kernel
theorem dX7_fresh_12 : decode cX7_fresh 12 = .ok (.ifCond .eq 5, 3) := by decide +kernel
theorem dX7_fresh_15 : decode cX7_fresh 15 = .ok (.iconst (-1), 1) := by decide +kernel
theorem dX7_fresh_16 : decode cX7_fresh 16 = .ok (.ireturn, 1) := by decide +kernel
theorem dX7_fresh_17 : decode cX7_fresh 17 = .ok (.iconst 0, 1) := by decide +kernel
theorem dX7_fresh_18 : decode cX7_fresh 18 = .ok (.istore_n 2, 1) := by decide +kernel
theorem dX7_fresh_19 : decode cX7_fresh 19 = .ok (.iconst 0, 1) := by decide +kernel
theorem dX7_fresh_20 : decode cX7_fresh 20 = .ok (.istore_n 3, 1) := by decide +kernel
theorem dX7_fresh_21 : decode cX7_fresh 21 = .ok (.iload_n 3, 1) := by decide +kernel
theorem dX7_fresh_22 : decode cX7_fresh 22 = .ok (.aload_n 0, 1) := by decide +kernel
theorem dX7_fresh_23 : decode cX7_fresh 23 = .ok (.invokevirtual 212, 3) := by decide +kernel
theorem dX7_fresh_26 : decode cX7_fresh 26 = .ok (.if_icmp .gt 26, 3) := by decide +kernel
theorem dX7_fresh_29 : decode cX7_fresh 29 = .ok (.iload_n 2, 1) := by decide +kernel
theorem dX7_fresh_30 : decode cX7_fresh 30 = .ok (.aload_n 0, 1) := by decide +kernel
theorem dX7_fresh_31 : decode cX7_fresh 31 = .ok (.iload_n 3, 1) := by decide +kernel
theorem dX7_fresh_32 : decode cX7_fresh 32 = .ok (.invokevirtual 286, 3) := by decide +kernel
theorem dX7_fresh_35 : decode cX7_fresh 35 = .ok (.iload_n 1, 1) := by decide +kernel
theorem dX7_fresh_36 : decode cX7_fresh 36 = .ok (.if_icmp .ne 7, 3) := by decide +kernel
theorem dX7_fresh_39 : decode cX7_fresh 39 = .ok (.iconst 1, 1) := by decide +kernel
theorem dX7_fresh_40 : decode cX7_fresh 40 = .ok (.goto 4, 3) := by decide +kernel
theorem dX7_fresh_43 : decode cX7_fresh 43 = .ok (.iconst 0, 1) := by decide +kernel
theorem dX7_fresh_44 : decode cX7_fresh 44 = .ok (.iadd, 1) := by decide +kernel
theorem dX7_fresh_45 : decode cX7_fresh 45 = .ok (.istore_n 2, 1) := by decide +kernel
theorem dX7_fresh_46 : decode cX7_fresh 46 = .ok (.iinc 3 1, 3) := by decide +kernel
theorem dX7_fresh_49 : decode cX7_fresh 49 = .ok (.goto (-28), 3) := by decide +kernel
theorem dX7_fresh_52 : decode cX7_fresh 52 = .ok (.iload_n 2, 1) := by decide +kernel
theorem dX7_fresh_53 : decode cX7_fresh 53 = .ok (.ireturn, 1) := by decide +kernel
theorem dX7_betweenOf_0 : decode cX7_betweenOf 0 = .ok (.iconst 0, 1) := by decide +kernel
theorem dX7_betweenOf_1 : decode cX7_betweenOf 1 = .ok (.istore_n 2, 1) := by decide +kernel
theorem dX7_betweenOf_2 : decode cX7_betweenOf 2 = .ok (.iconst 0, 1) := by decide +kernel
theorem dX7_betweenOf_3 : decode cX7_betweenOf 3 = .ok (.istore_n 3, 1) := by decide +kernel
theorem dX7_betweenOf_4 : decode cX7_betweenOf 4 = .ok (.iload_n 3, 1) := by decide +kernel
theorem dX7_betweenOf_5 : decode cX7_betweenOf 5 = .ok (.aload_n 0, 1) := by decide +kernel
theorem dX7_betweenOf_6 : decode cX7_betweenOf 6 = .ok (.getfield 176, 3) := by decide +kernel
theorem dX7_betweenOf_9 : decode cX7_betweenOf 9 = .ok (.if_icmp .ge 47, 3) := by decide +kernel
theorem dX7_betweenOf_12 : decode cX7_betweenOf 12 = .ok (.iload_n 2, 1) := by decide +kernel
theorem dX7_betweenOf_13 : decode cX7_betweenOf 13 = .ok (.iload_n 1, 1) := by decide +kernel
theorem dX7_betweenOf_14 : decode cX7_betweenOf 14 = .ok (.aload_n 0, 1) := by decide +kernel
theorem dX7_betweenOf_15 : decode cX7_betweenOf 15 = .ok (.getfield 17, 3) := by decide +kernel
theorem dX7_betweenOf_18 : decode cX7_betweenOf 18 = .ok (.aload_n 0, 1) := by decide +kernel
theorem dX7_betweenOf_19 : decode cX7_betweenOf 19 = .ok (.getfield 20, 3) := by decide +kernel
theorem dX7_betweenOf_22 : decode cX7_betweenOf 22 = .ok (.iload_n 3, 1) := by decide +kernel
theorem dX7_betweenOf_23 : decode cX7_betweenOf 23 = .ok (.iaload, 1) := by decide +kernel
theorem dX7_betweenOf_24 : decode cX7_betweenOf 24 = .ok (.iaload, 1) := by decide +kernel
theorem dX7_betweenOf_25 : decode cX7_betweenOf 25 = .ok (.invokestatic 183, 3) := by decide +kernel
theorem dX7_betweenOf_28 : decode cX7_betweenOf 28 = .ok (.ifCond .eq 19, 3) := by decide +kernel
theorem dX7_betweenOf_31 : decode cX7_betweenOf 31 = .ok (.aload_n 0, 1) := by decide +kernel
theorem dX7_betweenOf_32 : decode cX7_betweenOf 32 = .ok (.iload_n 3, 1) := by decide +kernel
theorem dX7_betweenOf_33 : decode cX7_betweenOf 33 = .ok (.invokevirtual 269, 3) := by decide +kernel
theorem dX7_betweenOf_36 : decode cX7_betweenOf 36 = .ok (.iload_n 1, 1) := by decide +kernel
theorem dX7_betweenOf_37 : decode cX7_betweenOf 37 = .ok (.invokestatic 183, 3) := by decide +kernel
theorem dX7_betweenOf_40 : decode cX7_betweenOf 40 = .ok (.ifCond .eq 7, 3) := by decide +kernel
theorem dX7_betweenOf_43 : decode cX7_betweenOf 43 = .ok (.iconst 1, 1) := by decide +kernel
theorem dX7_betweenOf_44 : decode cX7_betweenOf 44 = .ok (.goto 4, 3) := by decide +kernel
theorem dX7_betweenOf_47 : decode cX7_betweenOf 47 = .ok (.iconst 0, 1) := by decide +kernel
theorem dX7_betweenOf_48 : decode cX7_betweenOf 48 = .ok (.iadd, 1) := by decide +kernel
theorem dX7_betweenOf_49 : decode cX7_betweenOf 49 = .ok (.istore_n 2, 1) := by decide +kernel
theorem dX7_betweenOf_50 : decode cX7_betweenOf 50 = .ok (.iinc 3 1, 3) := by decide +kernel
theorem dX7_betweenOf_53 : decode cX7_betweenOf 53 = .ok (.goto (-49), 3) := by decide +kernel
theorem dX7_betweenOf_56 : decode cX7_betweenOf 56 = .ok (.iload_n 2, 1) := by decide +kernel
theorem dX7_betweenOf_57 : decode cX7_betweenOf 57 = .ok (.ireturn, 1) := by decide +kernel
theorem dX7_between_0 : decode cX7_between 0 = .ok (.aload_n 0, 1) := by decide +kernel
theorem dX7_between_1 : decode cX7_between 1 = .ok (.aload_n 0, 1) := by decide +kernel
theorem dX7_between_2 : decode cX7_between 2 = .ok (.getfield 179, 3) := by decide +kernel
theorem dX7_between_5 : decode cX7_between 5 = .ok (.aload_n 0, 1) := by decide +kernel
theorem dX7_between_6 : decode cX7_between 6 = .ok (.iload_n 1, 1) := by decide +kernel
theorem dX7_between_7 : decode cX7_between 7 = .ok (.invokevirtual 234, 3) := by decide +kernel
theorem dX7_between_10 : decode cX7_between 10 = .ok (.invokestatic 206, 3) := by decide +kernel
theorem dX7_between_13 : decode cX7_between 13 = .ok (.invokevirtual 159, 3) := by decide +kernel
theorem dX7_between_16 : decode cX7_between 16 = .ok (.ifCond .eq 7, 3) := by decide +kernel
theorem dX7_between_19 : decode cX7_between 19 = .ok (.iconst (-1), 1) := by decide +kernel
theorem dX7_between_20 : decode cX7_between 20 = .ok (.goto 8, 3) := by decide +kernel
theorem dX7_between_23 : decode cX7_between 23 = .ok (.aload_n 0, 1) := by decide +kernel
theorem dX7_between_24 : decode cX7_between 24 = .ok (.iload_n 1, 1) := by decide +kernel
theorem dX7_between_25 : decode cX7_between 25 = .ok (.invokevirtual 289, 3) := by decide +kernel
theorem dX7_between_28 : decode cX7_between 28 = .ok (.ireturn, 1) := by decide +kernel
theorem dX7_unparted_0 : decode cX7_unparted 0 = .ok (.aload_n 0, 1) := by decide +kernel
theorem dX7_unparted_1 : decode cX7_unparted 1 = .ok (.aload_n 0, 1) := by decide +kernel
theorem dX7_unparted_2 : decode cX7_unparted 2 = .ok (.getfield 179, 3) := by decide +kernel
theorem dX7_unparted_5 : decode cX7_unparted 5 = .ok (.invokestatic 199, 3) := by decide +kernel
theorem dX7_unparted_8 : decode cX7_unparted 8 = .ok (.invokevirtual 159, 3) := by decide +kernel
theorem dX7_unparted_11 : decode cX7_unparted 11 = .ok (.ifCond .eq 5, 3) := by decide +kernel
theorem dX7_unparted_14 : decode cX7_unparted 14 = .ok (.iconst (-1), 1) := by decide +kernel
theorem dX7_unparted_15 : decode cX7_unparted 15 = .ok (.ireturn, 1) := by decide +kernel
theorem dX7_unparted_16 : decode cX7_unparted 16 = .ok (.iconst 0, 1) := by decide +kernel
theorem dX7_unparted_17 : decode cX7_unparted 17 = .ok (.istore_n 1, 1) := by decide +kernel
theorem dX7_unparted_18 : decode cX7_unparted 18 = .ok (.iconst 0, 1) := by decide +kernel
theorem dX7_unparted_19 : decode cX7_unparted 19 = .ok (.istore_n 2, 1) := by decide +kernel
theorem dX7_unparted_20 : decode cX7_unparted 20 = .ok (.iload_n 2, 1) := by decide +kernel
theorem dX7_unparted_21 : decode cX7_unparted 21 = .ok (.aload_n 0, 1) := by decide +kernel
theorem dX7_unparted_22 : decode cX7_unparted 22 = .ok (.invokevirtual 212, 3) := by decide +kernel
theorem dX7_unparted_25 : decode cX7_unparted 25 = .ok (.if_icmp .gt 34, 3) := by decide +kernel
theorem dX7_unparted_28 : decode cX7_unparted 28 = .ok (.iload_n 1, 1) := by decide +kernel
theorem dX7_unparted_29 : decode cX7_unparted 29 = .ok (.aload_n 0, 1) := by decide +kernel
theorem dX7_unparted_30 : decode cX7_unparted 30 = .ok (.iload_n 2, 1) := by decide +kernel
theorem dX7_unparted_31 : decode cX7_unparted 31 = .ok (.invokevirtual 237, 3) := by decide +kernel
theorem dX7_unparted_34 : decode cX7_unparted 34 = .ok (.ifCond .eq 16, 3) := by decide +kernel
theorem dX7_unparted_37 : decode cX7_unparted 37 = .ok (.aload_n 0, 1) := by decide +kernel
theorem dX7_unparted_38 : decode cX7_unparted 38 = .ok (.iload_n 2, 1) := by decide +kernel
theorem dX7_unparted_39 : decode cX7_unparted 39 = .ok (.invokevirtual 289, 3) := by decide +kernel
theorem dX7_unparted_42 : decode cX7_unparted 42 = .ok (.iconst 1, 1) := by decide +kernel
theorem dX7_unparted_43 : decode cX7_unparted 43 = .ok (.if_icmp .eq 7, 3) := by decide +kernel
theorem dX7_unparted_46 : decode cX7_unparted 46 = .ok (.iconst 1, 1) := by decide +kernel
theorem dX7_unparted_47 : decode cX7_unparted 47 = .ok (.goto 4, 3) := by decide +kernel
theorem dX7_unparted_50 : decode cX7_unparted 50 = .ok (.iconst 0, 1) := by decide +kernel
theorem dX7_unparted_51 : decode cX7_unparted 51 = .ok (.iadd, 1) := by decide +kernel
theorem dX7_unparted_52 : decode cX7_unparted 52 = .ok (.istore_n 1, 1) := by decide +kernel
theorem dX7_unparted_53 : decode cX7_unparted 53 = .ok (.iinc 2 1, 3) := by decide +kernel
theorem dX7_unparted_56 : decode cX7_unparted 56 = .ok (.goto (-36), 3) := by decide +kernel
theorem dX7_unparted_59 : decode cX7_unparted 59 = .ok (.iload_n 1, 1) := by decide +kernel
theorem dX7_unparted_60 : decode cX7_unparted 60 = .ok (.ireturn, 1) := by decide +kernel
theorem dX7_rebuilt_0 : decode cX7_rebuilt 0 = .ok (.aload_n 0, 1) := by decide +kernel
theorem dX7_rebuilt_1 : decode cX7_rebuilt 1 = .ok (.iload_n 1, 1) := by decide +kernel
theorem dX7_rebuilt_2 : decode cX7_rebuilt 2 = .ok (.invokevirtual 240, 3) := by decide +kernel
theorem dX7_rebuilt_5 : decode cX7_rebuilt 5 = .ok (.ifCond .ne 5, 3) := by decide +kernel
theorem dX7_rebuilt_8 : decode cX7_rebuilt 8 = .ok (.iconst (-1), 1) := by decide +kernel
theorem dX7_rebuilt_9 : decode cX7_rebuilt 9 = .ok (.ireturn, 1) := by decide +kernel
theorem dX7_rebuilt_10 : decode cX7_rebuilt 10 = .ok (.iconst 0, 1) := by decide +kernel
theorem dX7_rebuilt_11 : decode cX7_rebuilt 11 = .ok (.istore_n 2, 1) := by decide +kernel
theorem dX7_rebuilt_12 : decode cX7_rebuilt 12 = .ok (.iconst 0, 1) := by decide +kernel
theorem dX7_rebuilt_13 : decode cX7_rebuilt 13 = .ok (.istore_n 3, 1) := by decide +kernel
theorem dX7_rebuilt_14 : decode cX7_rebuilt 14 = .ok (.iload_n 3, 1) := by decide +kernel
theorem dX7_rebuilt_15 : decode cX7_rebuilt 15 = .ok (.aload_n 0, 1) := by decide +kernel
theorem dX7_rebuilt_16 : decode cX7_rebuilt 16 = .ok (.getfield 176, 3) := by decide +kernel
theorem dX7_rebuilt_19 : decode cX7_rebuilt 19 = .ok (.if_icmp .ge 46, 3) := by decide +kernel
theorem dX7_rebuilt_22 : decode cX7_rebuilt 22 = .ok (.aload_n 0, 1) := by decide +kernel
theorem dX7_rebuilt_23 : decode cX7_rebuilt 23 = .ok (.iload_n 3, 1) := by decide +kernel
theorem dX7_rebuilt_24 : decode cX7_rebuilt 24 = .ok (.invokevirtual 269, 3) := by decide +kernel
theorem dX7_rebuilt_27 : decode cX7_rebuilt 27 = .ok (.invokestatic 136, 3) := by decide +kernel
theorem dX7_rebuilt_30 : decode cX7_rebuilt 30 = .ok (.istore 4, 2) := by decide +kernel
theorem dX7_rebuilt_32 : decode cX7_rebuilt 32 = .ok (.iload_n 2, 1) := by decide +kernel
theorem dX7_rebuilt_33 : decode cX7_rebuilt 33 = .ok (.iload 4, 2) := by decide +kernel
theorem dX7_rebuilt_35 : decode cX7_rebuilt 35 = .ok (.iload_n 1, 1) := by decide +kernel
theorem dX7_rebuilt_36 : decode cX7_rebuilt 36 = .ok (.if_icmp .gt 20, 3) := by decide +kernel
theorem dX7_rebuilt_39 : decode cX7_rebuilt 39 = .ok (.aload_n 0, 1) := by decide +kernel
theorem dX7_rebuilt_40 : decode cX7_rebuilt 40 = .ok (.getfield 173, 3) := by decide +kernel
theorem dX7_rebuilt_43 : decode cX7_rebuilt 43 = .ok (.iload 4, 2) := by decide +kernel
theorem dX7_rebuilt_45 : decode cX7_rebuilt 45 = .ok (.isub, 1) := by decide +kernel
theorem dX7_rebuilt_46 : decode cX7_rebuilt 46 = .ok (.iload_n 1, 1) := by decide +kernel
theorem dX7_rebuilt_47 : decode cX7_rebuilt 47 = .ok (.iload 4, 2) := by decide +kernel
theorem dX7_rebuilt_49 : decode cX7_rebuilt 49 = .ok (.isub, 1) := by decide +kernel
theorem dX7_rebuilt_50 : decode cX7_rebuilt 50 = .ok (.invokestatic 246, 3) := by decide +kernel
theorem dX7_rebuilt_53 : decode cX7_rebuilt 53 = .ok (.goto 4, 3) := by decide +kernel
theorem dX7_rebuilt_56 : decode cX7_rebuilt 56 = .ok (.iconst 0, 1) := by decide +kernel
theorem dX7_rebuilt_57 : decode cX7_rebuilt 57 = .ok (.iadd, 1) := by decide +kernel
theorem dX7_rebuilt_58 : decode cX7_rebuilt 58 = .ok (.istore_n 2, 1) := by decide +kernel
theorem dX7_rebuilt_59 : decode cX7_rebuilt 59 = .ok (.iinc 3 1, 3) := by decide +kernel
theorem dX7_rebuilt_62 : decode cX7_rebuilt 62 = .ok (.goto (-48), 3) := by decide +kernel
theorem dX7_rebuilt_65 : decode cX7_rebuilt 65 = .ok (.iload_n 2, 1) := by decide +kernel
theorem dX7_rebuilt_66 : decode cX7_rebuilt 66 = .ok (.ireturn, 1) := by decide +kernel
theorem dX7_changes_0 : decode cX7_changes 0 = .ok (.aload_n 0, 1) := by decide +kernel
theorem dX7_changes_1 : decode cX7_changes 1 = .ok (.getfield 20, 3) := by decide +kernel
theorem dX7_changes_4 : decode cX7_changes 4 = .ok (.iload_n 1, 1) := by decide +kernel
theorem dX7_changes_5 : decode cX7_changes 5 = .ok (.iaload, 1) := by decide +kernel
theorem dX7_changes_6 : decode cX7_changes 6 = .ok (.istore_n 2, 1) := by decide +kernel
theorem dX7_changes_7 : decode cX7_changes 7 = .ok (.aload_n 0, 1) := by decide +kernel
theorem dX7_changes_8 : decode cX7_changes 8 = .ok (.getfield 20, 3) := by decide +kernel
theorem dX7_changes_11 : decode cX7_changes 11 = .ok (.iload_n 1, 1) := by decide +kernel
theorem dX7_changes_12 : decode cX7_changes 12 = .ok (.aload_n 0, 1) := by decide +kernel
theorem dX7_changes_13 : decode cX7_changes 13 = .ok (.getfield 20, 3) := by decide +kernel
theorem dX7_changes_16 : decode cX7_changes 16 = .ok (.iload_n 1, 1) := by decide +kernel
theorem dX7_changes_17 : decode cX7_changes 17 = .ok (.iconst 1, 1) := by decide +kernel
theorem dX7_changes_18 : decode cX7_changes 18 = .ok (.iadd, 1) := by decide +kernel
theorem dX7_changes_19 : decode cX7_changes 19 = .ok (.iaload, 1) := by decide +kernel
theorem dX7_changes_20 : decode cX7_changes 20 = .ok (.iastore, 1) := by decide +kernel
theorem dX7_changes_21 : decode cX7_changes 21 = .ok (.aload_n 0, 1) := by decide +kernel
theorem dX7_changes_22 : decode cX7_changes 22 = .ok (.getfield 20, 3) := by decide +kernel
theorem dX7_changes_25 : decode cX7_changes 25 = .ok (.iload_n 1, 1) := by decide +kernel
theorem dX7_changes_26 : decode cX7_changes 26 = .ok (.iconst 1, 1) := by decide +kernel
theorem dX7_changes_27 : decode cX7_changes 27 = .ok (.iadd, 1) := by decide +kernel
theorem dX7_changes_28 : decode cX7_changes 28 = .ok (.iload_n 2, 1) := by decide +kernel
theorem dX7_changes_29 : decode cX7_changes 29 = .ok (.iastore, 1) := by decide +kernel
theorem dX7_changes_30 : decode cX7_changes 30 = .ok (.return_, 1) := by decide +kernel
theorem dX7_swaps_0 : decode cX7_swaps 0 = .ok (.aload_n 0, 1) := by decide +kernel
theorem dX7_swaps_1 : decode cX7_swaps 1 = .ok (.aload_n 0, 1) := by decide +kernel
theorem dX7_swaps_2 : decode cX7_swaps 2 = .ok (.getfield 179, 3) := by decide +kernel
theorem dX7_swaps_5 : decode cX7_swaps 5 = .ok (.invokestatic 199, 3) := by decide +kernel
theorem dX7_swaps_8 : decode cX7_swaps 8 = .ok (.invokevirtual 159, 3) := by decide +kernel
theorem dX7_swaps_11 : decode cX7_swaps 11 = .ok (.ifCond .eq 5, 3) := by decide +kernel
theorem dX7_swaps_14 : decode cX7_swaps 14 = .ok (.iconst (-1), 1) := by decide +kernel
theorem dX7_swaps_15 : decode cX7_swaps 15 = .ok (.ireturn, 1) := by decide +kernel
theorem dX7_swaps_16 : decode cX7_swaps 16 = .ok (.iconst 0, 1) := by decide +kernel
theorem dX7_swaps_17 : decode cX7_swaps 17 = .ok (.istore_n 1, 1) := by decide +kernel
theorem dX7_swaps_18 : decode cX7_swaps 18 = .ok (.iconst 0, 1) := by decide +kernel
theorem dX7_swaps_19 : decode cX7_swaps 19 = .ok (.istore_n 2, 1) := by decide +kernel
theorem dX7_swaps_20 : decode cX7_swaps 20 = .ok (.iload_n 2, 1) := by decide +kernel
theorem dX7_swaps_21 : decode cX7_swaps 21 = .ok (.iconst 1, 1) := by decide +kernel
theorem dX7_swaps_22 : decode cX7_swaps 22 = .ok (.iadd, 1) := by decide +kernel
theorem dX7_swaps_23 : decode cX7_swaps 23 = .ok (.aload_n 0, 1) := by decide +kernel
theorem dX7_swaps_24 : decode cX7_swaps 24 = .ok (.getfield 176, 3) := by decide +kernel
theorem dX7_swaps_27 : decode cX7_swaps 27 = .ok (.if_icmp .ge 40, 3) := by decide +kernel
theorem dX7_swaps_30 : decode cX7_swaps 30 = .ok (.aload_n 0, 1) := by decide +kernel
theorem dX7_swaps_31 : decode cX7_swaps 31 = .ok (.iload_n 2, 1) := by decide +kernel
theorem dX7_swaps_32 : decode cX7_swaps 32 = .ok (.invokevirtual 292, 3) := by decide +kernel
theorem dX7_swaps_35 : decode cX7_swaps 35 = .ok (.iload_n 1, 1) := by decide +kernel
theorem dX7_swaps_36 : decode cX7_swaps 36 = .ok (.aload_n 0, 1) := by decide +kernel
theorem dX7_swaps_37 : decode cX7_swaps 37 = .ok (.invokevirtual 272, 3) := by decide +kernel
theorem dX7_swaps_40 : decode cX7_swaps 40 = .ok (.aload_n 0, 1) := by decide +kernel
theorem dX7_swaps_41 : decode cX7_swaps 41 = .ok (.getfield 176, 3) := by decide +kernel
theorem dX7_swaps_44 : decode cX7_swaps 44 = .ok (.if_icmp .ne 9, 3) := by decide +kernel
theorem dX7_swaps_47 : decode cX7_swaps 47 = .ok (.iconst 1, 1) := by decide +kernel
theorem dX7_swaps_48 : decode cX7_swaps 48 = .ok (.iload_n 2, 1) := by decide +kernel
theorem dX7_swaps_49 : decode cX7_swaps 49 = .ok (.ishl, 1) := by decide +kernel
theorem dX7_swaps_50 : decode cX7_swaps 50 = .ok (.goto 4, 3) := by decide +kernel
theorem dX7_swaps_53 : decode cX7_swaps 53 = .ok (.iconst 0, 1) := by decide +kernel
theorem dX7_swaps_54 : decode cX7_swaps 54 = .ok (.ior, 1) := by decide +kernel
theorem dX7_swaps_55 : decode cX7_swaps 55 = .ok (.istore_n 1, 1) := by decide +kernel
theorem dX7_swaps_56 : decode cX7_swaps 56 = .ok (.aload_n 0, 1) := by decide +kernel
theorem dX7_swaps_57 : decode cX7_swaps 57 = .ok (.iload_n 2, 1) := by decide +kernel
theorem dX7_swaps_58 : decode cX7_swaps 58 = .ok (.invokevirtual 292, 3) := by decide +kernel
theorem dX7_swaps_61 : decode cX7_swaps 61 = .ok (.iinc 2 1, 3) := by decide +kernel
theorem dX7_swaps_64 : decode cX7_swaps 64 = .ok (.goto (-44), 3) := by decide +kernel
theorem dX7_swaps_67 : decode cX7_swaps 67 = .ok (.iload_n 1, 1) := by decide +kernel
theorem dX7_swaps_68 : decode cX7_swaps 68 = .ok (.ireturn, 1) := by decide +kernel
theorem dX7_isLeap_0 : decode cX7_isLeap 0 = .ok (.iconst 0, 1) := by decide +kernel
theorem dX7_isLeap_1 : decode cX7_isLeap 1 = .ok (.istore_n 3, 1) := by decide +kernel
theorem dX7_isLeap_2 : decode cX7_isLeap 2 = .ok (.iload_n 3, 1) := by decide +kernel
theorem dX7_isLeap_3 : decode cX7_isLeap 3 = .ok (.iload_n 1, 1) := by decide +kernel
theorem dX7_isLeap_4 : decode cX7_isLeap 4 = .ok (.if_icmp .ge 40, 3) := by decide +kernel
theorem dX7_isLeap_7 : decode cX7_isLeap 7 = .ok (.aload_n 0, 1) := by decide +kernel
theorem dX7_isLeap_8 : decode cX7_isLeap 8 = .ok (.getfield 17, 3) := by decide +kernel
theorem dX7_isLeap_11 : decode cX7_isLeap 11 = .ok (.aload_n 0, 1) := by decide +kernel
theorem dX7_isLeap_12 : decode cX7_isLeap 12 = .ok (.getfield 20, 3) := by decide +kernel
theorem dX7_isLeap_15 : decode cX7_isLeap 15 = .ok (.iload_n 1, 1) := by decide +kernel
theorem dX7_isLeap_16 : decode cX7_isLeap 16 = .ok (.iaload, 1) := by decide +kernel
theorem dX7_isLeap_17 : decode cX7_isLeap 17 = .ok (.iaload, 1) := by decide +kernel
theorem dX7_isLeap_18 : decode cX7_isLeap 18 = .ok (.aload_n 0, 1) := by decide +kernel
theorem dX7_isLeap_19 : decode cX7_isLeap 19 = .ok (.getfield 17, 3) := by decide +kernel
theorem dX7_isLeap_22 : decode cX7_isLeap 22 = .ok (.aload_n 0, 1) := by decide +kernel
theorem dX7_isLeap_23 : decode cX7_isLeap 23 = .ok (.getfield 20, 3) := by decide +kernel
theorem dX7_isLeap_26 : decode cX7_isLeap 26 = .ok (.iload_n 3, 1) := by decide +kernel
theorem dX7_isLeap_27 : decode cX7_isLeap 27 = .ok (.iaload, 1) := by decide +kernel
theorem dX7_isLeap_28 : decode cX7_isLeap 28 = .ok (.iaload, 1) := by decide +kernel
theorem dX7_isLeap_29 : decode cX7_isLeap 29 = .ok (.iconst (-1), 1) := by decide +kernel
theorem dX7_isLeap_30 : decode cX7_isLeap 30 = .ok (.ixor, 1) := by decide +kernel
theorem dX7_isLeap_31 : decode cX7_isLeap 31 = .ok (.iand, 1) := by decide +kernel
theorem dX7_isLeap_32 : decode cX7_isLeap 32 = .ok (.iload_n 2, 1) := by decide +kernel
theorem dX7_isLeap_33 : decode cX7_isLeap 33 = .ok (.if_icmp .ne 5, 3) := by decide +kernel
theorem dX7_isLeap_36 : decode cX7_isLeap 36 = .ok (.iconst 1, 1) := by decide +kernel
theorem dX7_isLeap_37 : decode cX7_isLeap 37 = .ok (.ireturn, 1) := by decide +kernel
theorem dX7_isLeap_38 : decode cX7_isLeap 38 = .ok (.iinc 3 1, 3) := by decide +kernel
theorem dX7_isLeap_41 : decode cX7_isLeap 41 = .ok (.goto (-39), 3) := by decide +kernel
theorem dX7_isLeap_44 : decode cX7_isLeap 44 = .ok (.iconst 0, 1) := by decide +kernel
theorem dX7_isLeap_45 : decode cX7_isLeap 45 = .ok (.ireturn, 1) := by decide +kernel
theorem dX7_isLeastLeap_0 : decode cX7_isLeastLeap 0 = .ok (.aload_n 0, 1) := by decide +kernel
theorem dX7_isLeastLeap_1 : decode cX7_isLeastLeap 1 = .ok (.iload_n 1, 1) := by decide +kernel
theorem dX7_isLeastLeap_2 : decode cX7_isLeastLeap 2 = .ok (.iload_n 2, 1) := by decide +kernel
theorem dX7_isLeastLeap_3 : decode cX7_isLeastLeap 3 = .ok (.invokevirtual 295, 3) := by decide +kernel
theorem dX7_isLeastLeap_6 : decode cX7_isLeastLeap 6 = .ok (.ifCond .ne 5, 3) := by decide +kernel
theorem dX7_isLeastLeap_9 : decode cX7_isLeastLeap 9 = .ok (.iconst 0, 1) := by decide +kernel
theorem dX7_isLeastLeap_10 : decode cX7_isLeastLeap 10 = .ok (.ireturn, 1) := by decide +kernel
theorem dX7_isLeastLeap_11 : decode cX7_isLeastLeap 11 = .ok (.iconst 0, 1) := by decide +kernel
theorem dX7_isLeastLeap_12 : decode cX7_isLeastLeap 12 = .ok (.istore_n 3, 1) := by decide +kernel
theorem dX7_isLeastLeap_13 : decode cX7_isLeastLeap 13 = .ok (.iload_n 3, 1) := by decide +kernel
theorem dX7_isLeastLeap_14 : decode cX7_isLeastLeap 14 = .ok (.iload_n 2, 1) := by decide +kernel
theorem dX7_isLeastLeap_15 : decode cX7_isLeastLeap 15 = .ok (.if_icmp .ge 28, 3) := by decide +kernel
theorem dX7_isLeastLeap_18 : decode cX7_isLeastLeap 18 = .ok (.iload_n 3, 1) := by decide +kernel
theorem dX7_isLeastLeap_19 : decode cX7_isLeastLeap 19 = .ok (.iload_n 2, 1) := by decide +kernel
theorem dX7_isLeastLeap_20 : decode cX7_isLeastLeap 20 = .ok (.invokestatic 183, 3) := by decide +kernel
theorem dX7_isLeastLeap_23 : decode cX7_isLeastLeap 23 = .ok (.ifCond .eq 14, 3) := by decide +kernel
theorem dX7_isLeastLeap_26 : decode cX7_isLeastLeap 26 = .ok (.aload_n 0, 1) := by decide +kernel
theorem dX7_isLeastLeap_27 : decode cX7_isLeastLeap 27 = .ok (.iload_n 1, 1) := by decide +kernel
theorem dX7_isLeastLeap_28 : decode cX7_isLeastLeap 28 = .ok (.iload_n 3, 1) := by decide +kernel
theorem dX7_isLeastLeap_29 : decode cX7_isLeastLeap 29 = .ok (.invokevirtual 295, 3) := by decide +kernel
theorem dX7_isLeastLeap_32 : decode cX7_isLeastLeap 32 = .ok (.ifCond .eq 5, 3) := by decide +kernel
theorem dX7_isLeastLeap_35 : decode cX7_isLeastLeap 35 = .ok (.iconst 0, 1) := by decide +kernel
theorem dX7_isLeastLeap_36 : decode cX7_isLeastLeap 36 = .ok (.ireturn, 1) := by decide +kernel
theorem dX7_isLeastLeap_37 : decode cX7_isLeastLeap 37 = .ok (.iinc 3 1, 3) := by decide +kernel
theorem dX7_isLeastLeap_40 : decode cX7_isLeastLeap 40 = .ok (.goto (-27), 3) := by decide +kernel
theorem dX7_isLeastLeap_43 : decode cX7_isLeastLeap 43 = .ok (.iconst 1, 1) := by decide +kernel
theorem dX7_isLeastLeap_44 : decode cX7_isLeastLeap 44 = .ok (.ireturn, 1) := by decide +kernel
theorem dX7_leaps_0 : decode cX7_leaps 0 = .ok (.aload_n 0, 1) := by decide +kernel
theorem dX7_leaps_1 : decode cX7_leaps 1 = .ok (.aload_n 0, 1) := by decide +kernel
theorem dX7_leaps_2 : decode cX7_leaps 2 = .ok (.iload_n 1, 1) := by decide +kernel
theorem dX7_leaps_3 : decode cX7_leaps 3 = .ok (.invokevirtual 231, 3) := by decide +kernel
theorem dX7_leaps_6 : decode cX7_leaps 6 = .ok (.invokestatic 199, 3) := by decide +kernel
theorem dX7_leaps_9 : decode cX7_leaps 9 = .ok (.invokevirtual 159, 3) := by decide +kernel
theorem dX7_leaps_12 : decode cX7_leaps 12 = .ok (.ifCond .eq 5, 3) := by decide +kernel
theorem dX7_leaps_15 : decode cX7_leaps 15 = .ok (.iconst (-1), 1) := by decide +kernel
theorem dX7_leaps_16 : decode cX7_leaps 16 = .ok (.ireturn, 1) := by decide +kernel
theorem dX7_leaps_17 : decode cX7_leaps 17 = .ok (.iconst 0, 1) := by decide +kernel
theorem dX7_leaps_18 : decode cX7_leaps 18 = .ok (.istore_n 2, 1) := by decide +kernel
theorem dX7_leaps_19 : decode cX7_leaps 19 = .ok (.iconst 0, 1) := by decide +kernel
theorem dX7_leaps_20 : decode cX7_leaps 20 = .ok (.istore_n 3, 1) := by decide +kernel
theorem dX7_leaps_21 : decode cX7_leaps 21 = .ok (.iload_n 3, 1) := by decide +kernel
theorem dX7_leaps_22 : decode cX7_leaps 22 = .ok (.aload_n 0, 1) := by decide +kernel
theorem dX7_leaps_23 : decode cX7_leaps 23 = .ok (.invokevirtual 212, 3) := by decide +kernel
theorem dX7_leaps_26 : decode cX7_leaps 26 = .ok (.if_icmp .gt 26, 3) := by decide +kernel
theorem dX7_leaps_29 : decode cX7_leaps 29 = .ok (.iload_n 2, 1) := by decide +kernel
theorem dX7_leaps_30 : decode cX7_leaps 30 = .ok (.aload_n 0, 1) := by decide +kernel
theorem dX7_leaps_31 : decode cX7_leaps 31 = .ok (.iload_n 1, 1) := by decide +kernel
theorem dX7_leaps_32 : decode cX7_leaps 32 = .ok (.iload_n 3, 1) := by decide +kernel
theorem dX7_leaps_33 : decode cX7_leaps 33 = .ok (.invokevirtual 298, 3) := by decide +kernel
theorem dX7_leaps_36 : decode cX7_leaps 36 = .ok (.ifCond .eq 7, 3) := by decide +kernel
theorem dX7_leaps_39 : decode cX7_leaps 39 = .ok (.iconst 1, 1) := by decide +kernel
theorem dX7_leaps_40 : decode cX7_leaps 40 = .ok (.goto 4, 3) := by decide +kernel
theorem dX7_leaps_43 : decode cX7_leaps 43 = .ok (.iconst 0, 1) := by decide +kernel
theorem dX7_leaps_44 : decode cX7_leaps 44 = .ok (.iadd, 1) := by decide +kernel
theorem dX7_leaps_45 : decode cX7_leaps 45 = .ok (.istore_n 2, 1) := by decide +kernel
theorem dX7_leaps_46 : decode cX7_leaps 46 = .ok (.iinc 3 1, 3) := by decide +kernel
theorem dX7_leaps_49 : decode cX7_leaps 49 = .ok (.goto (-28), 3) := by decide +kernel
theorem dX7_leaps_52 : decode cX7_leaps 52 = .ok (.iload_n 2, 1) := by decide +kernel
theorem dX7_leaps_53 : decode cX7_leaps 53 = .ok (.ireturn, 1) := by decide +kernel
theorem dX7_leap_0 : decode cX7_leap 0 = .ok (.aload_n 0, 1) := by decide +kernel
theorem dX7_leap_1 : decode cX7_leap 1 = .ok (.aload_n 0, 1) := by decide +kernel
theorem dX7_leap_2 : decode cX7_leap 2 = .ok (.iload_n 1, 1) := by decide +kernel
theorem dX7_leap_3 : decode cX7_leap 3 = .ok (.invokevirtual 231, 3) := by decide +kernel
theorem dX7_leap_6 : decode cX7_leap 6 = .ok (.invokestatic 199, 3) := by decide +kernel
theorem dX7_leap_9 : decode cX7_leap 9 = .ok (.invokevirtual 159, 3) := by decide +kernel
theorem dX7_leap_12 : decode cX7_leap 12 = .ok (.ifCond .eq 5, 3) := by decide +kernel
theorem dX7_leap_15 : decode cX7_leap 15 = .ok (.iconst (-1), 1) := by decide +kernel
theorem dX7_leap_16 : decode cX7_leap 16 = .ok (.ireturn, 1) := by decide +kernel
theorem dX7_leap_17 : decode cX7_leap 17 = .ok (.iconst 0, 1) := by decide +kernel
theorem dX7_leap_18 : decode cX7_leap 18 = .ok (.istore_n 3, 1) := by decide +kernel
theorem dX7_leap_19 : decode cX7_leap 19 = .ok (.iconst 0, 1) := by decide +kernel
theorem dX7_leap_20 : decode cX7_leap 20 = .ok (.istore 4, 2) := by decide +kernel
theorem dX7_leap_22 : decode cX7_leap 22 = .ok (.iload 4, 2) := by decide +kernel
theorem dX7_leap_24 : decode cX7_leap 24 = .ok (.aload_n 0, 1) := by decide +kernel
theorem dX7_leap_25 : decode cX7_leap 25 = .ok (.invokevirtual 212, 3) := by decide +kernel
theorem dX7_leap_28 : decode cX7_leap 28 = .ok (.if_icmp .gt 30, 3) := by decide +kernel
theorem dX7_leap_31 : decode cX7_leap 31 = .ok (.aload_n 0, 1) := by decide +kernel
theorem dX7_leap_32 : decode cX7_leap 32 = .ok (.iload_n 1, 1) := by decide +kernel
theorem dX7_leap_33 : decode cX7_leap 33 = .ok (.iload 4, 2) := by decide +kernel
theorem dX7_leap_35 : decode cX7_leap 35 = .ok (.invokevirtual 298, 3) := by decide +kernel
theorem dX7_leap_38 : decode cX7_leap 38 = .ok (.ifCond .eq 14, 3) := by decide +kernel
theorem dX7_leap_41 : decode cX7_leap 41 = .ok (.iload_n 3, 1) := by decide +kernel
theorem dX7_leap_42 : decode cX7_leap 42 = .ok (.iload_n 2, 1) := by decide +kernel
theorem dX7_leap_43 : decode cX7_leap 43 = .ok (.if_icmp .ne 6, 3) := by decide +kernel
theorem dX7_leap_46 : decode cX7_leap 46 = .ok (.iload 4, 2) := by decide +kernel
theorem dX7_leap_48 : decode cX7_leap 48 = .ok (.ireturn, 1) := by decide +kernel
theorem dX7_leap_49 : decode cX7_leap 49 = .ok (.iinc 3 1, 3) := by decide +kernel
theorem dX7_leap_52 : decode cX7_leap 52 = .ok (.iinc 4 1, 3) := by decide +kernel
theorem dX7_leap_55 : decode cX7_leap 55 = .ok (.goto (-33), 3) := by decide +kernel
theorem dX7_leap_58 : decode cX7_leap 58 = .ok (.aload_n 0, 1) := by decide +kernel
theorem dX7_leap_59 : decode cX7_leap 59 = .ok (.iconst 1, 1) := by decide +kernel
theorem dX7_leap_60 : decode cX7_leap 60 = .ok (.invokevirtual 168, 3) := by decide +kernel
theorem dX7_leap_63 : decode cX7_leap 63 = .ok (.ireturn, 1) := by decide +kernel
theorem dX7_linear_0 : decode cX7_linear 0 = .ok (.aload_n 0, 1) := by decide +kernel
theorem dX7_linear_1 : decode cX7_linear 1 = .ok (.aload_n 0, 1) := by decide +kernel
theorem dX7_linear_2 : decode cX7_linear 2 = .ok (.getfield 179, 3) := by decide +kernel
theorem dX7_linear_5 : decode cX7_linear 5 = .ok (.invokestatic 199, 3) := by decide +kernel
theorem dX7_linear_8 : decode cX7_linear 8 = .ok (.invokevirtual 159, 3) := by decide +kernel
theorem dX7_linear_11 : decode cX7_linear 11 = .ok (.ifCond .eq 5, 3) := by decide +kernel
theorem dX7_linear_14 : decode cX7_linear 14 = .ok (.iconst (-1), 1) := by decide +kernel
theorem dX7_linear_15 : decode cX7_linear 15 = .ok (.ireturn, 1) := by decide +kernel
theorem dX7_linear_16 : decode cX7_linear 16 = .ok (.iconst 0, 1) := by decide +kernel
theorem dX7_linear_17 : decode cX7_linear 17 = .ok (.istore_n 1, 1) := by decide +kernel
theorem dX7_linear_18 : decode cX7_linear 18 = .ok (.iload_n 1, 1) := by decide +kernel
theorem dX7_linear_19 : decode cX7_linear 19 = .ok (.aload_n 0, 1) := by decide +kernel
theorem dX7_linear_20 : decode cX7_linear 20 = .ok (.getfield 176, 3) := by decide +kernel
theorem dX7_linear_23 : decode cX7_linear 23 = .ok (.if_icmp .ge 44, 3) := by decide +kernel
theorem dX7_linear_26 : decode cX7_linear 26 = .ok (.iconst 0, 1) := by decide +kernel
theorem dX7_linear_27 : decode cX7_linear 27 = .ok (.istore_n 2, 1) := by decide +kernel
theorem dX7_linear_28 : decode cX7_linear 28 = .ok (.iload_n 2, 1) := by decide +kernel
theorem dX7_linear_29 : decode cX7_linear 29 = .ok (.aload_n 0, 1) := by decide +kernel
theorem dX7_linear_30 : decode cX7_linear 30 = .ok (.invokevirtual 212, 3) := by decide +kernel
theorem dX7_linear_33 : decode cX7_linear 33 = .ok (.if_icmp .gt 28, 3) := by decide +kernel
theorem dX7_linear_36 : decode cX7_linear 36 = .ok (.iload_n 2, 1) := by decide +kernel
theorem dX7_linear_37 : decode cX7_linear 37 = .ok (.invokestatic 136, 3) := by decide +kernel
theorem dX7_linear_40 : decode cX7_linear 40 = .ok (.iconst 1, 1) := by decide +kernel
theorem dX7_linear_41 : decode cX7_linear 41 = .ok (.if_icmp .eq 14, 3) := by decide +kernel
theorem dX7_linear_44 : decode cX7_linear 44 = .ok (.aload_n 0, 1) := by decide +kernel
theorem dX7_linear_45 : decode cX7_linear 45 = .ok (.iload_n 1, 1) := by decide +kernel
theorem dX7_linear_46 : decode cX7_linear 46 = .ok (.iload_n 2, 1) := by decide +kernel
theorem dX7_linear_47 : decode cX7_linear 47 = .ok (.invokevirtual 298, 3) := by decide +kernel
theorem dX7_linear_50 : decode cX7_linear 50 = .ok (.ifCond .eq 5, 3) := by decide +kernel
theorem dX7_linear_53 : decode cX7_linear 53 = .ok (.iconst 0, 1) := by decide +kernel
theorem dX7_linear_54 : decode cX7_linear 54 = .ok (.ireturn, 1) := by decide +kernel
theorem dX7_linear_55 : decode cX7_linear 55 = .ok (.iinc 2 1, 3) := by decide +kernel
theorem dX7_linear_58 : decode cX7_linear 58 = .ok (.goto (-30), 3) := by decide +kernel
theorem dX7_linear_61 : decode cX7_linear 61 = .ok (.iinc 1 1, 3) := by decide +kernel
theorem dX7_linear_64 : decode cX7_linear 64 = .ok (.goto (-46), 3) := by decide +kernel
theorem dX7_linear_67 : decode cX7_linear 67 = .ok (.iconst 1, 1) := by decide +kernel
theorem dX7_linear_68 : decode cX7_linear 68 = .ok (.ireturn, 1) := by decide +kernel
theorem dX7_laysWays_0 : decode cX7_laysWays 0 = .ok (.iconst 1, 1) := by decide +kernel
theorem dX7_laysWays_1 : decode cX7_laysWays 1 = .ok (.iload_n 2, 1) := by decide +kernel
theorem dX7_laysWays_2 : decode cX7_laysWays 2 = .ok (.ishl, 1) := by decide +kernel
theorem dX7_laysWays_3 : decode cX7_laysWays 3 = .ok (.iconst 1, 1) := by decide +kernel
theorem dX7_laysWays_4 : decode cX7_laysWays 4 = .ok (.isub, 1) := by decide +kernel
theorem dX7_laysWays_5 : decode cX7_laysWays 5 = .ok (.istore_n 3, 1) := by decide +kernel
theorem dX7_laysWays_6 : decode cX7_laysWays 6 = .ok (.iconst 0, 1) := by decide +kernel
theorem dX7_laysWays_7 : decode cX7_laysWays 7 = .ok (.istore 4, 2) := by decide +kernel
theorem dX7_laysWays_9 : decode cX7_laysWays 9 = .ok (.iload 4, 2) := by decide +kernel
theorem dX7_laysWays_11 : decode cX7_laysWays 11 = .ok (.iload_n 3, 1) := by decide +kernel
theorem dX7_laysWays_12 : decode cX7_laysWays 12 = .ok (.if_icmp .gt 104, 3) := by decide +kernel
theorem dX7_laysWays_15 : decode cX7_laysWays 15 = .ok (.aload_n 0, 1) := by decide +kernel
theorem dX7_laysWays_16 : decode cX7_laysWays 16 = .ok (.getfield 43, 3) := by decide +kernel
theorem dX7_laysWays_19 : decode cX7_laysWays 19 = .ok (.iload 4, 2) := by decide +kernel
theorem dX7_laysWays_21 : decode cX7_laysWays 21 = .ok (.iload 4, 2) := by decide +kernel
theorem dX7_laysWays_23 : decode cX7_laysWays 23 = .ok (.ifCond .ne 7, 3) := by decide +kernel
theorem dX7_laysWays_26 : decode cX7_laysWays 26 = .ok (.iconst 1, 1) := by decide +kernel
theorem dX7_laysWays_27 : decode cX7_laysWays 27 = .ok (.goto 4, 3) := by decide +kernel
theorem dX7_laysWays_30 : decode cX7_laysWays 30 = .ok (.iconst 0, 1) := by decide +kernel
theorem dX7_laysWays_31 : decode cX7_laysWays 31 = .ok (.iastore, 1) := by decide +kernel
theorem dX7_laysWays_32 : decode cX7_laysWays 32 = .ok (.iconst 0, 1) := by decide +kernel
theorem dX7_laysWays_33 : decode cX7_laysWays 33 = .ok (.istore 5, 2) := by decide +kernel
theorem dX7_laysWays_35 : decode cX7_laysWays 35 = .ok (.iload 5, 2) := by decide +kernel
theorem dX7_laysWays_37 : decode cX7_laysWays 37 = .ok (.iload_n 2, 1) := by decide +kernel
theorem dX7_laysWays_38 : decode cX7_laysWays 38 = .ok (.if_icmp .ge 72, 3) := by decide +kernel
theorem dX7_laysWays_41 : decode cX7_laysWays 41 = .ok (.iload 4, 2) := by decide +kernel
theorem dX7_laysWays_43 : decode cX7_laysWays 43 = .ok (.iconst 1, 1) := by decide +kernel
theorem dX7_laysWays_44 : decode cX7_laysWays 44 = .ok (.iload 5, 2) := by decide +kernel
theorem dX7_laysWays_46 : decode cX7_laysWays 46 = .ok (.ishl, 1) := by decide +kernel
theorem dX7_laysWays_47 : decode cX7_laysWays 47 = .ok (.iconst (-1), 1) := by decide +kernel
theorem dX7_laysWays_48 : decode cX7_laysWays 48 = .ok (.ixor, 1) := by decide +kernel
theorem dX7_laysWays_49 : decode cX7_laysWays 49 = .ok (.iand, 1) := by decide +kernel
theorem dX7_laysWays_50 : decode cX7_laysWays 50 = .ok (.istore 6, 2) := by decide +kernel
theorem dX7_laysWays_52 : decode cX7_laysWays 52 = .ok (.aload_n 0, 1) := by decide +kernel
theorem dX7_laysWays_53 : decode cX7_laysWays 53 = .ok (.getfield 43, 3) := by decide +kernel
theorem dX7_laysWays_56 : decode cX7_laysWays 56 = .ok (.iload 4, 2) := by decide +kernel
theorem dX7_laysWays_58 : decode cX7_laysWays 58 = .ok (.dup2, 1) := by decide +kernel
theorem dX7_laysWays_59 : decode cX7_laysWays 59 = .ok (.iaload, 1) := by decide +kernel
theorem dX7_laysWays_60 : decode cX7_laysWays 60 = .ok (.iload 4, 2) := by decide +kernel
theorem dX7_laysWays_62 : decode cX7_laysWays 62 = .ok (.iload 5, 2) := by decide +kernel
theorem dX7_laysWays_64 : decode cX7_laysWays 64 = .ok (.invokestatic 132, 3) := by decide +kernel
theorem dX7_laysWays_67 : decode cX7_laysWays 67 = .ok (.ifCond .eq 34, 3) := by decide +kernel
theorem dX7_laysWays_70 : decode cX7_laysWays 70 = .ok (.aload_n 0, 1) := by decide +kernel
theorem dX7_laysWays_71 : decode cX7_laysWays 71 = .ok (.getfield 43, 3) := by decide +kernel
theorem dX7_laysWays_74 : decode cX7_laysWays 74 = .ok (.iload 6, 2) := by decide +kernel
theorem dX7_laysWays_76 : decode cX7_laysWays 76 = .ok (.iaload, 1) := by decide +kernel
theorem dX7_laysWays_77 : decode cX7_laysWays 77 = .ok (.ifCond .le 24, 3) := by decide +kernel
theorem dX7_laysWays_80 : decode cX7_laysWays 80 = .ok (.aload_n 1, 1) := by decide +kernel
theorem dX7_laysWays_81 : decode cX7_laysWays 81 = .ok (.iload 5, 2) := by decide +kernel
theorem dX7_laysWays_83 : decode cX7_laysWays 83 = .ok (.iload 6, 2) := by decide +kernel
theorem dX7_laysWays_85 : decode cX7_laysWays 85 = .ok (.invokestatic 262, 3) := by decide +kernel
theorem dX7_laysWays_88 : decode cX7_laysWays 88 = .ok (.ifCond .eq 13, 3) := by decide +kernel
theorem dX7_laysWays_91 : decode cX7_laysWays 91 = .ok (.aload_n 0, 1) := by decide +kernel
theorem dX7_laysWays_92 : decode cX7_laysWays 92 = .ok (.getfield 43, 3) := by decide +kernel
theorem dX7_laysWays_95 : decode cX7_laysWays 95 = .ok (.iload 6, 2) := by decide +kernel
theorem dX7_laysWays_97 : decode cX7_laysWays 97 = .ok (.iaload, 1) := by decide +kernel
theorem dX7_laysWays_98 : decode cX7_laysWays 98 = .ok (.goto 4, 3) := by decide +kernel
theorem dX7_laysWays_101 : decode cX7_laysWays 101 = .ok (.iconst 0, 1) := by decide +kernel
theorem dX7_laysWays_102 : decode cX7_laysWays 102 = .ok (.iadd, 1) := by decide +kernel
theorem dX7_laysWays_103 : decode cX7_laysWays 103 = .ok (.iastore, 1) := by decide +kernel
theorem dX7_laysWays_104 : decode cX7_laysWays 104 = .ok (.iinc 5 1, 3) := by decide +kernel
theorem dX7_laysWays_107 : decode cX7_laysWays 107 = .ok (.goto (-72), 3) := by decide +kernel
theorem dX7_laysWays_110 : decode cX7_laysWays 110 = .ok (.iinc 4 1, 3) := by decide +kernel
theorem dX7_laysWays_113 : decode cX7_laysWays 113 = .ok (.goto (-104), 3) := by decide +kernel
theorem dX7_laysWays_116 : decode cX7_laysWays 116 = .ok (.iload_n 3, 1) := by decide +kernel
theorem dX7_laysWays_117 : decode cX7_laysWays 117 = .ok (.istore 4, 2) := by decide +kernel
theorem dX7_laysWays_119 : decode cX7_laysWays 119 = .ok (.iload 4, 2) := by decide +kernel
theorem dX7_laysWays_121 : decode cX7_laysWays 121 = .ok (.ifCond .lt 103, 3) := by decide +kernel
theorem dX7_laysWays_124 : decode cX7_laysWays 124 = .ok (.aload_n 0, 1) := by decide +kernel
theorem dX7_laysWays_125 : decode cX7_laysWays 125 = .ok (.getfield 46, 3) := by decide +kernel
theorem dX7_laysWays_128 : decode cX7_laysWays 128 = .ok (.iload 4, 2) := by decide +kernel
theorem dX7_laysWays_130 : decode cX7_laysWays 130 = .ok (.iload 4, 2) := by decide +kernel
theorem dX7_laysWays_132 : decode cX7_laysWays 132 = .ok (.iload_n 3, 1) := by decide +kernel
theorem dX7_laysWays_133 : decode cX7_laysWays 133 = .ok (.if_icmp .ne 7, 3) := by decide +kernel
theorem dX7_laysWays_136 : decode cX7_laysWays 136 = .ok (.iconst 1, 1) := by decide +kernel
theorem dX7_laysWays_137 : decode cX7_laysWays 137 = .ok (.goto 4, 3) := by decide +kernel
theorem dX7_laysWays_140 : decode cX7_laysWays 140 = .ok (.iconst 0, 1) := by decide +kernel
theorem dX7_laysWays_141 : decode cX7_laysWays 141 = .ok (.iastore, 1) := by decide +kernel
theorem dX7_laysWays_142 : decode cX7_laysWays 142 = .ok (.iconst 0, 1) := by decide +kernel
theorem dX7_laysWays_143 : decode cX7_laysWays 143 = .ok (.istore 5, 2) := by decide +kernel
theorem dX7_laysWays_145 : decode cX7_laysWays 145 = .ok (.iload 5, 2) := by decide +kernel
theorem dX7_laysWays_147 : decode cX7_laysWays 147 = .ok (.iload_n 2, 1) := by decide +kernel
theorem dX7_laysWays_148 : decode cX7_laysWays 148 = .ok (.if_icmp .ge 70, 3) := by decide +kernel
theorem dX7_laysWays_151 : decode cX7_laysWays 151 = .ok (.iload 4, 2) := by decide +kernel
theorem dX7_laysWays_153 : decode cX7_laysWays 153 = .ok (.iconst 1, 1) := by decide +kernel
theorem dX7_laysWays_154 : decode cX7_laysWays 154 = .ok (.iload 5, 2) := by decide +kernel
theorem dX7_laysWays_156 : decode cX7_laysWays 156 = .ok (.ishl, 1) := by decide +kernel
theorem dX7_laysWays_157 : decode cX7_laysWays 157 = .ok (.ior, 1) := by decide +kernel
theorem dX7_laysWays_158 : decode cX7_laysWays 158 = .ok (.istore 6, 2) := by decide +kernel
theorem dX7_laysWays_160 : decode cX7_laysWays 160 = .ok (.aload_n 0, 1) := by decide +kernel
theorem dX7_laysWays_161 : decode cX7_laysWays 161 = .ok (.getfield 46, 3) := by decide +kernel
theorem dX7_laysWays_164 : decode cX7_laysWays 164 = .ok (.iload 4, 2) := by decide +kernel
theorem dX7_laysWays_166 : decode cX7_laysWays 166 = .ok (.dup2, 1) := by decide +kernel
theorem dX7_laysWays_167 : decode cX7_laysWays 167 = .ok (.iaload, 1) := by decide +kernel
theorem dX7_laysWays_168 : decode cX7_laysWays 168 = .ok (.iload 4, 2) := by decide +kernel
theorem dX7_laysWays_170 : decode cX7_laysWays 170 = .ok (.iload 5, 2) := by decide +kernel
theorem dX7_laysWays_172 : decode cX7_laysWays 172 = .ok (.invokestatic 132, 3) := by decide +kernel
theorem dX7_laysWays_175 : decode cX7_laysWays 175 = .ok (.ifCond .ne 34, 3) := by decide +kernel
theorem dX7_laysWays_178 : decode cX7_laysWays 178 = .ok (.aload_n 0, 1) := by decide +kernel
theorem dX7_laysWays_179 : decode cX7_laysWays 179 = .ok (.getfield 46, 3) := by decide +kernel
theorem dX7_laysWays_182 : decode cX7_laysWays 182 = .ok (.iload 6, 2) := by decide +kernel
theorem dX7_laysWays_184 : decode cX7_laysWays 184 = .ok (.iaload, 1) := by decide +kernel
theorem dX7_laysWays_185 : decode cX7_laysWays 185 = .ok (.ifCond .le 24, 3) := by decide +kernel
theorem dX7_laysWays_188 : decode cX7_laysWays 188 = .ok (.aload_n 1, 1) := by decide +kernel
theorem dX7_laysWays_189 : decode cX7_laysWays 189 = .ok (.iload 5, 2) := by decide +kernel
theorem dX7_laysWays_191 : decode cX7_laysWays 191 = .ok (.iload 4, 2) := by decide +kernel
theorem dX7_laysWays_193 : decode cX7_laysWays 193 = .ok (.invokestatic 262, 3) := by decide +kernel
theorem dX7_laysWays_196 : decode cX7_laysWays 196 = .ok (.ifCond .eq 13, 3) := by decide +kernel
theorem dX7_laysWays_199 : decode cX7_laysWays 199 = .ok (.aload_n 0, 1) := by decide +kernel
theorem dX7_laysWays_200 : decode cX7_laysWays 200 = .ok (.getfield 46, 3) := by decide +kernel
theorem dX7_laysWays_203 : decode cX7_laysWays 203 = .ok (.iload 6, 2) := by decide +kernel
theorem dX7_laysWays_205 : decode cX7_laysWays 205 = .ok (.iaload, 1) := by decide +kernel
theorem dX7_laysWays_206 : decode cX7_laysWays 206 = .ok (.goto 4, 3) := by decide +kernel
theorem dX7_laysWays_209 : decode cX7_laysWays 209 = .ok (.iconst 0, 1) := by decide +kernel
theorem dX7_laysWays_210 : decode cX7_laysWays 210 = .ok (.iadd, 1) := by decide +kernel
theorem dX7_laysWays_211 : decode cX7_laysWays 211 = .ok (.iastore, 1) := by decide +kernel
theorem dX7_laysWays_212 : decode cX7_laysWays 212 = .ok (.iinc 5 1, 3) := by decide +kernel
theorem dX7_laysWays_215 : decode cX7_laysWays 215 = .ok (.goto (-70), 3) := by decide +kernel
theorem dX7_laysWays_218 : decode cX7_laysWays 218 = .ok (.iinc 4 (-1), 3) := by decide +kernel
theorem dX7_laysWays_221 : decode cX7_laysWays 221 = .ok (.goto (-102), 3) := by decide +kernel
theorem dX7_laysWays_224 : decode cX7_laysWays 224 = .ok (.return_, 1) := by decide +kernel
theorem dX7_isLaid_0 : decode cX7_isLaid 0 = .ok (.aload_n 0, 1) := by decide +kernel
theorem dX7_isLaid_1 : decode cX7_isLaid 1 = .ok (.aload_n 0, 1) := by decide +kernel
theorem dX7_isLaid_2 : decode cX7_isLaid 2 = .ok (.getfield 179, 3) := by decide +kernel
theorem dX7_isLaid_5 : decode cX7_isLaid 5 = .ok (.invokestatic 199, 3) := by decide +kernel
theorem dX7_isLaid_8 : decode cX7_isLaid 8 = .ok (.invokevirtual 159, 3) := by decide +kernel
theorem dX7_isLaid_11 : decode cX7_isLaid 11 = .ok (.ifCond .eq 5, 3) := by decide +kernel
theorem dX7_isLaid_14 : decode cX7_isLaid 14 = .ok (.iconst 0, 1) := by decide +kernel
theorem dX7_isLaid_15 : decode cX7_isLaid 15 = .ok (.ireturn, 1) := by decide +kernel
theorem dX7_isLaid_16 : decode cX7_isLaid 16 = .ok (.aload_n 0, 1) := by decide +kernel
theorem dX7_isLaid_17 : decode cX7_isLaid 17 = .ok (.aload_n 0, 1) := by decide +kernel
theorem dX7_isLaid_18 : decode cX7_isLaid 18 = .ok (.getfield 17, 3) := by decide +kernel
theorem dX7_isLaid_21 : decode cX7_isLaid 21 = .ok (.aload_n 0, 1) := by decide +kernel
theorem dX7_isLaid_22 : decode cX7_isLaid 22 = .ok (.getfield 176, 3) := by decide +kernel
theorem dX7_isLaid_25 : decode cX7_isLaid 25 = .ok (.invokevirtual 301, 3) := by decide +kernel
theorem dX7_isLaid_28 : decode cX7_isLaid 28 = .ok (.iconst 1, 1) := by decide +kernel
theorem dX7_isLaid_29 : decode cX7_isLaid 29 = .ok (.ireturn, 1) := by decide +kernel
theorem dX7_shellings_0 : decode cX7_shellings 0 = .ok (.aload_n 0, 1) := by decide +kernel
theorem dX7_shellings_1 : decode cX7_shellings 1 = .ok (.invokevirtual 304, 3) := by decide +kernel
theorem dX7_shellings_4 : decode cX7_shellings 4 = .ok (.ifCond .eq 12, 3) := by decide +kernel
theorem dX7_shellings_7 : decode cX7_shellings 7 = .ok (.aload_n 0, 1) := by decide +kernel
theorem dX7_shellings_8 : decode cX7_shellings 8 = .ok (.getfield 46, 3) := by decide +kernel
theorem dX7_shellings_11 : decode cX7_shellings 11 = .ok (.iconst 0, 1) := by decide +kernel
theorem dX7_shellings_12 : decode cX7_shellings 12 = .ok (.iaload, 1) := by decide +kernel
theorem dX7_shellings_13 : decode cX7_shellings 13 = .ok (.goto 4, 3) := by decide +kernel
theorem dX7_shellings_16 : decode cX7_shellings 16 = .ok (.iconst (-1), 1) := by decide +kernel
theorem dX7_shellings_17 : decode cX7_shellings 17 = .ok (.ireturn, 1) := by decide +kernel
theorem dX7_laysLeast_0 : decode cX7_laysLeast 0 = .ok (.iconst 0, 1) := by decide +kernel
theorem dX7_laysLeast_1 : decode cX7_laysLeast 1 = .ok (.istore_n 1, 1) := by decide +kernel
theorem dX7_laysLeast_2 : decode cX7_laysLeast 2 = .ok (.iconst 0, 1) := by decide +kernel
theorem dX7_laysLeast_3 : decode cX7_laysLeast 3 = .ok (.istore_n 2, 1) := by decide +kernel
theorem dX7_laysLeast_4 : decode cX7_laysLeast 4 = .ok (.iload_n 2, 1) := by decide +kernel
theorem dX7_laysLeast_5 : decode cX7_laysLeast 5 = .ok (.aload_n 0, 1) := by decide +kernel
theorem dX7_laysLeast_6 : decode cX7_laysLeast 6 = .ok (.getfield 176, 3) := by decide +kernel
theorem dX7_laysLeast_9 : decode cX7_laysLeast 9 = .ok (.if_icmp .ge 86, 3) := by decide +kernel
theorem dX7_laysLeast_12 : decode cX7_laysLeast 12 = .ok (.iconst (-1), 1) := by decide +kernel
theorem dX7_laysLeast_13 : decode cX7_laysLeast 13 = .ok (.istore_n 3, 1) := by decide +kernel
theorem dX7_laysLeast_14 : decode cX7_laysLeast 14 = .ok (.aload_n 0, 1) := by decide +kernel
theorem dX7_laysLeast_15 : decode cX7_laysLeast 15 = .ok (.getfield 176, 3) := by decide +kernel
theorem dX7_laysLeast_18 : decode cX7_laysLeast 18 = .ok (.iconst 1, 1) := by decide +kernel
theorem dX7_laysLeast_19 : decode cX7_laysLeast 19 = .ok (.isub, 1) := by decide +kernel
theorem dX7_laysLeast_20 : decode cX7_laysLeast 20 = .ok (.istore 4, 2) := by decide +kernel
theorem dX7_laysLeast_22 : decode cX7_laysLeast 22 = .ok (.iload 4, 2) := by decide +kernel
theorem dX7_laysLeast_24 : decode cX7_laysLeast 24 = .ok (.ifCond .lt 52, 3) := by decide +kernel
theorem dX7_laysLeast_27 : decode cX7_laysLeast 27 = .ok (.iload_n 1, 1) := by decide +kernel
theorem dX7_laysLeast_28 : decode cX7_laysLeast 28 = .ok (.iload 4, 2) := by decide +kernel
theorem dX7_laysLeast_30 : decode cX7_laysLeast 30 = .ok (.invokestatic 132, 3) := by decide +kernel
theorem dX7_laysLeast_33 : decode cX7_laysLeast 33 = .ok (.ifCond .ne 35, 3) := by decide +kernel
theorem dX7_laysLeast_36 : decode cX7_laysLeast 36 = .ok (.aload_n 0, 1) := by decide +kernel
theorem dX7_laysLeast_37 : decode cX7_laysLeast 37 = .ok (.getfield 46, 3) := by decide +kernel
theorem dX7_laysLeast_40 : decode cX7_laysLeast 40 = .ok (.iload_n 1, 1) := by decide +kernel
theorem dX7_laysLeast_41 : decode cX7_laysLeast 41 = .ok (.iconst 1, 1) := by decide +kernel
theorem dX7_laysLeast_42 : decode cX7_laysLeast 42 = .ok (.iload 4, 2) := by decide +kernel
theorem dX7_laysLeast_44 : decode cX7_laysLeast 44 = .ok (.ishl, 1) := by decide +kernel
theorem dX7_laysLeast_45 : decode cX7_laysLeast 45 = .ok (.ior, 1) := by decide +kernel
theorem dX7_laysLeast_46 : decode cX7_laysLeast 46 = .ok (.iaload, 1) := by decide +kernel
theorem dX7_laysLeast_47 : decode cX7_laysLeast 47 = .ok (.ifCond .le 21, 3) := by decide +kernel
theorem dX7_laysLeast_50 : decode cX7_laysLeast 50 = .ok (.aload_n 0, 1) := by decide +kernel
theorem dX7_laysLeast_51 : decode cX7_laysLeast 51 = .ok (.getfield 17, 3) := by decide +kernel
theorem dX7_laysLeast_54 : decode cX7_laysLeast 54 = .ok (.iload 4, 2) := by decide +kernel
theorem dX7_laysLeast_56 : decode cX7_laysLeast 56 = .ok (.iload_n 1, 1) := by decide +kernel
theorem dX7_laysLeast_57 : decode cX7_laysLeast 57 = .ok (.invokestatic 262, 3) := by decide +kernel
theorem dX7_laysLeast_60 : decode cX7_laysLeast 60 = .ok (.ifCond .eq 8, 3) := by decide +kernel
theorem dX7_laysLeast_63 : decode cX7_laysLeast 63 = .ok (.iload 4, 2) := by decide +kernel
theorem dX7_laysLeast_65 : decode cX7_laysLeast 65 = .ok (.goto 4, 3) := by decide +kernel
theorem dX7_laysLeast_68 : decode cX7_laysLeast 68 = .ok (.iload_n 3, 1) := by decide +kernel
theorem dX7_laysLeast_69 : decode cX7_laysLeast 69 = .ok (.istore_n 3, 1) := by decide +kernel
theorem dX7_laysLeast_70 : decode cX7_laysLeast 70 = .ok (.iinc 4 (-1), 3) := by decide +kernel
theorem dX7_laysLeast_73 : decode cX7_laysLeast 73 = .ok (.goto (-51), 3) := by decide +kernel
theorem dX7_laysLeast_76 : decode cX7_laysLeast 76 = .ok (.aload_n 0, 1) := by decide +kernel
theorem dX7_laysLeast_77 : decode cX7_laysLeast 77 = .ok (.getfield 49, 3) := by decide +kernel
theorem dX7_laysLeast_80 : decode cX7_laysLeast 80 = .ok (.iload_n 2, 1) := by decide +kernel
theorem dX7_laysLeast_81 : decode cX7_laysLeast 81 = .ok (.iload_n 3, 1) := by decide +kernel
theorem dX7_laysLeast_82 : decode cX7_laysLeast 82 = .ok (.iastore, 1) := by decide +kernel
theorem dX7_laysLeast_83 : decode cX7_laysLeast 83 = .ok (.iload_n 1, 1) := by decide +kernel
theorem dX7_laysLeast_84 : decode cX7_laysLeast 84 = .ok (.iconst 1, 1) := by decide +kernel
theorem dX7_laysLeast_85 : decode cX7_laysLeast 85 = .ok (.iload_n 3, 1) := by decide +kernel
theorem dX7_laysLeast_86 : decode cX7_laysLeast 86 = .ok (.ishl, 1) := by decide +kernel
theorem dX7_laysLeast_87 : decode cX7_laysLeast 87 = .ok (.ior, 1) := by decide +kernel
theorem dX7_laysLeast_88 : decode cX7_laysLeast 88 = .ok (.istore_n 1, 1) := by decide +kernel
theorem dX7_laysLeast_89 : decode cX7_laysLeast 89 = .ok (.iinc 2 1, 3) := by decide +kernel
theorem dX7_laysLeast_92 : decode cX7_laysLeast 92 = .ok (.goto (-88), 3) := by decide +kernel
theorem dX7_laysLeast_95 : decode cX7_laysLeast 95 = .ok (.return_, 1) := by decide +kernel
theorem dX7_shelled_0 : decode cX7_shelled 0 = .ok (.aload_n 0, 1) := by decide +kernel
theorem dX7_shelled_1 : decode cX7_shelled 1 = .ok (.aload_n 0, 1) := by decide +kernel
theorem dX7_shelled_2 : decode cX7_shelled 2 = .ok (.iload_n 1, 1) := by decide +kernel
theorem dX7_shelled_3 : decode cX7_shelled 3 = .ok (.invokevirtual 231, 3) := by decide +kernel
theorem dX7_shelled_6 : decode cX7_shelled 6 = .ok (.invokestatic 199, 3) := by decide +kernel
theorem dX7_shelled_9 : decode cX7_shelled 9 = .ok (.invokevirtual 159, 3) := by decide +kernel
theorem dX7_shelled_12 : decode cX7_shelled 12 = .ok (.ifCond .eq 5, 3) := by decide +kernel
theorem dX7_shelled_15 : decode cX7_shelled 15 = .ok (.iconst (-1), 1) := by decide +kernel
theorem dX7_shelled_16 : decode cX7_shelled 16 = .ok (.ireturn, 1) := by decide +kernel
theorem dX7_shelled_17 : decode cX7_shelled 17 = .ok (.aload_n 0, 1) := by decide +kernel
theorem dX7_shelled_18 : decode cX7_shelled 18 = .ok (.aload_n 0, 1) := by decide +kernel
theorem dX7_shelled_19 : decode cX7_shelled 19 = .ok (.getfield 17, 3) := by decide +kernel
theorem dX7_shelled_22 : decode cX7_shelled 22 = .ok (.aload_n 0, 1) := by decide +kernel
theorem dX7_shelled_23 : decode cX7_shelled 23 = .ok (.getfield 176, 3) := by decide +kernel
theorem dX7_shelled_26 : decode cX7_shelled 26 = .ok (.invokevirtual 301, 3) := by decide +kernel
theorem dX7_shelled_29 : decode cX7_shelled 29 = .ok (.aload_n 0, 1) := by decide +kernel
theorem dX7_shelled_30 : decode cX7_shelled 30 = .ok (.getfield 46, 3) := by decide +kernel
theorem dX7_shelled_33 : decode cX7_shelled 33 = .ok (.iconst 0, 1) := by decide +kernel
theorem dX7_shelled_34 : decode cX7_shelled 34 = .ok (.iaload, 1) := by decide +kernel
theorem dX7_shelled_35 : decode cX7_shelled 35 = .ok (.ifCond .ne 6, 3) := by decide +kernel
theorem dX7_shelled_38 : decode cX7_shelled 38 = .ok (.bipush (-2), 2) := by decide +kernel
theorem dX7_shelled_40 : decode cX7_shelled 40 = .ok (.ireturn, 1) := by decide +kernel
theorem dX7_shelled_41 : decode cX7_shelled 41 = .ok (.aload_n 0, 1) := by decide +kernel
theorem dX7_shelled_42 : decode cX7_shelled 42 = .ok (.invokevirtual 307, 3) := by decide +kernel
theorem dX7_shelled_45 : decode cX7_shelled 45 = .ok (.aload_n 0, 1) := by decide +kernel
theorem dX7_shelled_46 : decode cX7_shelled 46 = .ok (.getfield 49, 3) := by decide +kernel
theorem dX7_shelled_49 : decode cX7_shelled 49 = .ok (.iload_n 1, 1) := by decide +kernel
theorem dX7_shelled_50 : decode cX7_shelled 50 = .ok (.iaload, 1) := by decide +kernel
theorem dX7_shelled_51 : decode cX7_shelled 51 = .ok (.ireturn, 1) := by decide +kernel
theorem dX7_peelable_0 : decode cX7_peelable 0 = .ok (.aload_n 0, 1) := by decide +kernel
theorem dX7_peelable_1 : decode cX7_peelable 1 = .ok (.invokevirtual 304, 3) := by decide +kernel
theorem dX7_peelable_4 : decode cX7_peelable 4 = .ok (.ifCond .ne 5, 3) := by decide +kernel
theorem dX7_peelable_7 : decode cX7_peelable 7 = .ok (.iconst (-1), 1) := by decide +kernel
theorem dX7_peelable_8 : decode cX7_peelable 8 = .ok (.ireturn, 1) := by decide +kernel
theorem dX7_peelable_9 : decode cX7_peelable 9 = .ok (.iconst 1, 1) := by decide +kernel
theorem dX7_peelable_10 : decode cX7_peelable 10 = .ok (.aload_n 0, 1) := by decide +kernel
theorem dX7_peelable_11 : decode cX7_peelable 11 = .ok (.getfield 176, 3) := by decide +kernel
theorem dX7_peelable_14 : decode cX7_peelable 14 = .ok (.ishl, 1) := by decide +kernel
theorem dX7_peelable_15 : decode cX7_peelable 15 = .ok (.iconst 1, 1) := by decide +kernel
theorem dX7_peelable_16 : decode cX7_peelable 16 = .ok (.isub, 1) := by decide +kernel
theorem dX7_peelable_17 : decode cX7_peelable 17 = .ok (.istore_n 1, 1) := by decide +kernel
theorem dX7_peelable_18 : decode cX7_peelable 18 = .ok (.iconst 0, 1) := by decide +kernel
theorem dX7_peelable_19 : decode cX7_peelable 19 = .ok (.istore_n 2, 1) := by decide +kernel
theorem dX7_peelable_20 : decode cX7_peelable 20 = .ok (.iconst 0, 1) := by decide +kernel
theorem dX7_peelable_21 : decode cX7_peelable 21 = .ok (.istore_n 3, 1) := by decide +kernel
theorem dX7_peelable_22 : decode cX7_peelable 22 = .ok (.iload_n 3, 1) := by decide +kernel
theorem dX7_peelable_23 : decode cX7_peelable 23 = .ok (.aload_n 0, 1) := by decide +kernel
theorem dX7_peelable_24 : decode cX7_peelable 24 = .ok (.getfield 176, 3) := by decide +kernel
theorem dX7_peelable_27 : decode cX7_peelable 27 = .ok (.if_icmp .ge 51, 3) := by decide +kernel
theorem dX7_peelable_30 : decode cX7_peelable 30 = .ok (.iload_n 1, 1) := by decide +kernel
theorem dX7_peelable_31 : decode cX7_peelable 31 = .ok (.iconst 1, 1) := by decide +kernel
theorem dX7_peelable_32 : decode cX7_peelable 32 = .ok (.iload_n 3, 1) := by decide +kernel
theorem dX7_peelable_33 : decode cX7_peelable 33 = .ok (.ishl, 1) := by decide +kernel
theorem dX7_peelable_34 : decode cX7_peelable 34 = .ok (.iconst (-1), 1) := by decide +kernel
theorem dX7_peelable_35 : decode cX7_peelable 35 = .ok (.ixor, 1) := by decide +kernel
theorem dX7_peelable_36 : decode cX7_peelable 36 = .ok (.iand, 1) := by decide +kernel
theorem dX7_peelable_37 : decode cX7_peelable 37 = .ok (.istore 4, 2) := by decide +kernel
theorem dX7_peelable_39 : decode cX7_peelable 39 = .ok (.iload_n 2, 1) := by decide +kernel
theorem dX7_peelable_40 : decode cX7_peelable 40 = .ok (.aload_n 0, 1) := by decide +kernel
theorem dX7_peelable_41 : decode cX7_peelable 41 = .ok (.getfield 43, 3) := by decide +kernel
theorem dX7_peelable_44 : decode cX7_peelable 44 = .ok (.iload 4, 2) := by decide +kernel
theorem dX7_peelable_46 : decode cX7_peelable 46 = .ok (.iaload, 1) := by decide +kernel
theorem dX7_peelable_47 : decode cX7_peelable 47 = .ok (.ifCond .le 22, 3) := by decide +kernel
theorem dX7_peelable_50 : decode cX7_peelable 50 = .ok (.aload_n 0, 1) := by decide +kernel
theorem dX7_peelable_51 : decode cX7_peelable 51 = .ok (.getfield 17, 3) := by decide +kernel
theorem dX7_peelable_54 : decode cX7_peelable 54 = .ok (.iload_n 3, 1) := by decide +kernel
theorem dX7_peelable_55 : decode cX7_peelable 55 = .ok (.iload 4, 2) := by decide +kernel
theorem dX7_peelable_57 : decode cX7_peelable 57 = .ok (.invokestatic 262, 3) := by decide +kernel
theorem dX7_peelable_60 : decode cX7_peelable 60 = .ok (.ifCond .eq 9, 3) := by decide +kernel
theorem dX7_peelable_63 : decode cX7_peelable 63 = .ok (.iconst 1, 1) := by decide +kernel
theorem dX7_peelable_64 : decode cX7_peelable 64 = .ok (.iload_n 3, 1) := by decide +kernel
theorem dX7_peelable_65 : decode cX7_peelable 65 = .ok (.ishl, 1) := by decide +kernel
theorem dX7_peelable_66 : decode cX7_peelable 66 = .ok (.goto 4, 3) := by decide +kernel
theorem dX7_peelable_69 : decode cX7_peelable 69 = .ok (.iconst 0, 1) := by decide +kernel
theorem dX7_peelable_70 : decode cX7_peelable 70 = .ok (.ior, 1) := by decide +kernel
theorem dX7_peelable_71 : decode cX7_peelable 71 = .ok (.istore_n 2, 1) := by decide +kernel
theorem dX7_peelable_72 : decode cX7_peelable 72 = .ok (.iinc 3 1, 3) := by decide +kernel
theorem dX7_peelable_75 : decode cX7_peelable 75 = .ok (.goto (-53), 3) := by decide +kernel
theorem dX7_peelable_78 : decode cX7_peelable 78 = .ok (.iload_n 2, 1) := by decide +kernel
theorem dX7_peelable_79 : decode cX7_peelable 79 = .ok (.ireturn, 1) := by decide +kernel
theorem dX7_goesOn__0 : decode cX7_goesOn_ 0 = .ok (.aload_n 0, 1) := by decide +kernel
theorem dX7_goesOn__1 : decode cX7_goesOn_ 1 = .ok (.aload_n 0, 1) := by decide +kernel
theorem dX7_goesOn__2 : decode cX7_goesOn_ 2 = .ok (.getfield 179, 3) := by decide +kernel
theorem dX7_goesOn__5 : decode cX7_goesOn_ 5 = .ok (.iload_n 1, 1) := by decide +kernel
theorem dX7_goesOn__6 : decode cX7_goesOn_ 6 = .ok (.iconst 0, 1) := by decide +kernel
theorem dX7_goesOn__7 : decode cX7_goesOn_ 7 = .ok (.aload_n 0, 1) := by decide +kernel
theorem dX7_goesOn__8 : decode cX7_goesOn_ 8 = .ok (.getfield 176, 3) := by decide +kernel
theorem dX7_goesOn__11 : decode cX7_goesOn_ 11 = .ok (.invokestatic 84, 3) := by decide +kernel
theorem dX7_goesOn__14 : decode cX7_goesOn_ 14 = .ok (.invokestatic 206, 3) := by decide +kernel
theorem dX7_goesOn__17 : decode cX7_goesOn_ 17 = .ok (.invokevirtual 159, 3) := by decide +kernel
theorem dX7_goesOn__20 : decode cX7_goesOn_ 20 = .ok (.ifCond .eq 5, 3) := by decide +kernel
theorem dX7_goesOn__23 : decode cX7_goesOn_ 23 = .ok (.iconst (-1), 1) := by decide +kernel
theorem dX7_goesOn__24 : decode cX7_goesOn_ 24 = .ok (.ireturn, 1) := by decide +kernel
theorem dX7_goesOn__25 : decode cX7_goesOn_ 25 = .ok (.aload_n 0, 1) := by decide +kernel
theorem dX7_goesOn__26 : decode cX7_goesOn_ 26 = .ok (.aload_n 0, 1) := by decide +kernel
theorem dX7_goesOn__27 : decode cX7_goesOn_ 27 = .ok (.getfield 17, 3) := by decide +kernel
theorem dX7_goesOn__30 : decode cX7_goesOn_ 30 = .ok (.aload_n 0, 1) := by decide +kernel
theorem dX7_goesOn__31 : decode cX7_goesOn_ 31 = .ok (.getfield 176, 3) := by decide +kernel
theorem dX7_goesOn__34 : decode cX7_goesOn_ 34 = .ok (.invokevirtual 301, 3) := by decide +kernel
theorem dX7_goesOn__37 : decode cX7_goesOn_ 37 = .ok (.aload_n 0, 1) := by decide +kernel
theorem dX7_goesOn__38 : decode cX7_goesOn_ 38 = .ok (.invokevirtual 272, 3) := by decide +kernel
theorem dX7_goesOn__41 : decode cX7_goesOn_ 41 = .ok (.iload_n 1, 1) := by decide +kernel
theorem dX7_goesOn__42 : decode cX7_goesOn_ 42 = .ok (.if_icmp .ge 7, 3) := by decide +kernel
theorem dX7_goesOn__45 : decode cX7_goesOn_ 45 = .ok (.iconst 0, 1) := by decide +kernel
theorem dX7_goesOn__46 : decode cX7_goesOn_ 46 = .ok (.goto 13, 3) := by decide +kernel
theorem dX7_goesOn__49 : decode cX7_goesOn_ 49 = .ok (.aload_n 0, 1) := by decide +kernel
theorem dX7_goesOn__50 : decode cX7_goesOn_ 50 = .ok (.getfield 46, 3) := by decide +kernel
theorem dX7_goesOn__53 : decode cX7_goesOn_ 53 = .ok (.aload_n 0, 1) := by decide +kernel
theorem dX7_goesOn__54 : decode cX7_goesOn_ 54 = .ok (.iload_n 1, 1) := by decide +kernel
theorem dX7_goesOn__55 : decode cX7_goesOn_ 55 = .ok (.invokevirtual 259, 3) := by decide +kernel
theorem dX7_goesOn__58 : decode cX7_goesOn_ 58 = .ok (.iaload, 1) := by decide +kernel
theorem dX7_goesOn__59 : decode cX7_goesOn_ 59 = .ok (.ireturn, 1) := by decide +kernel
theorem dX7_stuck_0 : decode cX7_stuck 0 = .ok (.aload_n 0, 1) := by decide +kernel
theorem dX7_stuck_1 : decode cX7_stuck 1 = .ok (.invokevirtual 304, 3) := by decide +kernel
theorem dX7_stuck_4 : decode cX7_stuck 4 = .ok (.ifCond .ne 5, 3) := by decide +kernel
theorem dX7_stuck_7 : decode cX7_stuck 7 = .ok (.iconst (-1), 1) := by decide +kernel
theorem dX7_stuck_8 : decode cX7_stuck 8 = .ok (.ireturn, 1) := by decide +kernel
theorem dX7_stuck_9 : decode cX7_stuck 9 = .ok (.bipush (-2), 2) := by decide +kernel
theorem dX7_stuck_11 : decode cX7_stuck 11 = .ok (.istore_n 1, 1) := by decide +kernel
theorem dX7_stuck_12 : decode cX7_stuck 12 = .ok (.iconst 0, 1) := by decide +kernel
theorem dX7_stuck_13 : decode cX7_stuck 13 = .ok (.istore_n 2, 1) := by decide +kernel
theorem dX7_stuck_14 : decode cX7_stuck 14 = .ok (.iload_n 2, 1) := by decide +kernel
theorem dX7_stuck_15 : decode cX7_stuck 15 = .ok (.iconst 1, 1) := by decide +kernel
theorem dX7_stuck_16 : decode cX7_stuck 16 = .ok (.aload_n 0, 1) := by decide +kernel
theorem dX7_stuck_17 : decode cX7_stuck 17 = .ok (.getfield 176, 3) := by decide +kernel
theorem dX7_stuck_20 : decode cX7_stuck 20 = .ok (.ishl, 1) := by decide +kernel
theorem dX7_stuck_21 : decode cX7_stuck 21 = .ok (.if_icmp .ge 60, 3) := by decide +kernel
theorem dX7_stuck_24 : decode cX7_stuck 24 = .ok (.aload_n 0, 1) := by decide +kernel
theorem dX7_stuck_25 : decode cX7_stuck 25 = .ok (.getfield 43, 3) := by decide +kernel
theorem dX7_stuck_28 : decode cX7_stuck 28 = .ok (.iload_n 2, 1) := by decide +kernel
theorem dX7_stuck_29 : decode cX7_stuck 29 = .ok (.iaload, 1) := by decide +kernel
theorem dX7_stuck_30 : decode cX7_stuck 30 = .ok (.ifCond .le 16, 3) := by decide +kernel
theorem dX7_stuck_33 : decode cX7_stuck 33 = .ok (.aload_n 0, 1) := by decide +kernel
theorem dX7_stuck_34 : decode cX7_stuck 34 = .ok (.getfield 46, 3) := by decide +kernel
theorem dX7_stuck_37 : decode cX7_stuck 37 = .ok (.iload_n 2, 1) := by decide +kernel
theorem dX7_stuck_38 : decode cX7_stuck 38 = .ok (.iaload, 1) := by decide +kernel
theorem dX7_stuck_39 : decode cX7_stuck 39 = .ok (.ifCond .ne 7, 3) := by decide +kernel
theorem dX7_stuck_42 : decode cX7_stuck 42 = .ok (.iconst 1, 1) := by decide +kernel
theorem dX7_stuck_43 : decode cX7_stuck 43 = .ok (.goto 4, 3) := by decide +kernel
theorem dX7_stuck_46 : decode cX7_stuck 46 = .ok (.iconst 0, 1) := by decide +kernel
theorem dX7_stuck_47 : decode cX7_stuck 47 = .ok (.istore_n 3, 1) := by decide +kernel
theorem dX7_stuck_48 : decode cX7_stuck 48 = .ok (.iload_n 3, 1) := by decide +kernel
theorem dX7_stuck_49 : decode cX7_stuck 49 = .ok (.ifCond .eq 24, 3) := by decide +kernel
theorem dX7_stuck_52 : decode cX7_stuck 52 = .ok (.iload_n 1, 1) := by decide +kernel
theorem dX7_stuck_53 : decode cX7_stuck 53 = .ok (.bipush (-2), 2) := by decide +kernel
theorem dX7_stuck_55 : decode cX7_stuck 55 = .ok (.if_icmp .eq 14, 3) := by decide +kernel
theorem dX7_stuck_58 : decode cX7_stuck 58 = .ok (.iload_n 2, 1) := by decide +kernel
theorem dX7_stuck_59 : decode cX7_stuck 59 = .ok (.invokestatic 136, 3) := by decide +kernel
theorem dX7_stuck_62 : decode cX7_stuck 62 = .ok (.iload_n 1, 1) := by decide +kernel
theorem dX7_stuck_63 : decode cX7_stuck 63 = .ok (.invokestatic 136, 3) := by decide +kernel
theorem dX7_stuck_66 : decode cX7_stuck 66 = .ok (.if_icmp .ge 7, 3) := by decide +kernel
theorem dX7_stuck_69 : decode cX7_stuck 69 = .ok (.iload_n 2, 1) := by decide +kernel
theorem dX7_stuck_70 : decode cX7_stuck 70 = .ok (.goto 4, 3) := by decide +kernel
theorem dX7_stuck_73 : decode cX7_stuck 73 = .ok (.iload_n 1, 1) := by decide +kernel
theorem dX7_stuck_74 : decode cX7_stuck 74 = .ok (.istore_n 1, 1) := by decide +kernel
theorem dX7_stuck_75 : decode cX7_stuck 75 = .ok (.iinc 2 1, 3) := by decide +kernel
theorem dX7_stuck_78 : decode cX7_stuck 78 = .ok (.goto (-64), 3) := by decide +kernel
theorem dX7_stuck_81 : decode cX7_stuck 81 = .ok (.iload_n 1, 1) := by decide +kernel
theorem dX7_stuck_82 : decode cX7_stuck 82 = .ok (.ireturn, 1) := by decide +kernel
theorem dX7_peeled_0 : decode cX7_peeled 0 = .ok (.aload_n 0, 1) := by decide +kernel
theorem dX7_peeled_1 : decode cX7_peeled 1 = .ok (.aload_n 0, 1) := by decide +kernel
theorem dX7_peeled_2 : decode cX7_peeled 2 = .ok (.getfield 179, 3) := by decide +kernel
theorem dX7_peeled_5 : decode cX7_peeled 5 = .ok (.iload_n 1, 1) := by decide +kernel
theorem dX7_peeled_6 : decode cX7_peeled 6 = .ok (.iconst 0, 1) := by decide +kernel
theorem dX7_peeled_7 : decode cX7_peeled 7 = .ok (.ldc_w 310, 3) := by decide +kernel
theorem dX7_peeled_10 : decode cX7_peeled 10 = .ok (.invokestatic 84, 3) := by decide +kernel
theorem dX7_peeled_13 : decode cX7_peeled 13 = .ok (.invokestatic 206, 3) := by decide +kernel
theorem dX7_peeled_16 : decode cX7_peeled 16 = .ok (.invokevirtual 159, 3) := by decide +kernel
theorem dX7_peeled_19 : decode cX7_peeled 19 = .ok (.ifCond .eq 5, 3) := by decide +kernel
theorem dX7_peeled_22 : decode cX7_peeled 22 = .ok (.iconst (-1), 1) := by decide +kernel
theorem dX7_peeled_23 : decode cX7_peeled 23 = .ok (.ireturn, 1) := by decide +kernel
theorem dX7_peeled_24 : decode cX7_peeled 24 = .ok (.iconst 1, 1) := by decide +kernel
theorem dX7_peeled_25 : decode cX7_peeled 25 = .ok (.aload_n 0, 1) := by decide +kernel
theorem dX7_peeled_26 : decode cX7_peeled 26 = .ok (.getfield 176, 3) := by decide +kernel
theorem dX7_peeled_29 : decode cX7_peeled 29 = .ok (.ishl, 1) := by decide +kernel
theorem dX7_peeled_30 : decode cX7_peeled 30 = .ok (.iconst 1, 1) := by decide +kernel
theorem dX7_peeled_31 : decode cX7_peeled 31 = .ok (.isub, 1) := by decide +kernel
theorem dX7_peeled_32 : decode cX7_peeled 32 = .ok (.istore_n 2, 1) := by decide +kernel
theorem dX7_peeled_33 : decode cX7_peeled 33 = .ok (.iload_n 1, 1) := by decide +kernel
theorem dX7_peeled_34 : decode cX7_peeled 34 = .ok (.istore_n 3, 1) := by decide +kernel
theorem dX7_peeled_35 : decode cX7_peeled 35 = .ok (.aload_n 0, 1) := by decide +kernel
theorem dX7_peeled_36 : decode cX7_peeled 36 = .ok (.iload_n 2, 1) := by decide +kernel
theorem dX7_peeled_37 : decode cX7_peeled 37 = .ok (.invokevirtual 311, 3) := by decide +kernel
theorem dX7_peeled_40 : decode cX7_peeled 40 = .ok (.istore 4, 2) := by decide +kernel
theorem dX7_peeled_42 : decode cX7_peeled 42 = .ok (.iload_n 2, 1) := by decide +kernel
theorem dX7_peeled_43 : decode cX7_peeled 43 = .ok (.invokestatic 136, 3) := by decide +kernel
theorem dX7_peeled_46 : decode cX7_peeled 46 = .ok (.iconst 1, 1) := by decide +kernel
theorem dX7_peeled_47 : decode cX7_peeled 47 = .ok (.if_icmp .le 70, 3) := by decide +kernel
theorem dX7_peeled_50 : decode cX7_peeled 50 = .ok (.iload 4, 2) := by decide +kernel
theorem dX7_peeled_52 : decode cX7_peeled 52 = .ok (.ifCond .eq 65, 3) := by decide +kernel
theorem dX7_peeled_55 : decode cX7_peeled 55 = .ok (.bipush 75, 2) := by decide +kernel
theorem dX7_peeled_57 : decode cX7_peeled 57 = .ok (.iload_n 3, 1) := by decide +kernel
theorem dX7_peeled_58 : decode cX7_peeled 58 = .ok (.imul, 1) := by decide +kernel
theorem dX7_peeled_59 : decode cX7_peeled 59 = .ok (.bipush 74, 2) := by decide +kernel
theorem dX7_peeled_61 : decode cX7_peeled 61 = .ok (.iadd, 1) := by decide +kernel
theorem dX7_peeled_62 : decode cX7_peeled 62 = .ok (.ldc_w 314, 3) := by decide +kernel
theorem dX7_peeled_65 : decode cX7_peeled 65 = .ok (.irem, 1) := by decide +kernel
theorem dX7_peeled_66 : decode cX7_peeled 66 = .ok (.istore_n 3, 1) := by decide +kernel
theorem dX7_peeled_67 : decode cX7_peeled 67 = .ok (.iload_n 3, 1) := by decide +kernel
theorem dX7_peeled_68 : decode cX7_peeled 68 = .ok (.iload 4, 2) := by decide +kernel
theorem dX7_peeled_70 : decode cX7_peeled 70 = .ok (.invokestatic 136, 3) := by decide +kernel
theorem dX7_peeled_73 : decode cX7_peeled 73 = .ok (.irem, 1) := by decide +kernel
theorem dX7_peeled_74 : decode cX7_peeled 74 = .ok (.istore 5, 2) := by decide +kernel
theorem dX7_peeled_76 : decode cX7_peeled 76 = .ok (.iload 5, 2) := by decide +kernel
theorem dX7_peeled_78 : decode cX7_peeled 78 = .ok (.ifCond .le 18, 3) := by decide +kernel
theorem dX7_peeled_81 : decode cX7_peeled 81 = .ok (.iload 4, 2) := by decide +kernel
theorem dX7_peeled_83 : decode cX7_peeled 83 = .ok (.iload 4, 2) := by decide +kernel
theorem dX7_peeled_85 : decode cX7_peeled 85 = .ok (.iconst 1, 1) := by decide +kernel
theorem dX7_peeled_86 : decode cX7_peeled 86 = .ok (.isub, 1) := by decide +kernel
theorem dX7_peeled_87 : decode cX7_peeled 87 = .ok (.iand, 1) := by decide +kernel
theorem dX7_peeled_88 : decode cX7_peeled 88 = .ok (.istore 4, 2) := by decide +kernel
theorem dX7_peeled_90 : decode cX7_peeled 90 = .ok (.iinc 5 (-1), 3) := by decide +kernel
theorem dX7_peeled_93 : decode cX7_peeled 93 = .ok (.goto (-17), 3) := by decide +kernel
theorem dX7_peeled_96 : decode cX7_peeled 96 = .ok (.iload_n 2, 1) := by decide +kernel
theorem dX7_peeled_97 : decode cX7_peeled 97 = .ok (.iload 4, 2) := by decide +kernel
theorem dX7_peeled_99 : decode cX7_peeled 99 = .ok (.iload 4, 2) := by decide +kernel
theorem dX7_peeled_101 : decode cX7_peeled 101 = .ok (.ineg, 1) := by decide +kernel
theorem dX7_peeled_102 : decode cX7_peeled 102 = .ok (.iand, 1) := by decide +kernel
theorem dX7_peeled_103 : decode cX7_peeled 103 = .ok (.iconst (-1), 1) := by decide +kernel
theorem dX7_peeled_104 : decode cX7_peeled 104 = .ok (.ixor, 1) := by decide +kernel
theorem dX7_peeled_105 : decode cX7_peeled 105 = .ok (.iand, 1) := by decide +kernel
theorem dX7_peeled_106 : decode cX7_peeled 106 = .ok (.istore_n 2, 1) := by decide +kernel
theorem dX7_peeled_107 : decode cX7_peeled 107 = .ok (.aload_n 0, 1) := by decide +kernel
theorem dX7_peeled_108 : decode cX7_peeled 108 = .ok (.iload_n 2, 1) := by decide +kernel
theorem dX7_peeled_109 : decode cX7_peeled 109 = .ok (.invokevirtual 311, 3) := by decide +kernel
theorem dX7_peeled_112 : decode cX7_peeled 112 = .ok (.istore 4, 2) := by decide +kernel
theorem dX7_peeled_114 : decode cX7_peeled 114 = .ok (.goto (-72), 3) := by decide +kernel
theorem dX7_peeled_117 : decode cX7_peeled 117 = .ok (.iload_n 2, 1) := by decide +kernel
theorem dX7_peeled_118 : decode cX7_peeled 118 = .ok (.invokestatic 136, 3) := by decide +kernel
theorem dX7_peeled_121 : decode cX7_peeled 121 = .ok (.ireturn, 1) := by decide +kernel
theorem dX7_canGo_0 : decode cX7_canGo 0 = .ok (.iconst 0, 1) := by decide +kernel
theorem dX7_canGo_1 : decode cX7_canGo 1 = .ok (.istore_n 2, 1) := by decide +kernel
theorem dX7_canGo_2 : decode cX7_canGo 2 = .ok (.iconst 0, 1) := by decide +kernel
theorem dX7_canGo_3 : decode cX7_canGo 3 = .ok (.istore_n 3, 1) := by decide +kernel
theorem dX7_canGo_4 : decode cX7_canGo 4 = .ok (.iload_n 3, 1) := by decide +kernel
theorem dX7_canGo_5 : decode cX7_canGo 5 = .ok (.aload_n 0, 1) := by decide +kernel
theorem dX7_canGo_6 : decode cX7_canGo 6 = .ok (.getfield 176, 3) := by decide +kernel
theorem dX7_canGo_9 : decode cX7_canGo 9 = .ok (.if_icmp .ge 45, 3) := by decide +kernel
theorem dX7_canGo_12 : decode cX7_canGo 12 = .ok (.iload_n 2, 1) := by decide +kernel
theorem dX7_canGo_13 : decode cX7_canGo 13 = .ok (.iload_n 1, 1) := by decide +kernel
theorem dX7_canGo_14 : decode cX7_canGo 14 = .ok (.iload_n 3, 1) := by decide +kernel
theorem dX7_canGo_15 : decode cX7_canGo 15 = .ok (.invokestatic 132, 3) := by decide +kernel
theorem dX7_canGo_18 : decode cX7_canGo 18 = .ok (.ifCond .eq 27, 3) := by decide +kernel
theorem dX7_canGo_21 : decode cX7_canGo 21 = .ok (.aload_n 0, 1) := by decide +kernel
theorem dX7_canGo_22 : decode cX7_canGo 22 = .ok (.getfield 17, 3) := by decide +kernel
theorem dX7_canGo_25 : decode cX7_canGo 25 = .ok (.iload_n 3, 1) := by decide +kernel
theorem dX7_canGo_26 : decode cX7_canGo 26 = .ok (.iload_n 1, 1) := by decide +kernel
theorem dX7_canGo_27 : decode cX7_canGo 27 = .ok (.iconst 1, 1) := by decide +kernel
theorem dX7_canGo_28 : decode cX7_canGo 28 = .ok (.iload_n 3, 1) := by decide +kernel
theorem dX7_canGo_29 : decode cX7_canGo 29 = .ok (.ishl, 1) := by decide +kernel
theorem dX7_canGo_30 : decode cX7_canGo 30 = .ok (.iconst (-1), 1) := by decide +kernel
theorem dX7_canGo_31 : decode cX7_canGo 31 = .ok (.ixor, 1) := by decide +kernel
theorem dX7_canGo_32 : decode cX7_canGo 32 = .ok (.iand, 1) := by decide +kernel
theorem dX7_canGo_33 : decode cX7_canGo 33 = .ok (.invokestatic 262, 3) := by decide +kernel
theorem dX7_canGo_36 : decode cX7_canGo 36 = .ok (.ifCond .eq 9, 3) := by decide +kernel
theorem dX7_canGo_39 : decode cX7_canGo 39 = .ok (.iconst 1, 1) := by decide +kernel
theorem dX7_canGo_40 : decode cX7_canGo 40 = .ok (.iload_n 3, 1) := by decide +kernel
theorem dX7_canGo_41 : decode cX7_canGo 41 = .ok (.ishl, 1) := by decide +kernel
theorem dX7_canGo_42 : decode cX7_canGo 42 = .ok (.goto 4, 3) := by decide +kernel
theorem dX7_canGo_45 : decode cX7_canGo 45 = .ok (.iconst 0, 1) := by decide +kernel
theorem dX7_canGo_46 : decode cX7_canGo 46 = .ok (.ior, 1) := by decide +kernel
theorem dX7_canGo_47 : decode cX7_canGo 47 = .ok (.istore_n 2, 1) := by decide +kernel
theorem dX7_canGo_48 : decode cX7_canGo 48 = .ok (.iinc 3 1, 3) := by decide +kernel
theorem dX7_canGo_51 : decode cX7_canGo 51 = .ok (.goto (-47), 3) := by decide +kernel
theorem dX7_canGo_54 : decode cX7_canGo 54 = .ok (.iload_n 2, 1) := by decide +kernel
theorem dX7_canGo_55 : decode cX7_canGo 55 = .ok (.ireturn, 1) := by decide +kernel
theorem dX7_laysLink_0 : decode cX7_laysLink 0 = .ok (.aload_n 0, 1) := by decide +kernel
theorem dX7_laysLink_1 : decode cX7_laysLink 1 = .ok (.iconst 0, 1) := by decide +kernel
theorem dX7_laysLink_2 : decode cX7_laysLink 2 = .ok (.putfield 315, 3) := by decide +kernel
theorem dX7_laysLink_5 : decode cX7_laysLink 5 = .ok (.iconst 0, 1) := by decide +kernel
theorem dX7_laysLink_6 : decode cX7_laysLink 6 = .ok (.istore_n 2, 1) := by decide +kernel
theorem dX7_laysLink_7 : decode cX7_laysLink 7 = .ok (.iload_n 2, 1) := by decide +kernel
theorem dX7_laysLink_8 : decode cX7_laysLink 8 = .ok (.aload_n 0, 1) := by decide +kernel
theorem dX7_laysLink_9 : decode cX7_laysLink 9 = .ok (.getfield 176, 3) := by decide +kernel
theorem dX7_laysLink_12 : decode cX7_laysLink 12 = .ok (.if_icmp .ge 51, 3) := by decide +kernel
theorem dX7_laysLink_15 : decode cX7_laysLink 15 = .ok (.iload_n 1, 1) := by decide +kernel
theorem dX7_laysLink_16 : decode cX7_laysLink 16 = .ok (.aload_n 0, 1) := by decide +kernel
theorem dX7_laysLink_17 : decode cX7_laysLink 17 = .ok (.getfield 17, 3) := by decide +kernel
theorem dX7_laysLink_20 : decode cX7_laysLink 20 = .ok (.iload_n 2, 1) := by decide +kernel
theorem dX7_laysLink_21 : decode cX7_laysLink 21 = .ok (.iaload, 1) := by decide +kernel
theorem dX7_laysLink_22 : decode cX7_laysLink 22 = .ok (.invokestatic 183, 3) := by decide +kernel
theorem dX7_laysLink_25 : decode cX7_laysLink 25 = .ok (.ifCond .eq 32, 3) := by decide +kernel
theorem dX7_laysLink_28 : decode cX7_laysLink 28 = .ok (.aload_n 0, 1) := by decide +kernel
theorem dX7_laysLink_29 : decode cX7_laysLink 29 = .ok (.getfield 52, 3) := by decide +kernel
theorem dX7_laysLink_32 : decode cX7_laysLink 32 = .ok (.aload_n 0, 1) := by decide +kernel
theorem dX7_laysLink_33 : decode cX7_laysLink 33 = .ok (.getfield 315, 3) := by decide +kernel
theorem dX7_laysLink_36 : decode cX7_laysLink 36 = .ok (.aload_n 0, 1) := by decide +kernel
theorem dX7_laysLink_37 : decode cX7_laysLink 37 = .ok (.getfield 17, 3) := by decide +kernel
theorem dX7_laysLink_40 : decode cX7_laysLink 40 = .ok (.iload_n 2, 1) := by decide +kernel
theorem dX7_laysLink_41 : decode cX7_laysLink 41 = .ok (.iaload, 1) := by decide +kernel
theorem dX7_laysLink_42 : decode cX7_laysLink 42 = .ok (.iload_n 1, 1) := by decide +kernel
theorem dX7_laysLink_43 : decode cX7_laysLink 43 = .ok (.iconst (-1), 1) := by decide +kernel
theorem dX7_laysLink_44 : decode cX7_laysLink 44 = .ok (.ixor, 1) := by decide +kernel
theorem dX7_laysLink_45 : decode cX7_laysLink 45 = .ok (.iand, 1) := by decide +kernel
theorem dX7_laysLink_46 : decode cX7_laysLink 46 = .ok (.iastore, 1) := by decide +kernel
theorem dX7_laysLink_47 : decode cX7_laysLink 47 = .ok (.aload_n 0, 1) := by decide +kernel
theorem dX7_laysLink_48 : decode cX7_laysLink 48 = .ok (.dup, 1) := by decide +kernel
theorem dX7_laysLink_49 : decode cX7_laysLink 49 = .ok (.getfield 315, 3) := by decide +kernel
theorem dX7_laysLink_52 : decode cX7_laysLink 52 = .ok (.iconst 1, 1) := by decide +kernel
theorem dX7_laysLink_53 : decode cX7_laysLink 53 = .ok (.iadd, 1) := by decide +kernel
theorem dX7_laysLink_54 : decode cX7_laysLink 54 = .ok (.putfield 315, 3) := by decide +kernel
theorem dX7_laysLink_57 : decode cX7_laysLink 57 = .ok (.iinc 2 1, 3) := by decide +kernel
theorem dX7_laysLink_60 : decode cX7_laysLink 60 = .ok (.goto (-53), 3) := by decide +kernel
theorem dX7_laysLink_63 : decode cX7_laysLink 63 = .ok (.return_, 1) := by decide +kernel
theorem dX7_linkWhy_0 : decode cX7_linkWhy 0 = .ok (.aload_n 0, 1) := by decide +kernel
theorem dX7_linkWhy_1 : decode cX7_linkWhy 1 = .ok (.getfield 179, 3) := by decide +kernel
theorem dX7_linkWhy_4 : decode cX7_linkWhy 4 = .ok (.ifCond .ne 7, 3) := by decide +kernel
theorem dX7_linkWhy_7 : decode cX7_linkWhy 7 = .ok (.iconst 1, 1) := by decide +kernel
theorem dX7_linkWhy_8 : decode cX7_linkWhy 8 = .ok (.goto 28, 3) := by decide +kernel
theorem dX7_linkWhy_11 : decode cX7_linkWhy 11 = .ok (.aload_n 0, 1) := by decide +kernel
theorem dX7_linkWhy_12 : decode cX7_linkWhy 12 = .ok (.iload_n 1, 1) := by decide +kernel
theorem dX7_linkWhy_13 : decode cX7_linkWhy 13 = .ok (.invokevirtual 234, 3) := by decide +kernel
theorem dX7_linkWhy_16 : decode cX7_linkWhy 16 = .ok (.ifCond .ne 7, 3) := by decide +kernel
theorem dX7_linkWhy_19 : decode cX7_linkWhy 19 = .ok (.iconst 2, 1) := by decide +kernel
theorem dX7_linkWhy_20 : decode cX7_linkWhy 20 = .ok (.goto 16, 3) := by decide +kernel
theorem dX7_linkWhy_23 : decode cX7_linkWhy 23 = .ok (.aload_n 0, 1) := by decide +kernel
theorem dX7_linkWhy_24 : decode cX7_linkWhy 24 = .ok (.iload_n 1, 1) := by decide +kernel
theorem dX7_linkWhy_25 : decode cX7_linkWhy 25 = .ok (.invokevirtual 237, 3) := by decide +kernel
theorem dX7_linkWhy_28 : decode cX7_linkWhy 28 = .ok (.ifCond .ne 7, 3) := by decide +kernel
theorem dX7_linkWhy_31 : decode cX7_linkWhy 31 = .ok (.iconst 5, 1) := by decide +kernel
theorem dX7_linkWhy_32 : decode cX7_linkWhy 32 = .ok (.goto 4, 3) := by decide +kernel
theorem dX7_linkWhy_35 : decode cX7_linkWhy 35 = .ok (.iconst 0, 1) := by decide +kernel
theorem dX7_linkWhy_36 : decode cX7_linkWhy 36 = .ok (.ireturn, 1) := by decide +kernel
theorem dX7_link_0 : decode cX7_link 0 = .ok (.aload_n 0, 1) := by decide +kernel
theorem dX7_link_1 : decode cX7_link 1 = .ok (.aload_n 0, 1) := by decide +kernel
theorem dX7_link_2 : decode cX7_link 2 = .ok (.iload_n 1, 1) := by decide +kernel
theorem dX7_link_3 : decode cX7_link 3 = .ok (.invokevirtual 318, 3) := by decide +kernel
theorem dX7_link_6 : decode cX7_link 6 = .ok (.invokevirtual 159, 3) := by decide +kernel
theorem dX7_link_9 : decode cX7_link 9 = .ok (.ifCond .eq 7, 3) := by decide +kernel
theorem dX7_link_12 : decode cX7_link 12 = .ok (.iconst (-1), 1) := by decide +kernel
theorem dX7_link_13 : decode cX7_link 13 = .ok (.goto 11, 3) := by decide +kernel
theorem dX7_link_16 : decode cX7_link 16 = .ok (.aload_n 0, 1) := by decide +kernel
theorem dX7_link_17 : decode cX7_link 17 = .ok (.iload_n 1, 1) := by decide +kernel
theorem dX7_link_18 : decode cX7_link 18 = .ok (.invokevirtual 237, 3) := by decide +kernel
theorem dX7_link_21 : decode cX7_link 21 = .ok (.invokestatic 136, 3) := by decide +kernel
theorem dX7_link_24 : decode cX7_link 24 = .ok (.ireturn, 1) := by decide +kernel
theorem dX7_linkRound_0 : decode cX7_linkRound 0 = .ok (.aload_n 0, 1) := by decide +kernel
theorem dX7_linkRound_1 : decode cX7_linkRound 1 = .ok (.aload_n 0, 1) := by decide +kernel
theorem dX7_linkRound_2 : decode cX7_linkRound 2 = .ok (.iload_n 1, 1) := by decide +kernel
theorem dX7_linkRound_3 : decode cX7_linkRound 3 = .ok (.invokevirtual 318, 3) := by decide +kernel
theorem dX7_linkRound_6 : decode cX7_linkRound 6 = .ok (.invokevirtual 159, 3) := by decide +kernel
theorem dX7_linkRound_9 : decode cX7_linkRound 9 = .ok (.ifCond .eq 5, 3) := by decide +kernel
theorem dX7_linkRound_12 : decode cX7_linkRound 12 = .ok (.iconst (-1), 1) := by decide +kernel
theorem dX7_linkRound_13 : decode cX7_linkRound 13 = .ok (.ireturn, 1) := by decide +kernel
theorem dX7_linkRound_14 : decode cX7_linkRound 14 = .ok (.iload_n 2, 1) := by decide +kernel
theorem dX7_linkRound_15 : decode cX7_linkRound 15 = .ok (.iconst 0, 1) := by decide +kernel
theorem dX7_linkRound_16 : decode cX7_linkRound 16 = .ok (.aload_n 0, 1) := by decide +kernel
theorem dX7_linkRound_17 : decode cX7_linkRound 17 = .ok (.getfield 173, 3) := by decide +kernel
theorem dX7_linkRound_20 : decode cX7_linkRound 20 = .ok (.iload_n 1, 1) := by decide +kernel
theorem dX7_linkRound_21 : decode cX7_linkRound 21 = .ok (.invokestatic 136, 3) := by decide +kernel
theorem dX7_linkRound_24 : decode cX7_linkRound 24 = .ok (.isub, 1) := by decide +kernel
theorem dX7_linkRound_25 : decode cX7_linkRound 25 = .ok (.invokestatic 84, 3) := by decide +kernel
theorem dX7_linkRound_28 : decode cX7_linkRound 28 = .ok (.ifCond .ne 9, 3) := by decide +kernel
theorem dX7_linkRound_31 : decode cX7_linkRound 31 = .ok (.aload_n 0, 1) := by decide +kernel
theorem dX7_linkRound_32 : decode cX7_linkRound 32 = .ok (.iconst 2, 1) := by decide +kernel
theorem dX7_linkRound_33 : decode cX7_linkRound 33 = .ok (.invokevirtual 168, 3) := by decide +kernel
theorem dX7_linkRound_36 : decode cX7_linkRound 36 = .ok (.ireturn, 1) := by decide +kernel
theorem dX7_linkRound_37 : decode cX7_linkRound 37 = .ok (.aload_n 0, 1) := by decide +kernel
theorem dX7_linkRound_38 : decode cX7_linkRound 38 = .ok (.iload_n 1, 1) := by decide +kernel
theorem dX7_linkRound_39 : decode cX7_linkRound 39 = .ok (.invokevirtual 321, 3) := by decide +kernel
theorem dX7_linkRound_42 : decode cX7_linkRound 42 = .ok (.aload_n 0, 1) := by decide +kernel
theorem dX7_linkRound_43 : decode cX7_linkRound 43 = .ok (.aload_n 0, 1) := by decide +kernel
theorem dX7_linkRound_44 : decode cX7_linkRound 44 = .ok (.getfield 52, 3) := by decide +kernel
theorem dX7_linkRound_47 : decode cX7_linkRound 47 = .ok (.aload_n 0, 1) := by decide +kernel
theorem dX7_linkRound_48 : decode cX7_linkRound 48 = .ok (.getfield 315, 3) := by decide +kernel
theorem dX7_linkRound_51 : decode cX7_linkRound 51 = .ok (.invokevirtual 195, 3) := by decide +kernel
theorem dX7_linkRound_54 : decode cX7_linkRound 54 = .ok (.aload_n 0, 1) := by decide +kernel
theorem dX7_linkRound_55 : decode cX7_linkRound 55 = .ok (.iload_n 2, 1) := by decide +kernel
theorem dX7_linkRound_56 : decode cX7_linkRound 56 = .ok (.invokevirtual 250, 3) := by decide +kernel
theorem dX7_linkRound_59 : decode cX7_linkRound 59 = .ok (.ireturn, 1) := by decide +kernel
theorem dX7_linkShellings_0 : decode cX7_linkShellings 0 = .ok (.aload_n 0, 1) := by decide +kernel
theorem dX7_linkShellings_1 : decode cX7_linkShellings 1 = .ok (.aload_n 0, 1) := by decide +kernel
theorem dX7_linkShellings_2 : decode cX7_linkShellings 2 = .ok (.iload_n 1, 1) := by decide +kernel
theorem dX7_linkShellings_3 : decode cX7_linkShellings 3 = .ok (.invokevirtual 318, 3) := by decide +kernel
theorem dX7_linkShellings_6 : decode cX7_linkShellings 6 = .ok (.invokevirtual 159, 3) := by decide +kernel
theorem dX7_linkShellings_9 : decode cX7_linkShellings 9 = .ok (.ifCond .eq 5, 3) := by decide +kernel
theorem dX7_linkShellings_12 : decode cX7_linkShellings 12 = .ok (.iconst (-1), 1) := by decide +kernel
theorem dX7_linkShellings_13 : decode cX7_linkShellings 13 = .ok (.ireturn, 1) := by decide +kernel
theorem dX7_linkShellings_14 : decode cX7_linkShellings 14 = .ok (.aload_n 0, 1) := by decide +kernel
theorem dX7_linkShellings_15 : decode cX7_linkShellings 15 = .ok (.iload_n 1, 1) := by decide +kernel
theorem dX7_linkShellings_16 : decode cX7_linkShellings 16 = .ok (.invokevirtual 321, 3) := by decide +kernel
theorem dX7_linkShellings_19 : decode cX7_linkShellings 19 = .ok (.aload_n 0, 1) := by decide +kernel
theorem dX7_linkShellings_20 : decode cX7_linkShellings 20 = .ok (.aload_n 0, 1) := by decide +kernel
theorem dX7_linkShellings_21 : decode cX7_linkShellings 21 = .ok (.getfield 52, 3) := by decide +kernel
theorem dX7_linkShellings_24 : decode cX7_linkShellings 24 = .ok (.aload_n 0, 1) := by decide +kernel
theorem dX7_linkShellings_25 : decode cX7_linkShellings 25 = .ok (.getfield 315, 3) := by decide +kernel
theorem dX7_linkShellings_28 : decode cX7_linkShellings 28 = .ok (.invokevirtual 301, 3) := by decide +kernel
theorem dX7_linkShellings_31 : decode cX7_linkShellings 31 = .ok (.aload_n 0, 1) := by decide +kernel
theorem dX7_linkShellings_32 : decode cX7_linkShellings 32 = .ok (.getfield 46, 3) := by decide +kernel
theorem dX7_linkShellings_35 : decode cX7_linkShellings 35 = .ok (.iconst 0, 1) := by decide +kernel
theorem dX7_linkShellings_36 : decode cX7_linkShellings 36 = .ok (.iaload, 1) := by decide +kernel
theorem dX7_linkShellings_37 : decode cX7_linkShellings 37 = .ok (.ireturn, 1) := by decide +kernel
theorem dX7_isEvenLink_0 : decode cX7_isEvenLink 0 = .ok (.aload_n 0, 1) := by decide +kernel
theorem dX7_isEvenLink_1 : decode cX7_isEvenLink 1 = .ok (.iload_n 1, 1) := by decide +kernel
theorem dX7_isEvenLink_2 : decode cX7_isEvenLink 2 = .ok (.invokevirtual 321, 3) := by decide +kernel
theorem dX7_isEvenLink_5 : decode cX7_isEvenLink 5 = .ok (.aload_n 0, 1) := by decide +kernel
theorem dX7_isEvenLink_6 : decode cX7_isEvenLink 6 = .ok (.aload_n 0, 1) := by decide +kernel
theorem dX7_isEvenLink_7 : decode cX7_isEvenLink 7 = .ok (.getfield 52, 3) := by decide +kernel
theorem dX7_isEvenLink_10 : decode cX7_isEvenLink 10 = .ok (.aload_n 0, 1) := by decide +kernel
theorem dX7_isEvenLink_11 : decode cX7_isEvenLink 11 = .ok (.getfield 315, 3) := by decide +kernel
theorem dX7_isEvenLink_14 : decode cX7_isEvenLink 14 = .ok (.invokevirtual 195, 3) := by decide +kernel
theorem dX7_isEvenLink_17 : decode cX7_isEvenLink 17 = .ok (.iconst 0, 1) := by decide +kernel
theorem dX7_isEvenLink_18 : decode cX7_isEvenLink 18 = .ok (.istore_n 2, 1) := by decide +kernel
theorem dX7_isEvenLink_19 : decode cX7_isEvenLink 19 = .ok (.iload_n 2, 1) := by decide +kernel
theorem dX7_isEvenLink_20 : decode cX7_isEvenLink 20 = .ok (.aload_n 0, 1) := by decide +kernel
theorem dX7_isEvenLink_21 : decode cX7_isEvenLink 21 = .ok (.getfield 173, 3) := by decide +kernel
theorem dX7_isEvenLink_24 : decode cX7_isEvenLink 24 = .ok (.iload_n 1, 1) := by decide +kernel
theorem dX7_isEvenLink_25 : decode cX7_isEvenLink 25 = .ok (.invokestatic 136, 3) := by decide +kernel
theorem dX7_isEvenLink_28 : decode cX7_isEvenLink 28 = .ok (.isub, 1) := by decide +kernel
theorem dX7_isEvenLink_29 : decode cX7_isEvenLink 29 = .ok (.if_icmp .ge 19, 3) := by decide +kernel
theorem dX7_isEvenLink_32 : decode cX7_isEvenLink 32 = .ok (.aload_n 0, 1) := by decide +kernel
theorem dX7_isEvenLink_33 : decode cX7_isEvenLink 33 = .ok (.iload_n 2, 1) := by decide +kernel
theorem dX7_isEvenLink_34 : decode cX7_isEvenLink 34 = .ok (.invokevirtual 250, 3) := by decide +kernel
theorem dX7_isEvenLink_37 : decode cX7_isEvenLink 37 = .ok (.ifCond .eq 5, 3) := by decide +kernel
theorem dX7_isEvenLink_40 : decode cX7_isEvenLink 40 = .ok (.iconst 0, 1) := by decide +kernel
theorem dX7_isEvenLink_41 : decode cX7_isEvenLink 41 = .ok (.ireturn, 1) := by decide +kernel
theorem dX7_isEvenLink_42 : decode cX7_isEvenLink 42 = .ok (.iinc 2 1, 3) := by decide +kernel
theorem dX7_isEvenLink_45 : decode cX7_isEvenLink 45 = .ok (.goto (-26), 3) := by decide +kernel
theorem dX7_isEvenLink_48 : decode cX7_isEvenLink 48 = .ok (.iconst 1, 1) := by decide +kernel
theorem dX7_isEvenLink_49 : decode cX7_isEvenLink 49 = .ok (.ireturn, 1) := by decide +kernel
theorem dX7_even_0 : decode cX7_even 0 = .ok (.aload_n 0, 1) := by decide +kernel
theorem dX7_even_1 : decode cX7_even 1 = .ok (.aload_n 0, 1) := by decide +kernel
theorem dX7_even_2 : decode cX7_even 2 = .ok (.getfield 179, 3) := by decide +kernel
theorem dX7_even_5 : decode cX7_even 5 = .ok (.invokestatic 199, 3) := by decide +kernel
theorem dX7_even_8 : decode cX7_even 8 = .ok (.invokevirtual 159, 3) := by decide +kernel
theorem dX7_even_11 : decode cX7_even 11 = .ok (.ifCond .eq 5, 3) := by decide +kernel
theorem dX7_even_14 : decode cX7_even 14 = .ok (.iconst (-1), 1) := by decide +kernel
theorem dX7_even_15 : decode cX7_even 15 = .ok (.ireturn, 1) := by decide +kernel
theorem dX7_even_16 : decode cX7_even 16 = .ok (.iconst 0, 1) := by decide +kernel
theorem dX7_even_17 : decode cX7_even 17 = .ok (.istore_n 1, 1) := by decide +kernel
theorem dX7_even_18 : decode cX7_even 18 = .ok (.iload_n 1, 1) := by decide +kernel
theorem dX7_even_19 : decode cX7_even 19 = .ok (.aload_n 0, 1) := by decide +kernel
theorem dX7_even_20 : decode cX7_even 20 = .ok (.invokevirtual 212, 3) := by decide +kernel
theorem dX7_even_23 : decode cX7_even 23 = .ok (.if_icmp .gt 27, 3) := by decide +kernel
theorem dX7_even_26 : decode cX7_even 26 = .ok (.aload_n 0, 1) := by decide +kernel
theorem dX7_even_27 : decode cX7_even 27 = .ok (.iload_n 1, 1) := by decide +kernel
theorem dX7_even_28 : decode cX7_even 28 = .ok (.invokevirtual 237, 3) := by decide +kernel
theorem dX7_even_31 : decode cX7_even 31 = .ok (.ifCond .eq 13, 3) := by decide +kernel
theorem dX7_even_34 : decode cX7_even 34 = .ok (.aload_n 0, 1) := by decide +kernel
theorem dX7_even_35 : decode cX7_even 35 = .ok (.iload_n 1, 1) := by decide +kernel
theorem dX7_even_36 : decode cX7_even 36 = .ok (.invokevirtual 324, 3) := by decide +kernel
theorem dX7_even_39 : decode cX7_even 39 = .ok (.ifCond .ne 5, 3) := by decide +kernel
theorem dX7_even_42 : decode cX7_even 42 = .ok (.iconst 0, 1) := by decide +kernel
theorem dX7_even_43 : decode cX7_even 43 = .ok (.ireturn, 1) := by decide +kernel
theorem dX7_even_44 : decode cX7_even 44 = .ok (.iinc 1 1, 3) := by decide +kernel
theorem dX7_even_47 : decode cX7_even 47 = .ok (.goto (-29), 3) := by decide +kernel
theorem dX7_even_50 : decode cX7_even 50 = .ok (.iconst 1, 1) := by decide +kernel
theorem dX7_even_51 : decode cX7_even 51 = .ok (.ireturn, 1) := by decide +kernel
theorem dX7_obstruction_0 : decode cX7_obstruction 0 = .ok (.aload_n 0, 1) := by decide +kernel
theorem dX7_obstruction_1 : decode cX7_obstruction 1 = .ok (.aload_n 0, 1) := by decide +kernel
theorem dX7_obstruction_2 : decode cX7_obstruction 2 = .ok (.getfield 179, 3) := by decide +kernel
theorem dX7_obstruction_5 : decode cX7_obstruction 5 = .ok (.invokestatic 199, 3) := by decide +kernel
theorem dX7_obstruction_8 : decode cX7_obstruction 8 = .ok (.invokevirtual 159, 3) := by decide +kernel
theorem dX7_obstruction_11 : decode cX7_obstruction 11 = .ok (.ifCond .eq 5, 3) := by decide +kernel
theorem dX7_obstruction_14 : decode cX7_obstruction 14 = .ok (.iconst (-1), 1) := by decide +kernel
theorem dX7_obstruction_15 : decode cX7_obstruction 15 = .ok (.ireturn, 1) := by decide +kernel
theorem dX7_obstruction_16 : decode cX7_obstruction 16 = .ok (.bipush (-2), 2) := by decide +kernel
theorem dX7_obstruction_18 : decode cX7_obstruction 18 = .ok (.istore_n 1, 1) := by decide +kernel
theorem dX7_obstruction_19 : decode cX7_obstruction 19 = .ok (.iconst 0, 1) := by decide +kernel
theorem dX7_obstruction_20 : decode cX7_obstruction 20 = .ok (.istore_n 2, 1) := by decide +kernel
theorem dX7_obstruction_21 : decode cX7_obstruction 21 = .ok (.iload_n 2, 1) := by decide +kernel
theorem dX7_obstruction_22 : decode cX7_obstruction 22 = .ok (.aload_n 0, 1) := by decide +kernel
theorem dX7_obstruction_23 : decode cX7_obstruction 23 = .ok (.invokevirtual 212, 3) := by decide +kernel
theorem dX7_obstruction_26 : decode cX7_obstruction 26 = .ok (.if_icmp .gt 66, 3) := by decide +kernel
theorem dX7_obstruction_29 : decode cX7_obstruction 29 = .ok (.aload_n 0, 1) := by decide +kernel
theorem dX7_obstruction_30 : decode cX7_obstruction 30 = .ok (.iload_n 2, 1) := by decide +kernel
theorem dX7_obstruction_31 : decode cX7_obstruction 31 = .ok (.invokevirtual 237, 3) := by decide +kernel
theorem dX7_obstruction_34 : decode cX7_obstruction 34 = .ok (.ifCond .eq 52, 3) := by decide +kernel
theorem dX7_obstruction_37 : decode cX7_obstruction 37 = .ok (.iload_n 1, 1) := by decide +kernel
theorem dX7_obstruction_38 : decode cX7_obstruction 38 = .ok (.bipush (-2), 2) := by decide +kernel
theorem dX7_obstruction_40 : decode cX7_obstruction 40 = .ok (.if_icmp .eq 14, 3) := by decide +kernel
theorem dX7_obstruction_43 : decode cX7_obstruction 43 = .ok (.iload_n 2, 1) := by decide +kernel
theorem dX7_obstruction_44 : decode cX7_obstruction 44 = .ok (.invokestatic 136, 3) := by decide +kernel
theorem dX7_obstruction_47 : decode cX7_obstruction 47 = .ok (.iload_n 1, 1) := by decide +kernel
theorem dX7_obstruction_48 : decode cX7_obstruction 48 = .ok (.invokestatic 136, 3) := by decide +kernel
theorem dX7_obstruction_51 : decode cX7_obstruction 51 = .ok (.if_icmp .le 35, 3) := by decide +kernel
theorem dX7_obstruction_54 : decode cX7_obstruction 54 = .ok (.aload_n 0, 1) := by decide +kernel
theorem dX7_obstruction_55 : decode cX7_obstruction 55 = .ok (.iload_n 2, 1) := by decide +kernel
theorem dX7_obstruction_56 : decode cX7_obstruction 56 = .ok (.invokevirtual 321, 3) := by decide +kernel
theorem dX7_obstruction_59 : decode cX7_obstruction 59 = .ok (.aload_n 0, 1) := by decide +kernel
theorem dX7_obstruction_60 : decode cX7_obstruction 60 = .ok (.aload_n 0, 1) := by decide +kernel
theorem dX7_obstruction_61 : decode cX7_obstruction 61 = .ok (.getfield 52, 3) := by decide +kernel
theorem dX7_obstruction_64 : decode cX7_obstruction 64 = .ok (.aload_n 0, 1) := by decide +kernel
theorem dX7_obstruction_65 : decode cX7_obstruction 65 = .ok (.getfield 315, 3) := by decide +kernel
theorem dX7_obstruction_68 : decode cX7_obstruction 68 = .ok (.invokevirtual 301, 3) := by decide +kernel
theorem dX7_obstruction_71 : decode cX7_obstruction 71 = .ok (.aload_n 0, 1) := by decide +kernel
theorem dX7_obstruction_72 : decode cX7_obstruction 72 = .ok (.getfield 46, 3) := by decide +kernel
theorem dX7_obstruction_75 : decode cX7_obstruction 75 = .ok (.iconst 0, 1) := by decide +kernel
theorem dX7_obstruction_76 : decode cX7_obstruction 76 = .ok (.iaload, 1) := by decide +kernel
theorem dX7_obstruction_77 : decode cX7_obstruction 77 = .ok (.ifCond .ne 7, 3) := by decide +kernel
theorem dX7_obstruction_80 : decode cX7_obstruction 80 = .ok (.iload_n 2, 1) := by decide +kernel
theorem dX7_obstruction_81 : decode cX7_obstruction 81 = .ok (.goto 4, 3) := by decide +kernel
theorem dX7_obstruction_84 : decode cX7_obstruction 84 = .ok (.iload_n 1, 1) := by decide +kernel
theorem dX7_obstruction_85 : decode cX7_obstruction 85 = .ok (.istore_n 1, 1) := by decide +kernel
theorem dX7_obstruction_86 : decode cX7_obstruction 86 = .ok (.iinc 2 1, 3) := by decide +kernel
theorem dX7_obstruction_89 : decode cX7_obstruction 89 = .ok (.goto (-68), 3) := by decide +kernel
theorem dX7_obstruction_92 : decode cX7_obstruction 92 = .ok (.iload_n 1, 1) := by decide +kernel
theorem dX7_obstruction_93 : decode cX7_obstruction 93 = .ok (.ireturn, 1) := by decide +kernel
theorem dX7_canShed_0 : decode cX7_canShed 0 = .ok (.iconst 0, 1) := by decide +kernel
theorem dX7_canShed_1 : decode cX7_canShed 1 = .ok (.istore 4, 2) := by decide +kernel
theorem dX7_canShed_3 : decode cX7_canShed 3 = .ok (.iconst 0, 1) := by decide +kernel
theorem dX7_canShed_4 : decode cX7_canShed 4 = .ok (.istore 5, 2) := by decide +kernel
theorem dX7_canShed_6 : decode cX7_canShed 6 = .ok (.iconst 0, 1) := by decide +kernel
theorem dX7_canShed_7 : decode cX7_canShed 7 = .ok (.istore 6, 2) := by decide +kernel
theorem dX7_canShed_9 : decode cX7_canShed 9 = .ok (.iload 6, 2) := by decide +kernel
theorem dX7_canShed_11 : decode cX7_canShed 11 = .ok (.aload_n 0, 1) := by decide +kernel
theorem dX7_canShed_12 : decode cX7_canShed 12 = .ok (.getfield 176, 3) := by decide +kernel
theorem dX7_canShed_15 : decode cX7_canShed 15 = .ok (.if_icmp .ge 75, 3) := by decide +kernel
theorem dX7_canShed_18 : decode cX7_canShed 18 = .ok (.iload 4, 2) := by decide +kernel
theorem dX7_canShed_20 : decode cX7_canShed 20 = .ok (.iload_n 1, 1) := by decide +kernel
theorem dX7_canShed_21 : decode cX7_canShed 21 = .ok (.iload 6, 2) := by decide +kernel
theorem dX7_canShed_23 : decode cX7_canShed 23 = .ok (.invokestatic 132, 3) := by decide +kernel
theorem dX7_canShed_26 : decode cX7_canShed 26 = .ok (.ifCond .eq 21, 3) := by decide +kernel
theorem dX7_canShed_29 : decode cX7_canShed 29 = .ok (.aload_n 0, 1) := by decide +kernel
theorem dX7_canShed_30 : decode cX7_canShed 30 = .ok (.getfield 17, 3) := by decide +kernel
theorem dX7_canShed_33 : decode cX7_canShed 33 = .ok (.iload 6, 2) := by decide +kernel
theorem dX7_canShed_35 : decode cX7_canShed 35 = .ok (.iaload, 1) := by decide +kernel
theorem dX7_canShed_36 : decode cX7_canShed 36 = .ok (.iload_n 3, 1) := by decide +kernel
theorem dX7_canShed_37 : decode cX7_canShed 37 = .ok (.invokestatic 132, 3) := by decide +kernel
theorem dX7_canShed_40 : decode cX7_canShed 40 = .ok (.ifCond .eq 7, 3) := by decide +kernel
theorem dX7_canShed_43 : decode cX7_canShed 43 = .ok (.iconst 1, 1) := by decide +kernel
theorem dX7_canShed_44 : decode cX7_canShed 44 = .ok (.goto 4, 3) := by decide +kernel
theorem dX7_canShed_47 : decode cX7_canShed 47 = .ok (.iconst 0, 1) := by decide +kernel
theorem dX7_canShed_48 : decode cX7_canShed 48 = .ok (.ior, 1) := by decide +kernel
theorem dX7_canShed_49 : decode cX7_canShed 49 = .ok (.istore 4, 2) := by decide +kernel
theorem dX7_canShed_51 : decode cX7_canShed 51 = .ok (.iload 5, 2) := by decide +kernel
theorem dX7_canShed_53 : decode cX7_canShed 53 = .ok (.iload_n 1, 1) := by decide +kernel
theorem dX7_canShed_54 : decode cX7_canShed 54 = .ok (.iload 6, 2) := by decide +kernel
theorem dX7_canShed_56 : decode cX7_canShed 56 = .ok (.invokestatic 132, 3) := by decide +kernel
theorem dX7_canShed_59 : decode cX7_canShed 59 = .ok (.ifCond .eq 21, 3) := by decide +kernel
theorem dX7_canShed_62 : decode cX7_canShed 62 = .ok (.aload_n 0, 1) := by decide +kernel
theorem dX7_canShed_63 : decode cX7_canShed 63 = .ok (.getfield 17, 3) := by decide +kernel
theorem dX7_canShed_66 : decode cX7_canShed 66 = .ok (.iload 6, 2) := by decide +kernel
theorem dX7_canShed_68 : decode cX7_canShed 68 = .ok (.iaload, 1) := by decide +kernel
theorem dX7_canShed_69 : decode cX7_canShed 69 = .ok (.iload_n 3, 1) := by decide +kernel
theorem dX7_canShed_70 : decode cX7_canShed 70 = .ok (.invokestatic 132, 3) := by decide +kernel
theorem dX7_canShed_73 : decode cX7_canShed 73 = .ok (.ifCond .ne 7, 3) := by decide +kernel
theorem dX7_canShed_76 : decode cX7_canShed 76 = .ok (.iconst 1, 1) := by decide +kernel
theorem dX7_canShed_77 : decode cX7_canShed 77 = .ok (.goto 4, 3) := by decide +kernel
theorem dX7_canShed_80 : decode cX7_canShed 80 = .ok (.iconst 0, 1) := by decide +kernel
theorem dX7_canShed_81 : decode cX7_canShed 81 = .ok (.ior, 1) := by decide +kernel
theorem dX7_canShed_82 : decode cX7_canShed 82 = .ok (.istore 5, 2) := by decide +kernel
theorem dX7_canShed_84 : decode cX7_canShed 84 = .ok (.iinc 6 1, 3) := by decide +kernel
theorem dX7_canShed_87 : decode cX7_canShed 87 = .ok (.goto (-78), 3) := by decide +kernel
theorem dX7_canShed_90 : decode cX7_canShed 90 = .ok (.iload_n 2, 1) := by decide +kernel
theorem dX7_canShed_91 : decode cX7_canShed 91 = .ok (.iload_n 3, 1) := by decide +kernel
theorem dX7_canShed_92 : decode cX7_canShed 92 = .ok (.invokestatic 132, 3) := by decide +kernel
theorem dX7_canShed_95 : decode cX7_canShed 95 = .ok (.ifCond .ne 13, 3) := by decide +kernel
theorem dX7_canShed_98 : decode cX7_canShed 98 = .ok (.iload 4, 2) := by decide +kernel
theorem dX7_canShed_100 : decode cX7_canShed 100 = .ok (.ifCond .eq 8, 3) := by decide +kernel
theorem dX7_canShed_103 : decode cX7_canShed 103 = .ok (.iload 5, 2) := by decide +kernel
theorem dX7_canShed_105 : decode cX7_canShed 105 = .ok (.ifCond .ne 5, 3) := by decide +kernel
theorem dX7_canShed_108 : decode cX7_canShed 108 = .ok (.iconst 0, 1) := by decide +kernel
theorem dX7_canShed_109 : decode cX7_canShed 109 = .ok (.ireturn, 1) := by decide +kernel
theorem dX7_canShed_110 : decode cX7_canShed 110 = .ok (.iconst 0, 1) := by decide +kernel
theorem dX7_canShed_111 : decode cX7_canShed 111 = .ok (.istore 6, 2) := by decide +kernel
theorem dX7_canShed_113 : decode cX7_canShed 113 = .ok (.iload 6, 2) := by decide +kernel
theorem dX7_canShed_115 : decode cX7_canShed 115 = .ok (.aload_n 0, 1) := by decide +kernel
theorem dX7_canShed_116 : decode cX7_canShed 116 = .ok (.getfield 176, 3) := by decide +kernel
theorem dX7_canShed_119 : decode cX7_canShed 119 = .ok (.if_icmp .ge 129, 3) := by decide +kernel
theorem dX7_canShed_122 : decode cX7_canShed 122 = .ok (.iload_n 1, 1) := by decide +kernel
theorem dX7_canShed_123 : decode cX7_canShed 123 = .ok (.iload 6, 2) := by decide +kernel
theorem dX7_canShed_125 : decode cX7_canShed 125 = .ok (.invokestatic 132, 3) := by decide +kernel
theorem dX7_canShed_128 : decode cX7_canShed 128 = .ok (.ifCond .eq 17, 3) := by decide +kernel
theorem dX7_canShed_131 : decode cX7_canShed 131 = .ok (.aload_n 0, 1) := by decide +kernel
theorem dX7_canShed_132 : decode cX7_canShed 132 = .ok (.getfield 17, 3) := by decide +kernel
theorem dX7_canShed_135 : decode cX7_canShed 135 = .ok (.iload 6, 2) := by decide +kernel
theorem dX7_canShed_137 : decode cX7_canShed 137 = .ok (.iaload, 1) := by decide +kernel
theorem dX7_canShed_138 : decode cX7_canShed 138 = .ok (.iload_n 3, 1) := by decide +kernel
theorem dX7_canShed_139 : decode cX7_canShed 139 = .ok (.invokestatic 132, 3) := by decide +kernel
theorem dX7_canShed_142 : decode cX7_canShed 142 = .ok (.ifCond .ne 7, 3) := by decide +kernel
theorem dX7_canShed_145 : decode cX7_canShed 145 = .ok (.iconst 1, 1) := by decide +kernel
theorem dX7_canShed_146 : decode cX7_canShed 146 = .ok (.goto 4, 3) := by decide +kernel
theorem dX7_canShed_149 : decode cX7_canShed 149 = .ok (.iconst 0, 1) := by decide +kernel
theorem dX7_canShed_150 : decode cX7_canShed 150 = .ok (.istore 7, 2) := by decide +kernel
theorem dX7_canShed_152 : decode cX7_canShed 152 = .ok (.iconst 0, 1) := by decide +kernel
theorem dX7_canShed_153 : decode cX7_canShed 153 = .ok (.istore 8, 2) := by decide +kernel
theorem dX7_canShed_155 : decode cX7_canShed 155 = .ok (.iload 8, 2) := by decide +kernel
theorem dX7_canShed_157 : decode cX7_canShed 157 = .ok (.aload_n 0, 1) := by decide +kernel
theorem dX7_canShed_158 : decode cX7_canShed 158 = .ok (.getfield 176, 3) := by decide +kernel
theorem dX7_canShed_161 : decode cX7_canShed 161 = .ok (.if_icmp .ge 74, 3) := by decide +kernel
theorem dX7_canShed_164 : decode cX7_canShed 164 = .ok (.iload 7, 2) := by decide +kernel
theorem dX7_canShed_166 : decode cX7_canShed 166 = .ok (.ifCond .ne 69, 3) := by decide +kernel
theorem dX7_canShed_169 : decode cX7_canShed 169 = .ok (.iload_n 1, 1) := by decide +kernel
theorem dX7_canShed_170 : decode cX7_canShed 170 = .ok (.iload 8, 2) := by decide +kernel
theorem dX7_canShed_172 : decode cX7_canShed 172 = .ok (.invokestatic 132, 3) := by decide +kernel
theorem dX7_canShed_175 : decode cX7_canShed 175 = .ok (.ifCond .eq 51, 3) := by decide +kernel
theorem dX7_canShed_178 : decode cX7_canShed 178 = .ok (.aload_n 0, 1) := by decide +kernel
theorem dX7_canShed_179 : decode cX7_canShed 179 = .ok (.getfield 17, 3) := by decide +kernel
theorem dX7_canShed_182 : decode cX7_canShed 182 = .ok (.iload 8, 2) := by decide +kernel
theorem dX7_canShed_184 : decode cX7_canShed 184 = .ok (.iaload, 1) := by decide +kernel
theorem dX7_canShed_185 : decode cX7_canShed 185 = .ok (.iload_n 3, 1) := by decide +kernel
theorem dX7_canShed_186 : decode cX7_canShed 186 = .ok (.invokestatic 132, 3) := by decide +kernel
theorem dX7_canShed_189 : decode cX7_canShed 189 = .ok (.ifCond .ne 37, 3) := by decide +kernel
theorem dX7_canShed_192 : decode cX7_canShed 192 = .ok (.aload_n 0, 1) := by decide +kernel
theorem dX7_canShed_193 : decode cX7_canShed 193 = .ok (.getfield 17, 3) := by decide +kernel
theorem dX7_canShed_196 : decode cX7_canShed 196 = .ok (.iload 6, 2) := by decide +kernel
theorem dX7_canShed_198 : decode cX7_canShed 198 = .ok (.iaload, 1) := by decide +kernel
theorem dX7_canShed_199 : decode cX7_canShed 199 = .ok (.iload_n 2, 1) := by decide +kernel
theorem dX7_canShed_200 : decode cX7_canShed 200 = .ok (.iconst (-1), 1) := by decide +kernel
theorem dX7_canShed_201 : decode cX7_canShed 201 = .ok (.ixor, 1) := by decide +kernel
theorem dX7_canShed_202 : decode cX7_canShed 202 = .ok (.iand, 1) := by decide +kernel
theorem dX7_canShed_203 : decode cX7_canShed 203 = .ok (.iconst 1, 1) := by decide +kernel
theorem dX7_canShed_204 : decode cX7_canShed 204 = .ok (.iload_n 3, 1) := by decide +kernel
theorem dX7_canShed_205 : decode cX7_canShed 205 = .ok (.ishl, 1) := by decide +kernel
theorem dX7_canShed_206 : decode cX7_canShed 206 = .ok (.iconst (-1), 1) := by decide +kernel
theorem dX7_canShed_207 : decode cX7_canShed 207 = .ok (.ixor, 1) := by decide +kernel
theorem dX7_canShed_208 : decode cX7_canShed 208 = .ok (.iand, 1) := by decide +kernel
theorem dX7_canShed_209 : decode cX7_canShed 209 = .ok (.aload_n 0, 1) := by decide +kernel
theorem dX7_canShed_210 : decode cX7_canShed 210 = .ok (.getfield 17, 3) := by decide +kernel
theorem dX7_canShed_213 : decode cX7_canShed 213 = .ok (.iload 8, 2) := by decide +kernel
theorem dX7_canShed_215 : decode cX7_canShed 215 = .ok (.iaload, 1) := by decide +kernel
theorem dX7_canShed_216 : decode cX7_canShed 216 = .ok (.invokestatic 183, 3) := by decide +kernel
theorem dX7_canShed_219 : decode cX7_canShed 219 = .ok (.ifCond .eq 7, 3) := by decide +kernel
theorem dX7_canShed_222 : decode cX7_canShed 222 = .ok (.iconst 1, 1) := by decide +kernel
theorem dX7_canShed_223 : decode cX7_canShed 223 = .ok (.goto 4, 3) := by decide +kernel
theorem dX7_canShed_226 : decode cX7_canShed 226 = .ok (.iconst 0, 1) := by decide +kernel
theorem dX7_canShed_227 : decode cX7_canShed 227 = .ok (.istore 7, 2) := by decide +kernel
theorem dX7_canShed_229 : decode cX7_canShed 229 = .ok (.iinc 8 1, 3) := by decide +kernel
theorem dX7_canShed_232 : decode cX7_canShed 232 = .ok (.goto (-77), 3) := by decide +kernel
theorem dX7_canShed_235 : decode cX7_canShed 235 = .ok (.iload 7, 2) := by decide +kernel
theorem dX7_canShed_237 : decode cX7_canShed 237 = .ok (.ifCond .ne 5, 3) := by decide +kernel
theorem dX7_canShed_240 : decode cX7_canShed 240 = .ok (.iconst 0, 1) := by decide +kernel
theorem dX7_canShed_241 : decode cX7_canShed 241 = .ok (.ireturn, 1) := by decide +kernel
theorem dX7_canShed_242 : decode cX7_canShed 242 = .ok (.iinc 6 1, 3) := by decide +kernel
theorem dX7_canShed_245 : decode cX7_canShed 245 = .ok (.goto (-132), 3) := by decide +kernel
theorem dX7_canShed_248 : decode cX7_canShed 248 = .ok (.iconst 1, 1) := by decide +kernel
theorem dX7_canShed_249 : decode cX7_canShed 249 = .ok (.ireturn, 1) := by decide +kernel
theorem dX7_withPoint_0 : decode cX7_withPoint 0 = .ok (.iconst 0, 1) := by decide +kernel
theorem dX7_withPoint_1 : decode cX7_withPoint 1 = .ok (.istore_n 3, 1) := by decide +kernel
theorem dX7_withPoint_2 : decode cX7_withPoint 2 = .ok (.iconst 0, 1) := by decide +kernel
theorem dX7_withPoint_3 : decode cX7_withPoint 3 = .ok (.istore 4, 2) := by decide +kernel
theorem dX7_withPoint_5 : decode cX7_withPoint 5 = .ok (.iload 4, 2) := by decide +kernel
theorem dX7_withPoint_7 : decode cX7_withPoint 7 = .ok (.aload_n 0, 1) := by decide +kernel
theorem dX7_withPoint_8 : decode cX7_withPoint 8 = .ok (.getfield 176, 3) := by decide +kernel
theorem dX7_withPoint_11 : decode cX7_withPoint 11 = .ok (.if_icmp .ge 43, 3) := by decide +kernel
theorem dX7_withPoint_14 : decode cX7_withPoint 14 = .ok (.iload_n 3, 1) := by decide +kernel
theorem dX7_withPoint_15 : decode cX7_withPoint 15 = .ok (.iload_n 1, 1) := by decide +kernel
theorem dX7_withPoint_16 : decode cX7_withPoint 16 = .ok (.iload 4, 2) := by decide +kernel
theorem dX7_withPoint_18 : decode cX7_withPoint 18 = .ok (.invokestatic 132, 3) := by decide +kernel
theorem dX7_withPoint_21 : decode cX7_withPoint 21 = .ok (.ifCond .eq 24, 3) := by decide +kernel
theorem dX7_withPoint_24 : decode cX7_withPoint 24 = .ok (.aload_n 0, 1) := by decide +kernel
theorem dX7_withPoint_25 : decode cX7_withPoint 25 = .ok (.getfield 17, 3) := by decide +kernel
theorem dX7_withPoint_28 : decode cX7_withPoint 28 = .ok (.iload 4, 2) := by decide +kernel
theorem dX7_withPoint_30 : decode cX7_withPoint 30 = .ok (.iaload, 1) := by decide +kernel
theorem dX7_withPoint_31 : decode cX7_withPoint 31 = .ok (.iload_n 2, 1) := by decide +kernel
theorem dX7_withPoint_32 : decode cX7_withPoint 32 = .ok (.invokestatic 132, 3) := by decide +kernel
theorem dX7_withPoint_35 : decode cX7_withPoint 35 = .ok (.ifCond .eq 10, 3) := by decide +kernel
theorem dX7_withPoint_38 : decode cX7_withPoint 38 = .ok (.iconst 1, 1) := by decide +kernel
theorem dX7_withPoint_39 : decode cX7_withPoint 39 = .ok (.iload 4, 2) := by decide +kernel
theorem dX7_withPoint_41 : decode cX7_withPoint 41 = .ok (.ishl, 1) := by decide +kernel
theorem dX7_withPoint_42 : decode cX7_withPoint 42 = .ok (.goto 4, 3) := by decide +kernel
theorem dX7_withPoint_45 : decode cX7_withPoint 45 = .ok (.iconst 0, 1) := by decide +kernel
theorem dX7_withPoint_46 : decode cX7_withPoint 46 = .ok (.ior, 1) := by decide +kernel
theorem dX7_withPoint_47 : decode cX7_withPoint 47 = .ok (.istore_n 3, 1) := by decide +kernel
theorem dX7_withPoint_48 : decode cX7_withPoint 48 = .ok (.iinc 4 1, 3) := by decide +kernel
theorem dX7_withPoint_51 : decode cX7_withPoint 51 = .ok (.goto (-46), 3) := by decide +kernel
theorem dX7_withPoint_54 : decode cX7_withPoint 54 = .ok (.iload_n 3, 1) := by decide +kernel
theorem dX7_withPoint_55 : decode cX7_withPoint 55 = .ok (.ireturn, 1) := by decide +kernel
theorem dX7_fallsOf_0 : decode cX7_fallsOf 0 = .ok (.iload_n 1, 1) := by decide +kernel
theorem dX7_fallsOf_1 : decode cX7_fallsOf 1 = .ok (.invokestatic 136, 3) := by decide +kernel
theorem dX7_fallsOf_4 : decode cX7_fallsOf 4 = .ok (.iconst 1, 1) := by decide +kernel
theorem dX7_fallsOf_5 : decode cX7_fallsOf 5 = .ok (.if_icmp .ne 5, 3) := by decide +kernel
theorem dX7_fallsOf_8 : decode cX7_fallsOf 8 = .ok (.iconst 1, 1) := by decide +kernel
theorem dX7_fallsOf_9 : decode cX7_fallsOf 9 = .ok (.ireturn, 1) := by decide +kernel
theorem dX7_fallsOf_10 : decode cX7_fallsOf 10 = .ok (.iconst 0, 1) := by decide +kernel
theorem dX7_fallsOf_11 : decode cX7_fallsOf 11 = .ok (.istore_n 3, 1) := by decide +kernel
theorem dX7_fallsOf_12 : decode cX7_fallsOf 12 = .ok (.iload_n 3, 1) := by decide +kernel
theorem dX7_fallsOf_13 : decode cX7_fallsOf 13 = .ok (.aload_n 0, 1) := by decide +kernel
theorem dX7_fallsOf_14 : decode cX7_fallsOf 14 = .ok (.getfield 171, 3) := by decide +kernel
theorem dX7_fallsOf_17 : decode cX7_fallsOf 17 = .ok (.if_icmp .ge 31, 3) := by decide +kernel
theorem dX7_fallsOf_20 : decode cX7_fallsOf 20 = .ok (.aload_n 0, 1) := by decide +kernel
theorem dX7_fallsOf_21 : decode cX7_fallsOf 21 = .ok (.iload_n 1, 1) := by decide +kernel
theorem dX7_fallsOf_22 : decode cX7_fallsOf 22 = .ok (.iload_n 2, 1) := by decide +kernel
theorem dX7_fallsOf_23 : decode cX7_fallsOf 23 = .ok (.iload_n 3, 1) := by decide +kernel
theorem dX7_fallsOf_24 : decode cX7_fallsOf 24 = .ok (.invokevirtual 327, 3) := by decide +kernel
theorem dX7_fallsOf_27 : decode cX7_fallsOf 27 = .ok (.ifCond .eq 15, 3) := by decide +kernel
theorem dX7_fallsOf_30 : decode cX7_fallsOf 30 = .ok (.aload_n 0, 1) := by decide +kernel
theorem dX7_fallsOf_31 : decode cX7_fallsOf 31 = .ok (.iload_n 1, 1) := by decide +kernel
theorem dX7_fallsOf_32 : decode cX7_fallsOf 32 = .ok (.iload_n 2, 1) := by decide +kernel
theorem dX7_fallsOf_33 : decode cX7_fallsOf 33 = .ok (.iload_n 3, 1) := by decide +kernel
theorem dX7_fallsOf_34 : decode cX7_fallsOf 34 = .ok (.invokevirtual 330, 3) := by decide +kernel
theorem dX7_fallsOf_37 : decode cX7_fallsOf 37 = .ok (.ifCond .eq 5, 3) := by decide +kernel
theorem dX7_fallsOf_40 : decode cX7_fallsOf 40 = .ok (.iconst 1, 1) := by decide +kernel
theorem dX7_fallsOf_41 : decode cX7_fallsOf 41 = .ok (.ireturn, 1) := by decide +kernel
theorem dX7_fallsOf_42 : decode cX7_fallsOf 42 = .ok (.iinc 3 1, 3) := by decide +kernel
theorem dX7_fallsOf_45 : decode cX7_fallsOf 45 = .ok (.goto (-33), 3) := by decide +kernel
theorem dX7_fallsOf_48 : decode cX7_fallsOf 48 = .ok (.iconst 0, 1) := by decide +kernel
theorem dX7_fallsOf_49 : decode cX7_fallsOf 49 = .ok (.ireturn, 1) := by decide +kernel
theorem dX7_bothFall_0 : decode cX7_bothFall 0 = .ok (.aload_n 0, 1) := by decide +kernel
theorem dX7_bothFall_1 : decode cX7_bothFall 1 = .ok (.iload_n 1, 1) := by decide +kernel
theorem dX7_bothFall_2 : decode cX7_bothFall 2 = .ok (.iload_n 3, 1) := by decide +kernel
theorem dX7_bothFall_3 : decode cX7_bothFall 3 = .ok (.invokevirtual 333, 3) := by decide +kernel
theorem dX7_bothFall_6 : decode cX7_bothFall 6 = .ok (.istore 4, 2) := by decide +kernel
theorem dX7_bothFall_8 : decode cX7_bothFall 8 = .ok (.aload_n 0, 1) := by decide +kernel
theorem dX7_bothFall_9 : decode cX7_bothFall 9 = .ok (.iload_n 1, 1) := by decide +kernel
theorem dX7_bothFall_10 : decode cX7_bothFall 10 = .ok (.iload 4, 2) := by decide +kernel
theorem dX7_bothFall_12 : decode cX7_bothFall 12 = .ok (.iconst (-1), 1) := by decide +kernel
theorem dX7_bothFall_13 : decode cX7_bothFall 13 = .ok (.ixor, 1) := by decide +kernel
theorem dX7_bothFall_14 : decode cX7_bothFall 14 = .ok (.iand, 1) := by decide +kernel
theorem dX7_bothFall_15 : decode cX7_bothFall 15 = .ok (.iload_n 2, 1) := by decide +kernel
theorem dX7_bothFall_16 : decode cX7_bothFall 16 = .ok (.invokevirtual 336, 3) := by decide +kernel
theorem dX7_bothFall_19 : decode cX7_bothFall 19 = .ok (.ifCond .eq 21, 3) := by decide +kernel
theorem dX7_bothFall_22 : decode cX7_bothFall 22 = .ok (.aload_n 0, 1) := by decide +kernel
theorem dX7_bothFall_23 : decode cX7_bothFall 23 = .ok (.iload 4, 2) := by decide +kernel
theorem dX7_bothFall_25 : decode cX7_bothFall 25 = .ok (.iload_n 2, 1) := by decide +kernel
theorem dX7_bothFall_26 : decode cX7_bothFall 26 = .ok (.iconst 1, 1) := by decide +kernel
theorem dX7_bothFall_27 : decode cX7_bothFall 27 = .ok (.iload_n 3, 1) := by decide +kernel
theorem dX7_bothFall_28 : decode cX7_bothFall 28 = .ok (.ishl, 1) := by decide +kernel
theorem dX7_bothFall_29 : decode cX7_bothFall 29 = .ok (.ior, 1) := by decide +kernel
theorem dX7_bothFall_30 : decode cX7_bothFall 30 = .ok (.invokevirtual 336, 3) := by decide +kernel
theorem dX7_bothFall_33 : decode cX7_bothFall 33 = .ok (.ifCond .eq 7, 3) := by decide +kernel
theorem dX7_bothFall_36 : decode cX7_bothFall 36 = .ok (.iconst 1, 1) := by decide +kernel
theorem dX7_bothFall_37 : decode cX7_bothFall 37 = .ok (.goto 4, 3) := by decide +kernel
theorem dX7_bothFall_40 : decode cX7_bothFall 40 = .ok (.iconst 0, 1) := by decide +kernel
theorem dX7_bothFall_41 : decode cX7_bothFall 41 = .ok (.ireturn, 1) := by decide +kernel
theorem dX7_allFacets_0 : decode cX7_allFacets 0 = .ok (.iconst 1, 1) := by decide +kernel
theorem dX7_allFacets_1 : decode cX7_allFacets 1 = .ok (.aload_n 0, 1) := by decide +kernel
theorem dX7_allFacets_2 : decode cX7_allFacets 2 = .ok (.getfield 176, 3) := by decide +kernel
theorem dX7_allFacets_5 : decode cX7_allFacets 5 = .ok (.ishl, 1) := by decide +kernel
theorem dX7_allFacets_6 : decode cX7_allFacets 6 = .ok (.iconst 1, 1) := by decide +kernel
theorem dX7_allFacets_7 : decode cX7_allFacets 7 = .ok (.isub, 1) := by decide +kernel
theorem dX7_allFacets_8 : decode cX7_allFacets 8 = .ok (.ireturn, 1) := by decide +kernel
theorem dX7_fallsApart_0 : decode cX7_fallsApart 0 = .ok (.aload_n 0, 1) := by decide +kernel
theorem dX7_fallsApart_1 : decode cX7_fallsApart 1 = .ok (.aload_n 0, 1) := by decide +kernel
theorem dX7_fallsApart_2 : decode cX7_fallsApart 2 = .ok (.getfield 179, 3) := by decide +kernel
theorem dX7_fallsApart_5 : decode cX7_fallsApart 5 = .ok (.invokestatic 199, 3) := by decide +kernel
theorem dX7_fallsApart_8 : decode cX7_fallsApart 8 = .ok (.invokevirtual 159, 3) := by decide +kernel
theorem dX7_fallsApart_11 : decode cX7_fallsApart 11 = .ok (.ifCond .eq 5, 3) := by decide +kernel
theorem dX7_fallsApart_14 : decode cX7_fallsApart 14 = .ok (.iconst (-1), 1) := by decide +kernel
theorem dX7_fallsApart_15 : decode cX7_fallsApart 15 = .ok (.ireturn, 1) := by decide +kernel
theorem dX7_fallsApart_16 : decode cX7_fallsApart 16 = .ok (.aload_n 0, 1) := by decide +kernel
theorem dX7_fallsApart_17 : decode cX7_fallsApart 17 = .ok (.aload_n 0, 1) := by decide +kernel
theorem dX7_fallsApart_18 : decode cX7_fallsApart 18 = .ok (.invokevirtual 339, 3) := by decide +kernel
theorem dX7_fallsApart_21 : decode cX7_fallsApart 21 = .ok (.iconst 0, 1) := by decide +kernel
theorem dX7_fallsApart_22 : decode cX7_fallsApart 22 = .ok (.invokevirtual 336, 3) := by decide +kernel
theorem dX7_fallsApart_25 : decode cX7_fallsApart 25 = .ok (.ifCond .eq 7, 3) := by decide +kernel
theorem dX7_fallsApart_28 : decode cX7_fallsApart 28 = .ok (.iconst 1, 1) := by decide +kernel
theorem dX7_fallsApart_29 : decode cX7_fallsApart 29 = .ok (.goto 4, 3) := by decide +kernel
theorem dX7_fallsApart_32 : decode cX7_fallsApart 32 = .ok (.iconst 0, 1) := by decide +kernel
theorem dX7_fallsApart_33 : decode cX7_fallsApart 33 = .ok (.ireturn, 1) := by decide +kernel
theorem dX7_shed_0 : decode cX7_shed 0 = .ok (.aload_n 0, 1) := by decide +kernel
theorem dX7_shed_1 : decode cX7_shed 1 = .ok (.aload_n 0, 1) := by decide +kernel
theorem dX7_shed_2 : decode cX7_shed 2 = .ok (.getfield 179, 3) := by decide +kernel
theorem dX7_shed_5 : decode cX7_shed 5 = .ok (.invokestatic 199, 3) := by decide +kernel
theorem dX7_shed_8 : decode cX7_shed 8 = .ok (.invokevirtual 159, 3) := by decide +kernel
theorem dX7_shed_11 : decode cX7_shed 11 = .ok (.ifCond .eq 5, 3) := by decide +kernel
theorem dX7_shed_14 : decode cX7_shed 14 = .ok (.iconst (-1), 1) := by decide +kernel
theorem dX7_shed_15 : decode cX7_shed 15 = .ok (.ireturn, 1) := by decide +kernel
theorem dX7_shed_16 : decode cX7_shed 16 = .ok (.iconst 0, 1) := by decide +kernel
theorem dX7_shed_17 : decode cX7_shed 17 = .ok (.istore_n 1, 1) := by decide +kernel
theorem dX7_shed_18 : decode cX7_shed 18 = .ok (.iconst 0, 1) := by decide +kernel
theorem dX7_shed_19 : decode cX7_shed 19 = .ok (.istore_n 2, 1) := by decide +kernel
theorem dX7_shed_20 : decode cX7_shed 20 = .ok (.iload_n 2, 1) := by decide +kernel
theorem dX7_shed_21 : decode cX7_shed 21 = .ok (.aload_n 0, 1) := by decide +kernel
theorem dX7_shed_22 : decode cX7_shed 22 = .ok (.getfield 171, 3) := by decide +kernel
theorem dX7_shed_25 : decode cX7_shed 25 = .ok (.if_icmp .ge 32, 3) := by decide +kernel
theorem dX7_shed_28 : decode cX7_shed 28 = .ok (.iload_n 1, 1) := by decide +kernel
theorem dX7_shed_29 : decode cX7_shed 29 = .ok (.aload_n 0, 1) := by decide +kernel
theorem dX7_shed_30 : decode cX7_shed 30 = .ok (.aload_n 0, 1) := by decide +kernel
theorem dX7_shed_31 : decode cX7_shed 31 = .ok (.invokevirtual 339, 3) := by decide +kernel
theorem dX7_shed_34 : decode cX7_shed 34 = .ok (.iconst 0, 1) := by decide +kernel
theorem dX7_shed_35 : decode cX7_shed 35 = .ok (.iload_n 2, 1) := by decide +kernel
theorem dX7_shed_36 : decode cX7_shed 36 = .ok (.invokevirtual 327, 3) := by decide +kernel
theorem dX7_shed_39 : decode cX7_shed 39 = .ok (.ifCond .eq 9, 3) := by decide +kernel
theorem dX7_shed_42 : decode cX7_shed 42 = .ok (.iconst 1, 1) := by decide +kernel
theorem dX7_shed_43 : decode cX7_shed 43 = .ok (.iload_n 2, 1) := by decide +kernel
theorem dX7_shed_44 : decode cX7_shed 44 = .ok (.ishl, 1) := by decide +kernel
theorem dX7_shed_45 : decode cX7_shed 45 = .ok (.goto 4, 3) := by decide +kernel
theorem dX7_shed_48 : decode cX7_shed 48 = .ok (.iconst 0, 1) := by decide +kernel
theorem dX7_shed_49 : decode cX7_shed 49 = .ok (.ior, 1) := by decide +kernel
theorem dX7_shed_50 : decode cX7_shed 50 = .ok (.istore_n 1, 1) := by decide +kernel
theorem dX7_shed_51 : decode cX7_shed 51 = .ok (.iinc 2 1, 3) := by decide +kernel
theorem dX7_shed_54 : decode cX7_shed 54 = .ok (.goto (-34), 3) := by decide +kernel
theorem dX7_shed_57 : decode cX7_shed 57 = .ok (.iload_n 1, 1) := by decide +kernel
theorem dX7_shed_58 : decode cX7_shed 58 = .ok (.ireturn, 1) := by decide +kernel
theorem dX7_first_0 : decode cX7_first 0 = .ok (.aload_n 0, 1) := by decide +kernel
theorem dX7_first_1 : decode cX7_first 1 = .ok (.aload_n 0, 1) := by decide +kernel
theorem dX7_first_2 : decode cX7_first 2 = .ok (.getfield 179, 3) := by decide +kernel
theorem dX7_first_5 : decode cX7_first 5 = .ok (.invokestatic 199, 3) := by decide +kernel
theorem dX7_first_8 : decode cX7_first 8 = .ok (.invokevirtual 159, 3) := by decide +kernel
theorem dX7_first_11 : decode cX7_first 11 = .ok (.ifCond .eq 5, 3) := by decide +kernel
theorem dX7_first_14 : decode cX7_first 14 = .ok (.iconst (-1), 1) := by decide +kernel
theorem dX7_first_15 : decode cX7_first 15 = .ok (.ireturn, 1) := by decide +kernel
theorem dX7_first_16 : decode cX7_first 16 = .ok (.iconst 0, 1) := by decide +kernel
theorem dX7_first_17 : decode cX7_first 17 = .ok (.istore_n 1, 1) := by decide +kernel
theorem dX7_first_18 : decode cX7_first 18 = .ok (.iload_n 1, 1) := by decide +kernel
theorem dX7_first_19 : decode cX7_first 19 = .ok (.aload_n 0, 1) := by decide +kernel
theorem dX7_first_20 : decode cX7_first 20 = .ok (.getfield 171, 3) := by decide +kernel
theorem dX7_first_23 : decode cX7_first 23 = .ok (.if_icmp .ge 37, 3) := by decide +kernel
theorem dX7_first_26 : decode cX7_first 26 = .ok (.aload_n 0, 1) := by decide +kernel
theorem dX7_first_27 : decode cX7_first 27 = .ok (.aload_n 0, 1) := by decide +kernel
theorem dX7_first_28 : decode cX7_first 28 = .ok (.invokevirtual 339, 3) := by decide +kernel
theorem dX7_first_31 : decode cX7_first 31 = .ok (.iconst 0, 1) := by decide +kernel
theorem dX7_first_32 : decode cX7_first 32 = .ok (.iload_n 1, 1) := by decide +kernel
theorem dX7_first_33 : decode cX7_first 33 = .ok (.invokevirtual 327, 3) := by decide +kernel
theorem dX7_first_36 : decode cX7_first 36 = .ok (.ifCond .eq 18, 3) := by decide +kernel
theorem dX7_first_39 : decode cX7_first 39 = .ok (.aload_n 0, 1) := by decide +kernel
theorem dX7_first_40 : decode cX7_first 40 = .ok (.aload_n 0, 1) := by decide +kernel
theorem dX7_first_41 : decode cX7_first 41 = .ok (.invokevirtual 339, 3) := by decide +kernel
theorem dX7_first_44 : decode cX7_first 44 = .ok (.iconst 0, 1) := by decide +kernel
theorem dX7_first_45 : decode cX7_first 45 = .ok (.iload_n 1, 1) := by decide +kernel
theorem dX7_first_46 : decode cX7_first 46 = .ok (.invokevirtual 330, 3) := by decide +kernel
theorem dX7_first_49 : decode cX7_first 49 = .ok (.ifCond .eq 5, 3) := by decide +kernel
theorem dX7_first_52 : decode cX7_first 52 = .ok (.iload_n 1, 1) := by decide +kernel
theorem dX7_first_53 : decode cX7_first 53 = .ok (.ireturn, 1) := by decide +kernel
theorem dX7_first_54 : decode cX7_first 54 = .ok (.iinc 1 1, 3) := by decide +kernel
theorem dX7_first_57 : decode cX7_first 57 = .ok (.goto (-39), 3) := by decide +kernel
theorem dX7_first_60 : decode cX7_first 60 = .ok (.bipush (-2), 2) := by decide +kernel
theorem dX7_first_62 : decode cX7_first 62 = .ok (.ireturn, 1) := by decide +kernel
theorem dX7_add_0 : decode cX7_add 0 = .ok (.aload_n 0, 1) := by decide +kernel
theorem dX7_add_1 : decode cX7_add 1 = .ok (.getfield 179, 3) := by decide +kernel
theorem dX7_add_4 : decode cX7_add 4 = .ok (.ifCond .eq 26, 3) := by decide +kernel
theorem dX7_add_7 : decode cX7_add 7 = .ok (.aload_n 0, 1) := by decide +kernel
theorem dX7_add_8 : decode cX7_add 8 = .ok (.iload_n 1, 1) := by decide +kernel
theorem dX7_add_9 : decode cX7_add 9 = .ok (.invokevirtual 234, 3) := by decide +kernel
theorem dX7_add_12 : decode cX7_add 12 = .ok (.ifCond .eq 18, 3) := by decide +kernel
theorem dX7_add_15 : decode cX7_add 15 = .ok (.iload_n 1, 1) := by decide +kernel
theorem dX7_add_16 : decode cX7_add 16 = .ok (.invokestatic 136, 3) := by decide +kernel
theorem dX7_add_19 : decode cX7_add 19 = .ok (.aload_n 0, 1) := by decide +kernel
theorem dX7_add_20 : decode cX7_add 20 = .ok (.getfield 173, 3) := by decide +kernel
theorem dX7_add_23 : decode cX7_add 23 = .ok (.if_icmp .ne 7, 3) := by decide +kernel
theorem dX7_add_26 : decode cX7_add 26 = .ok (.iconst 1, 1) := by decide +kernel
theorem dX7_add_27 : decode cX7_add 27 = .ok (.goto 4, 3) := by decide +kernel
theorem dX7_add_30 : decode cX7_add 30 = .ok (.iconst 0, 1) := by decide +kernel
theorem dX7_add_31 : decode cX7_add 31 = .ok (.istore_n 2, 1) := by decide +kernel
theorem dX7_add_32 : decode cX7_add 32 = .ok (.aload_n 0, 1) := by decide +kernel
theorem dX7_add_33 : decode cX7_add 33 = .ok (.aload_n 0, 1) := by decide +kernel
theorem dX7_add_34 : decode cX7_add 34 = .ok (.getfield 179, 3) := by decide +kernel
theorem dX7_add_37 : decode cX7_add 37 = .ok (.iload_n 2, 1) := by decide +kernel
theorem dX7_add_38 : decode cX7_add 38 = .ok (.invokestatic 206, 3) := by decide +kernel
theorem dX7_add_41 : decode cX7_add 41 = .ok (.invokevirtual 159, 3) := by decide +kernel
theorem dX7_add_44 : decode cX7_add 44 = .ok (.ifCond .eq 5, 3) := by decide +kernel
theorem dX7_add_47 : decode cX7_add 47 = .ok (.iconst (-1), 1) := by decide +kernel
theorem dX7_add_48 : decode cX7_add 48 = .ok (.ireturn, 1) := by decide +kernel
theorem dX7_add_49 : decode cX7_add 49 = .ok (.iconst 0, 1) := by decide +kernel
theorem dX7_add_50 : decode cX7_add 50 = .ok (.istore_n 3, 1) := by decide +kernel
theorem dX7_add_51 : decode cX7_add 51 = .ok (.iload_n 3, 1) := by decide +kernel
theorem dX7_add_52 : decode cX7_add 52 = .ok (.aload_n 0, 1) := by decide +kernel
theorem dX7_add_53 : decode cX7_add 53 = .ok (.getfield 176, 3) := by decide +kernel
theorem dX7_add_56 : decode cX7_add 56 = .ok (.if_icmp .ge 25, 3) := by decide +kernel
theorem dX7_add_59 : decode cX7_add 59 = .ok (.aload_n 0, 1) := by decide +kernel
theorem dX7_add_60 : decode cX7_add 60 = .ok (.getfield 17, 3) := by decide +kernel
theorem dX7_add_63 : decode cX7_add 63 = .ok (.iload_n 3, 1) := by decide +kernel
theorem dX7_add_64 : decode cX7_add 64 = .ok (.iaload, 1) := by decide +kernel
theorem dX7_add_65 : decode cX7_add 65 = .ok (.iload_n 1, 1) := by decide +kernel
theorem dX7_add_66 : decode cX7_add 66 = .ok (.if_icmp .ne 9, 3) := by decide +kernel
theorem dX7_add_69 : decode cX7_add 69 = .ok (.aload_n 0, 1) := by decide +kernel
theorem dX7_add_70 : decode cX7_add 70 = .ok (.iconst 5, 1) := by decide +kernel
theorem dX7_add_71 : decode cX7_add 71 = .ok (.invokevirtual 168, 3) := by decide +kernel
theorem dX7_add_74 : decode cX7_add 74 = .ok (.ireturn, 1) := by decide +kernel
theorem dX7_add_75 : decode cX7_add 75 = .ok (.iinc 3 1, 3) := by decide +kernel
theorem dX7_add_78 : decode cX7_add 78 = .ok (.goto (-27), 3) := by decide +kernel
theorem dX7_add_81 : decode cX7_add 81 = .ok (.aload_n 0, 1) := by decide +kernel
theorem dX7_add_82 : decode cX7_add 82 = .ok (.getfield 176, 3) := by decide +kernel
theorem dX7_add_85 : decode cX7_add 85 = .ok (.bipush 12, 2) := by decide +kernel
theorem dX7_add_87 : decode cX7_add 87 = .ok (.if_icmp .ne 9, 3) := by decide +kernel
theorem dX7_add_90 : decode cX7_add 90 = .ok (.aload_n 0, 1) := by decide +kernel
theorem dX7_add_91 : decode cX7_add 91 = .ok (.iconst 3, 1) := by decide +kernel
theorem dX7_add_92 : decode cX7_add 92 = .ok (.invokevirtual 168, 3) := by decide +kernel
theorem dX7_add_95 : decode cX7_add 95 = .ok (.ireturn, 1) := by decide +kernel
theorem dX7_add_96 : decode cX7_add 96 = .ok (.aload_n 0, 1) := by decide +kernel
theorem dX7_add_97 : decode cX7_add 97 = .ok (.getfield 17, 3) := by decide +kernel
theorem dX7_add_100 : decode cX7_add 100 = .ok (.aload_n 0, 1) := by decide +kernel
theorem dX7_add_101 : decode cX7_add 101 = .ok (.getfield 176, 3) := by decide +kernel
theorem dX7_add_104 : decode cX7_add 104 = .ok (.iload_n 1, 1) := by decide +kernel
theorem dX7_add_105 : decode cX7_add 105 = .ok (.iastore, 1) := by decide +kernel
theorem dX7_add_106 : decode cX7_add 106 = .ok (.aload_n 0, 1) := by decide +kernel
theorem dX7_add_107 : decode cX7_add 107 = .ok (.getfield 20, 3) := by decide +kernel
theorem dX7_add_110 : decode cX7_add 110 = .ok (.aload_n 0, 1) := by decide +kernel
theorem dX7_add_111 : decode cX7_add 111 = .ok (.getfield 176, 3) := by decide +kernel
theorem dX7_add_114 : decode cX7_add 114 = .ok (.aload_n 0, 1) := by decide +kernel
theorem dX7_add_115 : decode cX7_add 115 = .ok (.getfield 176, 3) := by decide +kernel
theorem dX7_add_118 : decode cX7_add 118 = .ok (.iastore, 1) := by decide +kernel
theorem dX7_add_119 : decode cX7_add 119 = .ok (.aload_n 0, 1) := by decide +kernel
theorem dX7_add_120 : decode cX7_add 120 = .ok (.dup, 1) := by decide +kernel
theorem dX7_add_121 : decode cX7_add 121 = .ok (.getfield 176, 3) := by decide +kernel
theorem dX7_add_124 : decode cX7_add 124 = .ok (.iconst 1, 1) := by decide +kernel
theorem dX7_add_125 : decode cX7_add 125 = .ok (.iadd, 1) := by decide +kernel
theorem dX7_add_126 : decode cX7_add 126 = .ok (.putfield 176, 3) := by decide +kernel
theorem dX7_add_129 : decode cX7_add 129 = .ok (.aload_n 0, 1) := by decide +kernel
theorem dX7_add_130 : decode cX7_add 130 = .ok (.getfield 176, 3) := by decide +kernel
theorem dX7_add_133 : decode cX7_add 133 = .ok (.ireturn, 1) := by decide +kernel
theorem dX7_goes_0 : decode cX7_goes 0 = .ok (.iconst 0, 1) := by decide +kernel
theorem dX7_goes_1 : decode cX7_goes 1 = .ok (.istore_n 2, 1) := by decide +kernel
theorem dX7_goes_2 : decode cX7_goes 2 = .ok (.iconst 0, 1) := by decide +kernel
theorem dX7_goes_3 : decode cX7_goes 3 = .ok (.istore_n 3, 1) := by decide +kernel
theorem dX7_goes_4 : decode cX7_goes 4 = .ok (.iload_n 3, 1) := by decide +kernel
theorem dX7_goes_5 : decode cX7_goes 5 = .ok (.aload_n 0, 1) := by decide +kernel
theorem dX7_goes_6 : decode cX7_goes 6 = .ok (.getfield 176, 3) := by decide +kernel
theorem dX7_goes_9 : decode cX7_goes 9 = .ok (.if_icmp .ge 55, 3) := by decide +kernel
theorem dX7_goes_12 : decode cX7_goes 12 = .ok (.aload_n 0, 1) := by decide +kernel
theorem dX7_goes_13 : decode cX7_goes 13 = .ok (.getfield 20, 3) := by decide +kernel
theorem dX7_goes_16 : decode cX7_goes 16 = .ok (.iload_n 3, 1) := by decide +kernel
theorem dX7_goes_17 : decode cX7_goes 17 = .ok (.iaload, 1) := by decide +kernel
theorem dX7_goes_18 : decode cX7_goes 18 = .ok (.iload_n 1, 1) := by decide +kernel
theorem dX7_goes_19 : decode cX7_goes 19 = .ok (.if_icmp .eq 39, 3) := by decide +kernel
theorem dX7_goes_22 : decode cX7_goes 22 = .ok (.aload_n 0, 1) := by decide +kernel
theorem dX7_goes_23 : decode cX7_goes 23 = .ok (.getfield 20, 3) := by decide +kernel
theorem dX7_goes_26 : decode cX7_goes 26 = .ok (.iload_n 2, 1) := by decide +kernel
theorem dX7_goes_27 : decode cX7_goes 27 = .ok (.aload_n 0, 1) := by decide +kernel
theorem dX7_goes_28 : decode cX7_goes 28 = .ok (.getfield 20, 3) := by decide +kernel
theorem dX7_goes_31 : decode cX7_goes 31 = .ok (.iload_n 3, 1) := by decide +kernel
theorem dX7_goes_32 : decode cX7_goes 32 = .ok (.iaload, 1) := by decide +kernel
theorem dX7_goes_33 : decode cX7_goes 33 = .ok (.iload_n 1, 1) := by decide +kernel
theorem dX7_goes_34 : decode cX7_goes 34 = .ok (.if_icmp .le 14, 3) := by decide +kernel
theorem dX7_goes_37 : decode cX7_goes 37 = .ok (.aload_n 0, 1) := by decide +kernel
theorem dX7_goes_38 : decode cX7_goes 38 = .ok (.getfield 20, 3) := by decide +kernel
theorem dX7_goes_41 : decode cX7_goes 41 = .ok (.iload_n 3, 1) := by decide +kernel
theorem dX7_goes_42 : decode cX7_goes 42 = .ok (.iaload, 1) := by decide +kernel
theorem dX7_goes_43 : decode cX7_goes 43 = .ok (.iconst 1, 1) := by decide +kernel
theorem dX7_goes_44 : decode cX7_goes 44 = .ok (.isub, 1) := by decide +kernel
theorem dX7_goes_45 : decode cX7_goes 45 = .ok (.goto 9, 3) := by decide +kernel
theorem dX7_goes_48 : decode cX7_goes 48 = .ok (.aload_n 0, 1) := by decide +kernel
theorem dX7_goes_49 : decode cX7_goes 49 = .ok (.getfield 20, 3) := by decide +kernel
theorem dX7_goes_52 : decode cX7_goes 52 = .ok (.iload_n 3, 1) := by decide +kernel
theorem dX7_goes_53 : decode cX7_goes 53 = .ok (.iaload, 1) := by decide +kernel
theorem dX7_goes_54 : decode cX7_goes 54 = .ok (.iastore, 1) := by decide +kernel
theorem dX7_goes_55 : decode cX7_goes 55 = .ok (.iinc 2 1, 3) := by decide +kernel
theorem dX7_goes_58 : decode cX7_goes 58 = .ok (.iinc 3 1, 3) := by decide +kernel
theorem dX7_goes_61 : decode cX7_goes 61 = .ok (.goto (-57), 3) := by decide +kernel
theorem dX7_goes_64 : decode cX7_goes 64 = .ok (.aload_n 0, 1) := by decide +kernel
theorem dX7_goes_65 : decode cX7_goes 65 = .ok (.dup, 1) := by decide +kernel
theorem dX7_goes_66 : decode cX7_goes 66 = .ok (.getfield 176, 3) := by decide +kernel
theorem dX7_goes_69 : decode cX7_goes 69 = .ok (.iconst 1, 1) := by decide +kernel
theorem dX7_goes_70 : decode cX7_goes 70 = .ok (.isub, 1) := by decide +kernel
theorem dX7_goes_71 : decode cX7_goes 71 = .ok (.putfield 176, 3) := by decide +kernel
theorem dX7_goes_74 : decode cX7_goes 74 = .ok (.iload_n 1, 1) := by decide +kernel
theorem dX7_goes_75 : decode cX7_goes 75 = .ok (.istore_n 3, 1) := by decide +kernel
theorem dX7_goes_76 : decode cX7_goes 76 = .ok (.iload_n 3, 1) := by decide +kernel
theorem dX7_goes_77 : decode cX7_goes 77 = .ok (.aload_n 0, 1) := by decide +kernel
theorem dX7_goes_78 : decode cX7_goes 78 = .ok (.getfield 176, 3) := by decide +kernel
theorem dX7_goes_81 : decode cX7_goes 81 = .ok (.if_icmp .ge 23, 3) := by decide +kernel
theorem dX7_goes_84 : decode cX7_goes 84 = .ok (.aload_n 0, 1) := by decide +kernel
theorem dX7_goes_85 : decode cX7_goes 85 = .ok (.getfield 17, 3) := by decide +kernel
theorem dX7_goes_88 : decode cX7_goes 88 = .ok (.iload_n 3, 1) := by decide +kernel
theorem dX7_goes_89 : decode cX7_goes 89 = .ok (.aload_n 0, 1) := by decide +kernel
theorem dX7_goes_90 : decode cX7_goes 90 = .ok (.getfield 17, 3) := by decide +kernel
theorem dX7_goes_93 : decode cX7_goes 93 = .ok (.iload_n 3, 1) := by decide +kernel
theorem dX7_goes_94 : decode cX7_goes 94 = .ok (.iconst 1, 1) := by decide +kernel
theorem dX7_goes_95 : decode cX7_goes 95 = .ok (.iadd, 1) := by decide +kernel
theorem dX7_goes_96 : decode cX7_goes 96 = .ok (.iaload, 1) := by decide +kernel
theorem dX7_goes_97 : decode cX7_goes 97 = .ok (.iastore, 1) := by decide +kernel
theorem dX7_goes_98 : decode cX7_goes 98 = .ok (.iinc 3 1, 3) := by decide +kernel
theorem dX7_goes_101 : decode cX7_goes 101 = .ok (.goto (-25), 3) := by decide +kernel
theorem dX7_goes_104 : decode cX7_goes 104 = .ok (.return_, 1) := by decide +kernel
theorem dX7_drop_0 : decode cX7_drop 0 = .ok (.aload_n 0, 1) := by decide +kernel
theorem dX7_drop_1 : decode cX7_drop 1 = .ok (.aload_n 0, 1) := by decide +kernel
theorem dX7_drop_2 : decode cX7_drop 2 = .ok (.iload_n 1, 1) := by decide +kernel
theorem dX7_drop_3 : decode cX7_drop 3 = .ok (.invokevirtual 231, 3) := by decide +kernel
theorem dX7_drop_6 : decode cX7_drop 6 = .ok (.invokestatic 199, 3) := by decide +kernel
theorem dX7_drop_9 : decode cX7_drop 9 = .ok (.invokevirtual 159, 3) := by decide +kernel
theorem dX7_drop_12 : decode cX7_drop 12 = .ok (.ifCond .eq 5, 3) := by decide +kernel
theorem dX7_drop_15 : decode cX7_drop 15 = .ok (.iconst (-1), 1) := by decide +kernel
theorem dX7_drop_16 : decode cX7_drop 16 = .ok (.ireturn, 1) := by decide +kernel
theorem dX7_drop_17 : decode cX7_drop 17 = .ok (.aload_n 0, 1) := by decide +kernel
theorem dX7_drop_18 : decode cX7_drop 18 = .ok (.getfield 176, 3) := by decide +kernel
theorem dX7_drop_21 : decode cX7_drop 21 = .ok (.iconst 1, 1) := by decide +kernel
theorem dX7_drop_22 : decode cX7_drop 22 = .ok (.if_icmp .ne 9, 3) := by decide +kernel
theorem dX7_drop_25 : decode cX7_drop 25 = .ok (.aload_n 0, 1) := by decide +kernel
theorem dX7_drop_26 : decode cX7_drop 26 = .ok (.iconst 5, 1) := by decide +kernel
theorem dX7_drop_27 : decode cX7_drop 27 = .ok (.invokevirtual 168, 3) := by decide +kernel
theorem dX7_drop_30 : decode cX7_drop 30 = .ok (.ireturn, 1) := by decide +kernel
theorem dX7_drop_31 : decode cX7_drop 31 = .ok (.aload_n 0, 1) := by decide +kernel
theorem dX7_drop_32 : decode cX7_drop 32 = .ok (.iload_n 1, 1) := by decide +kernel
theorem dX7_drop_33 : decode cX7_drop 33 = .ok (.invokevirtual 342, 3) := by decide +kernel
theorem dX7_drop_36 : decode cX7_drop 36 = .ok (.aload_n 0, 1) := by decide +kernel
theorem dX7_drop_37 : decode cX7_drop 37 = .ok (.getfield 176, 3) := by decide +kernel
theorem dX7_drop_40 : decode cX7_drop 40 = .ok (.ireturn, 1) := by decide +kernel
theorem dX7_peel_0 : decode cX7_peel 0 = .ok (.aload_n 0, 1) := by decide +kernel
theorem dX7_peel_1 : decode cX7_peel 1 = .ok (.aload_n 0, 1) := by decide +kernel
theorem dX7_peel_2 : decode cX7_peel 2 = .ok (.getfield 179, 3) := by decide +kernel
theorem dX7_peel_5 : decode cX7_peel 5 = .ok (.invokestatic 199, 3) := by decide +kernel
theorem dX7_peel_8 : decode cX7_peel 8 = .ok (.invokevirtual 159, 3) := by decide +kernel
theorem dX7_peel_11 : decode cX7_peel 11 = .ok (.ifCond .eq 5, 3) := by decide +kernel
theorem dX7_peel_14 : decode cX7_peel 14 = .ok (.iconst (-1), 1) := by decide +kernel
theorem dX7_peel_15 : decode cX7_peel 15 = .ok (.ireturn, 1) := by decide +kernel
theorem dX7_peel_16 : decode cX7_peel 16 = .ok (.aload_n 0, 1) := by decide +kernel
theorem dX7_peel_17 : decode cX7_peel 17 = .ok (.getfield 176, 3) := by decide +kernel
theorem dX7_peel_20 : decode cX7_peel 20 = .ok (.iconst 1, 1) := by decide +kernel
theorem dX7_peel_21 : decode cX7_peel 21 = .ok (.if_icmp .ne 9, 3) := by decide +kernel
theorem dX7_peel_24 : decode cX7_peel 24 = .ok (.aload_n 0, 1) := by decide +kernel
theorem dX7_peel_25 : decode cX7_peel 25 = .ok (.iconst 5, 1) := by decide +kernel
theorem dX7_peel_26 : decode cX7_peel 26 = .ok (.invokevirtual 168, 3) := by decide +kernel
theorem dX7_peel_29 : decode cX7_peel 29 = .ok (.ireturn, 1) := by decide +kernel
theorem dX7_peel_30 : decode cX7_peel 30 = .ok (.aload_n 0, 1) := by decide +kernel
theorem dX7_peel_31 : decode cX7_peel 31 = .ok (.getfield 20, 3) := by decide +kernel
theorem dX7_peel_34 : decode cX7_peel 34 = .ok (.aload_n 0, 1) := by decide +kernel
theorem dX7_peel_35 : decode cX7_peel 35 = .ok (.getfield 176, 3) := by decide +kernel
theorem dX7_peel_38 : decode cX7_peel 38 = .ok (.iconst 1, 1) := by decide +kernel
theorem dX7_peel_39 : decode cX7_peel 39 = .ok (.isub, 1) := by decide +kernel
theorem dX7_peel_40 : decode cX7_peel 40 = .ok (.iaload, 1) := by decide +kernel
theorem dX7_peel_41 : decode cX7_peel 41 = .ok (.istore_n 1, 1) := by decide +kernel
theorem dX7_peel_42 : decode cX7_peel 42 = .ok (.aload_n 0, 1) := by decide +kernel
theorem dX7_peel_43 : decode cX7_peel 43 = .ok (.getfield 17, 3) := by decide +kernel
theorem dX7_peel_46 : decode cX7_peel 46 = .ok (.iload_n 1, 1) := by decide +kernel
theorem dX7_peel_47 : decode cX7_peel 47 = .ok (.iaload, 1) := by decide +kernel
theorem dX7_peel_48 : decode cX7_peel 48 = .ok (.istore_n 2, 1) := by decide +kernel
theorem dX7_peel_49 : decode cX7_peel 49 = .ok (.aload_n 0, 1) := by decide +kernel
theorem dX7_peel_50 : decode cX7_peel 50 = .ok (.iload_n 1, 1) := by decide +kernel
theorem dX7_peel_51 : decode cX7_peel 51 = .ok (.invokevirtual 342, 3) := by decide +kernel
theorem dX7_peel_54 : decode cX7_peel 54 = .ok (.iload_n 2, 1) := by decide +kernel
theorem dX7_peel_55 : decode cX7_peel 55 = .ok (.ireturn, 1) := by decide +kernel
theorem dX7_move_0 : decode cX7_move 0 = .ok (.aload_n 0, 1) := by decide +kernel
theorem dX7_move_1 : decode cX7_move 1 = .ok (.aload_n 0, 1) := by decide +kernel
theorem dX7_move_2 : decode cX7_move 2 = .ok (.iload_n 1, 1) := by decide +kernel
theorem dX7_move_3 : decode cX7_move 3 = .ok (.invokevirtual 231, 3) := by decide +kernel
theorem dX7_move_6 : decode cX7_move 6 = .ok (.ifCond .eq 15, 3) := by decide +kernel
theorem dX7_move_9 : decode cX7_move 9 = .ok (.aload_n 0, 1) := by decide +kernel
theorem dX7_move_10 : decode cX7_move 10 = .ok (.iload_n 2, 1) := by decide +kernel
theorem dX7_move_11 : decode cX7_move 11 = .ok (.invokevirtual 231, 3) := by decide +kernel
theorem dX7_move_14 : decode cX7_move 14 = .ok (.ifCond .eq 7, 3) := by decide +kernel
theorem dX7_move_17 : decode cX7_move 17 = .ok (.iconst 1, 1) := by decide +kernel
theorem dX7_move_18 : decode cX7_move 18 = .ok (.goto 4, 3) := by decide +kernel
theorem dX7_move_21 : decode cX7_move 21 = .ok (.iconst 0, 1) := by decide +kernel
theorem dX7_move_22 : decode cX7_move 22 = .ok (.invokestatic 199, 3) := by decide +kernel
theorem dX7_move_25 : decode cX7_move 25 = .ok (.invokevirtual 159, 3) := by decide +kernel
theorem dX7_move_28 : decode cX7_move 28 = .ok (.ifCond .eq 5, 3) := by decide +kernel
theorem dX7_move_31 : decode cX7_move 31 = .ok (.iconst (-1), 1) := by decide +kernel
theorem dX7_move_32 : decode cX7_move 32 = .ok (.ireturn, 1) := by decide +kernel
theorem dX7_move_33 : decode cX7_move 33 = .ok (.aload_n 0, 1) := by decide +kernel
theorem dX7_move_34 : decode cX7_move 34 = .ok (.getfield 20, 3) := by decide +kernel
theorem dX7_move_37 : decode cX7_move 37 = .ok (.iload_n 1, 1) := by decide +kernel
theorem dX7_move_38 : decode cX7_move 38 = .ok (.iaload, 1) := by decide +kernel
theorem dX7_move_39 : decode cX7_move 39 = .ok (.istore_n 3, 1) := by decide +kernel
theorem dX7_move_40 : decode cX7_move 40 = .ok (.iload_n 1, 1) := by decide +kernel
theorem dX7_move_41 : decode cX7_move 41 = .ok (.istore 4, 2) := by decide +kernel
theorem dX7_move_43 : decode cX7_move 43 = .ok (.iload 4, 2) := by decide +kernel
theorem dX7_move_45 : decode cX7_move 45 = .ok (.iload_n 2, 1) := by decide +kernel
theorem dX7_move_46 : decode cX7_move 46 = .ok (.if_icmp .ge 25, 3) := by decide +kernel
theorem dX7_move_49 : decode cX7_move 49 = .ok (.aload_n 0, 1) := by decide +kernel
theorem dX7_move_50 : decode cX7_move 50 = .ok (.getfield 20, 3) := by decide +kernel
theorem dX7_move_53 : decode cX7_move 53 = .ok (.iload 4, 2) := by decide +kernel
theorem dX7_move_55 : decode cX7_move 55 = .ok (.aload_n 0, 1) := by decide +kernel
theorem dX7_move_56 : decode cX7_move 56 = .ok (.getfield 20, 3) := by decide +kernel
theorem dX7_move_59 : decode cX7_move 59 = .ok (.iload 4, 2) := by decide +kernel
theorem dX7_move_61 : decode cX7_move 61 = .ok (.iconst 1, 1) := by decide +kernel
theorem dX7_move_62 : decode cX7_move 62 = .ok (.iadd, 1) := by decide +kernel
theorem dX7_move_63 : decode cX7_move 63 = .ok (.iaload, 1) := by decide +kernel
theorem dX7_move_64 : decode cX7_move 64 = .ok (.iastore, 1) := by decide +kernel
theorem dX7_move_65 : decode cX7_move 65 = .ok (.iinc 4 1, 3) := by decide +kernel
theorem dX7_move_68 : decode cX7_move 68 = .ok (.goto (-25), 3) := by decide +kernel
theorem dX7_move_71 : decode cX7_move 71 = .ok (.iload_n 1, 1) := by decide +kernel
theorem dX7_move_72 : decode cX7_move 72 = .ok (.istore 4, 2) := by decide +kernel
theorem dX7_move_74 : decode cX7_move 74 = .ok (.iload 4, 2) := by decide +kernel
theorem dX7_move_76 : decode cX7_move 76 = .ok (.iload_n 2, 1) := by decide +kernel
theorem dX7_move_77 : decode cX7_move 77 = .ok (.if_icmp .le 25, 3) := by decide +kernel
theorem dX7_move_80 : decode cX7_move 80 = .ok (.aload_n 0, 1) := by decide +kernel
theorem dX7_move_81 : decode cX7_move 81 = .ok (.getfield 20, 3) := by decide +kernel
theorem dX7_move_84 : decode cX7_move 84 = .ok (.iload 4, 2) := by decide +kernel
theorem dX7_move_86 : decode cX7_move 86 = .ok (.aload_n 0, 1) := by decide +kernel
theorem dX7_move_87 : decode cX7_move 87 = .ok (.getfield 20, 3) := by decide +kernel
theorem dX7_move_90 : decode cX7_move 90 = .ok (.iload 4, 2) := by decide +kernel
theorem dX7_move_92 : decode cX7_move 92 = .ok (.iconst 1, 1) := by decide +kernel
theorem dX7_move_93 : decode cX7_move 93 = .ok (.isub, 1) := by decide +kernel
theorem dX7_move_94 : decode cX7_move 94 = .ok (.iaload, 1) := by decide +kernel
theorem dX7_move_95 : decode cX7_move 95 = .ok (.iastore, 1) := by decide +kernel
theorem dX7_move_96 : decode cX7_move 96 = .ok (.iinc 4 (-1), 3) := by decide +kernel
theorem dX7_move_99 : decode cX7_move 99 = .ok (.goto (-25), 3) := by decide +kernel
theorem dX7_move_102 : decode cX7_move 102 = .ok (.aload_n 0, 1) := by decide +kernel
theorem dX7_move_103 : decode cX7_move 103 = .ok (.getfield 20, 3) := by decide +kernel
theorem dX7_move_106 : decode cX7_move 106 = .ok (.iload_n 2, 1) := by decide +kernel
theorem dX7_move_107 : decode cX7_move 107 = .ok (.iload_n 3, 1) := by decide +kernel
theorem dX7_move_108 : decode cX7_move 108 = .ok (.iastore, 1) := by decide +kernel
theorem dX7_move_109 : decode cX7_move 109 = .ok (.aload_n 0, 1) := by decide +kernel
theorem dX7_move_110 : decode cX7_move 110 = .ok (.invokevirtual 272, 3) := by decide +kernel
theorem dX7_move_113 : decode cX7_move 113 = .ok (.ireturn, 1) := by decide +kernel
theorem dX7_lay_0 : decode cX7_lay 0 = .ok (.aload_n 0, 1) := by decide +kernel
theorem dX7_lay_1 : decode cX7_lay 1 = .ok (.invokevirtual 304, 3) := by decide +kernel
theorem dX7_lay_4 : decode cX7_lay 4 = .ok (.ifCond .ne 5, 3) := by decide +kernel
theorem dX7_lay_7 : decode cX7_lay 7 = .ok (.iconst (-1), 1) := by decide +kernel
theorem dX7_lay_8 : decode cX7_lay 8 = .ok (.ireturn, 1) := by decide +kernel
theorem dX7_lay_9 : decode cX7_lay 9 = .ok (.aload_n 0, 1) := by decide +kernel
theorem dX7_lay_10 : decode cX7_lay 10 = .ok (.getfield 46, 3) := by decide +kernel
theorem dX7_lay_13 : decode cX7_lay 13 = .ok (.iconst 0, 1) := by decide +kernel
theorem dX7_lay_14 : decode cX7_lay 14 = .ok (.iaload, 1) := by decide +kernel
theorem dX7_lay_15 : decode cX7_lay 15 = .ok (.ifCond .ne 9, 3) := by decide +kernel
theorem dX7_lay_18 : decode cX7_lay 18 = .ok (.aload_n 0, 1) := by decide +kernel
theorem dX7_lay_19 : decode cX7_lay 19 = .ok (.iconst 5, 1) := by decide +kernel
theorem dX7_lay_20 : decode cX7_lay 20 = .ok (.invokevirtual 168, 3) := by decide +kernel
theorem dX7_lay_23 : decode cX7_lay 23 = .ok (.ireturn, 1) := by decide +kernel
theorem dX7_lay_24 : decode cX7_lay 24 = .ok (.aload_n 0, 1) := by decide +kernel
theorem dX7_lay_25 : decode cX7_lay 25 = .ok (.invokevirtual 307, 3) := by decide +kernel
theorem dX7_lay_28 : decode cX7_lay 28 = .ok (.iconst 0, 1) := by decide +kernel
theorem dX7_lay_29 : decode cX7_lay 29 = .ok (.istore_n 1, 1) := by decide +kernel
theorem dX7_lay_30 : decode cX7_lay 30 = .ok (.iload_n 1, 1) := by decide +kernel
theorem dX7_lay_31 : decode cX7_lay 31 = .ok (.aload_n 0, 1) := by decide +kernel
theorem dX7_lay_32 : decode cX7_lay 32 = .ok (.getfield 176, 3) := by decide +kernel
theorem dX7_lay_35 : decode cX7_lay 35 = .ok (.if_icmp .ge 21, 3) := by decide +kernel
theorem dX7_lay_38 : decode cX7_lay 38 = .ok (.aload_n 0, 1) := by decide +kernel
theorem dX7_lay_39 : decode cX7_lay 39 = .ok (.getfield 20, 3) := by decide +kernel
theorem dX7_lay_42 : decode cX7_lay 42 = .ok (.iload_n 1, 1) := by decide +kernel
theorem dX7_lay_43 : decode cX7_lay 43 = .ok (.aload_n 0, 1) := by decide +kernel
theorem dX7_lay_44 : decode cX7_lay 44 = .ok (.getfield 49, 3) := by decide +kernel
theorem dX7_lay_47 : decode cX7_lay 47 = .ok (.iload_n 1, 1) := by decide +kernel
theorem dX7_lay_48 : decode cX7_lay 48 = .ok (.iaload, 1) := by decide +kernel
theorem dX7_lay_49 : decode cX7_lay 49 = .ok (.iastore, 1) := by decide +kernel
theorem dX7_lay_50 : decode cX7_lay 50 = .ok (.iinc 1 1, 3) := by decide +kernel
theorem dX7_lay_53 : decode cX7_lay 53 = .ok (.goto (-23), 3) := by decide +kernel
theorem dX7_lay_56 : decode cX7_lay 56 = .ok (.aload_n 0, 1) := by decide +kernel
theorem dX7_lay_57 : decode cX7_lay 57 = .ok (.getfield 46, 3) := by decide +kernel
theorem dX7_lay_60 : decode cX7_lay 60 = .ok (.iconst 0, 1) := by decide +kernel
theorem dX7_lay_61 : decode cX7_lay 61 = .ok (.iaload, 1) := by decide +kernel
theorem dX7_lay_62 : decode cX7_lay 62 = .ok (.ireturn, 1) := by decide +kernel
theorem dX7_turn_0 : decode cX7_turn 0 = .ok (.aload_n 0, 1) := by decide +kernel
theorem dX7_turn_1 : decode cX7_turn 1 = .ok (.getfield 179, 3) := by decide +kernel
theorem dX7_turn_4 : decode cX7_turn 4 = .ok (.ifCond .eq 40, 3) := by decide +kernel
theorem dX7_turn_7 : decode cX7_turn 7 = .ok (.iload_n 1, 1) := by decide +kernel
theorem dX7_turn_8 : decode cX7_turn 8 = .ok (.iconst 0, 1) := by decide +kernel
theorem dX7_turn_9 : decode cX7_turn 9 = .ok (.aload_n 0, 1) := by decide +kernel
theorem dX7_turn_10 : decode cX7_turn 10 = .ok (.getfield 171, 3) := by decide +kernel
theorem dX7_turn_13 : decode cX7_turn 13 = .ok (.iconst 1, 1) := by decide +kernel
theorem dX7_turn_14 : decode cX7_turn 14 = .ok (.isub, 1) := by decide +kernel
theorem dX7_turn_15 : decode cX7_turn 15 = .ok (.invokestatic 84, 3) := by decide +kernel
theorem dX7_turn_18 : decode cX7_turn 18 = .ok (.ifCond .eq 26, 3) := by decide +kernel
theorem dX7_turn_21 : decode cX7_turn 21 = .ok (.iload_n 2, 1) := by decide +kernel
theorem dX7_turn_22 : decode cX7_turn 22 = .ok (.iconst 0, 1) := by decide +kernel
theorem dX7_turn_23 : decode cX7_turn 23 = .ok (.aload_n 0, 1) := by decide +kernel
theorem dX7_turn_24 : decode cX7_turn 24 = .ok (.getfield 171, 3) := by decide +kernel
theorem dX7_turn_27 : decode cX7_turn 27 = .ok (.iconst 1, 1) := by decide +kernel
theorem dX7_turn_28 : decode cX7_turn 28 = .ok (.isub, 1) := by decide +kernel
theorem dX7_turn_29 : decode cX7_turn 29 = .ok (.invokestatic 84, 3) := by decide +kernel
theorem dX7_turn_32 : decode cX7_turn 32 = .ok (.ifCond .eq 12, 3) := by decide +kernel
theorem dX7_turn_35 : decode cX7_turn 35 = .ok (.iload_n 1, 1) := by decide +kernel
theorem dX7_turn_36 : decode cX7_turn 36 = .ok (.iload_n 2, 1) := by decide +kernel
theorem dX7_turn_37 : decode cX7_turn 37 = .ok (.if_icmp .eq 7, 3) := by decide +kernel
theorem dX7_turn_40 : decode cX7_turn 40 = .ok (.iconst 1, 1) := by decide +kernel
theorem dX7_turn_41 : decode cX7_turn 41 = .ok (.goto 4, 3) := by decide +kernel
theorem dX7_turn_44 : decode cX7_turn 44 = .ok (.iconst 0, 1) := by decide +kernel
theorem dX7_turn_45 : decode cX7_turn 45 = .ok (.istore_n 3, 1) := by decide +kernel
theorem dX7_turn_46 : decode cX7_turn 46 = .ok (.aload_n 0, 1) := by decide +kernel
theorem dX7_turn_47 : decode cX7_turn 47 = .ok (.iload_n 3, 1) := by decide +kernel
theorem dX7_turn_48 : decode cX7_turn 48 = .ok (.invokestatic 199, 3) := by decide +kernel
theorem dX7_turn_51 : decode cX7_turn 51 = .ok (.invokevirtual 159, 3) := by decide +kernel
theorem dX7_turn_54 : decode cX7_turn 54 = .ok (.ifCond .eq 5, 3) := by decide +kernel
theorem dX7_turn_57 : decode cX7_turn 57 = .ok (.iconst (-1), 1) := by decide +kernel
theorem dX7_turn_58 : decode cX7_turn 58 = .ok (.ireturn, 1) := by decide +kernel
theorem dX7_turn_59 : decode cX7_turn 59 = .ok (.iconst 0, 1) := by decide +kernel
theorem dX7_turn_60 : decode cX7_turn 60 = .ok (.istore 4, 2) := by decide +kernel
theorem dX7_turn_62 : decode cX7_turn 62 = .ok (.iconst 0, 1) := by decide +kernel
theorem dX7_turn_63 : decode cX7_turn 63 = .ok (.istore 5, 2) := by decide +kernel
theorem dX7_turn_65 : decode cX7_turn 65 = .ok (.iload 5, 2) := by decide +kernel
theorem dX7_turn_67 : decode cX7_turn 67 = .ok (.aload_n 0, 1) := by decide +kernel
theorem dX7_turn_68 : decode cX7_turn 68 = .ok (.getfield 176, 3) := by decide +kernel
theorem dX7_turn_71 : decode cX7_turn 71 = .ok (.if_icmp .ge 54, 3) := by decide +kernel
theorem dX7_turn_74 : decode cX7_turn 74 = .ok (.aload_n 0, 1) := by decide +kernel
theorem dX7_turn_75 : decode cX7_turn 75 = .ok (.getfield 17, 3) := by decide +kernel
theorem dX7_turn_78 : decode cX7_turn 78 = .ok (.iload 5, 2) := by decide +kernel
theorem dX7_turn_80 : decode cX7_turn 80 = .ok (.iaload, 1) := by decide +kernel
theorem dX7_turn_81 : decode cX7_turn 81 = .ok (.iload_n 1, 1) := by decide +kernel
theorem dX7_turn_82 : decode cX7_turn 82 = .ok (.invokestatic 132, 3) := by decide +kernel
theorem dX7_turn_85 : decode cX7_turn 85 = .ok (.aload_n 0, 1) := by decide +kernel
theorem dX7_turn_86 : decode cX7_turn 86 = .ok (.getfield 17, 3) := by decide +kernel
theorem dX7_turn_89 : decode cX7_turn 89 = .ok (.iload 5, 2) := by decide +kernel
theorem dX7_turn_91 : decode cX7_turn 91 = .ok (.iaload, 1) := by decide +kernel
theorem dX7_turn_92 : decode cX7_turn 92 = .ok (.iload_n 2, 1) := by decide +kernel
theorem dX7_turn_93 : decode cX7_turn 93 = .ok (.invokestatic 132, 3) := by decide +kernel
theorem dX7_turn_96 : decode cX7_turn 96 = .ok (.if_icmp .eq 23, 3) := by decide +kernel
theorem dX7_turn_99 : decode cX7_turn 99 = .ok (.aload_n 0, 1) := by decide +kernel
theorem dX7_turn_100 : decode cX7_turn 100 = .ok (.getfield 17, 3) := by decide +kernel
theorem dX7_turn_103 : decode cX7_turn 103 = .ok (.iload 5, 2) := by decide +kernel
theorem dX7_turn_105 : decode cX7_turn 105 = .ok (.dup2, 1) := by decide +kernel
theorem dX7_turn_106 : decode cX7_turn 106 = .ok (.iaload, 1) := by decide +kernel
theorem dX7_turn_107 : decode cX7_turn 107 = .ok (.iconst 1, 1) := by decide +kernel
theorem dX7_turn_108 : decode cX7_turn 108 = .ok (.iload_n 1, 1) := by decide +kernel
theorem dX7_turn_109 : decode cX7_turn 109 = .ok (.ishl, 1) := by decide +kernel
theorem dX7_turn_110 : decode cX7_turn 110 = .ok (.iconst 1, 1) := by decide +kernel
theorem dX7_turn_111 : decode cX7_turn 111 = .ok (.iload_n 2, 1) := by decide +kernel
theorem dX7_turn_112 : decode cX7_turn 112 = .ok (.ishl, 1) := by decide +kernel
theorem dX7_turn_113 : decode cX7_turn 113 = .ok (.ior, 1) := by decide +kernel
theorem dX7_turn_114 : decode cX7_turn 114 = .ok (.ixor, 1) := by decide +kernel
theorem dX7_turn_115 : decode cX7_turn 115 = .ok (.iastore, 1) := by decide +kernel
theorem dX7_turn_116 : decode cX7_turn 116 = .ok (.iinc 4 1, 3) := by decide +kernel
theorem dX7_turn_119 : decode cX7_turn 119 = .ok (.iinc 5 1, 3) := by decide +kernel
theorem dX7_turn_122 : decode cX7_turn 122 = .ok (.goto (-57), 3) := by decide +kernel
theorem dX7_turn_125 : decode cX7_turn 125 = .ok (.iload 4, 2) := by decide +kernel
theorem dX7_turn_127 : decode cX7_turn 127 = .ok (.ireturn, 1) := by decide +kernel
theorem dX7_breaks_0 : decode cX7_breaks 0 = .ok (.aload_n 0, 1) := by decide +kernel
theorem dX7_breaks_1 : decode cX7_breaks 1 = .ok (.iconst 0, 1) := by decide +kernel
theorem dX7_breaks_2 : decode cX7_breaks 2 = .ok (.putfield 55, 3) := by decide +kernel
theorem dX7_breaks_5 : decode cX7_breaks 5 = .ok (.iconst 0, 1) := by decide +kernel
theorem dX7_breaks_6 : decode cX7_breaks 6 = .ok (.istore_n 2, 1) := by decide +kernel
theorem dX7_breaks_7 : decode cX7_breaks 7 = .ok (.iconst 0, 1) := by decide +kernel
theorem dX7_breaks_8 : decode cX7_breaks 8 = .ok (.istore_n 3, 1) := by decide +kernel
theorem dX7_breaks_9 : decode cX7_breaks 9 = .ok (.aload_n 0, 1) := by decide +kernel
theorem dX7_breaks_10 : decode cX7_breaks 10 = .ok (.getfield 179, 3) := by decide +kernel
theorem dX7_breaks_13 : decode cX7_breaks 13 = .ok (.ifCond .eq 35, 3) := by decide +kernel
theorem dX7_breaks_16 : decode cX7_breaks 16 = .ok (.iload_n 3, 1) := by decide +kernel
theorem dX7_breaks_17 : decode cX7_breaks 17 = .ok (.aload_n 0, 1) := by decide +kernel
theorem dX7_breaks_18 : decode cX7_breaks 18 = .ok (.getfield 176, 3) := by decide +kernel
theorem dX7_breaks_21 : decode cX7_breaks 21 = .ok (.if_icmp .ge 27, 3) := by decide +kernel
theorem dX7_breaks_24 : decode cX7_breaks 24 = .ok (.aload_n 0, 1) := by decide +kernel
theorem dX7_breaks_25 : decode cX7_breaks 25 = .ok (.iload_n 3, 1) := by decide +kernel
theorem dX7_breaks_26 : decode cX7_breaks 26 = .ok (.invokevirtual 266, 3) := by decide +kernel
theorem dX7_breaks_29 : decode cX7_breaks 29 = .ok (.ifCond .ne 13, 3) := by decide +kernel
theorem dX7_breaks_32 : decode cX7_breaks 32 = .ok (.iload_n 2, 1) := by decide +kernel
theorem dX7_breaks_33 : decode cX7_breaks 33 = .ok (.iload_n 1, 1) := by decide +kernel
theorem dX7_breaks_34 : decode cX7_breaks 34 = .ok (.if_icmp .ne 5, 3) := by decide +kernel
theorem dX7_breaks_37 : decode cX7_breaks 37 = .ok (.iload_n 3, 1) := by decide +kernel
theorem dX7_breaks_38 : decode cX7_breaks 38 = .ok (.ireturn, 1) := by decide +kernel
theorem dX7_breaks_39 : decode cX7_breaks 39 = .ok (.iinc 2 1, 3) := by decide +kernel
theorem dX7_breaks_42 : decode cX7_breaks 42 = .ok (.iinc 3 1, 3) := by decide +kernel
theorem dX7_breaks_45 : decode cX7_breaks 45 = .ok (.goto (-36), 3) := by decide +kernel
theorem dX7_breaks_48 : decode cX7_breaks 48 = .ok (.aload_n 0, 1) := by decide +kernel
theorem dX7_breaks_49 : decode cX7_breaks 49 = .ok (.iconst 1, 1) := by decide +kernel
theorem dX7_breaks_50 : decode cX7_breaks 50 = .ok (.putfield 55, 3) := by decide +kernel
theorem dX7_breaks_53 : decode cX7_breaks 53 = .ok (.iconst 0, 1) := by decide +kernel
theorem dX7_breaks_54 : decode cX7_breaks 54 = .ok (.ireturn, 1) := by decide +kernel
theorem dX7_size_0 : decode cX7_size 0 = .ok (.aload_n 0, 1) := by decide +kernel
theorem dX7_size_1 : decode cX7_size 1 = .ok (.iconst 0, 1) := by decide +kernel
theorem dX7_size_2 : decode cX7_size 2 = .ok (.putfield 55, 3) := by decide +kernel
theorem dX7_size_5 : decode cX7_size 5 = .ok (.aload_n 0, 1) := by decide +kernel
theorem dX7_size_6 : decode cX7_size 6 = .ok (.getfield 61, 3) := by decide +kernel
theorem dX7_size_9 : decode cX7_size 9 = .ok (.ireturn, 1) := by decide +kernel
theorem dX7_trouble_0 : decode cX7_trouble 0 = .ok (.aload_n 0, 1) := by decide +kernel
theorem dX7_trouble_1 : decode cX7_trouble 1 = .ok (.iconst 0, 1) := by decide +kernel
theorem dX7_trouble_2 : decode cX7_trouble 2 = .ok (.putfield 55, 3) := by decide +kernel
theorem dX7_trouble_5 : decode cX7_trouble 5 = .ok (.aload_n 0, 1) := by decide +kernel
theorem dX7_trouble_6 : decode cX7_trouble 6 = .ok (.getfield 58, 3) := by decide +kernel
theorem dX7_trouble_9 : decode cX7_trouble 9 = .ok (.ireturn, 1) := by decide +kernel
