theorem dX6_init_0 : decode cX6_init 0 = .ok (.aload_n 0, 1) := by decide +kernel
theorem dX6_init_1 : decode cX6_init 1 = .ok (.invokespecial 1, 3) := by decide +kernel
theorem dX6_init_4 : decode cX6_init 4 = .ok (.aload_n 0, 1) := by decide +kernel
theorem dX6_init_5 : decode cX6_init 5 = .ok (.new 7, 3) := by decide +kernel
theorem dX6_init_8 : decode cX6_init 8 = .ok (.dup, 1) := by decide +kernel
theorem dX6_init_9 : decode cX6_init 9 = .ok (.invokespecial 9, 3) := by decide +kernel
theorem dX6_init_12 : decode cX6_init 12 = .ok (.putfield 10, 3) := by decide +kernel
theorem dX6_init_15 : decode cX6_init 15 = .ok (.aload_n 0, 1) := by decide +kernel
theorem dX6_init_16 : decode cX6_init 16 = .ok (.new 16, 3) := by decide +kernel
theorem dX6_init_19 : decode cX6_init 19 = .ok (.dup, 1) := by decide +kernel
theorem dX6_init_20 : decode cX6_init 20 = .ok (.invokespecial 18, 3) := by decide +kernel
theorem dX6_init_23 : decode cX6_init 23 = .ok (.putfield 19, 3) := by decide +kernel
theorem dX6_init_26 : decode cX6_init 26 = .ok (.aload_n 0, 1) := by decide +kernel
theorem dX6_init_27 : decode cX6_init 27 = .ok (.new 23, 3) := by decide +kernel
theorem dX6_init_30 : decode cX6_init 30 = .ok (.dup, 1) := by decide +kernel
theorem dX6_init_31 : decode cX6_init 31 = .ok (.invokespecial 25, 3) := by decide +kernel
theorem dX6_init_34 : decode cX6_init 34 = .ok (.putfield 26, 3) := by decide +kernel
theorem dX6_init_37 : decode cX6_init 37 = .ok (.aload_n 0, 1) := by decide +kernel
theorem dX6_init_38 : decode cX6_init 38 = .ok (.new 30, 3) := by decide +kernel
theorem dX6_init_41 : decode cX6_init 41 = .ok (.dup, 1) := by decide +kernel
theorem dX6_init_42 : decode cX6_init 42 = .ok (.invokespecial 32, 3) := by decide +kernel
theorem dX6_init_45 : decode cX6_init 45 = .ok (.putfield 33, 3) := by decide +kernel
theorem dX6_init_48 : decode cX6_init 48 = .ok (.aload_n 0, 1) := by decide +kernel
theorem dX6_init_49 : decode cX6_init 49 = .ok (.new 37, 3) := by decide +kernel
theorem dX6_init_52 : decode cX6_init 52 = .ok (.dup, 1) := by decide +kernel
theorem dX6_init_53 : decode cX6_init 53 = .ok (.invokespecial 39, 3) := by decide +kernel
theorem dX6_init_56 : decode cX6_init 56 = .ok (.putfield 40, 3) := by decide +kernel
theorem dX6_init_59 : decode cX6_init 59 = .ok (.aload_n 0, 1) := by decide +kernel
theorem dX6_init_60 : decode cX6_init 60 = .ok (.new 44, 3) := by decide +kernel
theorem dX6_init_63 : decode cX6_init 63 = .ok (.dup, 1) := by decide +kernel
theorem dX6_init_64 : decode cX6_init 64 = .ok (.invokespecial 46, 3) := by decide +kernel
theorem dX6_init_67 : decode cX6_init 67 = .ok (.putfield 47, 3) := by decide +kernel
theorem dX6_init_70 : decode cX6_init 70 = .ok (.aload_n 0, 1) := by decide +kernel
theorem dX6_init_71 : decode cX6_init 71 = .ok (.iconst 0, 1) := by decide +kernel
theorem dX6_init_72 : decode cX6_init 72 = .ok (.putfield 51, 3) := by decide +kernel
theorem dX6_init_75 : decode cX6_init 75 = .ok (.return_, 1) := by decide +kernel
theorem dX6_feed_0 : decode cX6_feed 0 = .ok (.aload_n 0, 1) := by decide +kernel
theorem dX6_feed_1 : decode cX6_feed 1 = .ok (.getfield 10, 3) := by decide +kernel
theorem dX6_feed_4 : decode cX6_feed 4 = .ok (.invokevirtual 55, 3) := by decide +kernel
theorem dX6_feed_7 : decode cX6_feed 7 = .ok (.ifCond .ne 5, 3) := by decide +kernel
theorem dX6_feed_10 : decode cX6_feed 10 = .ok (.iconst (-1), 1) := by decide +kernel
theorem dX6_feed_11 : decode cX6_feed 11 = .ok (.ireturn, 1) := by decide +kernel
theorem dX6_feed_12 : decode cX6_feed 12 = .ok (.aload_n 0, 1) := by decide +kernel
theorem dX6_feed_13 : decode cX6_feed 13 = .ok (.getfield 10, 3) := by decide +kernel
theorem dX6_feed_16 : decode cX6_feed 16 = .ok (.iload_n 1, 1) := by decide +kernel
theorem dX6_feed_17 : decode cX6_feed 17 = .ok (.invokevirtual 59, 3) := by decide +kernel
theorem dX6_feed_20 : decode cX6_feed 20 = .ok (.aload_n 0, 1) := by decide +kernel
theorem dX6_feed_21 : decode cX6_feed 21 = .ok (.getfield 10, 3) := by decide +kernel
theorem dX6_feed_24 : decode cX6_feed 24 = .ok (.iload_n 2, 1) := by decide +kernel
theorem dX6_feed_25 : decode cX6_feed 25 = .ok (.invokevirtual 59, 3) := by decide +kernel
theorem dX6_feed_28 : decode cX6_feed 28 = .ok (.aload_n 0, 1) := by decide +kernel
theorem dX6_feed_29 : decode cX6_feed 29 = .ok (.getfield 10, 3) := by decide +kernel
theorem dX6_feed_32 : decode cX6_feed 32 = .ok (.iload_n 3, 1) := by decide +kernel
theorem dX6_feed_33 : decode cX6_feed 33 = .ok (.invokevirtual 59, 3) := by decide +kernel
theorem dX6_feed_36 : decode cX6_feed 36 = .ok (.aload_n 0, 1) := by decide +kernel
theorem dX6_feed_37 : decode cX6_feed 37 = .ok (.getfield 10, 3) := by decide +kernel
theorem dX6_feed_40 : decode cX6_feed 40 = .ok (.iload 4, 2) := by decide +kernel
theorem dX6_feed_42 : decode cX6_feed 42 = .ok (.invokevirtual 59, 3) := by decide +kernel
theorem dX6_feed_45 : decode cX6_feed 45 = .ok (.aload_n 0, 1) := by decide +kernel
theorem dX6_feed_46 : decode cX6_feed 46 = .ok (.getfield 10, 3) := by decide +kernel
theorem dX6_feed_49 : decode cX6_feed 49 = .ok (.iload 5, 2) := by decide +kernel
theorem dX6_feed_51 : decode cX6_feed 51 = .ok (.invokevirtual 59, 3) := by decide +kernel
theorem dX6_feed_54 : decode cX6_feed 54 = .ok (.aload_n 0, 1) := by decide +kernel
theorem dX6_feed_55 : decode cX6_feed 55 = .ok (.getfield 10, 3) := by decide +kernel
theorem dX6_feed_58 : decode cX6_feed 58 = .ok (.getfield 63, 3) := by decide +kernel
theorem dX6_feed_61 : decode cX6_feed 61 = .ok (.ireturn, 1) := by decide +kernel
theorem dX6_complex_0 : decode cX6_complex 0 = .ok (.aload_n 0, 1) := by decide +kernel
theorem dX6_complex_1 : decode cX6_complex 1 = .ok (.iload_n 1, 1) := by decide +kernel
theorem dX6_complex_2 : decode cX6_complex 2 = .ok (.ifCond .lt 14, 3) := by decide +kernel
theorem dX6_complex_5 : decode cX6_complex 5 = .ok (.iload_n 1, 1) := by decide +kernel
theorem dX6_complex_6 : decode cX6_complex 6 = .ok (.aload_n 0, 1) := by decide +kernel
theorem dX6_complex_7 : decode cX6_complex 7 = .ok (.getfield 10, 3) := by decide +kernel
theorem dX6_complex_10 : decode cX6_complex 10 = .ok (.getfield 63, 3) := by decide +kernel
theorem dX6_complex_13 : decode cX6_complex 13 = .ok (.if_icmp .le 7, 3) := by decide +kernel
theorem dX6_complex_16 : decode cX6_complex 16 = .ok (.iconst 1, 1) := by decide +kernel
theorem dX6_complex_17 : decode cX6_complex 17 = .ok (.goto 4, 3) := by decide +kernel
theorem dX6_complex_20 : decode cX6_complex 20 = .ok (.iconst 0, 1) := by decide +kernel
theorem dX6_complex_21 : decode cX6_complex 21 = .ok (.iconst 2, 1) := by decide +kernel
theorem dX6_complex_22 : decode cX6_complex 22 = .ok (.invokevirtual 66, 3) := by decide +kernel
theorem dX6_complex_25 : decode cX6_complex 25 = .ok (.ifCond .ne 27, 3) := by decide +kernel
theorem dX6_complex_28 : decode cX6_complex 28 = .ok (.aload_n 0, 1) := by decide +kernel
theorem dX6_complex_29 : decode cX6_complex 29 = .ok (.aload_n 0, 1) := by decide +kernel
theorem dX6_complex_30 : decode cX6_complex 30 = .ok (.getfield 10, 3) := by decide +kernel
theorem dX6_complex_33 : decode cX6_complex 33 = .ok (.iload_n 1, 1) := by decide +kernel
theorem dX6_complex_34 : decode cX6_complex 34 = .ok (.invokevirtual 70, 3) := by decide +kernel
theorem dX6_complex_37 : decode cX6_complex 37 = .ok (.ifCond .ne 7, 3) := by decide +kernel
theorem dX6_complex_40 : decode cX6_complex 40 = .ok (.iconst 1, 1) := by decide +kernel
theorem dX6_complex_41 : decode cX6_complex 41 = .ok (.goto 4, 3) := by decide +kernel
theorem dX6_complex_44 : decode cX6_complex 44 = .ok (.iconst 0, 1) := by decide +kernel
theorem dX6_complex_45 : decode cX6_complex 45 = .ok (.iconst 4, 1) := by decide +kernel
theorem dX6_complex_46 : decode cX6_complex 46 = .ok (.invokevirtual 66, 3) := by decide +kernel
theorem dX6_complex_49 : decode cX6_complex 49 = .ok (.ifCond .eq 5, 3) := by decide +kernel
theorem dX6_complex_52 : decode cX6_complex 52 = .ok (.iconst (-1), 1) := by decide +kernel
theorem dX6_complex_53 : decode cX6_complex 53 = .ok (.ireturn, 1) := by decide +kernel
theorem dX6_complex_54 : decode cX6_complex 54 = .ok (.aload_n 0, 1) := by decide +kernel
theorem dX6_complex_55 : decode cX6_complex 55 = .ok (.getfield 19, 3) := by decide +kernel
theorem dX6_complex_58 : decode cX6_complex 58 = .ok (.aload_n 0, 1) := by decide +kernel
theorem dX6_complex_59 : decode cX6_complex 59 = .ok (.getfield 10, 3) := by decide +kernel
theorem dX6_complex_62 : decode cX6_complex 62 = .ok (.invokevirtual 74, 3) := by decide +kernel
theorem dX6_complex_65 : decode cX6_complex 65 = .ok (.aload_n 0, 1) := by decide +kernel
theorem dX6_complex_66 : decode cX6_complex 66 = .ok (.getfield 26, 3) := by decide +kernel
theorem dX6_complex_69 : decode cX6_complex 69 = .ok (.invokevirtual 78, 3) := by decide +kernel
theorem dX6_complex_72 : decode cX6_complex 72 = .ok (.aload_n 0, 1) := by decide +kernel
theorem dX6_complex_73 : decode cX6_complex 73 = .ok (.invokevirtual 81, 3) := by decide +kernel
theorem dX6_complex_76 : decode cX6_complex 76 = .ok (.aload_n 0, 1) := by decide +kernel
theorem dX6_complex_77 : decode cX6_complex 77 = .ok (.getfield 19, 3) := by decide +kernel
theorem dX6_complex_80 : decode cX6_complex 80 = .ok (.getfield 84, 3) := by decide +kernel
theorem dX6_complex_83 : decode cX6_complex 83 = .ok (.ireturn, 1) := by decide +kernel
theorem dX6_fault_0 : decode cX6_fault 0 = .ok (.aload_n 0, 1) := by decide +kernel
theorem dX6_fault_1 : decode cX6_fault 1 = .ok (.getfield 10, 3) := by decide +kernel
theorem dX6_fault_4 : decode cX6_fault 4 = .ok (.getfield 87, 3) := by decide +kernel
theorem dX6_fault_7 : decode cX6_fault 7 = .ok (.ireturn, 1) := by decide +kernel
theorem dX6_where_0 : decode cX6_where 0 = .ok (.aload_n 0, 1) := by decide +kernel
theorem dX6_where_1 : decode cX6_where 1 = .ok (.getfield 51, 3) := by decide +kernel
theorem dX6_where_4 : decode cX6_where 4 = .ok (.iconst 4, 1) := by decide +kernel
theorem dX6_where_5 : decode cX6_where 5 = .ok (.if_icmp .ne 13, 3) := by decide +kernel
theorem dX6_where_8 : decode cX6_where 8 = .ok (.aload_n 0, 1) := by decide +kernel
theorem dX6_where_9 : decode cX6_where 9 = .ok (.getfield 10, 3) := by decide +kernel
theorem dX6_where_12 : decode cX6_where 12 = .ok (.getfield 90, 3) := by decide +kernel
theorem dX6_where_15 : decode cX6_where 15 = .ok (.goto 4, 3) := by decide +kernel
theorem dX6_where_18 : decode cX6_where 18 = .ok (.iconst (-1), 1) := by decide +kernel
theorem dX6_where_19 : decode cX6_where 19 = .ok (.ireturn, 1) := by decide +kernel
theorem dX6_about_0 : decode cX6_about 0 = .ok (.aload_n 0, 1) := by decide +kernel
theorem dX6_about_1 : decode cX6_about 1 = .ok (.aload_n 0, 1) := by decide +kernel
theorem dX6_about_2 : decode cX6_about 2 = .ok (.invokevirtual 93, 3) := by decide +kernel
theorem dX6_about_5 : decode cX6_about 5 = .ok (.ifCond .ne 13, 3) := by decide +kernel
theorem dX6_about_8 : decode cX6_about 8 = .ok (.iload_n 1, 1) := by decide +kernel
theorem dX6_about_9 : decode cX6_about 9 = .ok (.ifCond .lt 9, 3) := by decide +kernel
theorem dX6_about_12 : decode cX6_about 12 = .ok (.iload_n 1, 1) := by decide +kernel
theorem dX6_about_13 : decode cX6_about 13 = .ok (.bipush 6, 2) := by decide +kernel
theorem dX6_about_15 : decode cX6_about 15 = .ok (.if_icmp .le 7, 3) := by decide +kernel
theorem dX6_about_18 : decode cX6_about 18 = .ok (.iconst 1, 1) := by decide +kernel
theorem dX6_about_19 : decode cX6_about 19 = .ok (.goto 4, 3) := by decide +kernel
theorem dX6_about_22 : decode cX6_about 22 = .ok (.iconst 0, 1) := by decide +kernel
theorem dX6_about_23 : decode cX6_about 23 = .ok (.iconst 1, 1) := by decide +kernel
theorem dX6_about_24 : decode cX6_about 24 = .ok (.invokevirtual 66, 3) := by decide +kernel
theorem dX6_about_27 : decode cX6_about 27 = .ok (.ifCond .eq 5, 3) := by decide +kernel
theorem dX6_about_30 : decode cX6_about 30 = .ok (.iconst (-1), 1) := by decide +kernel
theorem dX6_about_31 : decode cX6_about 31 = .ok (.ireturn, 1) := by decide +kernel
theorem dX6_about_32 : decode cX6_about 32 = .ok (.iload_n 1, 1) := by decide +kernel
theorem dX6_about_33 : decode cX6_about 33 = .ok (.tableswitch 87 0 5 #[39, 47, 55, 63, 71, 79], 39) := by decide +kernel
theorem dX6_about_72 : decode cX6_about 72 = .ok (.aload_n 0, 1) := by decide +kernel
theorem dX6_about_73 : decode cX6_about 73 = .ok (.getfield 19, 3) := by decide +kernel
theorem dX6_about_76 : decode cX6_about 76 = .ok (.getfield 96, 3) := by decide +kernel
theorem dX6_about_79 : decode cX6_about 79 = .ok (.ireturn, 1) := by decide +kernel
theorem dX6_about_80 : decode cX6_about 80 = .ok (.aload_n 0, 1) := by decide +kernel
theorem dX6_about_81 : decode cX6_about 81 = .ok (.getfield 19, 3) := by decide +kernel
theorem dX6_about_84 : decode cX6_about 84 = .ok (.getfield 99, 3) := by decide +kernel
theorem dX6_about_87 : decode cX6_about 87 = .ok (.ireturn, 1) := by decide +kernel
theorem dX6_about_88 : decode cX6_about 88 = .ok (.aload_n 0, 1) := by decide +kernel
theorem dX6_about_89 : decode cX6_about 89 = .ok (.getfield 19, 3) := by decide +kernel
theorem dX6_about_92 : decode cX6_about 92 = .ok (.getfield 84, 3) := by decide +kernel
theorem dX6_about_95 : decode cX6_about 95 = .ok (.ireturn, 1) := by decide +kernel
theorem dX6_about_96 : decode cX6_about 96 = .ok (.aload_n 0, 1) := by decide +kernel
theorem dX6_about_97 : decode cX6_about 97 = .ok (.getfield 19, 3) := by decide +kernel
theorem dX6_about_100 : decode cX6_about 100 = .ok (.invokevirtual 102, 3) := by decide +kernel
theorem dX6_about_103 : decode cX6_about 103 = .ok (.ireturn, 1) := by decide +kernel
theorem dX6_about_104 : decode cX6_about 104 = .ok (.aload_n 0, 1) := by decide +kernel
theorem dX6_about_105 : decode cX6_about 105 = .ok (.getfield 19, 3) := by decide +kernel
theorem dX6_about_108 : decode cX6_about 108 = .ok (.invokevirtual 106, 3) := by decide +kernel
theorem dX6_about_111 : decode cX6_about 111 = .ok (.ireturn, 1) := by decide +kernel
theorem dX6_about_112 : decode cX6_about 112 = .ok (.aload_n 0, 1) := by decide +kernel
theorem dX6_about_113 : decode cX6_about 113 = .ok (.getfield 19, 3) := by decide +kernel
theorem dX6_about_116 : decode cX6_about 116 = .ok (.invokevirtual 109, 3) := by decide +kernel
theorem dX6_about_119 : decode cX6_about 119 = .ok (.ireturn, 1) := by decide +kernel
theorem dX6_about_120 : decode cX6_about 120 = .ok (.aload_n 0, 1) := by decide +kernel
theorem dX6_about_121 : decode cX6_about 121 = .ok (.getfield 19, 3) := by decide +kernel
theorem dX6_about_124 : decode cX6_about 124 = .ok (.invokevirtual 112, 3) := by decide +kernel
theorem dX6_about_127 : decode cX6_about 127 = .ok (.ireturn, 1) := by decide +kernel
theorem dX6_facet_0 : decode cX6_facet 0 = .ok (.aload_n 0, 1) := by decide +kernel
theorem dX6_facet_1 : decode cX6_facet 1 = .ok (.aload_n 0, 1) := by decide +kernel
theorem dX6_facet_2 : decode cX6_facet 2 = .ok (.getfield 19, 3) := by decide +kernel
theorem dX6_facet_5 : decode cX6_facet 5 = .ok (.iload_n 1, 1) := by decide +kernel
theorem dX6_facet_6 : decode cX6_facet 6 = .ok (.invokevirtual 115, 3) := by decide +kernel
theorem dX6_facet_9 : decode cX6_facet 9 = .ok (.ifCond .ne 7, 3) := by decide +kernel
theorem dX6_facet_12 : decode cX6_facet 12 = .ok (.iconst 1, 1) := by decide +kernel
theorem dX6_facet_13 : decode cX6_facet 13 = .ok (.goto 4, 3) := by decide +kernel
theorem dX6_facet_16 : decode cX6_facet 16 = .ok (.iconst 0, 1) := by decide +kernel
theorem dX6_facet_17 : decode cX6_facet 17 = .ok (.iconst 1, 1) := by decide +kernel
theorem dX6_facet_18 : decode cX6_facet 18 = .ok (.invokevirtual 66, 3) := by decide +kernel
theorem dX6_facet_21 : decode cX6_facet 21 = .ok (.ifCond .eq 5, 3) := by decide +kernel
theorem dX6_facet_24 : decode cX6_facet 24 = .ok (.iconst (-1), 1) := by decide +kernel
theorem dX6_facet_25 : decode cX6_facet 25 = .ok (.ireturn, 1) := by decide +kernel
theorem dX6_facet_26 : decode cX6_facet 26 = .ok (.aload_n 0, 1) := by decide +kernel
theorem dX6_facet_27 : decode cX6_facet 27 = .ok (.getfield 19, 3) := by decide +kernel
theorem dX6_facet_30 : decode cX6_facet 30 = .ok (.getfield 118, 3) := by decide +kernel
theorem dX6_facet_33 : decode cX6_facet 33 = .ok (.iload_n 1, 1) := by decide +kernel
theorem dX6_facet_34 : decode cX6_facet 34 = .ok (.iaload, 1) := by decide +kernel
theorem dX6_facet_35 : decode cX6_facet 35 = .ok (.ireturn, 1) := by decide +kernel
theorem dX6_within_0 : decode cX6_within 0 = .ok (.aload_n 0, 1) := by decide +kernel
theorem dX6_within_1 : decode cX6_within 1 = .ok (.iload_n 1, 1) := by decide +kernel
theorem dX6_within_2 : decode cX6_within 2 = .ok (.invokevirtual 122, 3) := by decide +kernel
theorem dX6_within_5 : decode cX6_within 5 = .ok (.ifCond .eq 5, 3) := by decide +kernel
theorem dX6_within_8 : decode cX6_within 8 = .ok (.iconst (-1), 1) := by decide +kernel
theorem dX6_within_9 : decode cX6_within 9 = .ok (.ireturn, 1) := by decide +kernel
theorem dX6_within_10 : decode cX6_within 10 = .ok (.aload_n 0, 1) := by decide +kernel
theorem dX6_within_11 : decode cX6_within 11 = .ok (.getfield 19, 3) := by decide +kernel
theorem dX6_within_14 : decode cX6_within 14 = .ok (.getfield 125, 3) := by decide +kernel
theorem dX6_within_17 : decode cX6_within 17 = .ok (.iload_n 1, 1) := by decide +kernel
theorem dX6_within_18 : decode cX6_within 18 = .ok (.iaload, 1) := by decide +kernel
theorem dX6_within_19 : decode cX6_within 19 = .ok (.ireturn, 1) := by decide +kernel
theorem dX6_missing_0 : decode cX6_missing 0 = .ok (.aload_n 0, 1) := by decide +kernel
theorem dX6_missing_1 : decode cX6_missing 1 = .ok (.getfield 19, 3) := by decide +kernel
theorem dX6_missing_4 : decode cX6_missing 4 = .ok (.iload_n 1, 1) := by decide +kernel
theorem dX6_missing_5 : decode cX6_missing 5 = .ok (.invokevirtual 128, 3) := by decide +kernel
theorem dX6_missing_8 : decode cX6_missing 8 = .ok (.istore_n 2, 1) := by decide +kernel
theorem dX6_missing_9 : decode cX6_missing 9 = .ok (.aload_n 0, 1) := by decide +kernel
theorem dX6_missing_10 : decode cX6_missing 10 = .ok (.iload_n 2, 1) := by decide +kernel
theorem dX6_missing_11 : decode cX6_missing 11 = .ok (.ifCond .ge 7, 3) := by decide +kernel
theorem dX6_missing_14 : decode cX6_missing 14 = .ok (.iconst 1, 1) := by decide +kernel
theorem dX6_missing_15 : decode cX6_missing 15 = .ok (.goto 4, 3) := by decide +kernel
theorem dX6_missing_18 : decode cX6_missing 18 = .ok (.iconst 0, 1) := by decide +kernel
theorem dX6_missing_19 : decode cX6_missing 19 = .ok (.iconst 1, 1) := by decide +kernel
theorem dX6_missing_20 : decode cX6_missing 20 = .ok (.invokevirtual 66, 3) := by decide +kernel
theorem dX6_missing_23 : decode cX6_missing 23 = .ok (.ifCond .eq 7, 3) := by decide +kernel
theorem dX6_missing_26 : decode cX6_missing 26 = .ok (.iconst (-1), 1) := by decide +kernel
theorem dX6_missing_27 : decode cX6_missing 27 = .ok (.goto 4, 3) := by decide +kernel
theorem dX6_missing_30 : decode cX6_missing 30 = .ok (.iload_n 2, 1) := by decide +kernel
theorem dX6_missing_31 : decode cX6_missing 31 = .ok (.ireturn, 1) := by decide +kernel
theorem dX6_faces_0 : decode cX6_faces 0 = .ok (.aload_n 0, 1) := by decide +kernel
theorem dX6_faces_1 : decode cX6_faces 1 = .ok (.iload_n 1, 1) := by decide +kernel
theorem dX6_faces_2 : decode cX6_faces 2 = .ok (.aload_n 0, 1) := by decide +kernel
theorem dX6_faces_3 : decode cX6_faces 3 = .ok (.getfield 19, 3) := by decide +kernel
theorem dX6_faces_6 : decode cX6_faces 6 = .ok (.getfield 99, 3) := by decide +kernel
theorem dX6_faces_9 : decode cX6_faces 9 = .ok (.invokevirtual 132, 3) := by decide +kernel
theorem dX6_faces_12 : decode cX6_faces 12 = .ok (.ifCond .eq 5, 3) := by decide +kernel
theorem dX6_faces_15 : decode cX6_faces 15 = .ok (.iconst (-1), 1) := by decide +kernel
theorem dX6_faces_16 : decode cX6_faces 16 = .ok (.ireturn, 1) := by decide +kernel
theorem dX6_faces_17 : decode cX6_faces 17 = .ok (.aload_n 0, 1) := by decide +kernel
theorem dX6_faces_18 : decode cX6_faces 18 = .ok (.getfield 19, 3) := by decide +kernel
theorem dX6_faces_21 : decode cX6_faces 21 = .ok (.iload_n 1, 1) := by decide +kernel
theorem dX6_faces_22 : decode cX6_faces 22 = .ok (.invokevirtual 136, 3) := by decide +kernel
theorem dX6_faces_25 : decode cX6_faces 25 = .ok (.ireturn, 1) := by decide +kernel
theorem dX6_h_0 : decode cX6_h 0 = .ok (.aload_n 0, 1) := by decide +kernel
theorem dX6_h_1 : decode cX6_h 1 = .ok (.iload_n 1, 1) := by decide +kernel
theorem dX6_h_2 : decode cX6_h 2 = .ok (.aload_n 0, 1) := by decide +kernel
theorem dX6_h_3 : decode cX6_h 3 = .ok (.getfield 19, 3) := by decide +kernel
theorem dX6_h_6 : decode cX6_h 6 = .ok (.getfield 99, 3) := by decide +kernel
theorem dX6_h_9 : decode cX6_h 9 = .ok (.invokevirtual 132, 3) := by decide +kernel
theorem dX6_h_12 : decode cX6_h 12 = .ok (.ifCond .eq 6, 3) := by decide +kernel
theorem dX6_h_15 : decode cX6_h 15 = .ok (.ldc 141, 2) := by decide +kernel
theorem dX6_h_17 : decode cX6_h 17 = .ok (.ireturn, 1) := by decide +kernel
theorem dX6_h_18 : decode cX6_h 18 = .ok (.iconst 0, 1) := by decide +kernel
theorem dX6_h_19 : decode cX6_h 19 = .ok (.istore_n 2, 1) := by decide +kernel
theorem dX6_h_20 : decode cX6_h 20 = .ok (.iconst 0, 1) := by decide +kernel
theorem dX6_h_21 : decode cX6_h 21 = .ok (.istore_n 3, 1) := by decide +kernel
theorem dX6_h_22 : decode cX6_h 22 = .ok (.iload_n 3, 1) := by decide +kernel
theorem dX6_h_23 : decode cX6_h 23 = .ok (.iload_n 1, 1) := by decide +kernel
theorem dX6_h_24 : decode cX6_h 24 = .ok (.if_icmp .gt 54, 3) := by decide +kernel
theorem dX6_h_27 : decode cX6_h 27 = .ok (.aload_n 0, 1) := by decide +kernel
theorem dX6_h_28 : decode cX6_h 28 = .ok (.getfield 19, 3) := by decide +kernel
theorem dX6_h_31 : decode cX6_h 31 = .ok (.iload_n 3, 1) := by decide +kernel
theorem dX6_h_32 : decode cX6_h 32 = .ok (.invokevirtual 136, 3) := by decide +kernel
theorem dX6_h_35 : decode cX6_h 35 = .ok (.aload_n 0, 1) := by decide +kernel
theorem dX6_h_36 : decode cX6_h 36 = .ok (.getfield 19, 3) := by decide +kernel
theorem dX6_h_39 : decode cX6_h 39 = .ok (.getfield 99, 3) := by decide +kernel
theorem dX6_h_42 : decode cX6_h 42 = .ok (.iload_n 3, 1) := by decide +kernel
theorem dX6_h_43 : decode cX6_h 43 = .ok (.isub, 1) := by decide +kernel
theorem dX6_h_44 : decode cX6_h 44 = .ok (.iload_n 1, 1) := by decide +kernel
theorem dX6_h_45 : decode cX6_h 45 = .ok (.iload_n 3, 1) := by decide +kernel
theorem dX6_h_46 : decode cX6_h 46 = .ok (.isub, 1) := by decide +kernel
theorem dX6_h_47 : decode cX6_h 47 = .ok (.invokestatic 142, 3) := by decide +kernel
theorem dX6_h_50 : decode cX6_h 50 = .ok (.imul, 1) := by decide +kernel
theorem dX6_h_51 : decode cX6_h 51 = .ok (.istore 4, 2) := by decide +kernel
theorem dX6_h_53 : decode cX6_h 53 = .ok (.iload_n 2, 1) := by decide +kernel
theorem dX6_h_54 : decode cX6_h 54 = .ok (.iload_n 1, 1) := by decide +kernel
theorem dX6_h_55 : decode cX6_h 55 = .ok (.iload_n 3, 1) := by decide +kernel
theorem dX6_h_56 : decode cX6_h 56 = .ok (.isub, 1) := by decide +kernel
theorem dX6_h_57 : decode cX6_h 57 = .ok (.iconst 2, 1) := by decide +kernel
theorem dX6_h_58 : decode cX6_h 58 = .ok (.irem, 1) := by decide +kernel
theorem dX6_h_59 : decode cX6_h 59 = .ok (.ifCond .ne 8, 3) := by decide +kernel
theorem dX6_h_62 : decode cX6_h 62 = .ok (.iload 4, 2) := by decide +kernel
theorem dX6_h_64 : decode cX6_h 64 = .ok (.goto 6, 3) := by decide +kernel
theorem dX6_h_67 : decode cX6_h 67 = .ok (.iload 4, 2) := by decide +kernel
theorem dX6_h_69 : decode cX6_h 69 = .ok (.ineg, 1) := by decide +kernel
theorem dX6_h_70 : decode cX6_h 70 = .ok (.iadd, 1) := by decide +kernel
theorem dX6_h_71 : decode cX6_h 71 = .ok (.istore_n 2, 1) := by decide +kernel
theorem dX6_h_72 : decode cX6_h 72 = .ok (.iinc 3 1, 3) := by decide +kernel
theorem dX6_h_75 : decode cX6_h 75 = .ok (.goto (-53), 3) := by decide +kernel
theorem dX6_h_78 : decode cX6_h 78 = .ok (.iload_n 2, 1) := by decide +kernel
theorem dX6_h_79 : decode cX6_h 79 = .ok (.ireturn, 1) := by decide +kernel
theorem dX6_euler_0 : decode cX6_euler 0 = .ok (.aload_n 0, 1) := by decide +kernel
theorem dX6_euler_1 : decode cX6_euler 1 = .ok (.invokevirtual 146, 3) := by decide +kernel
theorem dX6_euler_4 : decode cX6_euler 4 = .ok (.ifCond .eq 6, 3) := by decide +kernel
theorem dX6_euler_7 : decode cX6_euler 7 = .ok (.ldc 141, 2) := by decide +kernel
theorem dX6_euler_9 : decode cX6_euler 9 = .ok (.ireturn, 1) := by decide +kernel
theorem dX6_euler_10 : decode cX6_euler 10 = .ok (.iconst 0, 1) := by decide +kernel
theorem dX6_euler_11 : decode cX6_euler 11 = .ok (.istore_n 1, 1) := by decide +kernel
theorem dX6_euler_12 : decode cX6_euler 12 = .ok (.iconst 0, 1) := by decide +kernel
theorem dX6_euler_13 : decode cX6_euler 13 = .ok (.istore_n 2, 1) := by decide +kernel
theorem dX6_euler_14 : decode cX6_euler 14 = .ok (.iload_n 2, 1) := by decide +kernel
theorem dX6_euler_15 : decode cX6_euler 15 = .ok (.aload_n 0, 1) := by decide +kernel
theorem dX6_euler_16 : decode cX6_euler 16 = .ok (.getfield 19, 3) := by decide +kernel
theorem dX6_euler_19 : decode cX6_euler 19 = .ok (.getfield 99, 3) := by decide +kernel
theorem dX6_euler_22 : decode cX6_euler 22 = .ok (.if_icmp .gt 39, 3) := by decide +kernel
theorem dX6_euler_25 : decode cX6_euler 25 = .ok (.iload_n 1, 1) := by decide +kernel
theorem dX6_euler_26 : decode cX6_euler 26 = .ok (.iload_n 2, 1) := by decide +kernel
theorem dX6_euler_27 : decode cX6_euler 27 = .ok (.iconst 2, 1) := by decide +kernel
theorem dX6_euler_28 : decode cX6_euler 28 = .ok (.irem, 1) := by decide +kernel
theorem dX6_euler_29 : decode cX6_euler 29 = .ok (.iconst 1, 1) := by decide +kernel
theorem dX6_euler_30 : decode cX6_euler 30 = .ok (.if_icmp .ne 14, 3) := by decide +kernel
theorem dX6_euler_33 : decode cX6_euler 33 = .ok (.aload_n 0, 1) := by decide +kernel
theorem dX6_euler_34 : decode cX6_euler 34 = .ok (.getfield 19, 3) := by decide +kernel
theorem dX6_euler_37 : decode cX6_euler 37 = .ok (.iload_n 2, 1) := by decide +kernel
theorem dX6_euler_38 : decode cX6_euler 38 = .ok (.invokevirtual 136, 3) := by decide +kernel
theorem dX6_euler_41 : decode cX6_euler 41 = .ok (.goto 12, 3) := by decide +kernel
theorem dX6_euler_44 : decode cX6_euler 44 = .ok (.aload_n 0, 1) := by decide +kernel
theorem dX6_euler_45 : decode cX6_euler 45 = .ok (.getfield 19, 3) := by decide +kernel
theorem dX6_euler_48 : decode cX6_euler 48 = .ok (.iload_n 2, 1) := by decide +kernel
theorem dX6_euler_49 : decode cX6_euler 49 = .ok (.invokevirtual 136, 3) := by decide +kernel
theorem dX6_euler_52 : decode cX6_euler 52 = .ok (.ineg, 1) := by decide +kernel
theorem dX6_euler_53 : decode cX6_euler 53 = .ok (.iadd, 1) := by decide +kernel
theorem dX6_euler_54 : decode cX6_euler 54 = .ok (.istore_n 1, 1) := by decide +kernel
theorem dX6_euler_55 : decode cX6_euler 55 = .ok (.iinc 2 1, 3) := by decide +kernel
theorem dX6_euler_58 : decode cX6_euler 58 = .ok (.goto (-44), 3) := by decide +kernel
theorem dX6_euler_61 : decode cX6_euler 61 = .ok (.iload_n 1, 1) := by decide +kernel
theorem dX6_euler_62 : decode cX6_euler 62 = .ok (.ireturn, 1) := by decide +kernel
theorem dX6_rank_0 : decode cX6_rank 0 = .ok (.aload_n 0, 1) := by decide +kernel
theorem dX6_rank_1 : decode cX6_rank 1 = .ok (.iload_n 1, 1) := by decide +kernel
theorem dX6_rank_2 : decode cX6_rank 2 = .ok (.aload_n 0, 1) := by decide +kernel
theorem dX6_rank_3 : decode cX6_rank 3 = .ok (.getfield 19, 3) := by decide +kernel
theorem dX6_rank_6 : decode cX6_rank 6 = .ok (.getfield 99, 3) := by decide +kernel
theorem dX6_rank_9 : decode cX6_rank 9 = .ok (.invokevirtual 132, 3) := by decide +kernel
theorem dX6_rank_12 : decode cX6_rank 12 = .ok (.ifCond .eq 5, 3) := by decide +kernel
theorem dX6_rank_15 : decode cX6_rank 15 = .ok (.iconst (-1), 1) := by decide +kernel
theorem dX6_rank_16 : decode cX6_rank 16 = .ok (.ireturn, 1) := by decide +kernel
theorem dX6_rank_17 : decode cX6_rank 17 = .ok (.aload_n 0, 1) := by decide +kernel
theorem dX6_rank_18 : decode cX6_rank 18 = .ok (.getfield 33, 3) := by decide +kernel
theorem dX6_rank_21 : decode cX6_rank 21 = .ok (.aload_n 0, 1) := by decide +kernel
theorem dX6_rank_22 : decode cX6_rank 22 = .ok (.getfield 19, 3) := by decide +kernel
theorem dX6_rank_25 : decode cX6_rank 25 = .ok (.invokevirtual 149, 3) := by decide +kernel
theorem dX6_rank_28 : decode cX6_rank 28 = .ok (.aload_n 0, 1) := by decide +kernel
theorem dX6_rank_29 : decode cX6_rank 29 = .ok (.getfield 33, 3) := by decide +kernel
theorem dX6_rank_32 : decode cX6_rank 32 = .ok (.iload_n 1, 1) := by decide +kernel
theorem dX6_rank_33 : decode cX6_rank 33 = .ok (.invokevirtual 153, 3) := by decide +kernel
theorem dX6_rank_36 : decode cX6_rank 36 = .ok (.ireturn, 1) := by decide +kernel
theorem dX6_round_0 : decode cX6_round 0 = .ok (.aload_n 0, 1) := by decide +kernel
theorem dX6_round_1 : decode cX6_round 1 = .ok (.iload_n 1, 1) := by decide +kernel
theorem dX6_round_2 : decode cX6_round 2 = .ok (.aload_n 0, 1) := by decide +kernel
theorem dX6_round_3 : decode cX6_round 3 = .ok (.getfield 19, 3) := by decide +kernel
theorem dX6_round_6 : decode cX6_round 6 = .ok (.getfield 99, 3) := by decide +kernel
theorem dX6_round_9 : decode cX6_round 9 = .ok (.invokevirtual 132, 3) := by decide +kernel
theorem dX6_round_12 : decode cX6_round 12 = .ok (.ifCond .eq 5, 3) := by decide +kernel
theorem dX6_round_15 : decode cX6_round 15 = .ok (.iconst (-1), 1) := by decide +kernel
theorem dX6_round_16 : decode cX6_round 16 = .ok (.ireturn, 1) := by decide +kernel
theorem dX6_round_17 : decode cX6_round 17 = .ok (.aload_n 0, 1) := by decide +kernel
theorem dX6_round_18 : decode cX6_round 18 = .ok (.getfield 33, 3) := by decide +kernel
theorem dX6_round_21 : decode cX6_round 21 = .ok (.aload_n 0, 1) := by decide +kernel
theorem dX6_round_22 : decode cX6_round 22 = .ok (.getfield 19, 3) := by decide +kernel
theorem dX6_round_25 : decode cX6_round 25 = .ok (.invokevirtual 149, 3) := by decide +kernel
theorem dX6_round_28 : decode cX6_round 28 = .ok (.aload_n 0, 1) := by decide +kernel
theorem dX6_round_29 : decode cX6_round 29 = .ok (.getfield 33, 3) := by decide +kernel
theorem dX6_round_32 : decode cX6_round 32 = .ok (.iload_n 1, 1) := by decide +kernel
theorem dX6_round_33 : decode cX6_round 33 = .ok (.invokevirtual 156, 3) := by decide +kernel
theorem dX6_round_36 : decode cX6_round 36 = .ok (.ireturn, 1) := by decide +kernel
theorem dX6_dual_0 : decode cX6_dual 0 = .ok (.aload_n 0, 1) := by decide +kernel
theorem dX6_dual_1 : decode cX6_dual 1 = .ok (.getfield 19, 3) := by decide +kernel
theorem dX6_dual_4 : decode cX6_dual 4 = .ok (.iload_n 1, 1) := by decide +kernel
theorem dX6_dual_5 : decode cX6_dual 5 = .ok (.invokevirtual 128, 3) := by decide +kernel
theorem dX6_dual_8 : decode cX6_dual 8 = .ok (.istore_n 2, 1) := by decide +kernel
theorem dX6_dual_9 : decode cX6_dual 9 = .ok (.aload_n 0, 1) := by decide +kernel
theorem dX6_dual_10 : decode cX6_dual 10 = .ok (.iload_n 2, 1) := by decide +kernel
theorem dX6_dual_11 : decode cX6_dual 11 = .ok (.ifCond .ge 7, 3) := by decide +kernel
theorem dX6_dual_14 : decode cX6_dual 14 = .ok (.iconst 1, 1) := by decide +kernel
theorem dX6_dual_15 : decode cX6_dual 15 = .ok (.goto 4, 3) := by decide +kernel
theorem dX6_dual_18 : decode cX6_dual 18 = .ok (.iconst 0, 1) := by decide +kernel
theorem dX6_dual_19 : decode cX6_dual 19 = .ok (.iconst 1, 1) := by decide +kernel
theorem dX6_dual_20 : decode cX6_dual 20 = .ok (.invokevirtual 66, 3) := by decide +kernel
theorem dX6_dual_23 : decode cX6_dual 23 = .ok (.ifCond .eq 7, 3) := by decide +kernel
theorem dX6_dual_26 : decode cX6_dual 26 = .ok (.iconst (-1), 1) := by decide +kernel
theorem dX6_dual_27 : decode cX6_dual 27 = .ok (.goto 14, 3) := by decide +kernel
theorem dX6_dual_30 : decode cX6_dual 30 = .ok (.aload_n 0, 1) := by decide +kernel
theorem dX6_dual_31 : decode cX6_dual 31 = .ok (.getfield 19, 3) := by decide +kernel
theorem dX6_dual_34 : decode cX6_dual 34 = .ok (.invokevirtual 159, 3) := by decide +kernel
theorem dX6_dual_37 : decode cX6_dual 37 = .ok (.iload_n 2, 1) := by decide +kernel
theorem dX6_dual_38 : decode cX6_dual 38 = .ok (.iconst (-1), 1) := by decide +kernel
theorem dX6_dual_39 : decode cX6_dual 39 = .ok (.ixor, 1) := by decide +kernel
theorem dX6_dual_40 : decode cX6_dual 40 = .ok (.iand, 1) := by decide +kernel
theorem dX6_dual_41 : decode cX6_dual 41 = .ok (.ireturn, 1) := by decide +kernel
theorem dX6_dualRound_0 : decode cX6_dualRound 0 = .ok (.aload_n 0, 1) := by decide +kernel
theorem dX6_dualRound_1 : decode cX6_dualRound 1 = .ok (.iload_n 1, 1) := by decide +kernel
theorem dX6_dualRound_2 : decode cX6_dualRound 2 = .ok (.aload_n 0, 1) := by decide +kernel
theorem dX6_dualRound_3 : decode cX6_dualRound 3 = .ok (.getfield 19, 3) := by decide +kernel
theorem dX6_dualRound_6 : decode cX6_dualRound 6 = .ok (.getfield 96, 3) := by decide +kernel
theorem dX6_dualRound_9 : decode cX6_dualRound 9 = .ok (.invokevirtual 132, 3) := by decide +kernel
theorem dX6_dualRound_12 : decode cX6_dualRound 12 = .ok (.ifCond .eq 5, 3) := by decide +kernel
theorem dX6_dualRound_15 : decode cX6_dualRound 15 = .ok (.iconst (-1), 1) := by decide +kernel
theorem dX6_dualRound_16 : decode cX6_dualRound 16 = .ok (.ireturn, 1) := by decide +kernel
theorem dX6_dualRound_17 : decode cX6_dualRound 17 = .ok (.aload_n 0, 1) := by decide +kernel
theorem dX6_dualRound_18 : decode cX6_dualRound 18 = .ok (.getfield 33, 3) := by decide +kernel
theorem dX6_dualRound_21 : decode cX6_dualRound 21 = .ok (.aload_n 0, 1) := by decide +kernel
theorem dX6_dualRound_22 : decode cX6_dualRound 22 = .ok (.getfield 19, 3) := by decide +kernel
theorem dX6_dualRound_25 : decode cX6_dualRound 25 = .ok (.invokevirtual 162, 3) := by decide +kernel
theorem dX6_dualRound_28 : decode cX6_dualRound 28 = .ok (.aload_n 0, 1) := by decide +kernel
theorem dX6_dualRound_29 : decode cX6_dualRound 29 = .ok (.getfield 33, 3) := by decide +kernel
theorem dX6_dualRound_32 : decode cX6_dualRound 32 = .ok (.iload_n 1, 1) := by decide +kernel
theorem dX6_dualRound_33 : decode cX6_dualRound 33 = .ok (.invokevirtual 156, 3) := by decide +kernel
theorem dX6_dualRound_36 : decode cX6_dualRound 36 = .ok (.ireturn, 1) := by decide +kernel
theorem dX6_near_0 : decode cX6_near 0 = .ok (.aload_n 0, 1) := by decide +kernel
theorem dX6_near_1 : decode cX6_near 1 = .ok (.aload_n 0, 1) := by decide +kernel
theorem dX6_near_2 : decode cX6_near 2 = .ok (.getfield 19, 3) := by decide +kernel
theorem dX6_near_5 : decode cX6_near 5 = .ok (.iload_n 1, 1) := by decide +kernel
theorem dX6_near_6 : decode cX6_near 6 = .ok (.invokevirtual 115, 3) := by decide +kernel
theorem dX6_near_9 : decode cX6_near 9 = .ok (.ifCond .ne 7, 3) := by decide +kernel
theorem dX6_near_12 : decode cX6_near 12 = .ok (.iconst 1, 1) := by decide +kernel
theorem dX6_near_13 : decode cX6_near 13 = .ok (.goto 4, 3) := by decide +kernel
theorem dX6_near_16 : decode cX6_near 16 = .ok (.iconst 0, 1) := by decide +kernel
theorem dX6_near_17 : decode cX6_near 17 = .ok (.iconst 1, 1) := by decide +kernel
theorem dX6_near_18 : decode cX6_near 18 = .ok (.invokevirtual 66, 3) := by decide +kernel
theorem dX6_near_21 : decode cX6_near 21 = .ok (.ifCond .eq 5, 3) := by decide +kernel
theorem dX6_near_24 : decode cX6_near 24 = .ok (.iconst (-1), 1) := by decide +kernel
theorem dX6_near_25 : decode cX6_near 25 = .ok (.ireturn, 1) := by decide +kernel
theorem dX6_near_26 : decode cX6_near 26 = .ok (.aload_n 0, 1) := by decide +kernel
theorem dX6_near_27 : decode cX6_near 27 = .ok (.getfield 19, 3) := by decide +kernel
theorem dX6_near_30 : decode cX6_near 30 = .ok (.iload_n 1, 1) := by decide +kernel
theorem dX6_near_31 : decode cX6_near 31 = .ok (.invokevirtual 165, 3) := by decide +kernel
theorem dX6_near_34 : decode cX6_near 34 = .ok (.ireturn, 1) := by decide +kernel
theorem dX6_apart_0 : decode cX6_apart 0 = .ok (.aload_n 0, 1) := by decide +kernel
theorem dX6_apart_1 : decode cX6_apart 1 = .ok (.aload_n 0, 1) := by decide +kernel
theorem dX6_apart_2 : decode cX6_apart 2 = .ok (.getfield 19, 3) := by decide +kernel
theorem dX6_apart_5 : decode cX6_apart 5 = .ok (.iload_n 1, 1) := by decide +kernel
theorem dX6_apart_6 : decode cX6_apart 6 = .ok (.invokevirtual 115, 3) := by decide +kernel
theorem dX6_apart_9 : decode cX6_apart 9 = .ok (.ifCond .eq 14, 3) := by decide +kernel
theorem dX6_apart_12 : decode cX6_apart 12 = .ok (.aload_n 0, 1) := by decide +kernel
theorem dX6_apart_13 : decode cX6_apart 13 = .ok (.getfield 19, 3) := by decide +kernel
theorem dX6_apart_16 : decode cX6_apart 16 = .ok (.iload_n 2, 1) := by decide +kernel
theorem dX6_apart_17 : decode cX6_apart 17 = .ok (.invokevirtual 115, 3) := by decide +kernel
theorem dX6_apart_20 : decode cX6_apart 20 = .ok (.ifCond .ne 7, 3) := by decide +kernel
theorem dX6_apart_23 : decode cX6_apart 23 = .ok (.iconst 1, 1) := by decide +kernel
theorem dX6_apart_24 : decode cX6_apart 24 = .ok (.goto 4, 3) := by decide +kernel
theorem dX6_apart_27 : decode cX6_apart 27 = .ok (.iconst 0, 1) := by decide +kernel
theorem dX6_apart_28 : decode cX6_apart 28 = .ok (.iconst 1, 1) := by decide +kernel
theorem dX6_apart_29 : decode cX6_apart 29 = .ok (.invokevirtual 66, 3) := by decide +kernel
theorem dX6_apart_32 : decode cX6_apart 32 = .ok (.ifCond .eq 5, 3) := by decide +kernel
theorem dX6_apart_35 : decode cX6_apart 35 = .ok (.iconst (-1), 1) := by decide +kernel
theorem dX6_apart_36 : decode cX6_apart 36 = .ok (.ireturn, 1) := by decide +kernel
theorem dX6_apart_37 : decode cX6_apart 37 = .ok (.aload_n 0, 1) := by decide +kernel
theorem dX6_apart_38 : decode cX6_apart 38 = .ok (.getfield 19, 3) := by decide +kernel
theorem dX6_apart_41 : decode cX6_apart 41 = .ok (.iload_n 1, 1) := by decide +kernel
theorem dX6_apart_42 : decode cX6_apart 42 = .ok (.iload_n 2, 1) := by decide +kernel
theorem dX6_apart_43 : decode cX6_apart 43 = .ok (.invokevirtual 168, 3) := by decide +kernel
theorem dX6_apart_46 : decode cX6_apart 46 = .ok (.ireturn, 1) := by decide +kernel
theorem dX6_ordered_0 : decode cX6_ordered 0 = .ok (.aload_n 0, 1) := by decide +kernel
theorem dX6_ordered_1 : decode cX6_ordered 1 = .ok (.iload_n 1, 1) := by decide +kernel
theorem dX6_ordered_2 : decode cX6_ordered 2 = .ok (.invokevirtual 171, 3) := by decide +kernel
theorem dX6_ordered_5 : decode cX6_ordered 5 = .ok (.ifCond .eq 7, 3) := by decide +kernel
theorem dX6_ordered_8 : decode cX6_ordered 8 = .ok (.iconst (-1), 1) := by decide +kernel
theorem dX6_ordered_9 : decode cX6_ordered 9 = .ok (.goto 12, 3) := by decide +kernel
theorem dX6_ordered_12 : decode cX6_ordered 12 = .ok (.aload_n 0, 1) := by decide +kernel
theorem dX6_ordered_13 : decode cX6_ordered 13 = .ok (.getfield 26, 3) := by decide +kernel
theorem dX6_ordered_16 : decode cX6_ordered 16 = .ok (.getfield 174, 3) := by decide +kernel
theorem dX6_ordered_19 : decode cX6_ordered 19 = .ok (.iload_n 1, 1) := by decide +kernel
theorem dX6_ordered_20 : decode cX6_ordered 20 = .ok (.iaload, 1) := by decide +kernel
theorem dX6_ordered_21 : decode cX6_ordered 21 = .ok (.ireturn, 1) := by decide +kernel
theorem dX6_joins_0 : decode cX6_joins 0 = .ok (.aload_n 0, 1) := by decide +kernel
theorem dX6_joins_1 : decode cX6_joins 1 = .ok (.iload_n 1, 1) := by decide +kernel
theorem dX6_joins_2 : decode cX6_joins 2 = .ok (.invokevirtual 171, 3) := by decide +kernel
theorem dX6_joins_5 : decode cX6_joins 5 = .ok (.ifCond .eq 5, 3) := by decide +kernel
theorem dX6_joins_8 : decode cX6_joins 8 = .ok (.iconst (-1), 1) := by decide +kernel
theorem dX6_joins_9 : decode cX6_joins 9 = .ok (.ireturn, 1) := by decide +kernel
theorem dX6_joins_10 : decode cX6_joins 10 = .ok (.aload_n 0, 1) := by decide +kernel
theorem dX6_joins_11 : decode cX6_joins 11 = .ok (.getfield 26, 3) := by decide +kernel
theorem dX6_joins_14 : decode cX6_joins 14 = .ok (.aload_n 0, 1) := by decide +kernel
theorem dX6_joins_15 : decode cX6_joins 15 = .ok (.getfield 19, 3) := by decide +kernel
theorem dX6_joins_18 : decode cX6_joins 18 = .ok (.iload_n 1, 1) := by decide +kernel
theorem dX6_joins_19 : decode cX6_joins 19 = .ok (.invokevirtual 177, 3) := by decide +kernel
theorem dX6_joins_22 : decode cX6_joins 22 = .ok (.ifCond .eq 7, 3) := by decide +kernel
theorem dX6_joins_25 : decode cX6_joins 25 = .ok (.iconst 1, 1) := by decide +kernel
theorem dX6_joins_26 : decode cX6_joins 26 = .ok (.goto 4, 3) := by decide +kernel
theorem dX6_joins_29 : decode cX6_joins 29 = .ok (.iconst 0, 1) := by decide +kernel
theorem dX6_joins_30 : decode cX6_joins 30 = .ok (.ireturn, 1) := by decide +kernel
theorem dX6_restricted_0 : decode cX6_restricted 0 = .ok (.aload_n 0, 1) := by decide +kernel
theorem dX6_restricted_1 : decode cX6_restricted 1 = .ok (.iload_n 1, 1) := by decide +kernel
theorem dX6_restricted_2 : decode cX6_restricted 2 = .ok (.invokevirtual 171, 3) := by decide +kernel
theorem dX6_restricted_5 : decode cX6_restricted 5 = .ok (.ifCond .eq 7, 3) := by decide +kernel
theorem dX6_restricted_8 : decode cX6_restricted 8 = .ok (.iconst (-1), 1) := by decide +kernel
theorem dX6_restricted_9 : decode cX6_restricted 9 = .ok (.goto 15, 3) := by decide +kernel
theorem dX6_restricted_12 : decode cX6_restricted 12 = .ok (.aload_n 0, 1) := by decide +kernel
theorem dX6_restricted_13 : decode cX6_restricted 13 = .ok (.getfield 26, 3) := by decide +kernel
theorem dX6_restricted_16 : decode cX6_restricted 16 = .ok (.aload_n 0, 1) := by decide +kernel
theorem dX6_restricted_17 : decode cX6_restricted 17 = .ok (.getfield 19, 3) := by decide +kernel
theorem dX6_restricted_20 : decode cX6_restricted 20 = .ok (.iload_n 1, 1) := by decide +kernel
theorem dX6_restricted_21 : decode cX6_restricted 21 = .ok (.invokevirtual 181, 3) := by decide +kernel
theorem dX6_restricted_24 : decode cX6_restricted 24 = .ok (.ireturn, 1) := by decide +kernel
theorem dX6_good_0 : decode cX6_good 0 = .ok (.aload_n 0, 1) := by decide +kernel
theorem dX6_good_1 : decode cX6_good 1 = .ok (.invokevirtual 146, 3) := by decide +kernel
theorem dX6_good_4 : decode cX6_good 4 = .ok (.ifCond .eq 7, 3) := by decide +kernel
theorem dX6_good_7 : decode cX6_good 7 = .ok (.iconst (-1), 1) := by decide +kernel
theorem dX6_good_8 : decode cX6_good 8 = .ok (.goto 14, 3) := by decide +kernel
theorem dX6_good_11 : decode cX6_good 11 = .ok (.aload_n 0, 1) := by decide +kernel
theorem dX6_good_12 : decode cX6_good 12 = .ok (.getfield 26, 3) := by decide +kernel
theorem dX6_good_15 : decode cX6_good 15 = .ok (.aload_n 0, 1) := by decide +kernel
theorem dX6_good_16 : decode cX6_good 16 = .ok (.getfield 19, 3) := by decide +kernel
theorem dX6_good_19 : decode cX6_good 19 = .ok (.invokevirtual 185, 3) := by decide +kernel
theorem dX6_good_22 : decode cX6_good 22 = .ok (.ireturn, 1) := by decide +kernel
theorem dX6_sized_0 : decode cX6_sized 0 = .ok (.aload_n 0, 1) := by decide +kernel
theorem dX6_sized_1 : decode cX6_sized 1 = .ok (.iload_n 1, 1) := by decide +kernel
theorem dX6_sized_2 : decode cX6_sized 2 = .ok (.aload_n 0, 1) := by decide +kernel
theorem dX6_sized_3 : decode cX6_sized 3 = .ok (.getfield 19, 3) := by decide +kernel
theorem dX6_sized_6 : decode cX6_sized 6 = .ok (.getfield 99, 3) := by decide +kernel
theorem dX6_sized_9 : decode cX6_sized 9 = .ok (.invokevirtual 132, 3) := by decide +kernel
theorem dX6_sized_12 : decode cX6_sized 12 = .ok (.ifCond .eq 5, 3) := by decide +kernel
theorem dX6_sized_15 : decode cX6_sized 15 = .ok (.iconst (-1), 1) := by decide +kernel
theorem dX6_sized_16 : decode cX6_sized 16 = .ok (.ireturn, 1) := by decide +kernel
theorem dX6_sized_17 : decode cX6_sized 17 = .ok (.aload_n 0, 1) := by decide +kernel
theorem dX6_sized_18 : decode cX6_sized 18 = .ok (.getfield 26, 3) := by decide +kernel
theorem dX6_sized_21 : decode cX6_sized 21 = .ok (.aload_n 0, 1) := by decide +kernel
theorem dX6_sized_22 : decode cX6_sized 22 = .ok (.getfield 19, 3) := by decide +kernel
theorem dX6_sized_25 : decode cX6_sized 25 = .ok (.iload_n 1, 1) := by decide +kernel
theorem dX6_sized_26 : decode cX6_sized 26 = .ok (.invokevirtual 189, 3) := by decide +kernel
theorem dX6_sized_29 : decode cX6_sized 29 = .ok (.ireturn, 1) := by decide +kernel
theorem dX6_spanning_0 : decode cX6_spanning 0 = .ok (.aload_n 0, 1) := by decide +kernel
theorem dX6_spanning_1 : decode cX6_spanning 1 = .ok (.getfield 26, 3) := by decide +kernel
theorem dX6_spanning_4 : decode cX6_spanning 4 = .ok (.aload_n 0, 1) := by decide +kernel
theorem dX6_spanning_5 : decode cX6_spanning 5 = .ok (.getfield 19, 3) := by decide +kernel
theorem dX6_spanning_8 : decode cX6_spanning 8 = .ok (.iload_n 1, 1) := by decide +kernel
theorem dX6_spanning_9 : decode cX6_spanning 9 = .ok (.invokevirtual 192, 3) := by decide +kernel
theorem dX6_spanning_12 : decode cX6_spanning 12 = .ok (.istore_n 2, 1) := by decide +kernel
theorem dX6_spanning_13 : decode cX6_spanning 13 = .ok (.aload_n 0, 1) := by decide +kernel
theorem dX6_spanning_14 : decode cX6_spanning 14 = .ok (.iload_n 2, 1) := by decide +kernel
theorem dX6_spanning_15 : decode cX6_spanning 15 = .ok (.ifCond .ge 7, 3) := by decide +kernel
theorem dX6_spanning_18 : decode cX6_spanning 18 = .ok (.iconst 1, 1) := by decide +kernel
theorem dX6_spanning_19 : decode cX6_spanning 19 = .ok (.goto 4, 3) := by decide +kernel
theorem dX6_spanning_22 : decode cX6_spanning 22 = .ok (.iconst 0, 1) := by decide +kernel
theorem dX6_spanning_23 : decode cX6_spanning 23 = .ok (.iconst 1, 1) := by decide +kernel
theorem dX6_spanning_24 : decode cX6_spanning 24 = .ok (.invokevirtual 66, 3) := by decide +kernel
theorem dX6_spanning_27 : decode cX6_spanning 27 = .ok (.ifCond .eq 7, 3) := by decide +kernel
theorem dX6_spanning_30 : decode cX6_spanning 30 = .ok (.iconst (-1), 1) := by decide +kernel
theorem dX6_spanning_31 : decode cX6_spanning 31 = .ok (.goto 4, 3) := by decide +kernel
theorem dX6_spanning_34 : decode cX6_spanning 34 = .ok (.iload_n 2, 1) := by decide +kernel
theorem dX6_spanning_35 : decode cX6_spanning 35 = .ok (.ireturn, 1) := by decide +kernel
theorem dX6_cycle_0 : decode cX6_cycle 0 = .ok (.aload_n 0, 1) := by decide +kernel
theorem dX6_cycle_1 : decode cX6_cycle 1 = .ok (.getfield 26, 3) := by decide +kernel
theorem dX6_cycle_4 : decode cX6_cycle 4 = .ok (.aload_n 0, 1) := by decide +kernel
theorem dX6_cycle_5 : decode cX6_cycle 5 = .ok (.getfield 19, 3) := by decide +kernel
theorem dX6_cycle_8 : decode cX6_cycle 8 = .ok (.iload_n 1, 1) := by decide +kernel
theorem dX6_cycle_9 : decode cX6_cycle 9 = .ok (.invokevirtual 192, 3) := by decide +kernel
theorem dX6_cycle_12 : decode cX6_cycle 12 = .ok (.istore_n 2, 1) := by decide +kernel
theorem dX6_cycle_13 : decode cX6_cycle 13 = .ok (.aload_n 0, 1) := by decide +kernel
theorem dX6_cycle_14 : decode cX6_cycle 14 = .ok (.iload_n 2, 1) := by decide +kernel
theorem dX6_cycle_15 : decode cX6_cycle 15 = .ok (.ifCond .ge 7, 3) := by decide +kernel
theorem dX6_cycle_18 : decode cX6_cycle 18 = .ok (.iconst 1, 1) := by decide +kernel
theorem dX6_cycle_19 : decode cX6_cycle 19 = .ok (.goto 4, 3) := by decide +kernel
theorem dX6_cycle_22 : decode cX6_cycle 22 = .ok (.iconst 0, 1) := by decide +kernel
theorem dX6_cycle_23 : decode cX6_cycle 23 = .ok (.iconst 1, 1) := by decide +kernel
theorem dX6_cycle_24 : decode cX6_cycle 24 = .ok (.invokevirtual 66, 3) := by decide +kernel
theorem dX6_cycle_27 : decode cX6_cycle 27 = .ok (.ifCond .eq 5, 3) := by decide +kernel
theorem dX6_cycle_30 : decode cX6_cycle 30 = .ok (.iconst (-1), 1) := by decide +kernel
theorem dX6_cycle_31 : decode cX6_cycle 31 = .ok (.ireturn, 1) := by decide +kernel
theorem dX6_cycle_32 : decode cX6_cycle 32 = .ok (.aload_n 0, 1) := by decide +kernel
theorem dX6_cycle_33 : decode cX6_cycle 33 = .ok (.getfield 26, 3) := by decide +kernel
theorem dX6_cycle_36 : decode cX6_cycle 36 = .ok (.aload_n 0, 1) := by decide +kernel
theorem dX6_cycle_37 : decode cX6_cycle 37 = .ok (.getfield 19, 3) := by decide +kernel
theorem dX6_cycle_40 : decode cX6_cycle 40 = .ok (.invokevirtual 185, 3) := by decide +kernel
theorem dX6_cycle_43 : decode cX6_cycle 43 = .ok (.aload_n 0, 1) := by decide +kernel
theorem dX6_cycle_44 : decode cX6_cycle 44 = .ok (.getfield 19, 3) := by decide +kernel
theorem dX6_cycle_47 : decode cX6_cycle 47 = .ok (.getfield 84, 3) := by decide +kernel
theorem dX6_cycle_50 : decode cX6_cycle 50 = .ok (.if_icmp .ge 6, 3) := by decide +kernel
theorem dX6_cycle_53 : decode cX6_cycle 53 = .ok (.bipush (-2), 2) := by decide +kernel
theorem dX6_cycle_55 : decode cX6_cycle 55 = .ok (.ireturn, 1) := by decide +kernel
theorem dX6_cycle_56 : decode cX6_cycle 56 = .ok (.aload_n 0, 1) := by decide +kernel
theorem dX6_cycle_57 : decode cX6_cycle 57 = .ok (.getfield 33, 3) := by decide +kernel
theorem dX6_cycle_60 : decode cX6_cycle 60 = .ok (.aload_n 0, 1) := by decide +kernel
theorem dX6_cycle_61 : decode cX6_cycle 61 = .ok (.getfield 19, 3) := by decide +kernel
theorem dX6_cycle_64 : decode cX6_cycle 64 = .ok (.aload_n 0, 1) := by decide +kernel
theorem dX6_cycle_65 : decode cX6_cycle 65 = .ok (.getfield 26, 3) := by decide +kernel
theorem dX6_cycle_68 : decode cX6_cycle 68 = .ok (.getfield 174, 3) := by decide +kernel
theorem dX6_cycle_71 : decode cX6_cycle 71 = .ok (.iload_n 2, 1) := by decide +kernel
theorem dX6_cycle_72 : decode cX6_cycle 72 = .ok (.iaload, 1) := by decide +kernel
theorem dX6_cycle_73 : decode cX6_cycle 73 = .ok (.aload_n 0, 1) := by decide +kernel
theorem dX6_cycle_74 : decode cX6_cycle 74 = .ok (.getfield 19, 3) := by decide +kernel
theorem dX6_cycle_77 : decode cX6_cycle 77 = .ok (.invokevirtual 195, 3) := by decide +kernel
theorem dX6_cycle_80 : decode cX6_cycle 80 = .ok (.aload_n 0, 1) := by decide +kernel
theorem dX6_cycle_81 : decode cX6_cycle 81 = .ok (.getfield 26, 3) := by decide +kernel
theorem dX6_cycle_84 : decode cX6_cycle 84 = .ok (.aload_n 0, 1) := by decide +kernel
theorem dX6_cycle_85 : decode cX6_cycle 85 = .ok (.getfield 19, 3) := by decide +kernel
theorem dX6_cycle_88 : decode cX6_cycle 88 = .ok (.invokevirtual 198, 3) := by decide +kernel
theorem dX6_cycle_91 : decode cX6_cycle 91 = .ok (.iconst (-1), 1) := by decide +kernel
theorem dX6_cycle_92 : decode cX6_cycle 92 = .ok (.ixor, 1) := by decide +kernel
theorem dX6_cycle_93 : decode cX6_cycle 93 = .ok (.iand, 1) := by decide +kernel
theorem dX6_cycle_94 : decode cX6_cycle 94 = .ok (.invokevirtual 201, 3) := by decide +kernel
theorem dX6_cycle_97 : decode cX6_cycle 97 = .ok (.ireturn, 1) := by decide +kernel
theorem dX6_mean_0 : decode cX6_mean 0 = .ok (.aload_n 0, 1) := by decide +kernel
theorem dX6_mean_1 : decode cX6_mean 1 = .ok (.invokevirtual 146, 3) := by decide +kernel
theorem dX6_mean_4 : decode cX6_mean 4 = .ok (.ifCond .eq 7, 3) := by decide +kernel
theorem dX6_mean_7 : decode cX6_mean 7 = .ok (.ldc2_w 205, 3) := by decide +kernel
theorem dX6_mean_10 : decode cX6_mean 10 = .ok (.dreturn, 1) := by decide +kernel
theorem dX6_mean_11 : decode cX6_mean 11 = .ok (.iconst 0, 1) := by decide +kernel
theorem dX6_mean_12 : decode cX6_mean 12 = .ok (.istore_n 1, 1) := by decide +kernel
theorem dX6_mean_13 : decode cX6_mean 13 = .ok (.iconst 0, 1) := by decide +kernel
theorem dX6_mean_14 : decode cX6_mean 14 = .ok (.istore_n 2, 1) := by decide +kernel
theorem dX6_mean_15 : decode cX6_mean 15 = .ok (.iload_n 2, 1) := by decide +kernel
theorem dX6_mean_16 : decode cX6_mean 16 = .ok (.aload_n 0, 1) := by decide +kernel
theorem dX6_mean_17 : decode cX6_mean 17 = .ok (.getfield 19, 3) := by decide +kernel
theorem dX6_mean_20 : decode cX6_mean 20 = .ok (.getfield 84, 3) := by decide +kernel
theorem dX6_mean_23 : decode cX6_mean 23 = .ok (.if_icmp .ge 27, 3) := by decide +kernel
theorem dX6_mean_26 : decode cX6_mean 26 = .ok (.iload_n 1, 1) := by decide +kernel
theorem dX6_mean_27 : decode cX6_mean 27 = .ok (.aload_n 0, 1) := by decide +kernel
theorem dX6_mean_28 : decode cX6_mean 28 = .ok (.getfield 26, 3) := by decide +kernel
theorem dX6_mean_31 : decode cX6_mean 31 = .ok (.aload_n 0, 1) := by decide +kernel
theorem dX6_mean_32 : decode cX6_mean 32 = .ok (.getfield 19, 3) := by decide +kernel
theorem dX6_mean_35 : decode cX6_mean 35 = .ok (.iload_n 2, 1) := by decide +kernel
theorem dX6_mean_36 : decode cX6_mean 36 = .ok (.invokevirtual 181, 3) := by decide +kernel
theorem dX6_mean_39 : decode cX6_mean 39 = .ok (.invokestatic 207, 3) := by decide +kernel
theorem dX6_mean_42 : decode cX6_mean 42 = .ok (.iadd, 1) := by decide +kernel
theorem dX6_mean_43 : decode cX6_mean 43 = .ok (.istore_n 1, 1) := by decide +kernel
theorem dX6_mean_44 : decode cX6_mean 44 = .ok (.iinc 2 1, 3) := by decide +kernel
theorem dX6_mean_47 : decode cX6_mean 47 = .ok (.goto (-32), 3) := by decide +kernel
theorem dX6_mean_50 : decode cX6_mean 50 = .ok (.aload_n 0, 1) := by decide +kernel
theorem dX6_mean_51 : decode cX6_mean 51 = .ok (.getfield 19, 3) := by decide +kernel
theorem dX6_mean_54 : decode cX6_mean 54 = .ok (.getfield 84, 3) := by decide +kernel
theorem dX6_mean_57 : decode cX6_mean 57 = .ok (.ifCond .ne 9, 3) := by decide +kernel
theorem dX6_mean_60 : decode cX6_mean 60 = .ok (.ldc2_w 205, 3) := by decide +kernel
theorem dX6_mean_63 : decode cX6_mean 63 = .ok (.goto 14, 3) := by decide +kernel
theorem dX6_mean_66 : decode cX6_mean 66 = .ok (.iload_n 1, 1) := by decide +kernel
theorem dX6_mean_67 : decode cX6_mean 67 = .ok (.i2d, 1) := by decide +kernel
theorem dX6_mean_68 : decode cX6_mean 68 = .ok (.aload_n 0, 1) := by decide +kernel
theorem dX6_mean_69 : decode cX6_mean 69 = .ok (.getfield 19, 3) := by decide +kernel
theorem dX6_mean_72 : decode cX6_mean 72 = .ok (.getfield 84, 3) := by decide +kernel
theorem dX6_mean_75 : decode cX6_mean 75 = .ok (.i2d, 1) := by decide +kernel
theorem dX6_mean_76 : decode cX6_mean 76 = .ok (.ddiv, 1) := by decide +kernel
theorem dX6_mean_77 : decode cX6_mean 77 = .ok (.dreturn, 1) := by decide +kernel
theorem dX6_cell_0 : decode cX6_cell 0 = .ok (.aload_n 0, 1) := by decide +kernel
theorem dX6_cell_1 : decode cX6_cell 1 = .ok (.iload_n 1, 1) := by decide +kernel
theorem dX6_cell_2 : decode cX6_cell 2 = .ok (.invokevirtual 122, 3) := by decide +kernel
theorem dX6_cell_5 : decode cX6_cell 5 = .ok (.ifCond .eq 5, 3) := by decide +kernel
theorem dX6_cell_8 : decode cX6_cell 8 = .ok (.iconst (-1), 1) := by decide +kernel
theorem dX6_cell_9 : decode cX6_cell 9 = .ok (.ireturn, 1) := by decide +kernel
theorem dX6_cell_10 : decode cX6_cell 10 = .ok (.aload_n 0, 1) := by decide +kernel
theorem dX6_cell_11 : decode cX6_cell 11 = .ok (.getfield 26, 3) := by decide +kernel
theorem dX6_cell_14 : decode cX6_cell 14 = .ok (.aload_n 0, 1) := by decide +kernel
theorem dX6_cell_15 : decode cX6_cell 15 = .ok (.getfield 19, 3) := by decide +kernel
theorem dX6_cell_18 : decode cX6_cell 18 = .ok (.iload_n 1, 1) := by decide +kernel
theorem dX6_cell_19 : decode cX6_cell 19 = .ok (.invokevirtual 210, 3) := by decide +kernel
theorem dX6_cell_22 : decode cX6_cell 22 = .ok (.ireturn, 1) := by decide +kernel
theorem dX6_fresh_0 : decode cX6_fresh 0 = .ok (.aload_n 0, 1) := by decide +kernel
theorem dX6_fresh_1 : decode cX6_fresh 1 = .ok (.iload_n 1, 1) := by decide +kernel
theorem dX6_fresh_2 : decode cX6_fresh 2 = .ok (.invokevirtual 171, 3) := by decide +kernel
theorem dX6_fresh_5 : decode cX6_fresh 5 = .ok (.ifCond .eq 5, 3) := by decide +kernel
theorem dX6_fresh_8 : decode cX6_fresh 8 = .ok (.iconst (-1), 1) := by decide +kernel
theorem dX6_fresh_9 : decode cX6_fresh 9 = .ok (.ireturn, 1) := by decide +kernel
theorem dX6_fresh_10 : decode cX6_fresh 10 = .ok (.iconst 0, 1) := by decide +kernel
theorem dX6_fresh_11 : decode cX6_fresh 11 = .ok (.istore_n 2, 1) := by decide +kernel
theorem dX6_fresh_12 : decode cX6_fresh 12 = .ok (.iconst 0, 1) := by decide +kernel
theorem dX6_fresh_13 : decode cX6_fresh 13 = .ok (.istore_n 3, 1) := by decide +kernel
theorem dX6_fresh_14 : decode cX6_fresh 14 = .ok (.iload_n 3, 1) := by decide +kernel
theorem dX6_fresh_15 : decode cX6_fresh 15 = .ok (.aload_n 0, 1) := by decide +kernel
theorem dX6_fresh_16 : decode cX6_fresh 16 = .ok (.getfield 19, 3) := by decide +kernel
theorem dX6_fresh_19 : decode cX6_fresh 19 = .ok (.invokevirtual 159, 3) := by decide +kernel
theorem dX6_fresh_22 : decode cX6_fresh 22 = .ok (.if_icmp .gt 28, 3) := by decide +kernel
theorem dX6_fresh_25 : decode cX6_fresh 25 = .ok (.aload_n 0, 1) := by decide +kernel
theorem dX6_fresh_26 : decode cX6_fresh 26 = .ok (.getfield 26, 3) := by decide +kernel
theorem dX6_fresh_29 : decode cX6_fresh 29 = .ok (.aload_n 0, 1) := by decide +kernel
theorem dX6_fresh_30 : decode cX6_fresh 30 = .ok (.getfield 19, 3) := by decide +kernel
theorem dX6_fresh_33 : decode cX6_fresh 33 = .ok (.iload_n 3, 1) := by decide +kernel
theorem dX6_fresh_34 : decode cX6_fresh 34 = .ok (.invokevirtual 210, 3) := by decide +kernel
theorem dX6_fresh_37 : decode cX6_fresh 37 = .ok (.iload_n 1, 1) := by decide +kernel
theorem dX6_fresh_38 : decode cX6_fresh 38 = .ok (.if_icmp .ne 6, 3) := by decide +kernel
theorem dX6_fresh_41 : decode cX6_fresh 41 = .ok (.iinc 2 1, 3) := by decide +kernel
theorem dX6_fresh_44 : decode cX6_fresh 44 = .ok (.iinc 3 1, 3) := by decide +kernel
theorem dX6_fresh_47 : decode cX6_fresh 47 = .ok (.goto (-33), 3) := by decide +kernel
theorem dX6_fresh_50 : decode cX6_fresh 50 = .ok (.iload_n 2, 1) := by decide +kernel
theorem dX6_fresh_51 : decode cX6_fresh 51 = .ok (.ireturn, 1) := by decide +kernel
theorem dX6_between_0 : decode cX6_between 0 = .ok (.aload_n 0, 1) := by decide +kernel
theorem dX6_between_1 : decode cX6_between 1 = .ok (.iload_n 1, 1) := by decide +kernel
theorem dX6_between_2 : decode cX6_between 2 = .ok (.invokevirtual 122, 3) := by decide +kernel
theorem dX6_between_5 : decode cX6_between 5 = .ok (.ifCond .eq 5, 3) := by decide +kernel
theorem dX6_between_8 : decode cX6_between 8 = .ok (.iconst (-1), 1) := by decide +kernel
theorem dX6_between_9 : decode cX6_between 9 = .ok (.ireturn, 1) := by decide +kernel
theorem dX6_between_10 : decode cX6_between 10 = .ok (.aload_n 0, 1) := by decide +kernel
theorem dX6_between_11 : decode cX6_between 11 = .ok (.getfield 26, 3) := by decide +kernel
theorem dX6_between_14 : decode cX6_between 14 = .ok (.aload_n 0, 1) := by decide +kernel
theorem dX6_between_15 : decode cX6_between 15 = .ok (.getfield 19, 3) := by decide +kernel
theorem dX6_between_18 : decode cX6_between 18 = .ok (.iload_n 1, 1) := by decide +kernel
theorem dX6_between_19 : decode cX6_between 19 = .ok (.invokevirtual 213, 3) := by decide +kernel
theorem dX6_between_22 : decode cX6_between 22 = .ok (.ireturn, 1) := by decide +kernel
theorem dX6_unparted_0 : decode cX6_unparted 0 = .ok (.aload_n 0, 1) := by decide +kernel
theorem dX6_unparted_1 : decode cX6_unparted 1 = .ok (.invokevirtual 146, 3) := by decide +kernel
theorem dX6_unparted_4 : decode cX6_unparted 4 = .ok (.ifCond .eq 5, 3) := by decide +kernel
theorem dX6_unparted_7 : decode cX6_unparted 7 = .ok (.iconst (-1), 1) := by decide +kernel
theorem dX6_unparted_8 : decode cX6_unparted 8 = .ok (.ireturn, 1) := by decide +kernel
theorem dX6_unparted_9 : decode cX6_unparted 9 = .ok (.iconst 0, 1) := by decide +kernel
theorem dX6_unparted_10 : decode cX6_unparted 10 = .ok (.istore_n 1, 1) := by decide +kernel
theorem dX6_unparted_11 : decode cX6_unparted 11 = .ok (.iconst 0, 1) := by decide +kernel
theorem dX6_unparted_12 : decode cX6_unparted 12 = .ok (.istore_n 2, 1) := by decide +kernel
theorem dX6_unparted_13 : decode cX6_unparted 13 = .ok (.iload_n 2, 1) := by decide +kernel
theorem dX6_unparted_14 : decode cX6_unparted 14 = .ok (.aload_n 0, 1) := by decide +kernel
theorem dX6_unparted_15 : decode cX6_unparted 15 = .ok (.getfield 19, 3) := by decide +kernel
theorem dX6_unparted_18 : decode cX6_unparted 18 = .ok (.invokevirtual 159, 3) := by decide +kernel
theorem dX6_unparted_21 : decode cX6_unparted 21 = .ok (.if_icmp .gt 39, 3) := by decide +kernel
theorem dX6_unparted_24 : decode cX6_unparted 24 = .ok (.aload_n 0, 1) := by decide +kernel
theorem dX6_unparted_25 : decode cX6_unparted 25 = .ok (.getfield 19, 3) := by decide +kernel
theorem dX6_unparted_28 : decode cX6_unparted 28 = .ok (.iload_n 2, 1) := by decide +kernel
theorem dX6_unparted_29 : decode cX6_unparted 29 = .ok (.invokevirtual 216, 3) := by decide +kernel
theorem dX6_unparted_32 : decode cX6_unparted 32 = .ok (.ifCond .eq 22, 3) := by decide +kernel
theorem dX6_unparted_35 : decode cX6_unparted 35 = .ok (.aload_n 0, 1) := by decide +kernel
theorem dX6_unparted_36 : decode cX6_unparted 36 = .ok (.getfield 26, 3) := by decide +kernel
theorem dX6_unparted_39 : decode cX6_unparted 39 = .ok (.aload_n 0, 1) := by decide +kernel
theorem dX6_unparted_40 : decode cX6_unparted 40 = .ok (.getfield 19, 3) := by decide +kernel
theorem dX6_unparted_43 : decode cX6_unparted 43 = .ok (.iload_n 2, 1) := by decide +kernel
theorem dX6_unparted_44 : decode cX6_unparted 44 = .ok (.invokevirtual 213, 3) := by decide +kernel
theorem dX6_unparted_47 : decode cX6_unparted 47 = .ok (.iconst 1, 1) := by decide +kernel
theorem dX6_unparted_48 : decode cX6_unparted 48 = .ok (.if_icmp .eq 6, 3) := by decide +kernel
theorem dX6_unparted_51 : decode cX6_unparted 51 = .ok (.iinc 1 1, 3) := by decide +kernel
theorem dX6_unparted_54 : decode cX6_unparted 54 = .ok (.iinc 2 1, 3) := by decide +kernel
theorem dX6_unparted_57 : decode cX6_unparted 57 = .ok (.goto (-44), 3) := by decide +kernel
theorem dX6_unparted_60 : decode cX6_unparted 60 = .ok (.iload_n 1, 1) := by decide +kernel
theorem dX6_unparted_61 : decode cX6_unparted 61 = .ok (.ireturn, 1) := by decide +kernel
theorem dX6_rebuilt_0 : decode cX6_rebuilt 0 = .ok (.aload_n 0, 1) := by decide +kernel
theorem dX6_rebuilt_1 : decode cX6_rebuilt 1 = .ok (.iload_n 1, 1) := by decide +kernel
theorem dX6_rebuilt_2 : decode cX6_rebuilt 2 = .ok (.aload_n 0, 1) := by decide +kernel
theorem dX6_rebuilt_3 : decode cX6_rebuilt 3 = .ok (.getfield 19, 3) := by decide +kernel
theorem dX6_rebuilt_6 : decode cX6_rebuilt 6 = .ok (.getfield 99, 3) := by decide +kernel
theorem dX6_rebuilt_9 : decode cX6_rebuilt 9 = .ok (.invokevirtual 132, 3) := by decide +kernel
theorem dX6_rebuilt_12 : decode cX6_rebuilt 12 = .ok (.ifCond .eq 5, 3) := by decide +kernel
theorem dX6_rebuilt_15 : decode cX6_rebuilt 15 = .ok (.iconst (-1), 1) := by decide +kernel
theorem dX6_rebuilt_16 : decode cX6_rebuilt 16 = .ok (.ireturn, 1) := by decide +kernel
theorem dX6_rebuilt_17 : decode cX6_rebuilt 17 = .ok (.iconst 0, 1) := by decide +kernel
theorem dX6_rebuilt_18 : decode cX6_rebuilt 18 = .ok (.istore_n 2, 1) := by decide +kernel
theorem dX6_rebuilt_19 : decode cX6_rebuilt 19 = .ok (.iconst 0, 1) := by decide +kernel
theorem dX6_rebuilt_20 : decode cX6_rebuilt 20 = .ok (.istore_n 3, 1) := by decide +kernel
theorem dX6_rebuilt_21 : decode cX6_rebuilt 21 = .ok (.iload_n 3, 1) := by decide +kernel
theorem dX6_rebuilt_22 : decode cX6_rebuilt 22 = .ok (.iload_n 1, 1) := by decide +kernel
theorem dX6_rebuilt_23 : decode cX6_rebuilt 23 = .ok (.if_icmp .gt 40, 3) := by decide +kernel
theorem dX6_rebuilt_26 : decode cX6_rebuilt 26 = .ok (.iload_n 2, 1) := by decide +kernel
theorem dX6_rebuilt_27 : decode cX6_rebuilt 27 = .ok (.aload_n 0, 1) := by decide +kernel
theorem dX6_rebuilt_28 : decode cX6_rebuilt 28 = .ok (.getfield 26, 3) := by decide +kernel
theorem dX6_rebuilt_31 : decode cX6_rebuilt 31 = .ok (.aload_n 0, 1) := by decide +kernel
theorem dX6_rebuilt_32 : decode cX6_rebuilt 32 = .ok (.getfield 19, 3) := by decide +kernel
theorem dX6_rebuilt_35 : decode cX6_rebuilt 35 = .ok (.iload_n 3, 1) := by decide +kernel
theorem dX6_rebuilt_36 : decode cX6_rebuilt 36 = .ok (.invokevirtual 189, 3) := by decide +kernel
theorem dX6_rebuilt_39 : decode cX6_rebuilt 39 = .ok (.aload_n 0, 1) := by decide +kernel
theorem dX6_rebuilt_40 : decode cX6_rebuilt 40 = .ok (.getfield 19, 3) := by decide +kernel
theorem dX6_rebuilt_43 : decode cX6_rebuilt 43 = .ok (.getfield 99, 3) := by decide +kernel
theorem dX6_rebuilt_46 : decode cX6_rebuilt 46 = .ok (.iload_n 3, 1) := by decide +kernel
theorem dX6_rebuilt_47 : decode cX6_rebuilt 47 = .ok (.isub, 1) := by decide +kernel
theorem dX6_rebuilt_48 : decode cX6_rebuilt 48 = .ok (.iload_n 1, 1) := by decide +kernel
theorem dX6_rebuilt_49 : decode cX6_rebuilt 49 = .ok (.iload_n 3, 1) := by decide +kernel
theorem dX6_rebuilt_50 : decode cX6_rebuilt 50 = .ok (.isub, 1) := by decide +kernel
theorem dX6_rebuilt_51 : decode cX6_rebuilt 51 = .ok (.invokestatic 142, 3) := by decide +kernel
theorem dX6_rebuilt_54 : decode cX6_rebuilt 54 = .ok (.imul, 1) := by decide +kernel
theorem dX6_rebuilt_55 : decode cX6_rebuilt 55 = .ok (.iadd, 1) := by decide +kernel
theorem dX6_rebuilt_56 : decode cX6_rebuilt 56 = .ok (.istore_n 2, 1) := by decide +kernel
theorem dX6_rebuilt_57 : decode cX6_rebuilt 57 = .ok (.iinc 3 1, 3) := by decide +kernel
theorem dX6_rebuilt_60 : decode cX6_rebuilt 60 = .ok (.goto (-39), 3) := by decide +kernel
theorem dX6_rebuilt_63 : decode cX6_rebuilt 63 = .ok (.iload_n 2, 1) := by decide +kernel
theorem dX6_rebuilt_64 : decode cX6_rebuilt 64 = .ok (.ireturn, 1) := by decide +kernel
theorem dX6_swaps_0 : decode cX6_swaps 0 = .ok (.aload_n 0, 1) := by decide +kernel
theorem dX6_swaps_1 : decode cX6_swaps 1 = .ok (.invokevirtual 146, 3) := by decide +kernel
theorem dX6_swaps_4 : decode cX6_swaps 4 = .ok (.ifCond .eq 5, 3) := by decide +kernel
theorem dX6_swaps_7 : decode cX6_swaps 7 = .ok (.iconst (-1), 1) := by decide +kernel
theorem dX6_swaps_8 : decode cX6_swaps 8 = .ok (.ireturn, 1) := by decide +kernel
theorem dX6_swaps_9 : decode cX6_swaps 9 = .ok (.iconst 0, 1) := by decide +kernel
theorem dX6_swaps_10 : decode cX6_swaps 10 = .ok (.istore_n 1, 1) := by decide +kernel
theorem dX6_swaps_11 : decode cX6_swaps 11 = .ok (.iconst 0, 1) := by decide +kernel
theorem dX6_swaps_12 : decode cX6_swaps 12 = .ok (.istore_n 2, 1) := by decide +kernel
theorem dX6_swaps_13 : decode cX6_swaps 13 = .ok (.iload_n 2, 1) := by decide +kernel
theorem dX6_swaps_14 : decode cX6_swaps 14 = .ok (.iconst 1, 1) := by decide +kernel
theorem dX6_swaps_15 : decode cX6_swaps 15 = .ok (.iadd, 1) := by decide +kernel
theorem dX6_swaps_16 : decode cX6_swaps 16 = .ok (.aload_n 0, 1) := by decide +kernel
theorem dX6_swaps_17 : decode cX6_swaps 17 = .ok (.getfield 19, 3) := by decide +kernel
theorem dX6_swaps_20 : decode cX6_swaps 20 = .ok (.getfield 84, 3) := by decide +kernel
theorem dX6_swaps_23 : decode cX6_swaps 23 = .ok (.if_icmp .ge 52, 3) := by decide +kernel
theorem dX6_swaps_26 : decode cX6_swaps 26 = .ok (.aload_n 0, 1) := by decide +kernel
theorem dX6_swaps_27 : decode cX6_swaps 27 = .ok (.getfield 26, 3) := by decide +kernel
theorem dX6_swaps_30 : decode cX6_swaps 30 = .ok (.iload_n 2, 1) := by decide +kernel
theorem dX6_swaps_31 : decode cX6_swaps 31 = .ok (.invokevirtual 219, 3) := by decide +kernel
theorem dX6_swaps_34 : decode cX6_swaps 34 = .ok (.aload_n 0, 1) := by decide +kernel
theorem dX6_swaps_35 : decode cX6_swaps 35 = .ok (.getfield 26, 3) := by decide +kernel
theorem dX6_swaps_38 : decode cX6_swaps 38 = .ok (.aload_n 0, 1) := by decide +kernel
theorem dX6_swaps_39 : decode cX6_swaps 39 = .ok (.getfield 19, 3) := by decide +kernel
theorem dX6_swaps_42 : decode cX6_swaps 42 = .ok (.invokevirtual 185, 3) := by decide +kernel
theorem dX6_swaps_45 : decode cX6_swaps 45 = .ok (.aload_n 0, 1) := by decide +kernel
theorem dX6_swaps_46 : decode cX6_swaps 46 = .ok (.getfield 19, 3) := by decide +kernel
theorem dX6_swaps_49 : decode cX6_swaps 49 = .ok (.getfield 84, 3) := by decide +kernel
theorem dX6_swaps_52 : decode cX6_swaps 52 = .ok (.if_icmp .ne 9, 3) := by decide +kernel
theorem dX6_swaps_55 : decode cX6_swaps 55 = .ok (.iload_n 1, 1) := by decide +kernel
theorem dX6_swaps_56 : decode cX6_swaps 56 = .ok (.iconst 1, 1) := by decide +kernel
theorem dX6_swaps_57 : decode cX6_swaps 57 = .ok (.iload_n 2, 1) := by decide +kernel
theorem dX6_swaps_58 : decode cX6_swaps 58 = .ok (.ishl, 1) := by decide +kernel
theorem dX6_swaps_59 : decode cX6_swaps 59 = .ok (.ior, 1) := by decide +kernel
theorem dX6_swaps_60 : decode cX6_swaps 60 = .ok (.istore_n 1, 1) := by decide +kernel
theorem dX6_swaps_61 : decode cX6_swaps 61 = .ok (.aload_n 0, 1) := by decide +kernel
theorem dX6_swaps_62 : decode cX6_swaps 62 = .ok (.getfield 26, 3) := by decide +kernel
theorem dX6_swaps_65 : decode cX6_swaps 65 = .ok (.iload_n 2, 1) := by decide +kernel
theorem dX6_swaps_66 : decode cX6_swaps 66 = .ok (.invokevirtual 219, 3) := by decide +kernel
theorem dX6_swaps_69 : decode cX6_swaps 69 = .ok (.iinc 2 1, 3) := by decide +kernel
theorem dX6_swaps_72 : decode cX6_swaps 72 = .ok (.goto (-59), 3) := by decide +kernel
theorem dX6_swaps_75 : decode cX6_swaps 75 = .ok (.iload_n 1, 1) := by decide +kernel
theorem dX6_swaps_76 : decode cX6_swaps 76 = .ok (.ireturn, 1) := by decide +kernel
theorem dX6_leaps_0 : decode cX6_leaps 0 = .ok (.aload_n 0, 1) := by decide +kernel
theorem dX6_leaps_1 : decode cX6_leaps 1 = .ok (.iload_n 1, 1) := by decide +kernel
theorem dX6_leaps_2 : decode cX6_leaps 2 = .ok (.invokevirtual 171, 3) := by decide +kernel
theorem dX6_leaps_5 : decode cX6_leaps 5 = .ok (.ifCond .eq 7, 3) := by decide +kernel
theorem dX6_leaps_8 : decode cX6_leaps 8 = .ok (.iconst (-1), 1) := by decide +kernel
theorem dX6_leaps_9 : decode cX6_leaps 9 = .ok (.goto 15, 3) := by decide +kernel
theorem dX6_leaps_12 : decode cX6_leaps 12 = .ok (.aload_n 0, 1) := by decide +kernel
theorem dX6_leaps_13 : decode cX6_leaps 13 = .ok (.getfield 26, 3) := by decide +kernel
theorem dX6_leaps_16 : decode cX6_leaps 16 = .ok (.aload_n 0, 1) := by decide +kernel
theorem dX6_leaps_17 : decode cX6_leaps 17 = .ok (.getfield 19, 3) := by decide +kernel
theorem dX6_leaps_20 : decode cX6_leaps 20 = .ok (.iload_n 1, 1) := by decide +kernel
theorem dX6_leaps_21 : decode cX6_leaps 21 = .ok (.invokevirtual 222, 3) := by decide +kernel
theorem dX6_leaps_24 : decode cX6_leaps 24 = .ok (.ireturn, 1) := by decide +kernel
theorem dX6_leap_0 : decode cX6_leap 0 = .ok (.aload_n 0, 1) := by decide +kernel
theorem dX6_leap_1 : decode cX6_leap 1 = .ok (.getfield 26, 3) := by decide +kernel
theorem dX6_leap_4 : decode cX6_leap 4 = .ok (.aload_n 0, 1) := by decide +kernel
theorem dX6_leap_5 : decode cX6_leap 5 = .ok (.getfield 19, 3) := by decide +kernel
theorem dX6_leap_8 : decode cX6_leap 8 = .ok (.iload_n 1, 1) := by decide +kernel
theorem dX6_leap_9 : decode cX6_leap 9 = .ok (.invokevirtual 225, 3) := by decide +kernel
theorem dX6_leap_12 : decode cX6_leap 12 = .ok (.ifCond .eq 19, 3) := by decide +kernel
theorem dX6_leap_15 : decode cX6_leap 15 = .ok (.aload_n 0, 1) := by decide +kernel
theorem dX6_leap_16 : decode cX6_leap 16 = .ok (.getfield 26, 3) := by decide +kernel
theorem dX6_leap_19 : decode cX6_leap 19 = .ok (.aload_n 0, 1) := by decide +kernel
theorem dX6_leap_20 : decode cX6_leap 20 = .ok (.getfield 19, 3) := by decide +kernel
theorem dX6_leap_23 : decode cX6_leap 23 = .ok (.iload_n 1, 1) := by decide +kernel
theorem dX6_leap_24 : decode cX6_leap 24 = .ok (.iload_n 2, 1) := by decide +kernel
theorem dX6_leap_25 : decode cX6_leap 25 = .ok (.invokevirtual 228, 3) := by decide +kernel
theorem dX6_leap_28 : decode cX6_leap 28 = .ok (.goto 4, 3) := by decide +kernel
theorem dX6_leap_31 : decode cX6_leap 31 = .ok (.iconst (-1), 1) := by decide +kernel
theorem dX6_leap_32 : decode cX6_leap 32 = .ok (.istore_n 3, 1) := by decide +kernel
theorem dX6_leap_33 : decode cX6_leap 33 = .ok (.aload_n 0, 1) := by decide +kernel
theorem dX6_leap_34 : decode cX6_leap 34 = .ok (.iload_n 3, 1) := by decide +kernel
theorem dX6_leap_35 : decode cX6_leap 35 = .ok (.ifCond .ge 7, 3) := by decide +kernel
theorem dX6_leap_38 : decode cX6_leap 38 = .ok (.iconst 1, 1) := by decide +kernel
theorem dX6_leap_39 : decode cX6_leap 39 = .ok (.goto 4, 3) := by decide +kernel
theorem dX6_leap_42 : decode cX6_leap 42 = .ok (.iconst 0, 1) := by decide +kernel
theorem dX6_leap_43 : decode cX6_leap 43 = .ok (.iconst 1, 1) := by decide +kernel
theorem dX6_leap_44 : decode cX6_leap 44 = .ok (.invokevirtual 66, 3) := by decide +kernel
theorem dX6_leap_47 : decode cX6_leap 47 = .ok (.ifCond .eq 7, 3) := by decide +kernel
theorem dX6_leap_50 : decode cX6_leap 50 = .ok (.iconst (-1), 1) := by decide +kernel
theorem dX6_leap_51 : decode cX6_leap 51 = .ok (.goto 4, 3) := by decide +kernel
theorem dX6_leap_54 : decode cX6_leap 54 = .ok (.iload_n 3, 1) := by decide +kernel
theorem dX6_leap_55 : decode cX6_leap 55 = .ok (.ireturn, 1) := by decide +kernel
theorem dX6_linear_0 : decode cX6_linear 0 = .ok (.aload_n 0, 1) := by decide +kernel
theorem dX6_linear_1 : decode cX6_linear 1 = .ok (.invokevirtual 146, 3) := by decide +kernel
theorem dX6_linear_4 : decode cX6_linear 4 = .ok (.ifCond .eq 5, 3) := by decide +kernel
theorem dX6_linear_7 : decode cX6_linear 7 = .ok (.iconst (-1), 1) := by decide +kernel
theorem dX6_linear_8 : decode cX6_linear 8 = .ok (.ireturn, 1) := by decide +kernel
theorem dX6_linear_9 : decode cX6_linear 9 = .ok (.iconst 0, 1) := by decide +kernel
theorem dX6_linear_10 : decode cX6_linear 10 = .ok (.istore_n 1, 1) := by decide +kernel
theorem dX6_linear_11 : decode cX6_linear 11 = .ok (.iload_n 1, 1) := by decide +kernel
theorem dX6_linear_12 : decode cX6_linear 12 = .ok (.aload_n 0, 1) := by decide +kernel
theorem dX6_linear_13 : decode cX6_linear 13 = .ok (.getfield 19, 3) := by decide +kernel
theorem dX6_linear_16 : decode cX6_linear 16 = .ok (.getfield 84, 3) := by decide +kernel
theorem dX6_linear_19 : decode cX6_linear 19 = .ok (.if_icmp .ge 26, 3) := by decide +kernel
theorem dX6_linear_22 : decode cX6_linear 22 = .ok (.aload_n 0, 1) := by decide +kernel
theorem dX6_linear_23 : decode cX6_linear 23 = .ok (.getfield 26, 3) := by decide +kernel
theorem dX6_linear_26 : decode cX6_linear 26 = .ok (.aload_n 0, 1) := by decide +kernel
theorem dX6_linear_27 : decode cX6_linear 27 = .ok (.getfield 19, 3) := by decide +kernel
theorem dX6_linear_30 : decode cX6_linear 30 = .ok (.iload_n 1, 1) := by decide +kernel
theorem dX6_linear_31 : decode cX6_linear 31 = .ok (.invokevirtual 231, 3) := by decide +kernel
theorem dX6_linear_34 : decode cX6_linear 34 = .ok (.ifCond .ne 5, 3) := by decide +kernel
theorem dX6_linear_37 : decode cX6_linear 37 = .ok (.iconst 0, 1) := by decide +kernel
theorem dX6_linear_38 : decode cX6_linear 38 = .ok (.ireturn, 1) := by decide +kernel
theorem dX6_linear_39 : decode cX6_linear 39 = .ok (.iinc 1 1, 3) := by decide +kernel
theorem dX6_linear_42 : decode cX6_linear 42 = .ok (.goto (-31), 3) := by decide +kernel
theorem dX6_linear_45 : decode cX6_linear 45 = .ok (.iconst 1, 1) := by decide +kernel
theorem dX6_linear_46 : decode cX6_linear 46 = .ok (.ireturn, 1) := by decide +kernel
theorem dX6_shellings_0 : decode cX6_shellings 0 = .ok (.aload_n 0, 1) := by decide +kernel
theorem dX6_shellings_1 : decode cX6_shellings 1 = .ok (.invokevirtual 146, 3) := by decide +kernel
theorem dX6_shellings_4 : decode cX6_shellings 4 = .ok (.ifCond .eq 5, 3) := by decide +kernel
theorem dX6_shellings_7 : decode cX6_shellings 7 = .ok (.iconst (-1), 1) := by decide +kernel
theorem dX6_shellings_8 : decode cX6_shellings 8 = .ok (.ireturn, 1) := by decide +kernel
theorem dX6_shellings_9 : decode cX6_shellings 9 = .ok (.aload_n 0, 1) := by decide +kernel
theorem dX6_shellings_10 : decode cX6_shellings 10 = .ok (.invokevirtual 234, 3) := by decide +kernel
theorem dX6_shellings_13 : decode cX6_shellings 13 = .ok (.getfield 238, 3) := by decide +kernel
theorem dX6_shellings_16 : decode cX6_shellings 16 = .ok (.iconst 0, 1) := by decide +kernel
theorem dX6_shellings_17 : decode cX6_shellings 17 = .ok (.iaload, 1) := by decide +kernel
theorem dX6_shellings_18 : decode cX6_shellings 18 = .ok (.ireturn, 1) := by decide +kernel
theorem dX6_shelled_0 : decode cX6_shelled 0 = .ok (.aload_n 0, 1) := by decide +kernel
theorem dX6_shelled_1 : decode cX6_shelled 1 = .ok (.iload_n 1, 1) := by decide +kernel
theorem dX6_shelled_2 : decode cX6_shelled 2 = .ok (.invokevirtual 171, 3) := by decide +kernel
theorem dX6_shelled_5 : decode cX6_shelled 5 = .ok (.ifCond .eq 5, 3) := by decide +kernel
theorem dX6_shelled_8 : decode cX6_shelled 8 = .ok (.iconst (-1), 1) := by decide +kernel
theorem dX6_shelled_9 : decode cX6_shelled 9 = .ok (.ireturn, 1) := by decide +kernel
theorem dX6_shelled_10 : decode cX6_shelled 10 = .ok (.aload_n 0, 1) := by decide +kernel
theorem dX6_shelled_11 : decode cX6_shelled 11 = .ok (.invokevirtual 234, 3) := by decide +kernel
theorem dX6_shelled_14 : decode cX6_shelled 14 = .ok (.aload_n 0, 1) := by decide +kernel
theorem dX6_shelled_15 : decode cX6_shelled 15 = .ok (.getfield 19, 3) := by decide +kernel
theorem dX6_shelled_18 : decode cX6_shelled 18 = .ok (.iload_n 1, 1) := by decide +kernel
theorem dX6_shelled_19 : decode cX6_shelled 19 = .ok (.invokevirtual 241, 3) := by decide +kernel
theorem dX6_shelled_22 : decode cX6_shelled 22 = .ok (.ireturn, 1) := by decide +kernel
theorem dX6_peelable_0 : decode cX6_peelable 0 = .ok (.aload_n 0, 1) := by decide +kernel
theorem dX6_peelable_1 : decode cX6_peelable 1 = .ok (.invokevirtual 146, 3) := by decide +kernel
theorem dX6_peelable_4 : decode cX6_peelable 4 = .ok (.ifCond .eq 5, 3) := by decide +kernel
theorem dX6_peelable_7 : decode cX6_peelable 7 = .ok (.iconst (-1), 1) := by decide +kernel
theorem dX6_peelable_8 : decode cX6_peelable 8 = .ok (.ireturn, 1) := by decide +kernel
theorem dX6_peelable_9 : decode cX6_peelable 9 = .ok (.aload_n 0, 1) := by decide +kernel
theorem dX6_peelable_10 : decode cX6_peelable 10 = .ok (.invokevirtual 234, 3) := by decide +kernel
theorem dX6_peelable_13 : decode cX6_peelable 13 = .ok (.aload_n 0, 1) := by decide +kernel
theorem dX6_peelable_14 : decode cX6_peelable 14 = .ok (.getfield 19, 3) := by decide +kernel
theorem dX6_peelable_17 : decode cX6_peelable 17 = .ok (.invokevirtual 244, 3) := by decide +kernel
theorem dX6_peelable_20 : decode cX6_peelable 20 = .ok (.ireturn, 1) := by decide +kernel
theorem dX6_goesOn_0 : decode cX6_goesOn 0 = .ok (.aload_n 0, 1) := by decide +kernel
theorem dX6_goesOn_1 : decode cX6_goesOn 1 = .ok (.iload_n 1, 1) := by decide +kernel
theorem dX6_goesOn_2 : decode cX6_goesOn 2 = .ok (.aload_n 0, 1) := by decide +kernel
theorem dX6_goesOn_3 : decode cX6_goesOn 3 = .ok (.getfield 19, 3) := by decide +kernel
theorem dX6_goesOn_6 : decode cX6_goesOn 6 = .ok (.getfield 84, 3) := by decide +kernel
theorem dX6_goesOn_9 : decode cX6_goesOn 9 = .ok (.invokevirtual 132, 3) := by decide +kernel
theorem dX6_goesOn_12 : decode cX6_goesOn 12 = .ok (.ifCond .eq 5, 3) := by decide +kernel
theorem dX6_goesOn_15 : decode cX6_goesOn 15 = .ok (.iconst (-1), 1) := by decide +kernel
theorem dX6_goesOn_16 : decode cX6_goesOn 16 = .ok (.ireturn, 1) := by decide +kernel
theorem dX6_goesOn_17 : decode cX6_goesOn 17 = .ok (.aload_n 0, 1) := by decide +kernel
theorem dX6_goesOn_18 : decode cX6_goesOn 18 = .ok (.getfield 26, 3) := by decide +kernel
theorem dX6_goesOn_21 : decode cX6_goesOn 21 = .ok (.aload_n 0, 1) := by decide +kernel
theorem dX6_goesOn_22 : decode cX6_goesOn 22 = .ok (.getfield 19, 3) := by decide +kernel
theorem dX6_goesOn_25 : decode cX6_goesOn 25 = .ok (.invokevirtual 185, 3) := by decide +kernel
theorem dX6_goesOn_28 : decode cX6_goesOn 28 = .ok (.iload_n 1, 1) := by decide +kernel
theorem dX6_goesOn_29 : decode cX6_goesOn 29 = .ok (.if_icmp .ge 5, 3) := by decide +kernel
theorem dX6_goesOn_32 : decode cX6_goesOn 32 = .ok (.iconst 0, 1) := by decide +kernel
theorem dX6_goesOn_33 : decode cX6_goesOn 33 = .ok (.ireturn, 1) := by decide +kernel
theorem dX6_goesOn_34 : decode cX6_goesOn 34 = .ok (.aload_n 0, 1) := by decide +kernel
theorem dX6_goesOn_35 : decode cX6_goesOn 35 = .ok (.invokevirtual 234, 3) := by decide +kernel
theorem dX6_goesOn_38 : decode cX6_goesOn 38 = .ok (.getfield 238, 3) := by decide +kernel
theorem dX6_goesOn_41 : decode cX6_goesOn 41 = .ok (.aload_n 0, 1) := by decide +kernel
theorem dX6_goesOn_42 : decode cX6_goesOn 42 = .ok (.getfield 26, 3) := by decide +kernel
theorem dX6_goesOn_45 : decode cX6_goesOn 45 = .ok (.iload_n 1, 1) := by decide +kernel
theorem dX6_goesOn_46 : decode cX6_goesOn 46 = .ok (.invokevirtual 247, 3) := by decide +kernel
theorem dX6_goesOn_49 : decode cX6_goesOn 49 = .ok (.iaload, 1) := by decide +kernel
theorem dX6_goesOn_50 : decode cX6_goesOn 50 = .ok (.ireturn, 1) := by decide +kernel
theorem dX6_stuck_0 : decode cX6_stuck 0 = .ok (.aload_n 0, 1) := by decide +kernel
theorem dX6_stuck_1 : decode cX6_stuck 1 = .ok (.invokevirtual 146, 3) := by decide +kernel
theorem dX6_stuck_4 : decode cX6_stuck 4 = .ok (.ifCond .eq 5, 3) := by decide +kernel
theorem dX6_stuck_7 : decode cX6_stuck 7 = .ok (.iconst (-1), 1) := by decide +kernel
theorem dX6_stuck_8 : decode cX6_stuck 8 = .ok (.ireturn, 1) := by decide +kernel
theorem dX6_stuck_9 : decode cX6_stuck 9 = .ok (.aload_n 0, 1) := by decide +kernel
theorem dX6_stuck_10 : decode cX6_stuck 10 = .ok (.invokevirtual 234, 3) := by decide +kernel
theorem dX6_stuck_13 : decode cX6_stuck 13 = .ok (.aload_n 0, 1) := by decide +kernel
theorem dX6_stuck_14 : decode cX6_stuck 14 = .ok (.getfield 19, 3) := by decide +kernel
theorem dX6_stuck_17 : decode cX6_stuck 17 = .ok (.invokevirtual 250, 3) := by decide +kernel
theorem dX6_stuck_20 : decode cX6_stuck 20 = .ok (.ireturn, 1) := by decide +kernel
theorem dX6_peeled_0 : decode cX6_peeled 0 = .ok (.aload_n 0, 1) := by decide +kernel
theorem dX6_peeled_1 : decode cX6_peeled 1 = .ok (.iload_n 1, 1) := by decide +kernel
theorem dX6_peeled_2 : decode cX6_peeled 2 = .ok (.ldc 253, 2) := by decide +kernel
theorem dX6_peeled_4 : decode cX6_peeled 4 = .ok (.invokevirtual 132, 3) := by decide +kernel
theorem dX6_peeled_7 : decode cX6_peeled 7 = .ok (.ifCond .eq 5, 3) := by decide +kernel
theorem dX6_peeled_10 : decode cX6_peeled 10 = .ok (.iconst (-1), 1) := by decide +kernel
theorem dX6_peeled_11 : decode cX6_peeled 11 = .ok (.ireturn, 1) := by decide +kernel
theorem dX6_peeled_12 : decode cX6_peeled 12 = .ok (.aload_n 0, 1) := by decide +kernel
theorem dX6_peeled_13 : decode cX6_peeled 13 = .ok (.getfield 19, 3) := by decide +kernel
theorem dX6_peeled_16 : decode cX6_peeled 16 = .ok (.iload_n 1, 1) := by decide +kernel
theorem dX6_peeled_17 : decode cX6_peeled 17 = .ok (.invokevirtual 254, 3) := by decide +kernel
theorem dX6_peeled_20 : decode cX6_peeled 20 = .ok (.ireturn, 1) := by decide +kernel
theorem dX6_link_0 : decode cX6_link 0 = .ok (.aload_n 0, 1) := by decide +kernel
theorem dX6_link_1 : decode cX6_link 1 = .ok (.iload_n 1, 1) := by decide +kernel
theorem dX6_link_2 : decode cX6_link 2 = .ok (.invokevirtual 257, 3) := by decide +kernel
theorem dX6_link_5 : decode cX6_link 5 = .ok (.ifCond .eq 7, 3) := by decide +kernel
theorem dX6_link_8 : decode cX6_link 8 = .ok (.iconst (-1), 1) := by decide +kernel
theorem dX6_link_9 : decode cX6_link 9 = .ok (.goto 15, 3) := by decide +kernel
theorem dX6_link_12 : decode cX6_link 12 = .ok (.aload_n 0, 1) := by decide +kernel
theorem dX6_link_13 : decode cX6_link 13 = .ok (.getfield 19, 3) := by decide +kernel
theorem dX6_link_16 : decode cX6_link 16 = .ok (.getfield 125, 3) := by decide +kernel
theorem dX6_link_19 : decode cX6_link 19 = .ok (.iload_n 1, 1) := by decide +kernel
theorem dX6_link_20 : decode cX6_link 20 = .ok (.iaload, 1) := by decide +kernel
theorem dX6_link_21 : decode cX6_link 21 = .ok (.invokestatic 207, 3) := by decide +kernel
theorem dX6_link_24 : decode cX6_link 24 = .ok (.ireturn, 1) := by decide +kernel
theorem dX6_linkRound_0 : decode cX6_linkRound 0 = .ok (.aload_n 0, 1) := by decide +kernel
theorem dX6_linkRound_1 : decode cX6_linkRound 1 = .ok (.iload_n 1, 1) := by decide +kernel
theorem dX6_linkRound_2 : decode cX6_linkRound 2 = .ok (.invokevirtual 257, 3) := by decide +kernel
theorem dX6_linkRound_5 : decode cX6_linkRound 5 = .ok (.ifCond .ne 36, 3) := by decide +kernel
theorem dX6_linkRound_8 : decode cX6_linkRound 8 = .ok (.aload_n 0, 1) := by decide +kernel
theorem dX6_linkRound_9 : decode cX6_linkRound 9 = .ok (.iload_n 2, 1) := by decide +kernel
theorem dX6_linkRound_10 : decode cX6_linkRound 10 = .ok (.ifCond .lt 19, 3) := by decide +kernel
theorem dX6_linkRound_13 : decode cX6_linkRound 13 = .ok (.iload_n 2, 1) := by decide +kernel
theorem dX6_linkRound_14 : decode cX6_linkRound 14 = .ok (.aload_n 0, 1) := by decide +kernel
theorem dX6_linkRound_15 : decode cX6_linkRound 15 = .ok (.getfield 19, 3) := by decide +kernel
theorem dX6_linkRound_18 : decode cX6_linkRound 18 = .ok (.getfield 99, 3) := by decide +kernel
theorem dX6_linkRound_21 : decode cX6_linkRound 21 = .ok (.iload_n 1, 1) := by decide +kernel
theorem dX6_linkRound_22 : decode cX6_linkRound 22 = .ok (.invokestatic 207, 3) := by decide +kernel
theorem dX6_linkRound_25 : decode cX6_linkRound 25 = .ok (.isub, 1) := by decide +kernel
theorem dX6_linkRound_26 : decode cX6_linkRound 26 = .ok (.if_icmp .le 7, 3) := by decide +kernel
theorem dX6_linkRound_29 : decode cX6_linkRound 29 = .ok (.iconst 1, 1) := by decide +kernel
theorem dX6_linkRound_30 : decode cX6_linkRound 30 = .ok (.goto 4, 3) := by decide +kernel
theorem dX6_linkRound_33 : decode cX6_linkRound 33 = .ok (.iconst 0, 1) := by decide +kernel
theorem dX6_linkRound_34 : decode cX6_linkRound 34 = .ok (.iconst 2, 1) := by decide +kernel
theorem dX6_linkRound_35 : decode cX6_linkRound 35 = .ok (.invokevirtual 66, 3) := by decide +kernel
theorem dX6_linkRound_38 : decode cX6_linkRound 38 = .ok (.ifCond .eq 5, 3) := by decide +kernel
theorem dX6_linkRound_41 : decode cX6_linkRound 41 = .ok (.iconst (-1), 1) := by decide +kernel
theorem dX6_linkRound_42 : decode cX6_linkRound 42 = .ok (.ireturn, 1) := by decide +kernel
theorem dX6_linkRound_43 : decode cX6_linkRound 43 = .ok (.aload_n 0, 1) := by decide +kernel
theorem dX6_linkRound_44 : decode cX6_linkRound 44 = .ok (.getfield 33, 3) := by decide +kernel
theorem dX6_linkRound_47 : decode cX6_linkRound 47 = .ok (.aload_n 0, 1) := by decide +kernel
theorem dX6_linkRound_48 : decode cX6_linkRound 48 = .ok (.getfield 19, 3) := by decide +kernel
theorem dX6_linkRound_51 : decode cX6_linkRound 51 = .ok (.iload_n 1, 1) := by decide +kernel
theorem dX6_linkRound_52 : decode cX6_linkRound 52 = .ok (.invokevirtual 260, 3) := by decide +kernel
theorem dX6_linkRound_55 : decode cX6_linkRound 55 = .ok (.aload_n 0, 1) := by decide +kernel
theorem dX6_linkRound_56 : decode cX6_linkRound 56 = .ok (.getfield 33, 3) := by decide +kernel
theorem dX6_linkRound_59 : decode cX6_linkRound 59 = .ok (.iload_n 2, 1) := by decide +kernel
theorem dX6_linkRound_60 : decode cX6_linkRound 60 = .ok (.invokevirtual 156, 3) := by decide +kernel
theorem dX6_linkRound_63 : decode cX6_linkRound 63 = .ok (.ireturn, 1) := by decide +kernel
theorem dX6_linkShellings_0 : decode cX6_linkShellings 0 = .ok (.aload_n 0, 1) := by decide +kernel
theorem dX6_linkShellings_1 : decode cX6_linkShellings 1 = .ok (.iload_n 1, 1) := by decide +kernel
theorem dX6_linkShellings_2 : decode cX6_linkShellings 2 = .ok (.invokevirtual 257, 3) := by decide +kernel
theorem dX6_linkShellings_5 : decode cX6_linkShellings 5 = .ok (.ifCond .eq 7, 3) := by decide +kernel
theorem dX6_linkShellings_8 : decode cX6_linkShellings 8 = .ok (.iconst (-1), 1) := by decide +kernel
theorem dX6_linkShellings_9 : decode cX6_linkShellings 9 = .ok (.goto 20, 3) := by decide +kernel
theorem dX6_linkShellings_12 : decode cX6_linkShellings 12 = .ok (.aload_n 0, 1) := by decide +kernel
theorem dX6_linkShellings_13 : decode cX6_linkShellings 13 = .ok (.invokevirtual 234, 3) := by decide +kernel
theorem dX6_linkShellings_16 : decode cX6_linkShellings 16 = .ok (.getfield 264, 3) := by decide +kernel
theorem dX6_linkShellings_19 : decode cX6_linkShellings 19 = .ok (.aload_n 0, 1) := by decide +kernel
theorem dX6_linkShellings_20 : decode cX6_linkShellings 20 = .ok (.getfield 19, 3) := by decide +kernel
theorem dX6_linkShellings_23 : decode cX6_linkShellings 23 = .ok (.getfield 125, 3) := by decide +kernel
theorem dX6_linkShellings_26 : decode cX6_linkShellings 26 = .ok (.iload_n 1, 1) := by decide +kernel
theorem dX6_linkShellings_27 : decode cX6_linkShellings 27 = .ok (.iaload, 1) := by decide +kernel
theorem dX6_linkShellings_28 : decode cX6_linkShellings 28 = .ok (.iaload, 1) := by decide +kernel
theorem dX6_linkShellings_29 : decode cX6_linkShellings 29 = .ok (.ireturn, 1) := by decide +kernel
theorem dX6_even_0 : decode cX6_even 0 = .ok (.aload_n 0, 1) := by decide +kernel
theorem dX6_even_1 : decode cX6_even 1 = .ok (.invokevirtual 146, 3) := by decide +kernel
theorem dX6_even_4 : decode cX6_even 4 = .ok (.ifCond .eq 5, 3) := by decide +kernel
theorem dX6_even_7 : decode cX6_even 7 = .ok (.iconst (-1), 1) := by decide +kernel
theorem dX6_even_8 : decode cX6_even 8 = .ok (.ireturn, 1) := by decide +kernel
theorem dX6_even_9 : decode cX6_even 9 = .ok (.iconst 0, 1) := by decide +kernel
theorem dX6_even_10 : decode cX6_even 10 = .ok (.istore_n 1, 1) := by decide +kernel
theorem dX6_even_11 : decode cX6_even 11 = .ok (.iload_n 1, 1) := by decide +kernel
theorem dX6_even_12 : decode cX6_even 12 = .ok (.aload_n 0, 1) := by decide +kernel
theorem dX6_even_13 : decode cX6_even 13 = .ok (.getfield 19, 3) := by decide +kernel
theorem dX6_even_16 : decode cX6_even 16 = .ok (.invokevirtual 159, 3) := by decide +kernel
theorem dX6_even_19 : decode cX6_even 19 = .ok (.if_icmp .gt 37, 3) := by decide +kernel
theorem dX6_even_22 : decode cX6_even 22 = .ok (.aload_n 0, 1) := by decide +kernel
theorem dX6_even_23 : decode cX6_even 23 = .ok (.getfield 19, 3) := by decide +kernel
theorem dX6_even_26 : decode cX6_even 26 = .ok (.iload_n 1, 1) := by decide +kernel
theorem dX6_even_27 : decode cX6_even 27 = .ok (.invokevirtual 216, 3) := by decide +kernel
theorem dX6_even_30 : decode cX6_even 30 = .ok (.ifCond .eq 20, 3) := by decide +kernel
theorem dX6_even_33 : decode cX6_even 33 = .ok (.aload_n 0, 1) := by decide +kernel
theorem dX6_even_34 : decode cX6_even 34 = .ok (.getfield 33, 3) := by decide +kernel
theorem dX6_even_37 : decode cX6_even 37 = .ok (.aload_n 0, 1) := by decide +kernel
theorem dX6_even_38 : decode cX6_even 38 = .ok (.getfield 19, 3) := by decide +kernel
theorem dX6_even_41 : decode cX6_even 41 = .ok (.iload_n 1, 1) := by decide +kernel
theorem dX6_even_42 : decode cX6_even 42 = .ok (.invokevirtual 267, 3) := by decide +kernel
theorem dX6_even_45 : decode cX6_even 45 = .ok (.ifCond .ne 5, 3) := by decide +kernel
theorem dX6_even_48 : decode cX6_even 48 = .ok (.iconst 0, 1) := by decide +kernel
theorem dX6_even_49 : decode cX6_even 49 = .ok (.ireturn, 1) := by decide +kernel
theorem dX6_even_50 : decode cX6_even 50 = .ok (.iinc 1 1, 3) := by decide +kernel
theorem dX6_even_53 : decode cX6_even 53 = .ok (.goto (-42), 3) := by decide +kernel
theorem dX6_even_56 : decode cX6_even 56 = .ok (.iconst 1, 1) := by decide +kernel
theorem dX6_even_57 : decode cX6_even 57 = .ok (.ireturn, 1) := by decide +kernel
theorem dX6_obstruction_0 : decode cX6_obstruction 0 = .ok (.aload_n 0, 1) := by decide +kernel
theorem dX6_obstruction_1 : decode cX6_obstruction 1 = .ok (.invokevirtual 146, 3) := by decide +kernel
theorem dX6_obstruction_4 : decode cX6_obstruction 4 = .ok (.ifCond .eq 5, 3) := by decide +kernel
theorem dX6_obstruction_7 : decode cX6_obstruction 7 = .ok (.iconst (-1), 1) := by decide +kernel
theorem dX6_obstruction_8 : decode cX6_obstruction 8 = .ok (.ireturn, 1) := by decide +kernel
theorem dX6_obstruction_9 : decode cX6_obstruction 9 = .ok (.aload_n 0, 1) := by decide +kernel
theorem dX6_obstruction_10 : decode cX6_obstruction 10 = .ok (.invokevirtual 234, 3) := by decide +kernel
theorem dX6_obstruction_13 : decode cX6_obstruction 13 = .ok (.aload_n 0, 1) := by decide +kernel
theorem dX6_obstruction_14 : decode cX6_obstruction 14 = .ok (.getfield 19, 3) := by decide +kernel
theorem dX6_obstruction_17 : decode cX6_obstruction 17 = .ok (.invokevirtual 270, 3) := by decide +kernel
theorem dX6_obstruction_20 : decode cX6_obstruction 20 = .ok (.ireturn, 1) := by decide +kernel
theorem dX6_fallsApart_0 : decode cX6_fallsApart 0 = .ok (.aload_n 0, 1) := by decide +kernel
theorem dX6_fallsApart_1 : decode cX6_fallsApart 1 = .ok (.invokevirtual 146, 3) := by decide +kernel
theorem dX6_fallsApart_4 : decode cX6_fallsApart 4 = .ok (.ifCond .eq 5, 3) := by decide +kernel
theorem dX6_fallsApart_7 : decode cX6_fallsApart 7 = .ok (.iconst (-1), 1) := by decide +kernel
theorem dX6_fallsApart_8 : decode cX6_fallsApart 8 = .ok (.ireturn, 1) := by decide +kernel
theorem dX6_fallsApart_9 : decode cX6_fallsApart 9 = .ok (.aload_n 0, 1) := by decide +kernel
theorem dX6_fallsApart_10 : decode cX6_fallsApart 10 = .ok (.invokevirtual 273, 3) := by decide +kernel
theorem dX6_fallsApart_13 : decode cX6_fallsApart 13 = .ok (.aload_n 0, 1) := by decide +kernel
theorem dX6_fallsApart_14 : decode cX6_fallsApart 14 = .ok (.getfield 19, 3) := by decide +kernel
theorem dX6_fallsApart_17 : decode cX6_fallsApart 17 = .ok (.aload_n 0, 1) := by decide +kernel
theorem dX6_fallsApart_18 : decode cX6_fallsApart 18 = .ok (.getfield 19, 3) := by decide +kernel
theorem dX6_fallsApart_21 : decode cX6_fallsApart 21 = .ok (.invokevirtual 195, 3) := by decide +kernel
theorem dX6_fallsApart_24 : decode cX6_fallsApart 24 = .ok (.iconst 0, 1) := by decide +kernel
theorem dX6_fallsApart_25 : decode cX6_fallsApart 25 = .ok (.invokevirtual 277, 3) := by decide +kernel
theorem dX6_fallsApart_28 : decode cX6_fallsApart 28 = .ok (.ifCond .eq 7, 3) := by decide +kernel
theorem dX6_fallsApart_31 : decode cX6_fallsApart 31 = .ok (.iconst 1, 1) := by decide +kernel
theorem dX6_fallsApart_32 : decode cX6_fallsApart 32 = .ok (.goto 4, 3) := by decide +kernel
theorem dX6_fallsApart_35 : decode cX6_fallsApart 35 = .ok (.iconst 0, 1) := by decide +kernel
theorem dX6_fallsApart_36 : decode cX6_fallsApart 36 = .ok (.ireturn, 1) := by decide +kernel
theorem dX6_shed_0 : decode cX6_shed 0 = .ok (.aload_n 0, 1) := by decide +kernel
theorem dX6_shed_1 : decode cX6_shed 1 = .ok (.invokevirtual 146, 3) := by decide +kernel
theorem dX6_shed_4 : decode cX6_shed 4 = .ok (.ifCond .eq 5, 3) := by decide +kernel
theorem dX6_shed_7 : decode cX6_shed 7 = .ok (.iconst (-1), 1) := by decide +kernel
theorem dX6_shed_8 : decode cX6_shed 8 = .ok (.ireturn, 1) := by decide +kernel
theorem dX6_shed_9 : decode cX6_shed 9 = .ok (.iconst 0, 1) := by decide +kernel
theorem dX6_shed_10 : decode cX6_shed 10 = .ok (.istore_n 1, 1) := by decide +kernel
theorem dX6_shed_11 : decode cX6_shed 11 = .ok (.iconst 0, 1) := by decide +kernel
theorem dX6_shed_12 : decode cX6_shed 12 = .ok (.istore_n 2, 1) := by decide +kernel
theorem dX6_shed_13 : decode cX6_shed 13 = .ok (.iload_n 2, 1) := by decide +kernel
theorem dX6_shed_14 : decode cX6_shed 14 = .ok (.aload_n 0, 1) := by decide +kernel
theorem dX6_shed_15 : decode cX6_shed 15 = .ok (.getfield 19, 3) := by decide +kernel
theorem dX6_shed_18 : decode cX6_shed 18 = .ok (.getfield 96, 3) := by decide +kernel
theorem dX6_shed_21 : decode cX6_shed 21 = .ok (.if_icmp .ge 33, 3) := by decide +kernel
theorem dX6_shed_24 : decode cX6_shed 24 = .ok (.aload_n 0, 1) := by decide +kernel
theorem dX6_shed_25 : decode cX6_shed 25 = .ok (.getfield 19, 3) := by decide +kernel
theorem dX6_shed_28 : decode cX6_shed 28 = .ok (.aload_n 0, 1) := by decide +kernel
theorem dX6_shed_29 : decode cX6_shed 29 = .ok (.getfield 19, 3) := by decide +kernel
theorem dX6_shed_32 : decode cX6_shed 32 = .ok (.invokevirtual 195, 3) := by decide +kernel
theorem dX6_shed_35 : decode cX6_shed 35 = .ok (.iload_n 2, 1) := by decide +kernel
theorem dX6_shed_36 : decode cX6_shed 36 = .ok (.invokevirtual 281, 3) := by decide +kernel
theorem dX6_shed_39 : decode cX6_shed 39 = .ok (.ifCond .eq 9, 3) := by decide +kernel
theorem dX6_shed_42 : decode cX6_shed 42 = .ok (.iload_n 1, 1) := by decide +kernel
theorem dX6_shed_43 : decode cX6_shed 43 = .ok (.iconst 1, 1) := by decide +kernel
theorem dX6_shed_44 : decode cX6_shed 44 = .ok (.iload_n 2, 1) := by decide +kernel
theorem dX6_shed_45 : decode cX6_shed 45 = .ok (.ishl, 1) := by decide +kernel
theorem dX6_shed_46 : decode cX6_shed 46 = .ok (.ior, 1) := by decide +kernel
theorem dX6_shed_47 : decode cX6_shed 47 = .ok (.istore_n 1, 1) := by decide +kernel
theorem dX6_shed_48 : decode cX6_shed 48 = .ok (.iinc 2 1, 3) := by decide +kernel
theorem dX6_shed_51 : decode cX6_shed 51 = .ok (.goto (-38), 3) := by decide +kernel
theorem dX6_shed_54 : decode cX6_shed 54 = .ok (.iload_n 1, 1) := by decide +kernel
theorem dX6_shed_55 : decode cX6_shed 55 = .ok (.ireturn, 1) := by decide +kernel
theorem dX6_first_0 : decode cX6_first 0 = .ok (.aload_n 0, 1) := by decide +kernel
theorem dX6_first_1 : decode cX6_first 1 = .ok (.invokevirtual 146, 3) := by decide +kernel
theorem dX6_first_4 : decode cX6_first 4 = .ok (.ifCond .eq 5, 3) := by decide +kernel
theorem dX6_first_7 : decode cX6_first 7 = .ok (.iconst (-1), 1) := by decide +kernel
theorem dX6_first_8 : decode cX6_first 8 = .ok (.ireturn, 1) := by decide +kernel
theorem dX6_first_9 : decode cX6_first 9 = .ok (.aload_n 0, 1) := by decide +kernel
theorem dX6_first_10 : decode cX6_first 10 = .ok (.invokevirtual 273, 3) := by decide +kernel
theorem dX6_first_13 : decode cX6_first 13 = .ok (.aload_n 0, 1) := by decide +kernel
theorem dX6_first_14 : decode cX6_first 14 = .ok (.getfield 19, 3) := by decide +kernel
theorem dX6_first_17 : decode cX6_first 17 = .ok (.aload_n 0, 1) := by decide +kernel
theorem dX6_first_18 : decode cX6_first 18 = .ok (.getfield 19, 3) := by decide +kernel
theorem dX6_first_21 : decode cX6_first 21 = .ok (.invokevirtual 195, 3) := by decide +kernel
theorem dX6_first_24 : decode cX6_first 24 = .ok (.iconst 0, 1) := by decide +kernel
theorem dX6_first_25 : decode cX6_first 25 = .ok (.invokevirtual 284, 3) := by decide +kernel
theorem dX6_first_28 : decode cX6_first 28 = .ok (.ireturn, 1) := by decide +kernel
theorem dX6_add_0 : decode cX6_add 0 = .ok (.aload_n 0, 1) := by decide +kernel
theorem dX6_add_1 : decode cX6_add 1 = .ok (.invokevirtual 146, 3) := by decide +kernel
theorem dX6_add_4 : decode cX6_add 4 = .ok (.ifCond .ne 90, 3) := by decide +kernel
theorem dX6_add_7 : decode cX6_add 7 = .ok (.aload_n 0, 1) := by decide +kernel
theorem dX6_add_8 : decode cX6_add 8 = .ok (.aload_n 0, 1) := by decide +kernel
theorem dX6_add_9 : decode cX6_add 9 = .ok (.getfield 19, 3) := by decide +kernel
theorem dX6_add_12 : decode cX6_add 12 = .ok (.iload_n 1, 1) := by decide +kernel
theorem dX6_add_13 : decode cX6_add 13 = .ok (.invokevirtual 287, 3) := by decide +kernel
theorem dX6_add_16 : decode cX6_add 16 = .ok (.ifCond .eq 17, 3) := by decide +kernel
theorem dX6_add_19 : decode cX6_add 19 = .ok (.iload_n 1, 1) := by decide +kernel
theorem dX6_add_20 : decode cX6_add 20 = .ok (.invokestatic 207, 3) := by decide +kernel
theorem dX6_add_23 : decode cX6_add 23 = .ok (.aload_n 0, 1) := by decide +kernel
theorem dX6_add_24 : decode cX6_add 24 = .ok (.getfield 19, 3) := by decide +kernel
theorem dX6_add_27 : decode cX6_add 27 = .ok (.getfield 99, 3) := by decide +kernel
theorem dX6_add_30 : decode cX6_add 30 = .ok (.if_icmp .eq 7, 3) := by decide +kernel
theorem dX6_add_33 : decode cX6_add 33 = .ok (.iconst 1, 1) := by decide +kernel
theorem dX6_add_34 : decode cX6_add 34 = .ok (.goto 4, 3) := by decide +kernel
theorem dX6_add_37 : decode cX6_add 37 = .ok (.iconst 0, 1) := by decide +kernel
theorem dX6_add_38 : decode cX6_add 38 = .ok (.iconst 2, 1) := by decide +kernel
theorem dX6_add_39 : decode cX6_add 39 = .ok (.invokevirtual 66, 3) := by decide +kernel
theorem dX6_add_42 : decode cX6_add 42 = .ok (.ifCond .ne 52, 3) := by decide +kernel
theorem dX6_add_45 : decode cX6_add 45 = .ok (.aload_n 0, 1) := by decide +kernel
theorem dX6_add_46 : decode cX6_add 46 = .ok (.aload_n 0, 1) := by decide +kernel
theorem dX6_add_47 : decode cX6_add 47 = .ok (.getfield 19, 3) := by decide +kernel
theorem dX6_add_50 : decode cX6_add 50 = .ok (.iload_n 1, 1) := by decide +kernel
theorem dX6_add_51 : decode cX6_add 51 = .ok (.invokevirtual 290, 3) := by decide +kernel
theorem dX6_add_54 : decode cX6_add 54 = .ok (.ifCond .lt 7, 3) := by decide +kernel
theorem dX6_add_57 : decode cX6_add 57 = .ok (.iconst 1, 1) := by decide +kernel
theorem dX6_add_58 : decode cX6_add 58 = .ok (.goto 4, 3) := by decide +kernel
theorem dX6_add_61 : decode cX6_add 61 = .ok (.iconst 0, 1) := by decide +kernel
theorem dX6_add_62 : decode cX6_add 62 = .ok (.iconst 5, 1) := by decide +kernel
theorem dX6_add_63 : decode cX6_add 63 = .ok (.invokevirtual 66, 3) := by decide +kernel
theorem dX6_add_66 : decode cX6_add 66 = .ok (.ifCond .ne 28, 3) := by decide +kernel
theorem dX6_add_69 : decode cX6_add 69 = .ok (.aload_n 0, 1) := by decide +kernel
theorem dX6_add_70 : decode cX6_add 70 = .ok (.aload_n 0, 1) := by decide +kernel
theorem dX6_add_71 : decode cX6_add 71 = .ok (.getfield 19, 3) := by decide +kernel
theorem dX6_add_74 : decode cX6_add 74 = .ok (.getfield 84, 3) := by decide +kernel
theorem dX6_add_77 : decode cX6_add 77 = .ok (.bipush 12, 2) := by decide +kernel
theorem dX6_add_79 : decode cX6_add 79 = .ok (.if_icmp .lt 7, 3) := by decide +kernel
theorem dX6_add_82 : decode cX6_add 82 = .ok (.iconst 1, 1) := by decide +kernel
theorem dX6_add_83 : decode cX6_add 83 = .ok (.goto 4, 3) := by decide +kernel
theorem dX6_add_86 : decode cX6_add 86 = .ok (.iconst 0, 1) := by decide +kernel
theorem dX6_add_87 : decode cX6_add 87 = .ok (.iconst 3, 1) := by decide +kernel
theorem dX6_add_88 : decode cX6_add 88 = .ok (.invokevirtual 66, 3) := by decide +kernel
theorem dX6_add_91 : decode cX6_add 91 = .ok (.ifCond .eq 5, 3) := by decide +kernel
theorem dX6_add_94 : decode cX6_add 94 = .ok (.iconst (-1), 1) := by decide +kernel
theorem dX6_add_95 : decode cX6_add 95 = .ok (.ireturn, 1) := by decide +kernel
theorem dX6_add_96 : decode cX6_add 96 = .ok (.aload_n 0, 1) := by decide +kernel
theorem dX6_add_97 : decode cX6_add 97 = .ok (.getfield 26, 3) := by decide +kernel
theorem dX6_add_100 : decode cX6_add 100 = .ok (.aload_n 0, 1) := by decide +kernel
theorem dX6_add_101 : decode cX6_add 101 = .ok (.getfield 19, 3) := by decide +kernel
theorem dX6_add_104 : decode cX6_add 104 = .ok (.getfield 84, 3) := by decide +kernel
theorem dX6_add_107 : decode cX6_add 107 = .ok (.invokevirtual 293, 3) := by decide +kernel
theorem dX6_add_110 : decode cX6_add 110 = .ok (.aload_n 0, 1) := by decide +kernel
theorem dX6_add_111 : decode cX6_add 111 = .ok (.getfield 19, 3) := by decide +kernel
theorem dX6_add_114 : decode cX6_add 114 = .ok (.iload_n 1, 1) := by decide +kernel
theorem dX6_add_115 : decode cX6_add 115 = .ok (.invokevirtual 296, 3) := by decide +kernel
theorem dX6_add_118 : decode cX6_add 118 = .ok (.aload_n 0, 1) := by decide +kernel
theorem dX6_add_119 : decode cX6_add 119 = .ok (.invokevirtual 81, 3) := by decide +kernel
theorem dX6_add_122 : decode cX6_add 122 = .ok (.aload_n 0, 1) := by decide +kernel
theorem dX6_add_123 : decode cX6_add 123 = .ok (.getfield 19, 3) := by decide +kernel
theorem dX6_add_126 : decode cX6_add 126 = .ok (.getfield 84, 3) := by decide +kernel
theorem dX6_add_129 : decode cX6_add 129 = .ok (.ireturn, 1) := by decide +kernel
theorem dX6_drop_0 : decode cX6_drop 0 = .ok (.aload_n 0, 1) := by decide +kernel
theorem dX6_drop_1 : decode cX6_drop 1 = .ok (.aload_n 0, 1) := by decide +kernel
theorem dX6_drop_2 : decode cX6_drop 2 = .ok (.getfield 19, 3) := by decide +kernel
theorem dX6_drop_5 : decode cX6_drop 5 = .ok (.iload_n 1, 1) := by decide +kernel
theorem dX6_drop_6 : decode cX6_drop 6 = .ok (.invokevirtual 115, 3) := by decide +kernel
theorem dX6_drop_9 : decode cX6_drop 9 = .ok (.ifCond .ne 7, 3) := by decide +kernel
theorem dX6_drop_12 : decode cX6_drop 12 = .ok (.iconst 1, 1) := by decide +kernel
theorem dX6_drop_13 : decode cX6_drop 13 = .ok (.goto 4, 3) := by decide +kernel
theorem dX6_drop_16 : decode cX6_drop 16 = .ok (.iconst 0, 1) := by decide +kernel
theorem dX6_drop_17 : decode cX6_drop 17 = .ok (.iconst 1, 1) := by decide +kernel
theorem dX6_drop_18 : decode cX6_drop 18 = .ok (.invokevirtual 66, 3) := by decide +kernel
theorem dX6_drop_21 : decode cX6_drop 21 = .ok (.ifCond .ne 27, 3) := by decide +kernel
theorem dX6_drop_24 : decode cX6_drop 24 = .ok (.aload_n 0, 1) := by decide +kernel
theorem dX6_drop_25 : decode cX6_drop 25 = .ok (.aload_n 0, 1) := by decide +kernel
theorem dX6_drop_26 : decode cX6_drop 26 = .ok (.getfield 19, 3) := by decide +kernel
theorem dX6_drop_29 : decode cX6_drop 29 = .ok (.getfield 84, 3) := by decide +kernel
theorem dX6_drop_32 : decode cX6_drop 32 = .ok (.iconst 1, 1) := by decide +kernel
theorem dX6_drop_33 : decode cX6_drop 33 = .ok (.if_icmp .ne 7, 3) := by decide +kernel
theorem dX6_drop_36 : decode cX6_drop 36 = .ok (.iconst 1, 1) := by decide +kernel
theorem dX6_drop_37 : decode cX6_drop 37 = .ok (.goto 4, 3) := by decide +kernel
theorem dX6_drop_40 : decode cX6_drop 40 = .ok (.iconst 0, 1) := by decide +kernel
theorem dX6_drop_41 : decode cX6_drop 41 = .ok (.iconst 5, 1) := by decide +kernel
theorem dX6_drop_42 : decode cX6_drop 42 = .ok (.invokevirtual 66, 3) := by decide +kernel
theorem dX6_drop_45 : decode cX6_drop 45 = .ok (.ifCond .eq 5, 3) := by decide +kernel
theorem dX6_drop_48 : decode cX6_drop 48 = .ok (.iconst (-1), 1) := by decide +kernel
theorem dX6_drop_49 : decode cX6_drop 49 = .ok (.ireturn, 1) := by decide +kernel
theorem dX6_drop_50 : decode cX6_drop 50 = .ok (.aload_n 0, 1) := by decide +kernel
theorem dX6_drop_51 : decode cX6_drop 51 = .ok (.iload_n 1, 1) := by decide +kernel
theorem dX6_drop_52 : decode cX6_drop 52 = .ok (.invokevirtual 297, 3) := by decide +kernel
theorem dX6_drop_55 : decode cX6_drop 55 = .ok (.aload_n 0, 1) := by decide +kernel
theorem dX6_drop_56 : decode cX6_drop 56 = .ok (.getfield 19, 3) := by decide +kernel
theorem dX6_drop_59 : decode cX6_drop 59 = .ok (.getfield 84, 3) := by decide +kernel
theorem dX6_drop_62 : decode cX6_drop 62 = .ok (.ireturn, 1) := by decide +kernel
theorem dX6_peel_0 : decode cX6_peel 0 = .ok (.aload_n 0, 1) := by decide +kernel
theorem dX6_peel_1 : decode cX6_peel 1 = .ok (.invokevirtual 146, 3) := by decide +kernel
theorem dX6_peel_4 : decode cX6_peel 4 = .ok (.ifCond .ne 27, 3) := by decide +kernel
theorem dX6_peel_7 : decode cX6_peel 7 = .ok (.aload_n 0, 1) := by decide +kernel
theorem dX6_peel_8 : decode cX6_peel 8 = .ok (.aload_n 0, 1) := by decide +kernel
theorem dX6_peel_9 : decode cX6_peel 9 = .ok (.getfield 19, 3) := by decide +kernel
theorem dX6_peel_12 : decode cX6_peel 12 = .ok (.getfield 84, 3) := by decide +kernel
theorem dX6_peel_15 : decode cX6_peel 15 = .ok (.iconst 1, 1) := by decide +kernel
theorem dX6_peel_16 : decode cX6_peel 16 = .ok (.if_icmp .gt 7, 3) := by decide +kernel
theorem dX6_peel_19 : decode cX6_peel 19 = .ok (.iconst 1, 1) := by decide +kernel
theorem dX6_peel_20 : decode cX6_peel 20 = .ok (.goto 4, 3) := by decide +kernel
theorem dX6_peel_23 : decode cX6_peel 23 = .ok (.iconst 0, 1) := by decide +kernel
theorem dX6_peel_24 : decode cX6_peel 24 = .ok (.iconst 5, 1) := by decide +kernel
theorem dX6_peel_25 : decode cX6_peel 25 = .ok (.invokevirtual 66, 3) := by decide +kernel
theorem dX6_peel_28 : decode cX6_peel 28 = .ok (.ifCond .eq 5, 3) := by decide +kernel
theorem dX6_peel_31 : decode cX6_peel 31 = .ok (.iconst (-1), 1) := by decide +kernel
theorem dX6_peel_32 : decode cX6_peel 32 = .ok (.ireturn, 1) := by decide +kernel
theorem dX6_peel_33 : decode cX6_peel 33 = .ok (.aload_n 0, 1) := by decide +kernel
theorem dX6_peel_34 : decode cX6_peel 34 = .ok (.getfield 26, 3) := by decide +kernel
theorem dX6_peel_37 : decode cX6_peel 37 = .ok (.getfield 174, 3) := by decide +kernel
theorem dX6_peel_40 : decode cX6_peel 40 = .ok (.aload_n 0, 1) := by decide +kernel
theorem dX6_peel_41 : decode cX6_peel 41 = .ok (.getfield 19, 3) := by decide +kernel
theorem dX6_peel_44 : decode cX6_peel 44 = .ok (.getfield 84, 3) := by decide +kernel
theorem dX6_peel_47 : decode cX6_peel 47 = .ok (.iconst 1, 1) := by decide +kernel
theorem dX6_peel_48 : decode cX6_peel 48 = .ok (.isub, 1) := by decide +kernel
theorem dX6_peel_49 : decode cX6_peel 49 = .ok (.iaload, 1) := by decide +kernel
theorem dX6_peel_50 : decode cX6_peel 50 = .ok (.istore_n 1, 1) := by decide +kernel
theorem dX6_peel_51 : decode cX6_peel 51 = .ok (.aload_n 0, 1) := by decide +kernel
theorem dX6_peel_52 : decode cX6_peel 52 = .ok (.getfield 19, 3) := by decide +kernel
theorem dX6_peel_55 : decode cX6_peel 55 = .ok (.getfield 118, 3) := by decide +kernel
theorem dX6_peel_58 : decode cX6_peel 58 = .ok (.iload_n 1, 1) := by decide +kernel
theorem dX6_peel_59 : decode cX6_peel 59 = .ok (.iaload, 1) := by decide +kernel
theorem dX6_peel_60 : decode cX6_peel 60 = .ok (.istore_n 2, 1) := by decide +kernel
theorem dX6_peel_61 : decode cX6_peel 61 = .ok (.aload_n 0, 1) := by decide +kernel
theorem dX6_peel_62 : decode cX6_peel 62 = .ok (.iload_n 1, 1) := by decide +kernel
theorem dX6_peel_63 : decode cX6_peel 63 = .ok (.invokevirtual 297, 3) := by decide +kernel
theorem dX6_peel_66 : decode cX6_peel 66 = .ok (.iload_n 2, 1) := by decide +kernel
theorem dX6_peel_67 : decode cX6_peel 67 = .ok (.ireturn, 1) := by decide +kernel
theorem dX6_move_0 : decode cX6_move 0 = .ok (.aload_n 0, 1) := by decide +kernel
theorem dX6_move_1 : decode cX6_move 1 = .ok (.aload_n 0, 1) := by decide +kernel
theorem dX6_move_2 : decode cX6_move 2 = .ok (.getfield 26, 3) := by decide +kernel
theorem dX6_move_5 : decode cX6_move 5 = .ok (.aload_n 0, 1) := by decide +kernel
theorem dX6_move_6 : decode cX6_move 6 = .ok (.getfield 19, 3) := by decide +kernel
theorem dX6_move_9 : decode cX6_move 9 = .ok (.iload_n 1, 1) := by decide +kernel
theorem dX6_move_10 : decode cX6_move 10 = .ok (.invokevirtual 225, 3) := by decide +kernel
theorem dX6_move_13 : decode cX6_move 13 = .ok (.ifCond .eq 18, 3) := by decide +kernel
theorem dX6_move_16 : decode cX6_move 16 = .ok (.aload_n 0, 1) := by decide +kernel
theorem dX6_move_17 : decode cX6_move 17 = .ok (.getfield 26, 3) := by decide +kernel
theorem dX6_move_20 : decode cX6_move 20 = .ok (.aload_n 0, 1) := by decide +kernel
theorem dX6_move_21 : decode cX6_move 21 = .ok (.getfield 19, 3) := by decide +kernel
theorem dX6_move_24 : decode cX6_move 24 = .ok (.iload_n 2, 1) := by decide +kernel
theorem dX6_move_25 : decode cX6_move 25 = .ok (.invokevirtual 225, 3) := by decide +kernel
theorem dX6_move_28 : decode cX6_move 28 = .ok (.ifCond .ne 7, 3) := by decide +kernel
theorem dX6_move_31 : decode cX6_move 31 = .ok (.iconst 1, 1) := by decide +kernel
theorem dX6_move_32 : decode cX6_move 32 = .ok (.goto 4, 3) := by decide +kernel
theorem dX6_move_35 : decode cX6_move 35 = .ok (.iconst 0, 1) := by decide +kernel
theorem dX6_move_36 : decode cX6_move 36 = .ok (.iconst 1, 1) := by decide +kernel
theorem dX6_move_37 : decode cX6_move 37 = .ok (.invokevirtual 66, 3) := by decide +kernel
theorem dX6_move_40 : decode cX6_move 40 = .ok (.ifCond .eq 5, 3) := by decide +kernel
theorem dX6_move_43 : decode cX6_move 43 = .ok (.iconst (-1), 1) := by decide +kernel
theorem dX6_move_44 : decode cX6_move 44 = .ok (.ireturn, 1) := by decide +kernel
theorem dX6_move_45 : decode cX6_move 45 = .ok (.aload_n 0, 1) := by decide +kernel
theorem dX6_move_46 : decode cX6_move 46 = .ok (.getfield 26, 3) := by decide +kernel
theorem dX6_move_49 : decode cX6_move 49 = .ok (.iload_n 1, 1) := by decide +kernel
theorem dX6_move_50 : decode cX6_move 50 = .ok (.iload_n 2, 1) := by decide +kernel
theorem dX6_move_51 : decode cX6_move 51 = .ok (.invokevirtual 300, 3) := by decide +kernel
theorem dX6_move_54 : decode cX6_move 54 = .ok (.aload_n 0, 1) := by decide +kernel
theorem dX6_move_55 : decode cX6_move 55 = .ok (.getfield 26, 3) := by decide +kernel
theorem dX6_move_58 : decode cX6_move 58 = .ok (.aload_n 0, 1) := by decide +kernel
theorem dX6_move_59 : decode cX6_move 59 = .ok (.getfield 19, 3) := by decide +kernel
theorem dX6_move_62 : decode cX6_move 62 = .ok (.invokevirtual 185, 3) := by decide +kernel
theorem dX6_move_65 : decode cX6_move 65 = .ok (.ireturn, 1) := by decide +kernel
theorem dX6_lay_0 : decode cX6_lay 0 = .ok (.aload_n 0, 1) := by decide +kernel
theorem dX6_lay_1 : decode cX6_lay 1 = .ok (.invokevirtual 146, 3) := by decide +kernel
theorem dX6_lay_4 : decode cX6_lay 4 = .ok (.ifCond .ne 28, 3) := by decide +kernel
theorem dX6_lay_7 : decode cX6_lay 7 = .ok (.aload_n 0, 1) := by decide +kernel
theorem dX6_lay_8 : decode cX6_lay 8 = .ok (.aload_n 0, 1) := by decide +kernel
theorem dX6_lay_9 : decode cX6_lay 9 = .ok (.invokevirtual 234, 3) := by decide +kernel
theorem dX6_lay_12 : decode cX6_lay 12 = .ok (.getfield 238, 3) := by decide +kernel
theorem dX6_lay_15 : decode cX6_lay 15 = .ok (.iconst 0, 1) := by decide +kernel
theorem dX6_lay_16 : decode cX6_lay 16 = .ok (.iaload, 1) := by decide +kernel
theorem dX6_lay_17 : decode cX6_lay 17 = .ok (.ifCond .ne 7, 3) := by decide +kernel
theorem dX6_lay_20 : decode cX6_lay 20 = .ok (.iconst 1, 1) := by decide +kernel
theorem dX6_lay_21 : decode cX6_lay 21 = .ok (.goto 4, 3) := by decide +kernel
theorem dX6_lay_24 : decode cX6_lay 24 = .ok (.iconst 0, 1) := by decide +kernel
theorem dX6_lay_25 : decode cX6_lay 25 = .ok (.iconst 5, 1) := by decide +kernel
theorem dX6_lay_26 : decode cX6_lay 26 = .ok (.invokevirtual 66, 3) := by decide +kernel
theorem dX6_lay_29 : decode cX6_lay 29 = .ok (.ifCond .eq 5, 3) := by decide +kernel
theorem dX6_lay_32 : decode cX6_lay 32 = .ok (.iconst (-1), 1) := by decide +kernel
theorem dX6_lay_33 : decode cX6_lay 33 = .ok (.ireturn, 1) := by decide +kernel
theorem dX6_lay_34 : decode cX6_lay 34 = .ok (.iconst 0, 1) := by decide +kernel
theorem dX6_lay_35 : decode cX6_lay 35 = .ok (.istore_n 1, 1) := by decide +kernel
theorem dX6_lay_36 : decode cX6_lay 36 = .ok (.iload_n 1, 1) := by decide +kernel
theorem dX6_lay_37 : decode cX6_lay 37 = .ok (.aload_n 0, 1) := by decide +kernel
theorem dX6_lay_38 : decode cX6_lay 38 = .ok (.getfield 19, 3) := by decide +kernel
theorem dX6_lay_41 : decode cX6_lay 41 = .ok (.getfield 84, 3) := by decide +kernel
theorem dX6_lay_44 : decode cX6_lay 44 = .ok (.if_icmp .ge 30, 3) := by decide +kernel
theorem dX6_lay_47 : decode cX6_lay 47 = .ok (.aload_n 0, 1) := by decide +kernel
theorem dX6_lay_48 : decode cX6_lay 48 = .ok (.getfield 26, 3) := by decide +kernel
theorem dX6_lay_51 : decode cX6_lay 51 = .ok (.getfield 174, 3) := by decide +kernel
theorem dX6_lay_54 : decode cX6_lay 54 = .ok (.iload_n 1, 1) := by decide +kernel
theorem dX6_lay_55 : decode cX6_lay 55 = .ok (.aload_n 0, 1) := by decide +kernel
theorem dX6_lay_56 : decode cX6_lay 56 = .ok (.getfield 40, 3) := by decide +kernel
theorem dX6_lay_59 : decode cX6_lay 59 = .ok (.aload_n 0, 1) := by decide +kernel
theorem dX6_lay_60 : decode cX6_lay 60 = .ok (.getfield 19, 3) := by decide +kernel
theorem dX6_lay_63 : decode cX6_lay 63 = .ok (.iload_n 1, 1) := by decide +kernel
theorem dX6_lay_64 : decode cX6_lay 64 = .ok (.invokevirtual 241, 3) := by decide +kernel
theorem dX6_lay_67 : decode cX6_lay 67 = .ok (.iastore, 1) := by decide +kernel
theorem dX6_lay_68 : decode cX6_lay 68 = .ok (.iinc 1 1, 3) := by decide +kernel
theorem dX6_lay_71 : decode cX6_lay 71 = .ok (.goto (-35), 3) := by decide +kernel
theorem dX6_lay_74 : decode cX6_lay 74 = .ok (.aload_n 0, 1) := by decide +kernel
theorem dX6_lay_75 : decode cX6_lay 75 = .ok (.getfield 40, 3) := by decide +kernel
theorem dX6_lay_78 : decode cX6_lay 78 = .ok (.getfield 238, 3) := by decide +kernel
theorem dX6_lay_81 : decode cX6_lay 81 = .ok (.iconst 0, 1) := by decide +kernel
theorem dX6_lay_82 : decode cX6_lay 82 = .ok (.iaload, 1) := by decide +kernel
theorem dX6_lay_83 : decode cX6_lay 83 = .ok (.ireturn, 1) := by decide +kernel
theorem dX6_turn_0 : decode cX6_turn 0 = .ok (.aload_n 0, 1) := by decide +kernel
theorem dX6_turn_1 : decode cX6_turn 1 = .ok (.aload_n 0, 1) := by decide +kernel
theorem dX6_turn_2 : decode cX6_turn 2 = .ok (.getfield 19, 3) := by decide +kernel
theorem dX6_turn_5 : decode cX6_turn 5 = .ok (.iload_n 1, 1) := by decide +kernel
theorem dX6_turn_6 : decode cX6_turn 6 = .ok (.invokevirtual 304, 3) := by decide +kernel
theorem dX6_turn_9 : decode cX6_turn 9 = .ok (.ifCond .eq 19, 3) := by decide +kernel
theorem dX6_turn_12 : decode cX6_turn 12 = .ok (.aload_n 0, 1) := by decide +kernel
theorem dX6_turn_13 : decode cX6_turn 13 = .ok (.getfield 19, 3) := by decide +kernel
theorem dX6_turn_16 : decode cX6_turn 16 = .ok (.iload_n 2, 1) := by decide +kernel
theorem dX6_turn_17 : decode cX6_turn 17 = .ok (.invokevirtual 304, 3) := by decide +kernel
theorem dX6_turn_20 : decode cX6_turn 20 = .ok (.ifCond .eq 8, 3) := by decide +kernel
theorem dX6_turn_23 : decode cX6_turn 23 = .ok (.iload_n 1, 1) := by decide +kernel
theorem dX6_turn_24 : decode cX6_turn 24 = .ok (.iload_n 2, 1) := by decide +kernel
theorem dX6_turn_25 : decode cX6_turn 25 = .ok (.if_icmp .ne 7, 3) := by decide +kernel
theorem dX6_turn_28 : decode cX6_turn 28 = .ok (.iconst 1, 1) := by decide +kernel
theorem dX6_turn_29 : decode cX6_turn 29 = .ok (.goto 4, 3) := by decide +kernel
theorem dX6_turn_32 : decode cX6_turn 32 = .ok (.iconst 0, 1) := by decide +kernel
theorem dX6_turn_33 : decode cX6_turn 33 = .ok (.iconst 1, 1) := by decide +kernel
theorem dX6_turn_34 : decode cX6_turn 34 = .ok (.invokevirtual 66, 3) := by decide +kernel
theorem dX6_turn_37 : decode cX6_turn 37 = .ok (.ifCond .eq 5, 3) := by decide +kernel
theorem dX6_turn_40 : decode cX6_turn 40 = .ok (.iconst (-1), 1) := by decide +kernel
theorem dX6_turn_41 : decode cX6_turn 41 = .ok (.ireturn, 1) := by decide +kernel
theorem dX6_turn_42 : decode cX6_turn 42 = .ok (.aload_n 0, 1) := by decide +kernel
theorem dX6_turn_43 : decode cX6_turn 43 = .ok (.getfield 19, 3) := by decide +kernel
theorem dX6_turn_46 : decode cX6_turn 46 = .ok (.iload_n 1, 1) := by decide +kernel
theorem dX6_turn_47 : decode cX6_turn 47 = .ok (.iload_n 2, 1) := by decide +kernel
theorem dX6_turn_48 : decode cX6_turn 48 = .ok (.invokevirtual 307, 3) := by decide +kernel
theorem dX6_turn_51 : decode cX6_turn 51 = .ok (.istore_n 3, 1) := by decide +kernel
theorem dX6_turn_52 : decode cX6_turn 52 = .ok (.aload_n 0, 1) := by decide +kernel
theorem dX6_turn_53 : decode cX6_turn 53 = .ok (.invokevirtual 81, 3) := by decide +kernel
theorem dX6_turn_56 : decode cX6_turn 56 = .ok (.iload_n 3, 1) := by decide +kernel
theorem dX6_turn_57 : decode cX6_turn 57 = .ok (.ireturn, 1) := by decide +kernel
theorem dX6_breaks_0 : decode cX6_breaks 0 = .ok (.aload_n 0, 1) := by decide +kernel
theorem dX6_breaks_1 : decode cX6_breaks 1 = .ok (.getfield 26, 3) := by decide +kernel
theorem dX6_breaks_4 : decode cX6_breaks 4 = .ok (.aload_n 0, 1) := by decide +kernel
theorem dX6_breaks_5 : decode cX6_breaks 5 = .ok (.getfield 19, 3) := by decide +kernel
theorem dX6_breaks_8 : decode cX6_breaks 8 = .ok (.iload_n 1, 1) := by decide +kernel
theorem dX6_breaks_9 : decode cX6_breaks 9 = .ok (.invokevirtual 310, 3) := by decide +kernel
theorem dX6_breaks_12 : decode cX6_breaks 12 = .ok (.istore_n 2, 1) := by decide +kernel
theorem dX6_breaks_13 : decode cX6_breaks 13 = .ok (.iload_n 2, 1) := by decide +kernel
theorem dX6_breaks_14 : decode cX6_breaks 14 = .ok (.ifCond .ge 14, 3) := by decide +kernel
theorem dX6_breaks_17 : decode cX6_breaks 17 = .ok (.new 313, 3) := by decide +kernel
theorem dX6_breaks_20 : decode cX6_breaks 20 = .ok (.dup, 1) := by decide +kernel
theorem dX6_breaks_21 : decode cX6_breaks 21 = .ok (.ldc_w 315, 3) := by decide +kernel
theorem dX6_breaks_24 : decode cX6_breaks 24 = .ok (.invokespecial 317, 3) := by decide +kernel
theorem dX6_breaks_27 : decode cX6_breaks 27 = .ok (.athrow, 1) := by decide +kernel
theorem dX6_breaks_28 : decode cX6_breaks 28 = .ok (.iload_n 2, 1) := by decide +kernel
theorem dX6_breaks_29 : decode cX6_breaks 29 = .ok (.ireturn, 1) := by decide +kernel
theorem dX6_size_0 : decode cX6_size 0 = .ok (.aload_n 0, 1) := by decide +kernel
theorem dX6_size_1 : decode cX6_size 1 = .ok (.getfield 10, 3) := by decide +kernel
theorem dX6_size_4 : decode cX6_size 4 = .ok (.getfield 63, 3) := by decide +kernel
theorem dX6_size_7 : decode cX6_size 7 = .ok (.ireturn, 1) := by decide +kernel
theorem dX6_trouble_0 : decode cX6_trouble 0 = .ok (.aload_n 0, 1) := by decide +kernel
theorem dX6_trouble_1 : decode cX6_trouble 1 = .ok (.getfield 51, 3) := by decide +kernel
theorem dX6_trouble_4 : decode cX6_trouble 4 = .ok (.ireturn, 1) := by decide +kernel
theorem dX6_refused_0 : decode cX6_refused 0 = .ok (.aload_n 0, 1) := by decide +kernel
theorem dX6_refused_1 : decode cX6_refused 1 = .ok (.iload_n 1, 1) := by decide +kernel
theorem dX6_refused_2 : decode cX6_refused 2 = .ok (.ifCond .eq 7, 3) := by decide +kernel
theorem dX6_refused_5 : decode cX6_refused 5 = .ok (.iload_n 2, 1) := by decide +kernel
theorem dX6_refused_6 : decode cX6_refused 6 = .ok (.goto 4, 3) := by decide +kernel
theorem dX6_refused_9 : decode cX6_refused 9 = .ok (.iconst 0, 1) := by decide +kernel
theorem dX6_refused_10 : decode cX6_refused 10 = .ok (.putfield 51, 3) := by decide +kernel
theorem dX6_refused_13 : decode cX6_refused 13 = .ok (.iload_n 1, 1) := by decide +kernel
theorem dX6_refused_14 : decode cX6_refused 14 = .ok (.ireturn, 1) := by decide +kernel
theorem dX6_isEmpty_0 : decode cX6_isEmpty 0 = .ok (.aload_n 0, 1) := by decide +kernel
theorem dX6_isEmpty_1 : decode cX6_isEmpty 1 = .ok (.getfield 19, 3) := by decide +kernel
theorem dX6_isEmpty_4 : decode cX6_isEmpty 4 = .ok (.getfield 84, 3) := by decide +kernel
theorem dX6_isEmpty_7 : decode cX6_isEmpty 7 = .ok (.ifCond .ne 7, 3) := by decide +kernel
theorem dX6_isEmpty_10 : decode cX6_isEmpty 10 = .ok (.iconst 1, 1) := by decide +kernel
theorem dX6_isEmpty_11 : decode cX6_isEmpty 11 = .ok (.goto 4, 3) := by decide +kernel
theorem dX6_isEmpty_14 : decode cX6_isEmpty 14 = .ok (.iconst 0, 1) := by decide +kernel
theorem dX6_isEmpty_15 : decode cX6_isEmpty 15 = .ok (.ireturn, 1) := by decide +kernel
theorem dX6_refusesEmpty_0 : decode cX6_refusesEmpty 0 = .ok (.aload_n 0, 1) := by decide +kernel
theorem dX6_refusesEmpty_1 : decode cX6_refusesEmpty 1 = .ok (.aload_n 0, 1) := by decide +kernel
theorem dX6_refusesEmpty_2 : decode cX6_refusesEmpty 2 = .ok (.invokevirtual 93, 3) := by decide +kernel
theorem dX6_refusesEmpty_5 : decode cX6_refusesEmpty 5 = .ok (.iconst 1, 1) := by decide +kernel
theorem dX6_refusesEmpty_6 : decode cX6_refusesEmpty 6 = .ok (.invokevirtual 66, 3) := by decide +kernel
theorem dX6_refusesEmpty_9 : decode cX6_refusesEmpty 9 = .ok (.ireturn, 1) := by decide +kernel
theorem dX6_refusesUpTo_0 : decode cX6_refusesUpTo 0 = .ok (.aload_n 0, 1) := by decide +kernel
theorem dX6_refusesUpTo_1 : decode cX6_refusesUpTo 1 = .ok (.invokevirtual 146, 3) := by decide +kernel
theorem dX6_refusesUpTo_4 : decode cX6_refusesUpTo 4 = .ok (.ifCond .ne 25, 3) := by decide +kernel
theorem dX6_refusesUpTo_7 : decode cX6_refusesUpTo 7 = .ok (.aload_n 0, 1) := by decide +kernel
theorem dX6_refusesUpTo_8 : decode cX6_refusesUpTo 8 = .ok (.iload_n 1, 1) := by decide +kernel
theorem dX6_refusesUpTo_9 : decode cX6_refusesUpTo 9 = .ok (.ifCond .lt 8, 3) := by decide +kernel
theorem dX6_refusesUpTo_12 : decode cX6_refusesUpTo 12 = .ok (.iload_n 1, 1) := by decide +kernel
theorem dX6_refusesUpTo_13 : decode cX6_refusesUpTo 13 = .ok (.iload_n 2, 1) := by decide +kernel
theorem dX6_refusesUpTo_14 : decode cX6_refusesUpTo 14 = .ok (.if_icmp .le 7, 3) := by decide +kernel
theorem dX6_refusesUpTo_17 : decode cX6_refusesUpTo 17 = .ok (.iconst 1, 1) := by decide +kernel
theorem dX6_refusesUpTo_18 : decode cX6_refusesUpTo 18 = .ok (.goto 4, 3) := by decide +kernel
theorem dX6_refusesUpTo_21 : decode cX6_refusesUpTo 21 = .ok (.iconst 0, 1) := by decide +kernel
theorem dX6_refusesUpTo_22 : decode cX6_refusesUpTo 22 = .ok (.iconst 2, 1) := by decide +kernel
theorem dX6_refusesUpTo_23 : decode cX6_refusesUpTo 23 = .ok (.invokevirtual 66, 3) := by decide +kernel
theorem dX6_refusesUpTo_26 : decode cX6_refusesUpTo 26 = .ok (.ifCond .eq 7, 3) := by decide +kernel
theorem dX6_refusesUpTo_29 : decode cX6_refusesUpTo 29 = .ok (.iconst 1, 1) := by decide +kernel
theorem dX6_refusesUpTo_30 : decode cX6_refusesUpTo 30 = .ok (.goto 4, 3) := by decide +kernel
theorem dX6_refusesUpTo_33 : decode cX6_refusesUpTo 33 = .ok (.iconst 0, 1) := by decide +kernel
theorem dX6_refusesUpTo_34 : decode cX6_refusesUpTo 34 = .ok (.ireturn, 1) := by decide +kernel
theorem dX6_refusesSet_0 : decode cX6_refusesSet 0 = .ok (.aload_n 0, 1) := by decide +kernel
theorem dX6_refusesSet_1 : decode cX6_refusesSet 1 = .ok (.invokevirtual 146, 3) := by decide +kernel
theorem dX6_refusesSet_4 : decode cX6_refusesSet 4 = .ok (.ifCond .ne 27, 3) := by decide +kernel
theorem dX6_refusesSet_7 : decode cX6_refusesSet 7 = .ok (.aload_n 0, 1) := by decide +kernel
theorem dX6_refusesSet_8 : decode cX6_refusesSet 8 = .ok (.aload_n 0, 1) := by decide +kernel
theorem dX6_refusesSet_9 : decode cX6_refusesSet 9 = .ok (.getfield 19, 3) := by decide +kernel
theorem dX6_refusesSet_12 : decode cX6_refusesSet 12 = .ok (.iload_n 1, 1) := by decide +kernel
theorem dX6_refusesSet_13 : decode cX6_refusesSet 13 = .ok (.invokevirtual 287, 3) := by decide +kernel
theorem dX6_refusesSet_16 : decode cX6_refusesSet 16 = .ok (.ifCond .ne 7, 3) := by decide +kernel
theorem dX6_refusesSet_19 : decode cX6_refusesSet 19 = .ok (.iconst 1, 1) := by decide +kernel
theorem dX6_refusesSet_20 : decode cX6_refusesSet 20 = .ok (.goto 4, 3) := by decide +kernel
theorem dX6_refusesSet_23 : decode cX6_refusesSet 23 = .ok (.iconst 0, 1) := by decide +kernel
theorem dX6_refusesSet_24 : decode cX6_refusesSet 24 = .ok (.iconst 2, 1) := by decide +kernel
theorem dX6_refusesSet_25 : decode cX6_refusesSet 25 = .ok (.invokevirtual 66, 3) := by decide +kernel
theorem dX6_refusesSet_28 : decode cX6_refusesSet 28 = .ok (.ifCond .eq 7, 3) := by decide +kernel
theorem dX6_refusesSet_31 : decode cX6_refusesSet 31 = .ok (.iconst 1, 1) := by decide +kernel
theorem dX6_refusesSet_32 : decode cX6_refusesSet 32 = .ok (.goto 4, 3) := by decide +kernel
theorem dX6_refusesSet_35 : decode cX6_refusesSet 35 = .ok (.iconst 0, 1) := by decide +kernel
theorem dX6_refusesSet_36 : decode cX6_refusesSet 36 = .ok (.ireturn, 1) := by decide +kernel
theorem dX6_refusesFace_0 : decode cX6_refusesFace 0 = .ok (.aload_n 0, 1) := by decide +kernel
theorem dX6_refusesFace_1 : decode cX6_refusesFace 1 = .ok (.iload_n 1, 1) := by decide +kernel
theorem dX6_refusesFace_2 : decode cX6_refusesFace 2 = .ok (.invokevirtual 122, 3) := by decide +kernel
theorem dX6_refusesFace_5 : decode cX6_refusesFace 5 = .ok (.ifCond .ne 27, 3) := by decide +kernel
theorem dX6_refusesFace_8 : decode cX6_refusesFace 8 = .ok (.aload_n 0, 1) := by decide +kernel
theorem dX6_refusesFace_9 : decode cX6_refusesFace 9 = .ok (.aload_n 0, 1) := by decide +kernel
theorem dX6_refusesFace_10 : decode cX6_refusesFace 10 = .ok (.getfield 19, 3) := by decide +kernel
theorem dX6_refusesFace_13 : decode cX6_refusesFace 13 = .ok (.iload_n 1, 1) := by decide +kernel
theorem dX6_refusesFace_14 : decode cX6_refusesFace 14 = .ok (.invokevirtual 216, 3) := by decide +kernel
theorem dX6_refusesFace_17 : decode cX6_refusesFace 17 = .ok (.ifCond .ne 7, 3) := by decide +kernel
theorem dX6_refusesFace_20 : decode cX6_refusesFace 20 = .ok (.iconst 1, 1) := by decide +kernel
theorem dX6_refusesFace_21 : decode cX6_refusesFace 21 = .ok (.goto 4, 3) := by decide +kernel
theorem dX6_refusesFace_24 : decode cX6_refusesFace 24 = .ok (.iconst 0, 1) := by decide +kernel
theorem dX6_refusesFace_25 : decode cX6_refusesFace 25 = .ok (.iconst 5, 1) := by decide +kernel
theorem dX6_refusesFace_26 : decode cX6_refusesFace 26 = .ok (.invokevirtual 66, 3) := by decide +kernel
theorem dX6_refusesFace_29 : decode cX6_refusesFace 29 = .ok (.ifCond .eq 7, 3) := by decide +kernel
theorem dX6_refusesFace_32 : decode cX6_refusesFace 32 = .ok (.iconst 1, 1) := by decide +kernel
theorem dX6_refusesFace_33 : decode cX6_refusesFace 33 = .ok (.goto 4, 3) := by decide +kernel
theorem dX6_refusesFace_36 : decode cX6_refusesFace 36 = .ok (.iconst 0, 1) := by decide +kernel
theorem dX6_refusesFace_37 : decode cX6_refusesFace 37 = .ok (.ireturn, 1) := by decide +kernel
theorem dX6_refusesPlace_0 : decode cX6_refusesPlace 0 = .ok (.aload_n 0, 1) := by decide +kernel
theorem dX6_refusesPlace_1 : decode cX6_refusesPlace 1 = .ok (.aload_n 0, 1) := by decide +kernel
theorem dX6_refusesPlace_2 : decode cX6_refusesPlace 2 = .ok (.getfield 26, 3) := by decide +kernel
theorem dX6_refusesPlace_5 : decode cX6_refusesPlace 5 = .ok (.aload_n 0, 1) := by decide +kernel
theorem dX6_refusesPlace_6 : decode cX6_refusesPlace 6 = .ok (.getfield 19, 3) := by decide +kernel
theorem dX6_refusesPlace_9 : decode cX6_refusesPlace 9 = .ok (.iload_n 1, 1) := by decide +kernel
theorem dX6_refusesPlace_10 : decode cX6_refusesPlace 10 = .ok (.invokevirtual 225, 3) := by decide +kernel
theorem dX6_refusesPlace_13 : decode cX6_refusesPlace 13 = .ok (.ifCond .ne 7, 3) := by decide +kernel
theorem dX6_refusesPlace_16 : decode cX6_refusesPlace 16 = .ok (.iconst 1, 1) := by decide +kernel
theorem dX6_refusesPlace_17 : decode cX6_refusesPlace 17 = .ok (.goto 4, 3) := by decide +kernel
theorem dX6_refusesPlace_20 : decode cX6_refusesPlace 20 = .ok (.iconst 0, 1) := by decide +kernel
theorem dX6_refusesPlace_21 : decode cX6_refusesPlace 21 = .ok (.iconst 1, 1) := by decide +kernel
theorem dX6_refusesPlace_22 : decode cX6_refusesPlace 22 = .ok (.invokevirtual 66, 3) := by decide +kernel
theorem dX6_refusesPlace_25 : decode cX6_refusesPlace 25 = .ok (.ireturn, 1) := by decide +kernel
theorem dX6_renew_0 : decode cX6_renew 0 = .ok (.aload_n 0, 1) := by decide +kernel
theorem dX6_renew_1 : decode cX6_renew 1 = .ok (.getfield 19, 3) := by decide +kernel
theorem dX6_renew_4 : decode cX6_renew 4 = .ok (.invokevirtual 320, 3) := by decide +kernel
theorem dX6_renew_7 : decode cX6_renew 7 = .ok (.aload_n 0, 1) := by decide +kernel
theorem dX6_renew_8 : decode cX6_renew 8 = .ok (.getfield 40, 3) := by decide +kernel
theorem dX6_renew_11 : decode cX6_renew 11 = .ok (.iconst 0, 1) := by decide +kernel
theorem dX6_renew_12 : decode cX6_renew 12 = .ok (.putfield 323, 3) := by decide +kernel
theorem dX6_renew_15 : decode cX6_renew 15 = .ok (.aload_n 0, 1) := by decide +kernel
theorem dX6_renew_16 : decode cX6_renew 16 = .ok (.getfield 47, 3) := by decide +kernel
theorem dX6_renew_19 : decode cX6_renew 19 = .ok (.iconst 0, 1) := by decide +kernel
theorem dX6_renew_20 : decode cX6_renew 20 = .ok (.putfield 327, 3) := by decide +kernel
theorem dX6_renew_23 : decode cX6_renew 23 = .ok (.return_, 1) := by decide +kernel
theorem dX6_takeAway_0 : decode cX6_takeAway 0 = .ok (.aload_n 0, 1) := by decide +kernel
theorem dX6_takeAway_1 : decode cX6_takeAway 1 = .ok (.getfield 26, 3) := by decide +kernel
theorem dX6_takeAway_4 : decode cX6_takeAway 4 = .ok (.aload_n 0, 1) := by decide +kernel
theorem dX6_takeAway_5 : decode cX6_takeAway 5 = .ok (.getfield 19, 3) := by decide +kernel
theorem dX6_takeAway_8 : decode cX6_takeAway 8 = .ok (.getfield 84, 3) := by decide +kernel
theorem dX6_takeAway_11 : decode cX6_takeAway 11 = .ok (.iload_n 1, 1) := by decide +kernel
theorem dX6_takeAway_12 : decode cX6_takeAway 12 = .ok (.invokevirtual 328, 3) := by decide +kernel
theorem dX6_takeAway_15 : decode cX6_takeAway 15 = .ok (.aload_n 0, 1) := by decide +kernel
theorem dX6_takeAway_16 : decode cX6_takeAway 16 = .ok (.getfield 19, 3) := by decide +kernel
theorem dX6_takeAway_19 : decode cX6_takeAway 19 = .ok (.iload_n 1, 1) := by decide +kernel
theorem dX6_takeAway_20 : decode cX6_takeAway 20 = .ok (.invokevirtual 331, 3) := by decide +kernel
theorem dX6_takeAway_23 : decode cX6_takeAway 23 = .ok (.aload_n 0, 1) := by decide +kernel
theorem dX6_takeAway_24 : decode cX6_takeAway 24 = .ok (.invokevirtual 81, 3) := by decide +kernel
theorem dX6_takeAway_27 : decode cX6_takeAway 27 = .ok (.return_, 1) := by decide +kernel
theorem dX6_allOrders_0 : decode cX6_allOrders 0 = .ok (.aload_n 0, 1) := by decide +kernel
theorem dX6_allOrders_1 : decode cX6_allOrders 1 = .ok (.getfield 40, 3) := by decide +kernel
theorem dX6_allOrders_4 : decode cX6_allOrders 4 = .ok (.aload_n 0, 1) := by decide +kernel
theorem dX6_allOrders_5 : decode cX6_allOrders 5 = .ok (.getfield 19, 3) := by decide +kernel
theorem dX6_allOrders_8 : decode cX6_allOrders 8 = .ok (.invokevirtual 333, 3) := by decide +kernel
theorem dX6_allOrders_11 : decode cX6_allOrders 11 = .ok (.aload_n 0, 1) := by decide +kernel
theorem dX6_allOrders_12 : decode cX6_allOrders 12 = .ok (.getfield 40, 3) := by decide +kernel
theorem dX6_allOrders_15 : decode cX6_allOrders 15 = .ok (.areturn, 1) := by decide +kernel
theorem dX6_allSheddings_0 : decode cX6_allSheddings 0 = .ok (.aload_n 0, 1) := by decide +kernel
theorem dX6_allSheddings_1 : decode cX6_allSheddings 1 = .ok (.getfield 47, 3) := by decide +kernel
theorem dX6_allSheddings_4 : decode cX6_allSheddings 4 = .ok (.invokevirtual 336, 3) := by decide +kernel
theorem dX6_allSheddings_7 : decode cX6_allSheddings 7 = .ok (.aload_n 0, 1) := by decide +kernel
theorem dX6_allSheddings_8 : decode cX6_allSheddings 8 = .ok (.getfield 47, 3) := by decide +kernel
theorem dX6_allSheddings_11 : decode cX6_allSheddings 11 = .ok (.areturn, 1) := by decide +kernel
