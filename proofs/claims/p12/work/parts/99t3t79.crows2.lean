theorem dX6_formulaLine_53 : decode cX6_formulaLine 53 = .ok (.getfield 32, 3) := by decide +kernel
theorem dX6_formulaLine_56 : decode cX6_formulaLine 56 = .ok (.invokevirtual 290, 3) := by decide +kernel
theorem dX6_formulaLine_59 : decode cX6_formulaLine 59 = .ok (.aload_n 0, 1) := by decide +kernel
theorem dX6_formulaLine_60 : decode cX6_formulaLine 60 = .ok (.iconst 0, 1) := by decide +kernel
theorem dX6_formulaLine_61 : decode cX6_formulaLine 61 = .ok (.invokevirtual 293, 3) := by decide +kernel
theorem dX6_formulaLine_64 : decode cX6_formulaLine 64 = .ok (.ireturn, 1) := by decide +kernel
theorem dX6_expression_0 : decode cX6_expression 0 = .ok (.aload_n 0, 1) := by decide +kernel
theorem dX6_expression_1 : decode cX6_expression 1 = .ok (.iload_n 1, 1) := by decide +kernel
theorem dX6_expression_2 : decode cX6_expression 2 = .ok (.invokevirtual 296, 3) := by decide +kernel
theorem dX6_expression_5 : decode cX6_expression 5 = .ok (.istore_n 2, 1) := by decide +kernel
theorem dX6_expression_6 : decode cX6_expression 6 = .ok (.iconst 0, 1) := by decide +kernel
theorem dX6_expression_7 : decode cX6_expression 7 = .ok (.istore_n 3, 1) := by decide +kernel
theorem dX6_expression_8 : decode cX6_expression 8 = .ok (.iload_n 3, 1) := by decide +kernel
theorem dX6_expression_9 : decode cX6_expression 9 = .ok (.sipush 1000, 3) := by decide +kernel
theorem dX6_expression_12 : decode cX6_expression 12 = .ok (.if_icmp .ge 64, 3) := by decide +kernel
theorem dX6_expression_15 : decode cX6_expression 15 = .ok (.iload_n 2, 1) := by decide +kernel
theorem dX6_expression_16 : decode cX6_expression 16 = .ok (.ifCond .eq 60, 3) := by decide +kernel
theorem dX6_expression_19 : decode cX6_expression 19 = .ok (.aload_n 0, 1) := by decide +kernel
theorem dX6_expression_20 : decode cX6_expression 20 = .ok (.invokevirtual 299, 3) := by decide +kernel
theorem dX6_expression_23 : decode cX6_expression 23 = .ok (.ifCond .eq 53, 3) := by decide +kernel
theorem dX6_expression_26 : decode cX6_expression 26 = .ok (.aload_n 0, 1) := by decide +kernel
theorem dX6_expression_27 : decode cX6_expression 27 = .ok (.getfield 18, 3) := by decide +kernel
theorem dX6_expression_30 : decode cX6_expression 30 = .ok (.getfield 102, 3) := by decide +kernel
theorem dX6_expression_33 : decode cX6_expression 33 = .ok (.getstatic 302, 3) := by decide +kernel
theorem dX6_expression_36 : decode cX6_expression 36 = .ok (.if_acmp .ne 8, 3) := by decide +kernel
theorem dX6_expression_39 : decode cX6_expression 39 = .ok (.bipush (-6), 2) := by decide +kernel
theorem dX6_expression_41 : decode cX6_expression 41 = .ok (.goto 5, 3) := by decide +kernel
theorem dX6_expression_44 : decode cX6_expression 44 = .ok (.bipush (-7), 2) := by decide +kernel
theorem dX6_expression_46 : decode cX6_expression 46 = .ok (.istore 4, 2) := by decide +kernel
theorem dX6_expression_48 : decode cX6_expression 48 = .ok (.aload_n 0, 1) := by decide +kernel
theorem dX6_expression_49 : decode cX6_expression 49 = .ok (.getfield 18, 3) := by decide +kernel
theorem dX6_expression_52 : decode cX6_expression 52 = .ok (.invokevirtual 99, 3) := by decide +kernel
theorem dX6_expression_55 : decode cX6_expression 55 = .ok (.aload_n 0, 1) := by decide +kernel
theorem dX6_expression_56 : decode cX6_expression 56 = .ok (.iload_n 1, 1) := by decide +kernel
theorem dX6_expression_57 : decode cX6_expression 57 = .ok (.invokevirtual 296, 3) := by decide +kernel
theorem dX6_expression_60 : decode cX6_expression 60 = .ok (.istore_n 2, 1) := by decide +kernel
theorem dX6_expression_61 : decode cX6_expression 61 = .ok (.aload_n 0, 1) := by decide +kernel
theorem dX6_expression_62 : decode cX6_expression 62 = .ok (.getfield 32, 3) := by decide +kernel
theorem dX6_expression_65 : decode cX6_expression 65 = .ok (.iload 4, 2) := by decide +kernel
theorem dX6_expression_67 : decode cX6_expression 67 = .ok (.invokevirtual 305, 3) := by decide +kernel
theorem dX6_expression_70 : decode cX6_expression 70 = .ok (.iinc 3 1, 3) := by decide +kernel
theorem dX6_expression_73 : decode cX6_expression 73 = .ok (.goto (-65), 3) := by decide +kernel
theorem dX6_expression_76 : decode cX6_expression 76 = .ok (.iload_n 2, 1) := by decide +kernel
theorem dX6_expression_77 : decode cX6_expression 77 = .ok (.ireturn, 1) := by decide +kernel
theorem dX6_isLink_0 : decode cX6_isLink 0 = .ok (.aload_n 0, 1) := by decide +kernel
theorem dX6_isLink_1 : decode cX6_isLink 1 = .ok (.getfield 18, 3) := by decide +kernel
theorem dX6_isLink_4 : decode cX6_isLink 4 = .ok (.getfield 102, 3) := by decide +kernel
theorem dX6_isLink_7 : decode cX6_isLink 7 = .ok (.getstatic 302, 3) := by decide +kernel
theorem dX6_isLink_10 : decode cX6_isLink 10 = .ok (.if_acmp .eq 16, 3) := by decide +kernel
theorem dX6_isLink_13 : decode cX6_isLink 13 = .ok (.aload_n 0, 1) := by decide +kernel
theorem dX6_isLink_14 : decode cX6_isLink 14 = .ok (.getfield 18, 3) := by decide +kernel
theorem dX6_isLink_17 : decode cX6_isLink 17 = .ok (.getfield 102, 3) := by decide +kernel
theorem dX6_isLink_20 : decode cX6_isLink 20 = .ok (.getstatic 309, 3) := by decide +kernel
theorem dX6_isLink_23 : decode cX6_isLink 23 = .ok (.if_acmp .ne 7, 3) := by decide +kernel
theorem dX6_isLink_26 : decode cX6_isLink 26 = .ok (.iconst 1, 1) := by decide +kernel
theorem dX6_isLink_27 : decode cX6_isLink 27 = .ok (.goto 4, 3) := by decide +kernel
theorem dX6_isLink_30 : decode cX6_isLink 30 = .ok (.iconst 0, 1) := by decide +kernel
theorem dX6_isLink_31 : decode cX6_isLink 31 = .ok (.ireturn, 1) := by decide +kernel
theorem dX6_test_0 : decode cX6_test 0 = .ok (.aload_n 0, 1) := by decide +kernel
theorem dX6_test_1 : decode cX6_test 1 = .ok (.iload_n 1, 1) := by decide +kernel
theorem dX6_test_2 : decode cX6_test 2 = .ok (.invokevirtual 312, 3) := by decide +kernel
theorem dX6_test_5 : decode cX6_test 5 = .ok (.ifCond .ne 5, 3) := by decide +kernel
theorem dX6_test_8 : decode cX6_test 8 = .ok (.iconst 0, 1) := by decide +kernel
theorem dX6_test_9 : decode cX6_test 9 = .ok (.ireturn, 1) := by decide +kernel
theorem dX6_test_10 : decode cX6_test 10 = .ok (.aload_n 0, 1) := by decide +kernel
theorem dX6_test_11 : decode cX6_test 11 = .ok (.bipush 60, 2) := by decide +kernel
theorem dX6_test_13 : decode cX6_test 13 = .ok (.invokevirtual 92, 3) := by decide +kernel
theorem dX6_test_16 : decode cX6_test 16 = .ok (.ifCond .ne 14, 3) := by decide +kernel
theorem dX6_test_19 : decode cX6_test 19 = .ok (.aload_n 0, 1) := by decide +kernel
theorem dX6_test_20 : decode cX6_test 20 = .ok (.bipush 61, 2) := by decide +kernel
theorem dX6_test_22 : decode cX6_test 22 = .ok (.invokevirtual 92, 3) := by decide +kernel
theorem dX6_test_25 : decode cX6_test 25 = .ok (.ifCond .ne 5, 3) := by decide +kernel
theorem dX6_test_28 : decode cX6_test 28 = .ok (.iconst 1, 1) := by decide +kernel
theorem dX6_test_29 : decode cX6_test 29 = .ok (.ireturn, 1) := by decide +kernel
theorem dX6_test_30 : decode cX6_test 30 = .ok (.aload_n 0, 1) := by decide +kernel
theorem dX6_test_31 : decode cX6_test 31 = .ok (.bipush 60, 2) := by decide +kernel
theorem dX6_test_33 : decode cX6_test 33 = .ok (.invokevirtual 92, 3) := by decide +kernel
theorem dX6_test_36 : decode cX6_test 36 = .ok (.ifCond .eq 8, 3) := by decide +kernel
theorem dX6_test_39 : decode cX6_test 39 = .ok (.bipush (-8), 2) := by decide +kernel
theorem dX6_test_41 : decode cX6_test 41 = .ok (.goto 5, 3) := by decide +kernel
theorem dX6_test_44 : decode cX6_test 44 = .ok (.bipush (-9), 2) := by decide +kernel
theorem dX6_test_46 : decode cX6_test 46 = .ok (.istore_n 2, 1) := by decide +kernel
theorem dX6_test_47 : decode cX6_test 47 = .ok (.aload_n 0, 1) := by decide +kernel
theorem dX6_test_48 : decode cX6_test 48 = .ok (.getfield 18, 3) := by decide +kernel
theorem dX6_test_51 : decode cX6_test 51 = .ok (.invokevirtual 99, 3) := by decide +kernel
theorem dX6_test_54 : decode cX6_test 54 = .ok (.aload_n 0, 1) := by decide +kernel
theorem dX6_test_55 : decode cX6_test 55 = .ok (.iload_n 1, 1) := by decide +kernel
theorem dX6_test_56 : decode cX6_test 56 = .ok (.invokevirtual 312, 3) := by decide +kernel
theorem dX6_test_59 : decode cX6_test 59 = .ok (.istore_n 3, 1) := by decide +kernel
theorem dX6_test_60 : decode cX6_test 60 = .ok (.aload_n 0, 1) := by decide +kernel
theorem dX6_test_61 : decode cX6_test 61 = .ok (.getfield 32, 3) := by decide +kernel
theorem dX6_test_64 : decode cX6_test 64 = .ok (.iload_n 2, 1) := by decide +kernel
theorem dX6_test_65 : decode cX6_test 65 = .ok (.invokevirtual 305, 3) := by decide +kernel
theorem dX6_test_68 : decode cX6_test 68 = .ok (.iload_n 3, 1) := by decide +kernel
theorem dX6_test_69 : decode cX6_test 69 = .ok (.ireturn, 1) := by decide +kernel
theorem dX6_sum_0 : decode cX6_sum 0 = .ok (.aload_n 0, 1) := by decide +kernel
theorem dX6_sum_1 : decode cX6_sum 1 = .ok (.iload_n 1, 1) := by decide +kernel
theorem dX6_sum_2 : decode cX6_sum 2 = .ok (.invokevirtual 315, 3) := by decide +kernel
theorem dX6_sum_5 : decode cX6_sum 5 = .ok (.istore_n 2, 1) := by decide +kernel
theorem dX6_sum_6 : decode cX6_sum 6 = .ok (.iconst 0, 1) := by decide +kernel
theorem dX6_sum_7 : decode cX6_sum 7 = .ok (.istore_n 3, 1) := by decide +kernel
theorem dX6_sum_8 : decode cX6_sum 8 = .ok (.iload_n 3, 1) := by decide +kernel
theorem dX6_sum_9 : decode cX6_sum 9 = .ok (.sipush 1000, 3) := by decide +kernel
theorem dX6_sum_12 : decode cX6_sum 12 = .ok (.if_icmp .ge 71, 3) := by decide +kernel
theorem dX6_sum_15 : decode cX6_sum 15 = .ok (.iload_n 2, 1) := by decide +kernel
theorem dX6_sum_16 : decode cX6_sum 16 = .ok (.ifCond .eq 67, 3) := by decide +kernel
theorem dX6_sum_19 : decode cX6_sum 19 = .ok (.aload_n 0, 1) := by decide +kernel
theorem dX6_sum_20 : decode cX6_sum 20 = .ok (.bipush 43, 2) := by decide +kernel
theorem dX6_sum_22 : decode cX6_sum 22 = .ok (.invokevirtual 92, 3) := by decide +kernel
theorem dX6_sum_25 : decode cX6_sum 25 = .ok (.ifCond .ne 12, 3) := by decide +kernel
theorem dX6_sum_28 : decode cX6_sum 28 = .ok (.aload_n 0, 1) := by decide +kernel
theorem dX6_sum_29 : decode cX6_sum 29 = .ok (.bipush 45, 2) := by decide +kernel
theorem dX6_sum_31 : decode cX6_sum 31 = .ok (.invokevirtual 92, 3) := by decide +kernel
theorem dX6_sum_34 : decode cX6_sum 34 = .ok (.ifCond .eq 49, 3) := by decide +kernel
theorem dX6_sum_37 : decode cX6_sum 37 = .ok (.aload_n 0, 1) := by decide +kernel
theorem dX6_sum_38 : decode cX6_sum 38 = .ok (.bipush 43, 2) := by decide +kernel
theorem dX6_sum_40 : decode cX6_sum 40 = .ok (.invokevirtual 92, 3) := by decide +kernel
theorem dX6_sum_43 : decode cX6_sum 43 = .ok (.ifCond .eq 8, 3) := by decide +kernel
theorem dX6_sum_46 : decode cX6_sum 46 = .ok (.bipush (-10), 2) := by decide +kernel
theorem dX6_sum_48 : decode cX6_sum 48 = .ok (.goto 5, 3) := by decide +kernel
theorem dX6_sum_51 : decode cX6_sum 51 = .ok (.bipush (-11), 2) := by decide +kernel
theorem dX6_sum_53 : decode cX6_sum 53 = .ok (.istore 4, 2) := by decide +kernel
theorem dX6_sum_55 : decode cX6_sum 55 = .ok (.aload_n 0, 1) := by decide +kernel
theorem dX6_sum_56 : decode cX6_sum 56 = .ok (.getfield 18, 3) := by decide +kernel
theorem dX6_sum_59 : decode cX6_sum 59 = .ok (.invokevirtual 99, 3) := by decide +kernel
theorem dX6_sum_62 : decode cX6_sum 62 = .ok (.aload_n 0, 1) := by decide +kernel
theorem dX6_sum_63 : decode cX6_sum 63 = .ok (.iload_n 1, 1) := by decide +kernel
theorem dX6_sum_64 : decode cX6_sum 64 = .ok (.invokevirtual 315, 3) := by decide +kernel
theorem dX6_sum_67 : decode cX6_sum 67 = .ok (.istore_n 2, 1) := by decide +kernel
theorem dX6_sum_68 : decode cX6_sum 68 = .ok (.aload_n 0, 1) := by decide +kernel
theorem dX6_sum_69 : decode cX6_sum 69 = .ok (.getfield 32, 3) := by decide +kernel
theorem dX6_sum_72 : decode cX6_sum 72 = .ok (.iload 4, 2) := by decide +kernel
theorem dX6_sum_74 : decode cX6_sum 74 = .ok (.invokevirtual 305, 3) := by decide +kernel
theorem dX6_sum_77 : decode cX6_sum 77 = .ok (.iinc 3 1, 3) := by decide +kernel
theorem dX6_sum_80 : decode cX6_sum 80 = .ok (.goto (-72), 3) := by decide +kernel
theorem dX6_sum_83 : decode cX6_sum 83 = .ok (.iload_n 2, 1) := by decide +kernel
theorem dX6_sum_84 : decode cX6_sum 84 = .ok (.ireturn, 1) := by decide +kernel
theorem dX6_product_0 : decode cX6_product 0 = .ok (.aload_n 0, 1) := by decide +kernel
theorem dX6_product_1 : decode cX6_product 1 = .ok (.iload_n 1, 1) := by decide +kernel
theorem dX6_product_2 : decode cX6_product 2 = .ok (.invokevirtual 318, 3) := by decide +kernel
theorem dX6_product_5 : decode cX6_product 5 = .ok (.istore_n 2, 1) := by decide +kernel
theorem dX6_product_6 : decode cX6_product 6 = .ok (.iconst 0, 1) := by decide +kernel
theorem dX6_product_7 : decode cX6_product 7 = .ok (.istore_n 3, 1) := by decide +kernel
theorem dX6_product_8 : decode cX6_product 8 = .ok (.iload_n 3, 1) := by decide +kernel
theorem dX6_product_9 : decode cX6_product 9 = .ok (.sipush 1000, 3) := by decide +kernel
theorem dX6_product_12 : decode cX6_product 12 = .ok (.if_icmp .ge 44, 3) := by decide +kernel
theorem dX6_product_15 : decode cX6_product 15 = .ok (.iload_n 2, 1) := by decide +kernel
theorem dX6_product_16 : decode cX6_product 16 = .ok (.ifCond .eq 40, 3) := by decide +kernel
theorem dX6_product_19 : decode cX6_product 19 = .ok (.aload_n 0, 1) := by decide +kernel
theorem dX6_product_20 : decode cX6_product 20 = .ok (.bipush 42, 2) := by decide +kernel
theorem dX6_product_22 : decode cX6_product 22 = .ok (.invokevirtual 92, 3) := by decide +kernel
theorem dX6_product_25 : decode cX6_product 25 = .ok (.ifCond .eq 31, 3) := by decide +kernel
theorem dX6_product_28 : decode cX6_product 28 = .ok (.aload_n 0, 1) := by decide +kernel
theorem dX6_product_29 : decode cX6_product 29 = .ok (.getfield 18, 3) := by decide +kernel
theorem dX6_product_32 : decode cX6_product 32 = .ok (.invokevirtual 99, 3) := by decide +kernel
theorem dX6_product_35 : decode cX6_product 35 = .ok (.aload_n 0, 1) := by decide +kernel
theorem dX6_product_36 : decode cX6_product 36 = .ok (.iload_n 1, 1) := by decide +kernel
theorem dX6_product_37 : decode cX6_product 37 = .ok (.invokevirtual 318, 3) := by decide +kernel
theorem dX6_product_40 : decode cX6_product 40 = .ok (.istore_n 2, 1) := by decide +kernel
theorem dX6_product_41 : decode cX6_product 41 = .ok (.aload_n 0, 1) := by decide +kernel
theorem dX6_product_42 : decode cX6_product 42 = .ok (.getfield 32, 3) := by decide +kernel
theorem dX6_product_45 : decode cX6_product 45 = .ok (.bipush (-12), 2) := by decide +kernel
theorem dX6_product_47 : decode cX6_product 47 = .ok (.invokevirtual 305, 3) := by decide +kernel
theorem dX6_product_50 : decode cX6_product 50 = .ok (.iinc 3 1, 3) := by decide +kernel
theorem dX6_product_53 : decode cX6_product 53 = .ok (.goto (-45), 3) := by decide +kernel
theorem dX6_product_56 : decode cX6_product 56 = .ok (.iload_n 2, 1) := by decide +kernel
theorem dX6_product_57 : decode cX6_product 57 = .ok (.ireturn, 1) := by decide +kernel
theorem dX6_factor_0 : decode cX6_factor 0 = .ok (.aload_n 0, 1) := by decide +kernel
theorem dX6_factor_1 : decode cX6_factor 1 = .ok (.bipush 40, 2) := by decide +kernel
theorem dX6_factor_3 : decode cX6_factor 3 = .ok (.invokevirtual 92, 3) := by decide +kernel
theorem dX6_factor_6 : decode cX6_factor 6 = .ok (.istore_n 2, 1) := by decide +kernel
theorem dX6_factor_7 : decode cX6_factor 7 = .ok (.aload_n 0, 1) := by decide +kernel
theorem dX6_factor_8 : decode cX6_factor 8 = .ok (.getfield 18, 3) := by decide +kernel
theorem dX6_factor_11 : decode cX6_factor 11 = .ok (.getfield 102, 3) := by decide +kernel
theorem dX6_factor_14 : decode cX6_factor 14 = .ok (.getstatic 321, 3) := by decide +kernel
theorem dX6_factor_17 : decode cX6_factor 17 = .ok (.if_acmp .ne 7, 3) := by decide +kernel
theorem dX6_factor_20 : decode cX6_factor 20 = .ok (.iconst 1, 1) := by decide +kernel
theorem dX6_factor_21 : decode cX6_factor 21 = .ok (.goto 4, 3) := by decide +kernel
theorem dX6_factor_24 : decode cX6_factor 24 = .ok (.iconst 0, 1) := by decide +kernel
theorem dX6_factor_25 : decode cX6_factor 25 = .ok (.istore_n 3, 1) := by decide +kernel
theorem dX6_factor_26 : decode cX6_factor 26 = .ok (.aload_n 0, 1) := by decide +kernel
theorem dX6_factor_27 : decode cX6_factor 27 = .ok (.getfield 18, 3) := by decide +kernel
theorem dX6_factor_30 : decode cX6_factor 30 = .ok (.getfield 78, 3) := by decide +kernel
theorem dX6_factor_33 : decode cX6_factor 33 = .ok (.iconst 3, 1) := by decide +kernel
theorem dX6_factor_34 : decode cX6_factor 34 = .ok (.if_icmp .ne 7, 3) := by decide +kernel
theorem dX6_factor_37 : decode cX6_factor 37 = .ok (.iconst 1, 1) := by decide +kernel
theorem dX6_factor_38 : decode cX6_factor 38 = .ok (.goto 4, 3) := by decide +kernel
theorem dX6_factor_41 : decode cX6_factor 41 = .ok (.iconst 0, 1) := by decide +kernel
theorem dX6_factor_42 : decode cX6_factor 42 = .ok (.istore 4, 2) := by decide +kernel
theorem dX6_factor_44 : decode cX6_factor 44 = .ok (.iload 4, 2) := by decide +kernel
theorem dX6_factor_46 : decode cX6_factor 46 = .ok (.ifCond .eq 14, 3) := by decide +kernel
theorem dX6_factor_49 : decode cX6_factor 49 = .ok (.aload_n 0, 1) := by decide +kernel
theorem dX6_factor_50 : decode cX6_factor 50 = .ok (.getfield 18, 3) := by decide +kernel
theorem dX6_factor_53 : decode cX6_factor 53 = .ok (.getfield 84, 3) := by decide +kernel
theorem dX6_factor_56 : decode cX6_factor 56 = .ok (.l2i, 1) := by decide +kernel
theorem dX6_factor_57 : decode cX6_factor 57 = .ok (.goto 7, 3) := by decide +kernel
theorem dX6_factor_60 : decode cX6_factor 60 = .ok (.aload_n 0, 1) := by decide +kernel
theorem dX6_factor_61 : decode cX6_factor 61 = .ok (.invokevirtual 324, 3) := by decide +kernel
theorem dX6_factor_64 : decode cX6_factor 64 = .ok (.istore 5, 2) := by decide +kernel
theorem dX6_factor_66 : decode cX6_factor 66 = .ok (.iload_n 2, 1) := by decide +kernel
theorem dX6_factor_67 : decode cX6_factor 67 = .ok (.ifCond .ne 25, 3) := by decide +kernel
theorem dX6_factor_70 : decode cX6_factor 70 = .ok (.iload_n 3, 1) := by decide +kernel
theorem dX6_factor_71 : decode cX6_factor 71 = .ok (.ifCond .ne 21, 3) := by decide +kernel
theorem dX6_factor_74 : decode cX6_factor 74 = .ok (.iload 4, 2) := by decide +kernel
theorem dX6_factor_76 : decode cX6_factor 76 = .ok (.ifCond .ne 16, 3) := by decide +kernel
theorem dX6_factor_79 : decode cX6_factor 79 = .ok (.iload 5, 2) := by decide +kernel
theorem dX6_factor_81 : decode cX6_factor 81 = .ok (.bipush (-13), 2) := by decide +kernel
theorem dX6_factor_83 : decode cX6_factor 83 = .ok (.if_icmp .ne 9, 3) := by decide +kernel
theorem dX6_factor_86 : decode cX6_factor 86 = .ok (.aload_n 0, 1) := by decide +kernel
theorem dX6_factor_87 : decode cX6_factor 87 = .ok (.iconst 1, 1) := by decide +kernel
theorem dX6_factor_88 : decode cX6_factor 88 = .ok (.invokevirtual 95, 3) := by decide +kernel
theorem dX6_factor_91 : decode cX6_factor 91 = .ok (.ireturn, 1) := by decide +kernel
theorem dX6_factor_92 : decode cX6_factor 92 = .ok (.iload_n 1, 1) := by decide +kernel
theorem dX6_factor_93 : decode cX6_factor 93 = .ok (.iconst 5, 1) := by decide +kernel
theorem dX6_factor_94 : decode cX6_factor 94 = .ok (.if_icmp .lt 9, 3) := by decide +kernel
theorem dX6_factor_97 : decode cX6_factor 97 = .ok (.aload_n 0, 1) := by decide +kernel
theorem dX6_factor_98 : decode cX6_factor 98 = .ok (.iconst 5, 1) := by decide +kernel
theorem dX6_factor_99 : decode cX6_factor 99 = .ok (.invokevirtual 95, 3) := by decide +kernel
theorem dX6_factor_102 : decode cX6_factor 102 = .ok (.ireturn, 1) := by decide +kernel
theorem dX6_factor_103 : decode cX6_factor 103 = .ok (.aload_n 0, 1) := by decide +kernel
theorem dX6_factor_104 : decode cX6_factor 104 = .ok (.getfield 18, 3) := by decide +kernel
theorem dX6_factor_107 : decode cX6_factor 107 = .ok (.invokevirtual 99, 3) := by decide +kernel
theorem dX6_factor_110 : decode cX6_factor 110 = .ok (.iload_n 2, 1) := by decide +kernel
theorem dX6_factor_111 : decode cX6_factor 111 = .ok (.ifCond .eq 28, 3) := by decide +kernel
theorem dX6_factor_114 : decode cX6_factor 114 = .ok (.aload_n 0, 1) := by decide +kernel
theorem dX6_factor_115 : decode cX6_factor 115 = .ok (.iload_n 1, 1) := by decide +kernel
theorem dX6_factor_116 : decode cX6_factor 116 = .ok (.iconst 1, 1) := by decide +kernel
theorem dX6_factor_117 : decode cX6_factor 117 = .ok (.iadd, 1) := by decide +kernel
theorem dX6_factor_118 : decode cX6_factor 118 = .ok (.invokevirtual 293, 3) := by decide +kernel
theorem dX6_factor_121 : decode cX6_factor 121 = .ok (.ifCond .eq 16, 3) := by decide +kernel
theorem dX6_factor_124 : decode cX6_factor 124 = .ok (.aload_n 0, 1) := by decide +kernel
theorem dX6_factor_125 : decode cX6_factor 125 = .ok (.bipush 41, 2) := by decide +kernel
theorem dX6_factor_127 : decode cX6_factor 127 = .ok (.invokevirtual 88, 3) := by decide +kernel
theorem dX6_factor_130 : decode cX6_factor 130 = .ok (.ifCond .eq 7, 3) := by decide +kernel
theorem dX6_factor_133 : decode cX6_factor 133 = .ok (.iconst 1, 1) := by decide +kernel
theorem dX6_factor_134 : decode cX6_factor 134 = .ok (.goto 4, 3) := by decide +kernel
theorem dX6_factor_137 : decode cX6_factor 137 = .ok (.iconst 0, 1) := by decide +kernel
theorem dX6_factor_138 : decode cX6_factor 138 = .ok (.ireturn, 1) := by decide +kernel
theorem dX6_factor_139 : decode cX6_factor 139 = .ok (.iload_n 3, 1) := by decide +kernel
theorem dX6_factor_140 : decode cX6_factor 140 = .ok (.ifCond .eq 24, 3) := by decide +kernel
theorem dX6_factor_143 : decode cX6_factor 143 = .ok (.aload_n 0, 1) := by decide +kernel
theorem dX6_factor_144 : decode cX6_factor 144 = .ok (.iload_n 1, 1) := by decide +kernel
theorem dX6_factor_145 : decode cX6_factor 145 = .ok (.iconst 1, 1) := by decide +kernel
theorem dX6_factor_146 : decode cX6_factor 146 = .ok (.iadd, 1) := by decide +kernel
theorem dX6_factor_147 : decode cX6_factor 147 = .ok (.invokevirtual 318, 3) := by decide +kernel
theorem dX6_factor_150 : decode cX6_factor 150 = .ok (.istore 6, 2) := by decide +kernel
theorem dX6_factor_152 : decode cX6_factor 152 = .ok (.aload_n 0, 1) := by decide +kernel
theorem dX6_factor_153 : decode cX6_factor 153 = .ok (.getfield 32, 3) := by decide +kernel
theorem dX6_factor_156 : decode cX6_factor 156 = .ok (.bipush (-5), 2) := by decide +kernel
theorem dX6_factor_158 : decode cX6_factor 158 = .ok (.invokevirtual 305, 3) := by decide +kernel
theorem dX6_factor_161 : decode cX6_factor 161 = .ok (.iload 6, 2) := by decide +kernel
theorem dX6_factor_163 : decode cX6_factor 163 = .ok (.ireturn, 1) := by decide +kernel
theorem dX6_factor_164 : decode cX6_factor 164 = .ok (.aload_n 0, 1) := by decide +kernel
theorem dX6_factor_165 : decode cX6_factor 165 = .ok (.getfield 32, 3) := by decide +kernel
theorem dX6_factor_168 : decode cX6_factor 168 = .ok (.iload 5, 2) := by decide +kernel
theorem dX6_factor_170 : decode cX6_factor 170 = .ok (.invokevirtual 305, 3) := by decide +kernel
theorem dX6_factor_173 : decode cX6_factor 173 = .ok (.iconst 1, 1) := by decide +kernel
theorem dX6_factor_174 : decode cX6_factor 174 = .ok (.ireturn, 1) := by decide +kernel
theorem dX6_factStep_0 : decode cX6_factStep 0 = .ok (.aload_n 0, 1) := by decide +kernel
theorem dX6_factStep_1 : decode cX6_factStep 1 = .ok (.getfield 18, 3) := by decide +kernel
theorem dX6_factStep_4 : decode cX6_factStep 4 = .ok (.getfield 102, 3) := by decide +kernel
theorem dX6_factStep_7 : decode cX6_factStep 7 = .ok (.ifnonnull 6, 3) := by decide +kernel
theorem dX6_factStep_10 : decode cX6_factStep 10 = .ok (.bipush (-13), 2) := by decide +kernel
theorem dX6_factStep_12 : decode cX6_factStep 12 = .ok (.ireturn, 1) := by decide +kernel
theorem dX6_factStep_13 : decode cX6_factStep 13 = .ok (.getstatic 130, 3) := by decide +kernel
theorem dX6_factStep_16 : decode cX6_factStep 16 = .ok (.aload_n 0, 1) := by decide +kernel
theorem dX6_factStep_17 : decode cX6_factStep 17 = .ok (.getfield 18, 3) := by decide +kernel
theorem dX6_factStep_20 : decode cX6_factStep 20 = .ok (.getfield 102, 3) := by decide +kernel
theorem dX6_factStep_23 : decode cX6_factStep 23 = .ok (.invokevirtual 135, 3) := by decide +kernel
theorem dX6_factStep_26 : decode cX6_factStep 26 = .ok (.iaload, 1) := by decide +kernel
theorem dX6_factStep_27 : decode cX6_factStep 27 = .ok (.tableswitch 64 7 10 #[29, 31, 34, 49], 29) := by decide +kernel
theorem dX6_factStep_56 : decode cX6_factStep 56 = .ok (.iconst (-1), 1) := by decide +kernel
theorem dX6_factStep_57 : decode cX6_factStep 57 = .ok (.ireturn, 1) := by decide +kernel
theorem dX6_factStep_58 : decode cX6_factStep 58 = .ok (.bipush (-2), 2) := by decide +kernel
theorem dX6_factStep_60 : decode cX6_factStep 60 = .ok (.ireturn, 1) := by decide +kernel
theorem dX6_factStep_61 : decode cX6_factStep 61 = .ok (.aload_n 0, 1) := by decide +kernel
theorem dX6_factStep_62 : decode cX6_factStep 62 = .ok (.getfield 284, 3) := by decide +kernel
theorem dX6_factStep_65 : decode cX6_factStep 65 = .ok (.ifCond .eq 8, 3) := by decide +kernel
theorem dX6_factStep_68 : decode cX6_factStep 68 = .ok (.bipush (-3), 2) := by decide +kernel
theorem dX6_factStep_70 : decode cX6_factStep 70 = .ok (.goto 5, 3) := by decide +kernel
theorem dX6_factStep_73 : decode cX6_factStep 73 = .ok (.bipush (-13), 2) := by decide +kernel
theorem dX6_factStep_75 : decode cX6_factStep 75 = .ok (.ireturn, 1) := by decide +kernel
theorem dX6_factStep_76 : decode cX6_factStep 76 = .ok (.aload_n 0, 1) := by decide +kernel
theorem dX6_factStep_77 : decode cX6_factStep 77 = .ok (.getfield 284, 3) := by decide +kernel
theorem dX6_factStep_80 : decode cX6_factStep 80 = .ok (.ifCond .eq 8, 3) := by decide +kernel
theorem dX6_factStep_83 : decode cX6_factStep 83 = .ok (.bipush (-4), 2) := by decide +kernel
theorem dX6_factStep_85 : decode cX6_factStep 85 = .ok (.goto 5, 3) := by decide +kernel
theorem dX6_factStep_88 : decode cX6_factStep 88 = .ok (.bipush (-13), 2) := by decide +kernel
theorem dX6_factStep_90 : decode cX6_factStep 90 = .ok (.ireturn, 1) := by decide +kernel
theorem dX6_factStep_91 : decode cX6_factStep 91 = .ok (.bipush (-13), 2) := by decide +kernel
theorem dX6_factStep_93 : decode cX6_factStep 93 = .ok (.ireturn, 1) := by decide +kernel
theorem dX6_vowLine_0 : decode cX6_vowLine 0 = .ok (.aload_n 0, 1) := by decide +kernel
theorem dX6_vowLine_1 : decode cX6_vowLine 1 = .ok (.getfield 18, 3) := by decide +kernel
theorem dX6_vowLine_4 : decode cX6_vowLine 4 = .ok (.getfield 102, 3) := by decide +kernel
theorem dX6_vowLine_7 : decode cX6_vowLine 7 = .ok (.getstatic 327, 3) := by decide +kernel
theorem dX6_vowLine_10 : decode cX6_vowLine 10 = .ok (.if_acmp .ne 7, 3) := by decide +kernel
theorem dX6_vowLine_13 : decode cX6_vowLine 13 = .ok (.iconst 1, 1) := by decide +kernel
theorem dX6_vowLine_14 : decode cX6_vowLine 14 = .ok (.goto 4, 3) := by decide +kernel
theorem dX6_vowLine_17 : decode cX6_vowLine 17 = .ok (.iconst 0, 1) := by decide +kernel
theorem dX6_vowLine_18 : decode cX6_vowLine 18 = .ok (.istore_n 1, 1) := by decide +kernel
theorem dX6_vowLine_19 : decode cX6_vowLine 19 = .ok (.aload_n 0, 1) := by decide +kernel
theorem dX6_vowLine_20 : decode cX6_vowLine 20 = .ok (.getfield 18, 3) := by decide +kernel
theorem dX6_vowLine_23 : decode cX6_vowLine 23 = .ok (.getfield 102, 3) := by decide +kernel
theorem dX6_vowLine_26 : decode cX6_vowLine 26 = .ok (.getstatic 330, 3) := by decide +kernel
theorem dX6_vowLine_29 : decode cX6_vowLine 29 = .ok (.if_acmp .ne 7, 3) := by decide +kernel
theorem dX6_vowLine_32 : decode cX6_vowLine 32 = .ok (.iconst 1, 1) := by decide +kernel
theorem dX6_vowLine_33 : decode cX6_vowLine 33 = .ok (.goto 4, 3) := by decide +kernel
theorem dX6_vowLine_36 : decode cX6_vowLine 36 = .ok (.iconst 0, 1) := by decide +kernel
theorem dX6_vowLine_37 : decode cX6_vowLine 37 = .ok (.istore_n 2, 1) := by decide +kernel
theorem dX6_vowLine_38 : decode cX6_vowLine 38 = .ok (.iload_n 1, 1) := by decide +kernel
theorem dX6_vowLine_39 : decode cX6_vowLine 39 = .ok (.ifCond .ne 26, 3) := by decide +kernel
theorem dX6_vowLine_42 : decode cX6_vowLine 42 = .ok (.iload_n 2, 1) := by decide +kernel
theorem dX6_vowLine_43 : decode cX6_vowLine 43 = .ok (.ifCond .ne 22, 3) := by decide +kernel
theorem dX6_vowLine_46 : decode cX6_vowLine 46 = .ok (.aload_n 0, 1) := by decide +kernel
theorem dX6_vowLine_47 : decode cX6_vowLine 47 = .ok (.getfield 18, 3) := by decide +kernel
theorem dX6_vowLine_50 : decode cX6_vowLine 50 = .ok (.getfield 102, 3) := by decide +kernel
theorem dX6_vowLine_53 : decode cX6_vowLine 53 = .ok (.getstatic 333, 3) := by decide +kernel
theorem dX6_vowLine_56 : decode cX6_vowLine 56 = .ok (.if_acmp .eq 9, 3) := by decide +kernel
theorem dX6_vowLine_59 : decode cX6_vowLine 59 = .ok (.aload_n 0, 1) := by decide +kernel
theorem dX6_vowLine_60 : decode cX6_vowLine 60 = .ok (.iconst 1, 1) := by decide +kernel
theorem dX6_vowLine_61 : decode cX6_vowLine 61 = .ok (.invokevirtual 95, 3) := by decide +kernel
theorem dX6_vowLine_64 : decode cX6_vowLine 64 = .ok (.ireturn, 1) := by decide +kernel
theorem dX6_vowLine_65 : decode cX6_vowLine 65 = .ok (.aload_n 0, 1) := by decide +kernel
theorem dX6_vowLine_66 : decode cX6_vowLine 66 = .ok (.getfield 62, 3) := by decide +kernel
theorem dX6_vowLine_69 : decode cX6_vowLine 69 = .ok (.bipush 24, 2) := by decide +kernel
theorem dX6_vowLine_71 : decode cX6_vowLine 71 = .ok (.if_icmp .lt 9, 3) := by decide +kernel
theorem dX6_vowLine_74 : decode cX6_vowLine 74 = .ok (.aload_n 0, 1) := by decide +kernel
theorem dX6_vowLine_75 : decode cX6_vowLine 75 = .ok (.iconst 5, 1) := by decide +kernel
theorem dX6_vowLine_76 : decode cX6_vowLine 76 = .ok (.invokevirtual 95, 3) := by decide +kernel
theorem dX6_vowLine_79 : decode cX6_vowLine 79 = .ok (.ireturn, 1) := by decide +kernel
theorem dX6_vowLine_80 : decode cX6_vowLine 80 = .ok (.aload_n 0, 1) := by decide +kernel
theorem dX6_vowLine_81 : decode cX6_vowLine 81 = .ok (.getfield 18, 3) := by decide +kernel
theorem dX6_vowLine_84 : decode cX6_vowLine 84 = .ok (.invokevirtual 99, 3) := by decide +kernel
theorem dX6_vowLine_87 : decode cX6_vowLine 87 = .ok (.iconst 2, 1) := by decide +kernel
theorem dX6_vowLine_88 : decode cX6_vowLine 88 = .ok (.iconst 0, 1) := by decide +kernel
theorem dX6_vowLine_89 : decode cX6_vowLine 89 = .ok (.iconst 0, 1) := by decide +kernel
theorem dX6_vowLine_90 : decode cX6_vowLine 90 = .ok (.invokestatic 336, 3) := by decide +kernel
theorem dX6_vowLine_93 : decode cX6_vowLine 93 = .ok (.istore_n 3, 1) := by decide +kernel
theorem dX6_vowLine_94 : decode cX6_vowLine 94 = .ok (.iload_n 1, 1) := by decide +kernel
theorem dX6_vowLine_95 : decode cX6_vowLine 95 = .ok (.ifCond .ne 7, 3) := by decide +kernel
theorem dX6_vowLine_98 : decode cX6_vowLine 98 = .ok (.iload_n 2, 1) := by decide +kernel
theorem dX6_vowLine_99 : decode cX6_vowLine 99 = .ok (.ifCond .eq 42, 3) := by decide +kernel
theorem dX6_vowLine_102 : decode cX6_vowLine 102 = .ok (.aload_n 0, 1) := by decide +kernel
theorem dX6_vowLine_103 : decode cX6_vowLine 103 = .ok (.invokevirtual 248, 3) := by decide +kernel
theorem dX6_vowLine_106 : decode cX6_vowLine 106 = .ok (.ifCond .ne 5, 3) := by decide +kernel
theorem dX6_vowLine_109 : decode cX6_vowLine 109 = .ok (.iconst 0, 1) := by decide +kernel
theorem dX6_vowLine_110 : decode cX6_vowLine 110 = .ok (.ireturn, 1) := by decide +kernel
theorem dX6_vowLine_111 : decode cX6_vowLine 111 = .ok (.iconst 1, 1) := by decide +kernel
theorem dX6_vowLine_112 : decode cX6_vowLine 112 = .ok (.aload_n 0, 1) := by decide +kernel
theorem dX6_vowLine_113 : decode cX6_vowLine 113 = .ok (.getfield 106, 3) := by decide +kernel
theorem dX6_vowLine_116 : decode cX6_vowLine 116 = .ok (.iconst 0, 1) := by decide +kernel
theorem dX6_vowLine_117 : decode cX6_vowLine 117 = .ok (.invokestatic 336, 3) := by decide +kernel
theorem dX6_vowLine_120 : decode cX6_vowLine 120 = .ok (.istore_n 3, 1) := by decide +kernel
theorem dX6_vowLine_121 : decode cX6_vowLine 121 = .ok (.aload_n 0, 1) := by decide +kernel
theorem dX6_vowLine_122 : decode cX6_vowLine 122 = .ok (.getfield 18, 3) := by decide +kernel
theorem dX6_vowLine_125 : decode cX6_vowLine 125 = .ok (.invokevirtual 99, 3) := by decide +kernel
theorem dX6_vowLine_128 : decode cX6_vowLine 128 = .ok (.iload_n 1, 1) := by decide +kernel
theorem dX6_vowLine_129 : decode cX6_vowLine 129 = .ok (.ifCond .eq 12, 3) := by decide +kernel
theorem dX6_vowLine_132 : decode cX6_vowLine 132 = .ok (.aload_n 0, 1) := by decide +kernel
theorem dX6_vowLine_133 : decode cX6_vowLine 133 = .ok (.aload_n 0, 1) := by decide +kernel
theorem dX6_vowLine_134 : decode cX6_vowLine 134 = .ok (.getfield 106, 3) := by decide +kernel
theorem dX6_vowLine_137 : decode cX6_vowLine 137 = .ok (.invokevirtual 340, 3) := by decide +kernel
theorem dX6_vowLine_140 : decode cX6_vowLine 140 = .ok (.istore_n 3, 1) := by decide +kernel
theorem dX6_vowLine_141 : decode cX6_vowLine 141 = .ok (.aload_n 0, 1) := by decide +kernel
theorem dX6_vowLine_142 : decode cX6_vowLine 142 = .ok (.getfield 9, 3) := by decide +kernel
theorem dX6_vowLine_145 : decode cX6_vowLine 145 = .ok (.aload_n 0, 1) := by decide +kernel
theorem dX6_vowLine_146 : decode cX6_vowLine 146 = .ok (.getfield 62, 3) := by decide +kernel
theorem dX6_vowLine_149 : decode cX6_vowLine 149 = .ok (.iload_n 3, 1) := by decide +kernel
theorem dX6_vowLine_150 : decode cX6_vowLine 150 = .ok (.iastore, 1) := by decide +kernel
theorem dX6_vowLine_151 : decode cX6_vowLine 151 = .ok (.aload_n 0, 1) := by decide +kernel
theorem dX6_vowLine_152 : decode cX6_vowLine 152 = .ok (.dup, 1) := by decide +kernel
theorem dX6_vowLine_153 : decode cX6_vowLine 153 = .ok (.getfield 62, 3) := by decide +kernel
theorem dX6_vowLine_156 : decode cX6_vowLine 156 = .ok (.iconst 1, 1) := by decide +kernel
theorem dX6_vowLine_157 : decode cX6_vowLine 157 = .ok (.iadd, 1) := by decide +kernel
theorem dX6_vowLine_158 : decode cX6_vowLine 158 = .ok (.putfield 62, 3) := by decide +kernel
theorem dX6_vowLine_161 : decode cX6_vowLine 161 = .ok (.aload_n 0, 1) := by decide +kernel
theorem dX6_vowLine_162 : decode cX6_vowLine 162 = .ok (.getfield 56, 3) := by decide +kernel
theorem dX6_vowLine_165 : decode cX6_vowLine 165 = .ok (.ifCond .ne 7, 3) := by decide +kernel
theorem dX6_vowLine_168 : decode cX6_vowLine 168 = .ok (.iconst 1, 1) := by decide +kernel
theorem dX6_vowLine_169 : decode cX6_vowLine 169 = .ok (.goto 4, 3) := by decide +kernel
theorem dX6_vowLine_172 : decode cX6_vowLine 172 = .ok (.iconst 0, 1) := by decide +kernel
theorem dX6_vowLine_173 : decode cX6_vowLine 173 = .ok (.ireturn, 1) := by decide +kernel
theorem dX6_weddingLine_0 : decode cX6_weddingLine 0 = .ok (.aload_n 0, 1) := by decide +kernel
theorem dX6_weddingLine_1 : decode cX6_weddingLine 1 = .ok (.invokevirtual 248, 3) := by decide +kernel
theorem dX6_weddingLine_4 : decode cX6_weddingLine 4 = .ok (.ifCond .ne 5, 3) := by decide +kernel
theorem dX6_weddingLine_7 : decode cX6_weddingLine 7 = .ok (.iconst 0, 1) := by decide +kernel
theorem dX6_weddingLine_8 : decode cX6_weddingLine 8 = .ok (.ireturn, 1) := by decide +kernel
theorem dX6_weddingLine_9 : decode cX6_weddingLine 9 = .ok (.aload_n 0, 1) := by decide +kernel
theorem dX6_weddingLine_10 : decode cX6_weddingLine 10 = .ok (.getfield 106, 3) := by decide +kernel
theorem dX6_weddingLine_13 : decode cX6_weddingLine 13 = .ok (.iload_n 1, 1) := by decide +kernel
theorem dX6_weddingLine_14 : decode cX6_weddingLine 14 = .ok (.if_icmp .ne 11, 3) := by decide +kernel
theorem dX6_weddingLine_17 : decode cX6_weddingLine 17 = .ok (.aload_n 0, 1) := by decide +kernel
theorem dX6_weddingLine_18 : decode cX6_weddingLine 18 = .ok (.iconst 3, 1) := by decide +kernel
theorem dX6_weddingLine_19 : decode cX6_weddingLine 19 = .ok (.invokevirtual 95, 3) := by decide +kernel
theorem dX6_weddingLine_22 : decode cX6_weddingLine 22 = .ok (.pop, 1) := by decide +kernel
theorem dX6_weddingLine_23 : decode cX6_weddingLine 23 = .ok (.iconst 0, 1) := by decide +kernel
theorem dX6_weddingLine_24 : decode cX6_weddingLine 24 = .ok (.ireturn, 1) := by decide +kernel
theorem dX6_weddingLine_25 : decode cX6_weddingLine 25 = .ok (.aload_n 0, 1) := by decide +kernel
theorem dX6_weddingLine_26 : decode cX6_weddingLine 26 = .ok (.getfield 18, 3) := by decide +kernel
theorem dX6_weddingLine_29 : decode cX6_weddingLine 29 = .ok (.invokevirtual 99, 3) := by decide +kernel
theorem dX6_weddingLine_32 : decode cX6_weddingLine 32 = .ok (.iconst 0, 1) := by decide +kernel
theorem dX6_weddingLine_33 : decode cX6_weddingLine 33 = .ok (.iload_n 1, 1) := by decide +kernel
theorem dX6_weddingLine_34 : decode cX6_weddingLine 34 = .ok (.aload_n 0, 1) := by decide +kernel
theorem dX6_weddingLine_35 : decode cX6_weddingLine 35 = .ok (.getfield 106, 3) := by decide +kernel
theorem dX6_weddingLine_38 : decode cX6_weddingLine 38 = .ok (.invokestatic 336, 3) := by decide +kernel
theorem dX6_weddingLine_41 : decode cX6_weddingLine 41 = .ok (.ireturn, 1) := by decide +kernel
theorem dX6_heirLine_0 : decode cX6_heirLine 0 = .ok (.aload_n 0, 1) := by decide +kernel
theorem dX6_heirLine_1 : decode cX6_heirLine 1 = .ok (.getfield 18, 3) := by decide +kernel
theorem dX6_heirLine_4 : decode cX6_heirLine 4 = .ok (.getfield 102, 3) := by decide +kernel
theorem dX6_heirLine_7 : decode cX6_heirLine 7 = .ok (.getstatic 344, 3) := by decide +kernel
theorem dX6_heirLine_10 : decode cX6_heirLine 10 = .ok (.if_acmp .eq 9, 3) := by decide +kernel
theorem dX6_heirLine_13 : decode cX6_heirLine 13 = .ok (.aload_n 0, 1) := by decide +kernel
theorem dX6_heirLine_14 : decode cX6_heirLine 14 = .ok (.iconst 1, 1) := by decide +kernel
theorem dX6_heirLine_15 : decode cX6_heirLine 15 = .ok (.invokevirtual 95, 3) := by decide +kernel
theorem dX6_heirLine_18 : decode cX6_heirLine 18 = .ok (.ireturn, 1) := by decide +kernel
theorem dX6_heirLine_19 : decode cX6_heirLine 19 = .ok (.aload_n 0, 1) := by decide +kernel
theorem dX6_heirLine_20 : decode cX6_heirLine 20 = .ok (.getfield 68, 3) := by decide +kernel
theorem dX6_heirLine_23 : decode cX6_heirLine 23 = .ok (.bipush 6, 2) := by decide +kernel
theorem dX6_heirLine_25 : decode cX6_heirLine 25 = .ok (.if_icmp .lt 9, 3) := by decide +kernel
theorem dX6_heirLine_28 : decode cX6_heirLine 28 = .ok (.aload_n 0, 1) := by decide +kernel
theorem dX6_heirLine_29 : decode cX6_heirLine 29 = .ok (.iconst 5, 1) := by decide +kernel
theorem dX6_heirLine_30 : decode cX6_heirLine 30 = .ok (.invokevirtual 95, 3) := by decide +kernel
theorem dX6_heirLine_33 : decode cX6_heirLine 33 = .ok (.ireturn, 1) := by decide +kernel
theorem dX6_heirLine_34 : decode cX6_heirLine 34 = .ok (.aload_n 0, 1) := by decide +kernel
theorem dX6_heirLine_35 : decode cX6_heirLine 35 = .ok (.getfield 18, 3) := by decide +kernel
theorem dX6_heirLine_38 : decode cX6_heirLine 38 = .ok (.invokevirtual 99, 3) := by decide +kernel
theorem dX6_heirLine_41 : decode cX6_heirLine 41 = .ok (.aload_n 0, 1) := by decide +kernel
theorem dX6_heirLine_42 : decode cX6_heirLine 42 = .ok (.iconst 0, 1) := by decide +kernel
theorem dX6_heirLine_43 : decode cX6_heirLine 43 = .ok (.bipush 99, 2) := by decide +kernel
theorem dX6_heirLine_45 : decode cX6_heirLine 45 = .ok (.invokevirtual 218, 3) := by decide +kernel
theorem dX6_heirLine_48 : decode cX6_heirLine 48 = .ok (.ifCond .ne 5, 3) := by decide +kernel
theorem dX6_heirLine_51 : decode cX6_heirLine 51 = .ok (.iconst 0, 1) := by decide +kernel
theorem dX6_heirLine_52 : decode cX6_heirLine 52 = .ok (.ireturn, 1) := by decide +kernel
theorem dX6_heirLine_53 : decode cX6_heirLine 53 = .ok (.aload_n 0, 1) := by decide +kernel
theorem dX6_heirLine_54 : decode cX6_heirLine 54 = .ok (.getfield 15, 3) := by decide +kernel
theorem dX6_heirLine_57 : decode cX6_heirLine 57 = .ok (.aload_n 0, 1) := by decide +kernel
theorem dX6_heirLine_58 : decode cX6_heirLine 58 = .ok (.getfield 68, 3) := by decide +kernel
theorem dX6_heirLine_61 : decode cX6_heirLine 61 = .ok (.aload_n 0, 1) := by decide +kernel
theorem dX6_heirLine_62 : decode cX6_heirLine 62 = .ok (.getfield 106, 3) := by decide +kernel
theorem dX6_heirLine_65 : decode cX6_heirLine 65 = .ok (.iastore, 1) := by decide +kernel
theorem dX6_heirLine_66 : decode cX6_heirLine 66 = .ok (.aload_n 0, 1) := by decide +kernel
theorem dX6_heirLine_67 : decode cX6_heirLine 67 = .ok (.dup, 1) := by decide +kernel
theorem dX6_heirLine_68 : decode cX6_heirLine 68 = .ok (.getfield 68, 3) := by decide +kernel
theorem dX6_heirLine_71 : decode cX6_heirLine 71 = .ok (.iconst 1, 1) := by decide +kernel
theorem dX6_heirLine_72 : decode cX6_heirLine 72 = .ok (.iadd, 1) := by decide +kernel
theorem dX6_heirLine_73 : decode cX6_heirLine 73 = .ok (.putfield 68, 3) := by decide +kernel
theorem dX6_heirLine_76 : decode cX6_heirLine 76 = .ok (.iconst 1, 1) := by decide +kernel
theorem dX6_heirLine_77 : decode cX6_heirLine 77 = .ok (.ireturn, 1) := by decide +kernel
theorem dX7_clear_0 : decode cX7_clear 0 = .ok (.aload_n 0, 1) := by decide +kernel
theorem dX7_clear_1 : decode cX7_clear 1 = .ok (.iconst (-1), 1) := by decide +kernel
theorem dX7_clear_2 : decode cX7_clear 2 = .ok (.putfield 15, 3) := by decide +kernel
theorem dX7_clear_5 : decode cX7_clear 5 = .ok (.aload_n 0, 1) := by decide +kernel
theorem dX7_clear_6 : decode cX7_clear 6 = .ok (.iconst (-1), 1) := by decide +kernel
theorem dX7_clear_7 : decode cX7_clear 7 = .ok (.putfield 19, 3) := by decide +kernel
theorem dX7_clear_10 : decode cX7_clear 10 = .ok (.aload_n 0, 1) := by decide +kernel
theorem dX7_clear_11 : decode cX7_clear 11 = .ok (.iconst (-1), 1) := by decide +kernel
theorem dX7_clear_12 : decode cX7_clear 12 = .ok (.putfield 22, 3) := by decide +kernel
theorem dX7_clear_15 : decode cX7_clear 15 = .ok (.return_, 1) := by decide +kernel
theorem dX8_put_0 : decode cX8_put 0 = .ok (.iload_n 1, 1) := by decide +kernel
theorem dX8_put_1 : decode cX8_put 1 = .ok (.bipush 10, 2) := by decide +kernel
theorem dX8_put_3 : decode cX8_put 3 = .ok (.if_icmp .eq 15, 3) := by decide +kernel
theorem dX8_put_6 : decode cX8_put 6 = .ok (.iload_n 1, 1) := by decide +kernel
theorem dX8_put_7 : decode cX8_put 7 = .ok (.bipush 32, 2) := by decide +kernel
theorem dX8_put_9 : decode cX8_put 9 = .ok (.if_icmp .lt 13, 3) := by decide +kernel
theorem dX8_put_12 : decode cX8_put 12 = .ok (.iload_n 1, 1) := by decide +kernel
theorem dX8_put_13 : decode cX8_put 13 = .ok (.bipush 126, 2) := by decide +kernel
theorem dX8_put_15 : decode cX8_put 15 = .ok (.if_icmp .gt 7, 3) := by decide +kernel
theorem dX8_put_18 : decode cX8_put 18 = .ok (.iconst 1, 1) := by decide +kernel
theorem dX8_put_19 : decode cX8_put 19 = .ok (.goto 4, 3) := by decide +kernel
theorem dX8_put_22 : decode cX8_put 22 = .ok (.iconst 0, 1) := by decide +kernel
theorem dX8_put_23 : decode cX8_put 23 = .ok (.istore_n 2, 1) := by decide +kernel
theorem dX8_put_24 : decode cX8_put 24 = .ok (.iload_n 2, 1) := by decide +kernel
theorem dX8_put_25 : decode cX8_put 25 = .ok (.ifCond .eq 34, 3) := by decide +kernel
theorem dX8_put_28 : decode cX8_put 28 = .ok (.aload_n 0, 1) := by decide +kernel
theorem dX8_put_29 : decode cX8_put 29 = .ok (.getfield 26, 3) := by decide +kernel
theorem dX8_put_32 : decode cX8_put 32 = .ok (.sipush 1000, 3) := by decide +kernel
theorem dX8_put_35 : decode cX8_put 35 = .ok (.if_icmp .ge 24, 3) := by decide +kernel
theorem dX8_put_38 : decode cX8_put 38 = .ok (.aload_n 0, 1) := by decide +kernel
theorem dX8_put_39 : decode cX8_put 39 = .ok (.getfield 9, 3) := by decide +kernel
theorem dX8_put_42 : decode cX8_put 42 = .ok (.aload_n 0, 1) := by decide +kernel
theorem dX8_put_43 : decode cX8_put 43 = .ok (.getfield 26, 3) := by decide +kernel
theorem dX8_put_46 : decode cX8_put 46 = .ok (.iload_n 1, 1) := by decide +kernel
theorem dX8_put_47 : decode cX8_put 47 = .ok (.i2c, 1) := by decide +kernel
theorem dX8_put_48 : decode cX8_put 48 = .ok (.castore, 1) := by decide +kernel
theorem dX8_put_49 : decode cX8_put 49 = .ok (.aload_n 0, 1) := by decide +kernel
theorem dX8_put_50 : decode cX8_put 50 = .ok (.dup, 1) := by decide +kernel
theorem dX8_put_51 : decode cX8_put 51 = .ok (.getfield 26, 3) := by decide +kernel
theorem dX8_put_54 : decode cX8_put 54 = .ok (.iconst 1, 1) := by decide +kernel
theorem dX8_put_55 : decode cX8_put 55 = .ok (.iadd, 1) := by decide +kernel
theorem dX8_put_56 : decode cX8_put 56 = .ok (.putfield 26, 3) := by decide +kernel
theorem dX8_put_59 : decode cX8_put 59 = .ok (.return_, 1) := by decide +kernel
theorem dX8_empty_0 : decode cX8_empty 0 = .ok (.aload_n 0, 1) := by decide +kernel
theorem dX8_empty_1 : decode cX8_empty 1 = .ok (.iconst 0, 1) := by decide +kernel
theorem dX8_empty_2 : decode cX8_empty 2 = .ok (.putfield 26, 3) := by decide +kernel
theorem dX8_empty_5 : decode cX8_empty 5 = .ok (.return_, 1) := by decide +kernel
theorem dX8_begin_0 : decode cX8_begin 0 = .ok (.aload_n 0, 1) := by decide +kernel
theorem dX8_begin_1 : decode cX8_begin 1 = .ok (.iconst 0, 1) := by decide +kernel
theorem dX8_begin_2 : decode cX8_begin 2 = .ok (.putfield 30, 3) := by decide +kernel
theorem dX8_begin_5 : decode cX8_begin 5 = .ok (.iconst 0, 1) := by decide +kernel
theorem dX8_begin_6 : decode cX8_begin 6 = .ok (.istore_n 1, 1) := by decide +kernel
theorem dX8_begin_7 : decode cX8_begin 7 = .ok (.iconst 0, 1) := by decide +kernel
theorem dX8_begin_8 : decode cX8_begin 8 = .ok (.istore_n 2, 1) := by decide +kernel
theorem dX8_begin_9 : decode cX8_begin 9 = .ok (.iload_n 2, 1) := by decide +kernel
theorem dX8_begin_10 : decode cX8_begin 10 = .ok (.aload_n 0, 1) := by decide +kernel
theorem dX8_begin_11 : decode cX8_begin 11 = .ok (.getfield 26, 3) := by decide +kernel
theorem dX8_begin_14 : decode cX8_begin 14 = .ok (.if_icmp .ge 42, 3) := by decide +kernel
theorem dX8_begin_17 : decode cX8_begin 17 = .ok (.iload_n 2, 1) := by decide +kernel
theorem dX8_begin_18 : decode cX8_begin 18 = .ok (.iload_n 1, 1) := by decide +kernel
theorem dX8_begin_19 : decode cX8_begin 19 = .ok (.if_icmp .lt 31, 3) := by decide +kernel
theorem dX8_begin_22 : decode cX8_begin 22 = .ok (.aload_n 0, 1) := by decide +kernel
theorem dX8_begin_23 : decode cX8_begin 23 = .ok (.getfield 9, 3) := by decide +kernel
theorem dX8_begin_26 : decode cX8_begin 26 = .ok (.iload_n 2, 1) := by decide +kernel
theorem dX8_begin_27 : decode cX8_begin 27 = .ok (.caload, 1) := by decide +kernel
theorem dX8_begin_28 : decode cX8_begin 28 = .ok (.bipush 10, 2) := by decide +kernel
theorem dX8_begin_30 : decode cX8_begin 30 = .ok (.if_icmp .eq 20, 3) := by decide +kernel
theorem dX8_begin_33 : decode cX8_begin 33 = .ok (.aload_n 0, 1) := by decide +kernel
theorem dX8_begin_34 : decode cX8_begin 34 = .ok (.getfield 9, 3) := by decide +kernel
theorem dX8_begin_37 : decode cX8_begin 37 = .ok (.iload_n 2, 1) := by decide +kernel
theorem dX8_begin_38 : decode cX8_begin 38 = .ok (.caload, 1) := by decide +kernel
theorem dX8_begin_39 : decode cX8_begin 39 = .ok (.bipush 32, 2) := by decide +kernel
theorem dX8_begin_41 : decode cX8_begin 41 = .ok (.if_icmp .eq 9, 3) := by decide +kernel
theorem dX8_begin_44 : decode cX8_begin 44 = .ok (.aload_n 0, 1) := by decide +kernel
theorem dX8_begin_45 : decode cX8_begin 45 = .ok (.iload_n 2, 1) := by decide +kernel
theorem dX8_begin_46 : decode cX8_begin 46 = .ok (.invokevirtual 33, 3) := by decide +kernel
theorem dX8_begin_49 : decode cX8_begin 49 = .ok (.istore_n 1, 1) := by decide +kernel
theorem dX8_begin_50 : decode cX8_begin 50 = .ok (.iinc 2 1, 3) := by decide +kernel
theorem dX8_begin_53 : decode cX8_begin 53 = .ok (.goto (-44), 3) := by decide +kernel
theorem dX8_begin_56 : decode cX8_begin 56 = .ok (.aload_n 0, 1) := by decide +kernel
theorem dX8_begin_57 : decode cX8_begin 57 = .ok (.iconst 0, 1) := by decide +kernel
theorem dX8_begin_58 : decode cX8_begin 58 = .ok (.aload_n 0, 1) := by decide +kernel
theorem dX8_begin_59 : decode cX8_begin 59 = .ok (.getfield 26, 3) := by decide +kernel
theorem dX8_begin_62 : decode cX8_begin 62 = .ok (.lconst 0, 1) := by decide +kernel
theorem dX8_begin_63 : decode cX8_begin 63 = .ok (.invokevirtual 37, 3) := by decide +kernel
theorem dX8_begin_66 : decode cX8_begin 66 = .ok (.aload_n 0, 1) := by decide +kernel
theorem dX8_begin_67 : decode cX8_begin 67 = .ok (.iconst 0, 1) := by decide +kernel
theorem dX8_begin_68 : decode cX8_begin 68 = .ok (.putfield 41, 3) := by decide +kernel
theorem dX8_begin_71 : decode cX8_begin 71 = .ok (.aload_n 0, 1) := by decide +kernel
theorem dX8_begin_72 : decode cX8_begin 72 = .ok (.invokevirtual 44, 3) := by decide +kernel
theorem dX8_begin_75 : decode cX8_begin 75 = .ok (.return_, 1) := by decide +kernel
theorem dX8_advance_0 : decode cX8_advance 0 = .ok (.aload_n 0, 1) := by decide +kernel
theorem dX8_advance_1 : decode cX8_advance 1 = .ok (.aload_n 0, 1) := by decide +kernel
theorem dX8_advance_2 : decode cX8_advance 2 = .ok (.getfield 15, 3) := by decide +kernel
theorem dX8_advance_5 : decode cX8_advance 5 = .ok (.aload_n 0, 1) := by decide +kernel
theorem dX8_advance_6 : decode cX8_advance 6 = .ok (.getfield 41, 3) := by decide +kernel
theorem dX8_advance_9 : decode cX8_advance 9 = .ok (.iaload, 1) := by decide +kernel
theorem dX8_advance_10 : decode cX8_advance 10 = .ok (.putfield 47, 3) := by decide +kernel
theorem dX8_advance_13 : decode cX8_advance 13 = .ok (.aload_n 0, 1) := by decide +kernel
theorem dX8_advance_14 : decode cX8_advance 14 = .ok (.aload_n 0, 1) := by decide +kernel
theorem dX8_advance_15 : decode cX8_advance 15 = .ok (.getfield 19, 3) := by decide +kernel
theorem dX8_advance_18 : decode cX8_advance 18 = .ok (.aload_n 0, 1) := by decide +kernel
theorem dX8_advance_19 : decode cX8_advance 19 = .ok (.getfield 41, 3) := by decide +kernel
theorem dX8_advance_22 : decode cX8_advance 22 = .ok (.iaload, 1) := by decide +kernel
theorem dX8_advance_23 : decode cX8_advance 23 = .ok (.putfield 50, 3) := by decide +kernel
theorem dX8_advance_26 : decode cX8_advance 26 = .ok (.aload_n 0, 1) := by decide +kernel
theorem dX8_advance_27 : decode cX8_advance 27 = .ok (.aload_n 0, 1) := by decide +kernel
theorem dX8_advance_28 : decode cX8_advance 28 = .ok (.getfield 22, 3) := by decide +kernel
theorem dX8_advance_31 : decode cX8_advance 31 = .ok (.aload_n 0, 1) := by decide +kernel
theorem dX8_advance_32 : decode cX8_advance 32 = .ok (.getfield 41, 3) := by decide +kernel
theorem dX8_advance_35 : decode cX8_advance 35 = .ok (.laload, 1) := by decide +kernel
theorem dX8_advance_36 : decode cX8_advance 36 = .ok (.putfield 53, 3) := by decide +kernel
theorem dX8_advance_39 : decode cX8_advance 39 = .ok (.aload_n 0, 1) := by decide +kernel
theorem dX8_advance_40 : decode cX8_advance 40 = .ok (.iconst 0, 1) := by decide +kernel
theorem dX8_advance_41 : decode cX8_advance 41 = .ok (.putfield 57, 3) := by decide +kernel
theorem dX8_advance_44 : decode cX8_advance 44 = .ok (.iconst 0, 1) := by decide +kernel
theorem dX8_advance_45 : decode cX8_advance 45 = .ok (.istore_n 1, 1) := by decide +kernel
theorem dX8_advance_46 : decode cX8_advance 46 = .ok (.iload_n 1, 1) := by decide +kernel
theorem dX8_advance_47 : decode cX8_advance 47 = .ok (.bipush 8, 2) := by decide +kernel
theorem dX8_advance_49 : decode cX8_advance 49 = .ok (.if_icmp .ge 44, 3) := by decide +kernel
theorem dX8_advance_52 : decode cX8_advance 52 = .ok (.aload_n 0, 1) := by decide +kernel
theorem dX8_advance_53 : decode cX8_advance 53 = .ok (.getfield 47, 3) := by decide +kernel
theorem dX8_advance_56 : decode cX8_advance 56 = .ok (.iconst 2, 1) := by decide +kernel
theorem dX8_advance_57 : decode cX8_advance 57 = .ok (.if_icmp .ne 36, 3) := by decide +kernel
theorem dX8_advance_60 : decode cX8_advance 60 = .ok (.aload_n 0, 1) := by decide +kernel
theorem dX8_advance_61 : decode cX8_advance 61 = .ok (.dup, 1) := by decide +kernel
theorem dX8_advance_62 : decode cX8_advance 62 = .ok (.getfield 57, 3) := by decide +kernel
theorem dX8_advance_65 : decode cX8_advance 65 = .ok (.aload_n 0, 1) := by decide +kernel
theorem dX8_advance_66 : decode cX8_advance 66 = .ok (.getfield 53, 3) := by decide +kernel
theorem dX8_advance_69 : decode cX8_advance 69 = .ok (.iconst 5, 1) := by decide +kernel
theorem dX8_advance_70 : decode cX8_advance 70 = .ok (.iload_n 1, 1) := by decide +kernel
theorem dX8_advance_71 : decode cX8_advance 71 = .ok (.imul, 1) := by decide +kernel
theorem dX8_advance_72 : decode cX8_advance 72 = .ok (.lshr, 1) := by decide +kernel
theorem dX8_advance_73 : decode cX8_advance 73 = .ok (.lconst 0, 1) := by decide +kernel
theorem dX8_advance_74 : decode cX8_advance 74 = .ok (.lcmp, 1) := by decide +kernel
theorem dX8_advance_75 : decode cX8_advance 75 = .ok (.ifCond .le 7, 3) := by decide +kernel
theorem dX8_advance_78 : decode cX8_advance 78 = .ok (.iconst 1, 1) := by decide +kernel
theorem dX8_advance_79 : decode cX8_advance 79 = .ok (.goto 4, 3) := by decide +kernel
theorem dX8_advance_82 : decode cX8_advance 82 = .ok (.iconst 0, 1) := by decide +kernel
theorem dX8_advance_83 : decode cX8_advance 83 = .ok (.iadd, 1) := by decide +kernel
theorem dX8_advance_84 : decode cX8_advance 84 = .ok (.putfield 57, 3) := by decide +kernel
theorem dX8_advance_87 : decode cX8_advance 87 = .ok (.iinc 1 1, 3) := by decide +kernel
theorem dX8_advance_90 : decode cX8_advance 90 = .ok (.goto (-44), 3) := by decide +kernel
theorem dX8_advance_93 : decode cX8_advance 93 = .ok (.aload_n 0, 1) := by decide +kernel
theorem dX8_advance_94 : decode cX8_advance 94 = .ok (.aconst_null, 1) := by decide +kernel
theorem dX8_advance_95 : decode cX8_advance 95 = .ok (.putfield 60, 3) := by decide +kernel
theorem dX8_advance_98 : decode cX8_advance 98 = .ok (.iconst 0, 1) := by decide +kernel
theorem dX8_advance_99 : decode cX8_advance 99 = .ok (.istore_n 1, 1) := by decide +kernel
theorem dX8_advance_100 : decode cX8_advance 100 = .ok (.aload_n 0, 1) := by decide +kernel
theorem dX8_advance_101 : decode cX8_advance 101 = .ok (.getfield 47, 3) := by decide +kernel
theorem dX8_advance_104 : decode cX8_advance 104 = .ok (.iconst 2, 1) := by decide +kernel
theorem dX8_advance_105 : decode cX8_advance 105 = .ok (.if_icmp .ne 42, 3) := by decide +kernel
theorem dX8_advance_108 : decode cX8_advance 108 = .ok (.iload_n 1, 1) := by decide +kernel
theorem dX8_advance_109 : decode cX8_advance 109 = .ok (.getstatic 64, 3) := by decide +kernel
theorem dX8_advance_112 : decode cX8_advance 112 = .ok (.arraylength, 1) := by decide +kernel
theorem dX8_advance_113 : decode cX8_advance 113 = .ok (.if_icmp .ge 34, 3) := by decide +kernel
theorem dX8_advance_116 : decode cX8_advance 116 = .ok (.getstatic 64, 3) := by decide +kernel
theorem dX8_advance_119 : decode cX8_advance 119 = .ok (.iload_n 1, 1) := by decide +kernel
theorem dX8_advance_120 : decode cX8_advance 120 = .ok (.aaload, 1) := by decide +kernel
theorem dX8_advance_121 : decode cX8_advance 121 = .ok (.getfield 68, 3) := by decide +kernel
theorem dX8_advance_124 : decode cX8_advance 124 = .ok (.aload_n 0, 1) := by decide +kernel
theorem dX8_advance_125 : decode cX8_advance 125 = .ok (.getfield 53, 3) := by decide +kernel
theorem dX8_advance_128 : decode cX8_advance 128 = .ok (.lcmp, 1) := by decide +kernel
theorem dX8_advance_129 : decode cX8_advance 129 = .ok (.ifCond .ne 12, 3) := by decide +kernel
theorem dX8_advance_132 : decode cX8_advance 132 = .ok (.aload_n 0, 1) := by decide +kernel
theorem dX8_advance_133 : decode cX8_advance 133 = .ok (.getstatic 64, 3) := by decide +kernel
theorem dX8_advance_136 : decode cX8_advance 136 = .ok (.iload_n 1, 1) := by decide +kernel
theorem dX8_advance_137 : decode cX8_advance 137 = .ok (.aaload, 1) := by decide +kernel
theorem dX8_advance_138 : decode cX8_advance 138 = .ok (.putfield 60, 3) := by decide +kernel
theorem dX8_advance_141 : decode cX8_advance 141 = .ok (.iinc 1 1, 3) := by decide +kernel
theorem dX8_advance_144 : decode cX8_advance 144 = .ok (.goto (-44), 3) := by decide +kernel
theorem dX8_advance_147 : decode cX8_advance 147 = .ok (.aload_n 0, 1) := by decide +kernel
theorem dX8_advance_148 : decode cX8_advance 148 = .ok (.getfield 41, 3) := by decide +kernel
theorem dX8_advance_151 : decode cX8_advance 151 = .ok (.aload_n 0, 1) := by decide +kernel
theorem dX8_advance_152 : decode cX8_advance 152 = .ok (.getfield 30, 3) := by decide +kernel
theorem dX8_advance_155 : decode cX8_advance 155 = .ok (.iconst 1, 1) := by decide +kernel
theorem dX8_advance_156 : decode cX8_advance 156 = .ok (.isub, 1) := by decide +kernel
theorem dX8_advance_157 : decode cX8_advance 157 = .ok (.if_icmp .ge 13, 3) := by decide +kernel
theorem dX8_advance_160 : decode cX8_advance 160 = .ok (.aload_n 0, 1) := by decide +kernel
theorem dX8_advance_161 : decode cX8_advance 161 = .ok (.dup, 1) := by decide +kernel
theorem dX8_advance_162 : decode cX8_advance 162 = .ok (.getfield 41, 3) := by decide +kernel
theorem dX8_advance_165 : decode cX8_advance 165 = .ok (.iconst 1, 1) := by decide +kernel
theorem dX8_advance_166 : decode cX8_advance 166 = .ok (.iadd, 1) := by decide +kernel
theorem dX8_advance_167 : decode cX8_advance 167 = .ok (.putfield 41, 3) := by decide +kernel
theorem dX8_advance_170 : decode cX8_advance 170 = .ok (.return_, 1) := by decide +kernel
theorem dX8_keep_0 : decode cX8_keep 0 = .ok (.aload_n 0, 1) := by decide +kernel
theorem dX8_keep_1 : decode cX8_keep 1 = .ok (.getfield 30, 3) := by decide +kernel
theorem dX8_keep_4 : decode cX8_keep 4 = .ok (.sipush 1000, 3) := by decide +kernel
theorem dX8_keep_7 : decode cX8_keep 7 = .ok (.if_icmp .gt 43, 3) := by decide +kernel
theorem dX8_keep_10 : decode cX8_keep 10 = .ok (.aload_n 0, 1) := by decide +kernel
theorem dX8_keep_11 : decode cX8_keep 11 = .ok (.getfield 15, 3) := by decide +kernel
theorem dX8_keep_14 : decode cX8_keep 14 = .ok (.aload_n 0, 1) := by decide +kernel
theorem dX8_keep_15 : decode cX8_keep 15 = .ok (.getfield 30, 3) := by decide +kernel
theorem dX8_keep_18 : decode cX8_keep 18 = .ok (.iload_n 1, 1) := by decide +kernel
theorem dX8_keep_19 : decode cX8_keep 19 = .ok (.iastore, 1) := by decide +kernel
theorem dX8_keep_20 : decode cX8_keep 20 = .ok (.aload_n 0, 1) := by decide +kernel
theorem dX8_keep_21 : decode cX8_keep 21 = .ok (.getfield 19, 3) := by decide +kernel
theorem dX8_keep_24 : decode cX8_keep 24 = .ok (.aload_n 0, 1) := by decide +kernel
theorem dX8_keep_25 : decode cX8_keep 25 = .ok (.getfield 30, 3) := by decide +kernel
theorem dX8_keep_28 : decode cX8_keep 28 = .ok (.iload_n 2, 1) := by decide +kernel
theorem dX8_keep_29 : decode cX8_keep 29 = .ok (.iastore, 1) := by decide +kernel
theorem dX8_keep_30 : decode cX8_keep 30 = .ok (.aload_n 0, 1) := by decide +kernel
theorem dX8_keep_31 : decode cX8_keep 31 = .ok (.getfield 22, 3) := by decide +kernel
theorem dX8_keep_34 : decode cX8_keep 34 = .ok (.aload_n 0, 1) := by decide +kernel
theorem dX8_keep_35 : decode cX8_keep 35 = .ok (.getfield 30, 3) := by decide +kernel
theorem dX8_keep_38 : decode cX8_keep 38 = .ok (.lload_n 3, 1) := by decide +kernel
theorem dX8_keep_39 : decode cX8_keep 39 = .ok (.lastore, 1) := by decide +kernel
theorem dX8_keep_40 : decode cX8_keep 40 = .ok (.aload_n 0, 1) := by decide +kernel
theorem dX8_keep_41 : decode cX8_keep 41 = .ok (.dup, 1) := by decide +kernel
theorem dX8_keep_42 : decode cX8_keep 42 = .ok (.getfield 30, 3) := by decide +kernel
theorem dX8_keep_45 : decode cX8_keep 45 = .ok (.iconst 1, 1) := by decide +kernel
theorem dX8_keep_46 : decode cX8_keep 46 = .ok (.iadd, 1) := by decide +kernel
theorem dX8_keep_47 : decode cX8_keep 47 = .ok (.putfield 30, 3) := by decide +kernel
theorem dX8_keep_50 : decode cX8_keep 50 = .ok (.return_, 1) := by decide +kernel
theorem dX8_cut_0 : decode cX8_cut 0 = .ok (.aload_n 0, 1) := by decide +kernel
theorem dX8_cut_1 : decode cX8_cut 1 = .ok (.iload_n 1, 1) := by decide +kernel
theorem dX8_cut_2 : decode cX8_cut 2 = .ok (.invokevirtual 71, 3) := by decide +kernel
theorem dX8_cut_5 : decode cX8_cut 5 = .ok (.ifCond .eq 9, 3) := by decide +kernel
theorem dX8_cut_8 : decode cX8_cut 8 = .ok (.aload_n 0, 1) := by decide +kernel
theorem dX8_cut_9 : decode cX8_cut 9 = .ok (.iload_n 1, 1) := by decide +kernel
theorem dX8_cut_10 : decode cX8_cut 10 = .ok (.invokevirtual 75, 3) := by decide +kernel
theorem dX8_cut_13 : decode cX8_cut 13 = .ok (.ireturn, 1) := by decide +kernel
theorem dX8_cut_14 : decode cX8_cut 14 = .ok (.aload_n 0, 1) := by decide +kernel
theorem dX8_cut_15 : decode cX8_cut 15 = .ok (.iload_n 1, 1) := by decide +kernel
theorem dX8_cut_16 : decode cX8_cut 16 = .ok (.invokevirtual 78, 3) := by decide +kernel
theorem dX8_cut_19 : decode cX8_cut 19 = .ok (.ifCond .eq 9, 3) := by decide +kernel
theorem dX8_cut_22 : decode cX8_cut 22 = .ok (.aload_n 0, 1) := by decide +kernel
theorem dX8_cut_23 : decode cX8_cut 23 = .ok (.iload_n 1, 1) := by decide +kernel
theorem dX8_cut_24 : decode cX8_cut 24 = .ok (.invokevirtual 81, 3) := by decide +kernel
theorem dX8_cut_27 : decode cX8_cut 27 = .ok (.ireturn, 1) := by decide +kernel
theorem dX8_cut_28 : decode cX8_cut 28 = .ok (.aload_n 0, 1) := by decide +kernel
theorem dX8_cut_29 : decode cX8_cut 29 = .ok (.ldc 84, 2) := by decide +kernel
theorem dX8_cut_31 : decode cX8_cut 31 = .ok (.aload_n 0, 1) := by decide +kernel
theorem dX8_cut_32 : decode cX8_cut 32 = .ok (.getfield 9, 3) := by decide +kernel
theorem dX8_cut_35 : decode cX8_cut 35 = .ok (.iload_n 1, 1) := by decide +kernel
theorem dX8_cut_36 : decode cX8_cut 36 = .ok (.caload, 1) := by decide +kernel
theorem dX8_cut_37 : decode cX8_cut 37 = .ok (.invokevirtual 86, 3) := by decide +kernel
theorem dX8_cut_40 : decode cX8_cut 40 = .ok (.ifCond .lt 7, 3) := by decide +kernel
theorem dX8_cut_43 : decode cX8_cut 43 = .ok (.iconst 4, 1) := by decide +kernel
theorem dX8_cut_44 : decode cX8_cut 44 = .ok (.goto 4, 3) := by decide +kernel
theorem dX8_cut_47 : decode cX8_cut 47 = .ok (.iconst 1, 1) := by decide +kernel
theorem dX8_cut_48 : decode cX8_cut 48 = .ok (.iload_n 1, 1) := by decide +kernel
theorem dX8_cut_49 : decode cX8_cut 49 = .ok (.aload_n 0, 1) := by decide +kernel
theorem dX8_cut_50 : decode cX8_cut 50 = .ok (.getfield 9, 3) := by decide +kernel
theorem dX8_cut_53 : decode cX8_cut 53 = .ok (.iload_n 1, 1) := by decide +kernel
theorem dX8_cut_54 : decode cX8_cut 54 = .ok (.caload, 1) := by decide +kernel
theorem dX8_cut_55 : decode cX8_cut 55 = .ok (.i2l, 1) := by decide +kernel
theorem dX8_cut_56 : decode cX8_cut 56 = .ok (.invokevirtual 37, 3) := by decide +kernel
theorem dX8_cut_59 : decode cX8_cut 59 = .ok (.iload_n 1, 1) := by decide +kernel
theorem dX8_cut_60 : decode cX8_cut 60 = .ok (.iconst 1, 1) := by decide +kernel
theorem dX8_cut_61 : decode cX8_cut 61 = .ok (.iadd, 1) := by decide +kernel
theorem dX8_cut_62 : decode cX8_cut 62 = .ok (.ireturn, 1) := by decide +kernel
theorem dX8_isLetter_0 : decode cX8_isLetter 0 = .ok (.aload_n 0, 1) := by decide +kernel
theorem dX8_isLetter_1 : decode cX8_isLetter 1 = .ok (.getfield 9, 3) := by decide +kernel
theorem dX8_isLetter_4 : decode cX8_isLetter 4 = .ok (.iload_n 1, 1) := by decide +kernel
theorem dX8_isLetter_5 : decode cX8_isLetter 5 = .ok (.caload, 1) := by decide +kernel
theorem dX8_isLetter_6 : decode cX8_isLetter 6 = .ok (.bipush 97, 2) := by decide +kernel
theorem dX8_isLetter_8 : decode cX8_isLetter 8 = .ok (.if_icmp .lt 18, 3) := by decide +kernel
theorem dX8_isLetter_11 : decode cX8_isLetter 11 = .ok (.aload_n 0, 1) := by decide +kernel
theorem dX8_isLetter_12 : decode cX8_isLetter 12 = .ok (.getfield 9, 3) := by decide +kernel
theorem dX8_isLetter_15 : decode cX8_isLetter 15 = .ok (.iload_n 1, 1) := by decide +kernel
theorem dX8_isLetter_16 : decode cX8_isLetter 16 = .ok (.caload, 1) := by decide +kernel
theorem dX8_isLetter_17 : decode cX8_isLetter 17 = .ok (.bipush 122, 2) := by decide +kernel
theorem dX8_isLetter_19 : decode cX8_isLetter 19 = .ok (.if_icmp .gt 7, 3) := by decide +kernel
theorem dX8_isLetter_22 : decode cX8_isLetter 22 = .ok (.iconst 1, 1) := by decide +kernel
theorem dX8_isLetter_23 : decode cX8_isLetter 23 = .ok (.goto 4, 3) := by decide +kernel
theorem dX8_isLetter_26 : decode cX8_isLetter 26 = .ok (.iconst 0, 1) := by decide +kernel
theorem dX8_isLetter_27 : decode cX8_isLetter 27 = .ok (.ireturn, 1) := by decide +kernel
theorem dX8_isDigit_0 : decode cX8_isDigit 0 = .ok (.aload_n 0, 1) := by decide +kernel
theorem dX8_isDigit_1 : decode cX8_isDigit 1 = .ok (.getfield 9, 3) := by decide +kernel
theorem dX8_isDigit_4 : decode cX8_isDigit 4 = .ok (.iload_n 1, 1) := by decide +kernel
theorem dX8_isDigit_5 : decode cX8_isDigit 5 = .ok (.caload, 1) := by decide +kernel
theorem dX8_isDigit_6 : decode cX8_isDigit 6 = .ok (.bipush 48, 2) := by decide +kernel
theorem dX8_isDigit_8 : decode cX8_isDigit 8 = .ok (.if_icmp .lt 18, 3) := by decide +kernel
theorem dX8_isDigit_11 : decode cX8_isDigit 11 = .ok (.aload_n 0, 1) := by decide +kernel
theorem dX8_isDigit_12 : decode cX8_isDigit 12 = .ok (.getfield 9, 3) := by decide +kernel
theorem dX8_isDigit_15 : decode cX8_isDigit 15 = .ok (.iload_n 1, 1) := by decide +kernel
theorem dX8_isDigit_16 : decode cX8_isDigit 16 = .ok (.caload, 1) := by decide +kernel
theorem dX8_isDigit_17 : decode cX8_isDigit 17 = .ok (.bipush 57, 2) := by decide +kernel
theorem dX8_isDigit_19 : decode cX8_isDigit 19 = .ok (.if_icmp .gt 7, 3) := by decide +kernel
theorem dX8_isDigit_22 : decode cX8_isDigit 22 = .ok (.iconst 1, 1) := by decide +kernel
theorem dX8_isDigit_23 : decode cX8_isDigit 23 = .ok (.goto 4, 3) := by decide +kernel
theorem dX8_isDigit_26 : decode cX8_isDigit 26 = .ok (.iconst 0, 1) := by decide +kernel
theorem dX8_isDigit_27 : decode cX8_isDigit 27 = .ok (.ireturn, 1) := by decide +kernel
theorem dX8_cutWord_0 : decode cX8_cutWord 0 = .ok (.lconst 0, 1) := by decide +kernel
theorem dX8_cutWord_1 : decode cX8_cutWord 1 = .ok (.lstore_n 2, 1) := by decide +kernel
theorem dX8_cutWord_2 : decode cX8_cutWord 2 = .ok (.iload_n 1, 1) := by decide +kernel
theorem dX8_cutWord_3 : decode cX8_cutWord 3 = .ok (.istore 4, 2) := by decide +kernel
theorem dX8_cutWord_5 : decode cX8_cutWord 5 = .ok (.iload 4, 2) := by decide +kernel
theorem dX8_cutWord_7 : decode cX8_cutWord 7 = .ok (.aload_n 0, 1) := by decide +kernel
theorem dX8_cutWord_8 : decode cX8_cutWord 8 = .ok (.getfield 26, 3) := by decide +kernel
theorem dX8_cutWord_11 : decode cX8_cutWord 11 = .ok (.if_icmp .ge 30, 3) := by decide +kernel
theorem dX8_cutWord_14 : decode cX8_cutWord 14 = .ok (.aload_n 0, 1) := by decide +kernel
theorem dX8_cutWord_15 : decode cX8_cutWord 15 = .ok (.iload 4, 2) := by decide +kernel
theorem dX8_cutWord_17 : decode cX8_cutWord 17 = .ok (.invokevirtual 71, 3) := by decide +kernel
theorem dX8_cutWord_20 : decode cX8_cutWord 20 = .ok (.ifCond .eq 21, 3) := by decide +kernel
theorem dX8_cutWord_23 : decode cX8_cutWord 23 = .ok (.lload_n 2, 1) := by decide +kernel
theorem dX8_cutWord_24 : decode cX8_cutWord 24 = .ok (.aload_n 0, 1) := by decide +kernel
theorem dX8_cutWord_25 : decode cX8_cutWord 25 = .ok (.getfield 9, 3) := by decide +kernel
theorem dX8_cutWord_28 : decode cX8_cutWord 28 = .ok (.iload 4, 2) := by decide +kernel
theorem dX8_cutWord_30 : decode cX8_cutWord 30 = .ok (.caload, 1) := by decide +kernel
theorem dX8_cutWord_31 : decode cX8_cutWord 31 = .ok (.invokestatic 91, 3) := by decide +kernel
theorem dX8_cutWord_34 : decode cX8_cutWord 34 = .ok (.lstore_n 2, 1) := by decide +kernel
theorem dX8_cutWord_35 : decode cX8_cutWord 35 = .ok (.iinc 4 1, 3) := by decide +kernel
theorem dX8_cutWord_38 : decode cX8_cutWord 38 = .ok (.goto (-33), 3) := by decide +kernel
theorem dX8_cutWord_41 : decode cX8_cutWord 41 = .ok (.aload_n 0, 1) := by decide +kernel
theorem dX8_cutWord_42 : decode cX8_cutWord 42 = .ok (.iload 4, 2) := by decide +kernel
theorem dX8_cutWord_44 : decode cX8_cutWord 44 = .ok (.iload_n 1, 1) := by decide +kernel
theorem dX8_cutWord_45 : decode cX8_cutWord 45 = .ok (.isub, 1) := by decide +kernel
theorem dX8_cutWord_46 : decode cX8_cutWord 46 = .ok (.bipush 8, 2) := by decide +kernel
theorem dX8_cutWord_48 : decode cX8_cutWord 48 = .ok (.if_icmp .gt 7, 3) := by decide +kernel
theorem dX8_cutWord_51 : decode cX8_cutWord 51 = .ok (.iconst 2, 1) := by decide +kernel
theorem dX8_cutWord_52 : decode cX8_cutWord 52 = .ok (.goto 4, 3) := by decide +kernel
theorem dX8_cutWord_55 : decode cX8_cutWord 55 = .ok (.iconst 1, 1) := by decide +kernel
theorem dX8_cutWord_56 : decode cX8_cutWord 56 = .ok (.iload_n 1, 1) := by decide +kernel
theorem dX8_cutWord_57 : decode cX8_cutWord 57 = .ok (.lload_n 2, 1) := by decide +kernel
theorem dX8_cutWord_58 : decode cX8_cutWord 58 = .ok (.invokevirtual 37, 3) := by decide +kernel
theorem dX8_cutWord_61 : decode cX8_cutWord 61 = .ok (.iload 4, 2) := by decide +kernel
theorem dX8_cutWord_63 : decode cX8_cutWord 63 = .ok (.ireturn, 1) := by decide +kernel
theorem dX8_cutNumber_0 : decode cX8_cutNumber 0 = .ok (.lconst 0, 1) := by decide +kernel
theorem dX8_cutNumber_1 : decode cX8_cutNumber 1 = .ok (.lstore_n 2, 1) := by decide +kernel
theorem dX8_cutNumber_2 : decode cX8_cutNumber 2 = .ok (.iload_n 1, 1) := by decide +kernel
theorem dX8_cutNumber_3 : decode cX8_cutNumber 3 = .ok (.istore 4, 2) := by decide +kernel
theorem dX8_cutNumber_5 : decode cX8_cutNumber 5 = .ok (.iload 4, 2) := by decide +kernel
theorem dX8_cutNumber_7 : decode cX8_cutNumber 7 = .ok (.aload_n 0, 1) := by decide +kernel
theorem dX8_cutNumber_8 : decode cX8_cutNumber 8 = .ok (.getfield 26, 3) := by decide +kernel
theorem dX8_cutNumber_11 : decode cX8_cutNumber 11 = .ok (.if_icmp .ge 36, 3) := by decide +kernel
theorem dX8_cutNumber_14 : decode cX8_cutNumber 14 = .ok (.aload_n 0, 1) := by decide +kernel
theorem dX8_cutNumber_15 : decode cX8_cutNumber 15 = .ok (.iload 4, 2) := by decide +kernel
theorem dX8_cutNumber_17 : decode cX8_cutNumber 17 = .ok (.invokevirtual 78, 3) := by decide +kernel
theorem dX8_cutNumber_20 : decode cX8_cutNumber 20 = .ok (.ifCond .eq 27, 3) := by decide +kernel
theorem dX8_cutNumber_23 : decode cX8_cutNumber 23 = .ok (.lload_n 2, 1) := by decide +kernel
theorem dX8_cutNumber_24 : decode cX8_cutNumber 24 = .ok (.ldc2_w 95, 3) := by decide +kernel
theorem dX8_cutNumber_27 : decode cX8_cutNumber 27 = .ok (.lmul, 1) := by decide +kernel
theorem dX8_cutNumber_28 : decode cX8_cutNumber 28 = .ok (.aload_n 0, 1) := by decide +kernel
theorem dX8_cutNumber_29 : decode cX8_cutNumber 29 = .ok (.getfield 9, 3) := by decide +kernel
theorem dX8_cutNumber_32 : decode cX8_cutNumber 32 = .ok (.iload 4, 2) := by decide +kernel
theorem dX8_cutNumber_34 : decode cX8_cutNumber 34 = .ok (.caload, 1) := by decide +kernel
theorem dX8_cutNumber_35 : decode cX8_cutNumber 35 = .ok (.bipush 48, 2) := by decide +kernel
theorem dX8_cutNumber_37 : decode cX8_cutNumber 37 = .ok (.isub, 1) := by decide +kernel
theorem dX8_cutNumber_38 : decode cX8_cutNumber 38 = .ok (.i2l, 1) := by decide +kernel
theorem dX8_cutNumber_39 : decode cX8_cutNumber 39 = .ok (.ladd, 1) := by decide +kernel
theorem dX8_cutNumber_40 : decode cX8_cutNumber 40 = .ok (.lstore_n 2, 1) := by decide +kernel
theorem dX8_cutNumber_41 : decode cX8_cutNumber 41 = .ok (.iinc 4 1, 3) := by decide +kernel
theorem dX8_cutNumber_44 : decode cX8_cutNumber 44 = .ok (.goto (-39), 3) := by decide +kernel
theorem dX8_cutNumber_47 : decode cX8_cutNumber 47 = .ok (.aload_n 0, 1) := by decide +kernel
theorem dX8_cutNumber_48 : decode cX8_cutNumber 48 = .ok (.iload 4, 2) := by decide +kernel
theorem dX8_cutNumber_50 : decode cX8_cutNumber 50 = .ok (.iload_n 1, 1) := by decide +kernel
theorem dX8_cutNumber_51 : decode cX8_cutNumber 51 = .ok (.isub, 1) := by decide +kernel
theorem dX8_cutNumber_52 : decode cX8_cutNumber 52 = .ok (.iconst 4, 1) := by decide +kernel
theorem dX8_cutNumber_53 : decode cX8_cutNumber 53 = .ok (.if_icmp .gt 7, 3) := by decide +kernel
theorem dX8_cutNumber_56 : decode cX8_cutNumber 56 = .ok (.iconst 3, 1) := by decide +kernel
theorem dX8_cutNumber_57 : decode cX8_cutNumber 57 = .ok (.goto 4, 3) := by decide +kernel
theorem dX8_cutNumber_60 : decode cX8_cutNumber 60 = .ok (.iconst 1, 1) := by decide +kernel
theorem dX8_cutNumber_61 : decode cX8_cutNumber 61 = .ok (.iload_n 1, 1) := by decide +kernel
theorem dX8_cutNumber_62 : decode cX8_cutNumber 62 = .ok (.lload_n 2, 1) := by decide +kernel
theorem dX8_cutNumber_63 : decode cX8_cutNumber 63 = .ok (.invokevirtual 37, 3) := by decide +kernel
theorem dX8_cutNumber_66 : decode cX8_cutNumber 66 = .ok (.iload 4, 2) := by decide +kernel
theorem dX8_cutNumber_68 : decode cX8_cutNumber 68 = .ok (.ireturn, 1) := by decide +kernel
theorem dX9_clear_0 : decode cX9_clear 0 = .ok (.iconst 0, 1) := by decide +kernel
theorem dX9_clear_1 : decode cX9_clear 1 = .ok (.istore_n 1, 1) := by decide +kernel
theorem dX9_clear_2 : decode cX9_clear 2 = .ok (.iload_n 1, 1) := by decide +kernel
theorem dX9_clear_3 : decode cX9_clear 3 = .ok (.bipush 6, 2) := by decide +kernel
theorem dX9_clear_5 : decode cX9_clear 5 = .ok (.if_icmp .ge 30, 3) := by decide +kernel
theorem dX9_clear_8 : decode cX9_clear 8 = .ok (.aload_n 0, 1) := by decide +kernel
theorem dX9_clear_9 : decode cX9_clear 9 = .ok (.getfield 9, 3) := by decide +kernel
theorem dX9_clear_12 : decode cX9_clear 12 = .ok (.iload_n 1, 1) := by decide +kernel
theorem dX9_clear_13 : decode cX9_clear 13 = .ok (.iconst (-1), 1) := by decide +kernel
theorem dX9_clear_14 : decode cX9_clear 14 = .ok (.iastore, 1) := by decide +kernel
theorem dX9_clear_15 : decode cX9_clear 15 = .ok (.aload_n 0, 1) := by decide +kernel
theorem dX9_clear_16 : decode cX9_clear 16 = .ok (.getfield 15, 3) := by decide +kernel
theorem dX9_clear_19 : decode cX9_clear 19 = .ok (.iload_n 1, 1) := by decide +kernel
theorem dX9_clear_20 : decode cX9_clear 20 = .ok (.iconst 0, 1) := by decide +kernel
theorem dX9_clear_21 : decode cX9_clear 21 = .ok (.iastore, 1) := by decide +kernel
theorem dX9_clear_22 : decode cX9_clear 22 = .ok (.aload_n 0, 1) := by decide +kernel
theorem dX9_clear_23 : decode cX9_clear 23 = .ok (.getfield 18, 3) := by decide +kernel
theorem dX9_clear_26 : decode cX9_clear 26 = .ok (.iload_n 1, 1) := by decide +kernel
theorem dX9_clear_27 : decode cX9_clear 27 = .ok (.iconst 0, 1) := by decide +kernel
theorem dX9_clear_28 : decode cX9_clear 28 = .ok (.iastore, 1) := by decide +kernel
theorem dX9_clear_29 : decode cX9_clear 29 = .ok (.iinc 1 1, 3) := by decide +kernel
theorem dX9_clear_32 : decode cX9_clear 32 = .ok (.goto (-30), 3) := by decide +kernel
theorem dX9_clear_35 : decode cX9_clear 35 = .ok (.aload_n 0, 1) := by decide +kernel
theorem dX9_clear_36 : decode cX9_clear 36 = .ok (.iconst 0, 1) := by decide +kernel
theorem dX9_clear_37 : decode cX9_clear 37 = .ok (.putfield 37, 3) := by decide +kernel
theorem dX9_clear_40 : decode cX9_clear 40 = .ok (.aload_n 0, 1) := by decide +kernel
theorem dX9_clear_41 : decode cX9_clear 41 = .ok (.iconst (-1), 1) := by decide +kernel
theorem dX9_clear_42 : decode cX9_clear 42 = .ok (.putfield 33, 3) := by decide +kernel
theorem dX9_clear_45 : decode cX9_clear 45 = .ok (.aload_n 0, 1) := by decide +kernel
theorem dX9_clear_46 : decode cX9_clear 46 = .ok (.iconst 0, 1) := by decide +kernel
theorem dX9_clear_47 : decode cX9_clear 47 = .ok (.putfield 40, 3) := by decide +kernel
theorem dX9_clear_50 : decode cX9_clear 50 = .ok (.return_, 1) := by decide +kernel
theorem dX9_takeBonds_0 : decode cX9_takeBonds 0 = .ok (.aload_n 1, 1) := by decide +kernel
theorem dX9_takeBonds_1 : decode cX9_takeBonds 1 = .ok (.getfield 9, 3) := by decide +kernel
theorem dX9_takeBonds_4 : decode cX9_takeBonds 4 = .ok (.iconst 0, 1) := by decide +kernel
theorem dX9_takeBonds_5 : decode cX9_takeBonds 5 = .ok (.aload_n 0, 1) := by decide +kernel
theorem dX9_takeBonds_6 : decode cX9_takeBonds 6 = .ok (.getfield 9, 3) := by decide +kernel
theorem dX9_takeBonds_9 : decode cX9_takeBonds 9 = .ok (.iconst 0, 1) := by decide +kernel
theorem dX9_takeBonds_10 : decode cX9_takeBonds 10 = .ok (.bipush 6, 2) := by decide +kernel
theorem dX9_takeBonds_12 : decode cX9_takeBonds 12 = .ok (.invokestatic 43, 3) := by decide +kernel
theorem dX9_takeBonds_15 : decode cX9_takeBonds 15 = .ok (.aload_n 1, 1) := by decide +kernel
theorem dX9_takeBonds_16 : decode cX9_takeBonds 16 = .ok (.getfield 15, 3) := by decide +kernel
theorem dX9_takeBonds_19 : decode cX9_takeBonds 19 = .ok (.iconst 0, 1) := by decide +kernel
theorem dX9_takeBonds_20 : decode cX9_takeBonds 20 = .ok (.aload_n 0, 1) := by decide +kernel
theorem dX9_takeBonds_21 : decode cX9_takeBonds 21 = .ok (.getfield 15, 3) := by decide +kernel
theorem dX9_takeBonds_24 : decode cX9_takeBonds 24 = .ok (.iconst 0, 1) := by decide +kernel
theorem dX9_takeBonds_25 : decode cX9_takeBonds 25 = .ok (.bipush 6, 2) := by decide +kernel
theorem dX9_takeBonds_27 : decode cX9_takeBonds 27 = .ok (.invokestatic 43, 3) := by decide +kernel
theorem dX9_takeBonds_30 : decode cX9_takeBonds 30 = .ok (.aload_n 1, 1) := by decide +kernel
theorem dX9_takeBonds_31 : decode cX9_takeBonds 31 = .ok (.getfield 18, 3) := by decide +kernel
theorem dX9_takeBonds_34 : decode cX9_takeBonds 34 = .ok (.iconst 0, 1) := by decide +kernel
theorem dX9_takeBonds_35 : decode cX9_takeBonds 35 = .ok (.aload_n 0, 1) := by decide +kernel
theorem dX9_takeBonds_36 : decode cX9_takeBonds 36 = .ok (.getfield 18, 3) := by decide +kernel
theorem dX9_takeBonds_39 : decode cX9_takeBonds 39 = .ok (.iconst 0, 1) := by decide +kernel
theorem dX9_takeBonds_40 : decode cX9_takeBonds 40 = .ok (.bipush 6, 2) := by decide +kernel
theorem dX9_takeBonds_42 : decode cX9_takeBonds 42 = .ok (.invokestatic 43, 3) := by decide +kernel
theorem dX9_takeBonds_45 : decode cX9_takeBonds 45 = .ok (.aload_n 0, 1) := by decide +kernel
theorem dX9_takeBonds_46 : decode cX9_takeBonds 46 = .ok (.aload_n 1, 1) := by decide +kernel
theorem dX9_takeBonds_47 : decode cX9_takeBonds 47 = .ok (.getfield 37, 3) := by decide +kernel
theorem dX9_takeBonds_50 : decode cX9_takeBonds 50 = .ok (.putfield 37, 3) := by decide +kernel
theorem dX9_takeBonds_53 : decode cX9_takeBonds 53 = .ok (.return_, 1) := by decide +kernel
theorem dX9_takeAll_0 : decode cX9_takeAll 0 = .ok (.aload_n 0, 1) := by decide +kernel
theorem dX9_takeAll_1 : decode cX9_takeAll 1 = .ok (.aload_n 1, 1) := by decide +kernel
theorem dX9_takeAll_2 : decode cX9_takeAll 2 = .ok (.invokevirtual 49, 3) := by decide +kernel
theorem dX9_takeAll_5 : decode cX9_takeAll 5 = .ok (.aload_n 1, 1) := by decide +kernel
theorem dX9_takeAll_6 : decode cX9_takeAll 6 = .ok (.getfield 21, 3) := by decide +kernel
theorem dX9_takeAll_9 : decode cX9_takeAll 9 = .ok (.iconst 0, 1) := by decide +kernel
theorem dX9_takeAll_10 : decode cX9_takeAll 10 = .ok (.aload_n 0, 1) := by decide +kernel
theorem dX9_takeAll_11 : decode cX9_takeAll 11 = .ok (.getfield 21, 3) := by decide +kernel
theorem dX9_takeAll_14 : decode cX9_takeAll 14 = .ok (.iconst 0, 1) := by decide +kernel
theorem dX9_takeAll_15 : decode cX9_takeAll 15 = .ok (.bipush 6, 2) := by decide +kernel
theorem dX9_takeAll_17 : decode cX9_takeAll 17 = .ok (.invokestatic 43, 3) := by decide +kernel
theorem dX9_takeAll_20 : decode cX9_takeAll 20 = .ok (.aload_n 1, 1) := by decide +kernel
theorem dX9_takeAll_21 : decode cX9_takeAll 21 = .ok (.getfield 24, 3) := by decide +kernel
theorem dX9_takeAll_24 : decode cX9_takeAll 24 = .ok (.iconst 0, 1) := by decide +kernel
theorem dX9_takeAll_25 : decode cX9_takeAll 25 = .ok (.aload_n 0, 1) := by decide +kernel
theorem dX9_takeAll_26 : decode cX9_takeAll 26 = .ok (.getfield 24, 3) := by decide +kernel
theorem dX9_takeAll_29 : decode cX9_takeAll 29 = .ok (.iconst 0, 1) := by decide +kernel
theorem dX9_takeAll_30 : decode cX9_takeAll 30 = .ok (.bipush 10, 2) := by decide +kernel
theorem dX9_takeAll_32 : decode cX9_takeAll 32 = .ok (.invokestatic 43, 3) := by decide +kernel
theorem dX9_takeAll_35 : decode cX9_takeAll 35 = .ok (.aload_n 1, 1) := by decide +kernel
theorem dX9_takeAll_36 : decode cX9_takeAll 36 = .ok (.getfield 27, 3) := by decide +kernel
theorem dX9_takeAll_39 : decode cX9_takeAll 39 = .ok (.iconst 0, 1) := by decide +kernel
theorem dX9_takeAll_40 : decode cX9_takeAll 40 = .ok (.aload_n 0, 1) := by decide +kernel
theorem dX9_takeAll_41 : decode cX9_takeAll 41 = .ok (.getfield 27, 3) := by decide +kernel
theorem dX9_takeAll_44 : decode cX9_takeAll 44 = .ok (.iconst 0, 1) := by decide +kernel
theorem dX9_takeAll_45 : decode cX9_takeAll 45 = .ok (.bipush 10, 2) := by decide +kernel
theorem dX9_takeAll_47 : decode cX9_takeAll 47 = .ok (.invokestatic 43, 3) := by decide +kernel
theorem dX9_takeAll_50 : decode cX9_takeAll 50 = .ok (.aload_n 1, 1) := by decide +kernel
theorem dX9_takeAll_51 : decode cX9_takeAll 51 = .ok (.getfield 30, 3) := by decide +kernel
theorem dX9_takeAll_54 : decode cX9_takeAll 54 = .ok (.iconst 0, 1) := by decide +kernel
theorem dX9_takeAll_55 : decode cX9_takeAll 55 = .ok (.aload_n 0, 1) := by decide +kernel
theorem dX9_takeAll_56 : decode cX9_takeAll 56 = .ok (.getfield 30, 3) := by decide +kernel
theorem dX9_takeAll_59 : decode cX9_takeAll 59 = .ok (.iconst 0, 1) := by decide +kernel
theorem dX9_takeAll_60 : decode cX9_takeAll 60 = .ok (.bipush 10, 2) := by decide +kernel
theorem dX9_takeAll_62 : decode cX9_takeAll 62 = .ok (.invokestatic 43, 3) := by decide +kernel
theorem dX9_takeAll_65 : decode cX9_takeAll 65 = .ok (.aload_n 0, 1) := by decide +kernel
theorem dX9_takeAll_66 : decode cX9_takeAll 66 = .ok (.aload_n 1, 1) := by decide +kernel
theorem dX9_takeAll_67 : decode cX9_takeAll 67 = .ok (.getfield 33, 3) := by decide +kernel
theorem dX9_takeAll_70 : decode cX9_takeAll 70 = .ok (.putfield 33, 3) := by decide +kernel
theorem dX9_takeAll_73 : decode cX9_takeAll 73 = .ok (.aload_n 0, 1) := by decide +kernel
theorem dX9_takeAll_74 : decode cX9_takeAll 74 = .ok (.aload_n 1, 1) := by decide +kernel
theorem dX9_takeAll_75 : decode cX9_takeAll 75 = .ok (.getfield 40, 3) := by decide +kernel
theorem dX9_takeAll_78 : decode cX9_takeAll 78 = .ok (.putfield 40, 3) := by decide +kernel
theorem dX9_takeAll_81 : decode cX9_takeAll 81 = .ok (.return_, 1) := by decide +kernel
theorem dX10_refresh_0 : decode cX10_refresh 0 = .ok (.aload_n 0, 1) := by decide +kernel
theorem dX10_refresh_1 : decode cX10_refresh 1 = .ok (.getfield 19, 3) := by decide +kernel
theorem dX10_refresh_4 : decode cX10_refresh 4 = .ok (.ifCond .eq 4, 3) := by decide +kernel
theorem dX10_refresh_7 : decode cX10_refresh 7 = .ok (.return_, 1) := by decide +kernel
theorem dX10_refresh_8 : decode cX10_refresh 8 = .ok (.aload_n 0, 1) := by decide +kernel
theorem dX10_refresh_9 : decode cX10_refresh 9 = .ok (.iconst 0, 1) := by decide +kernel
theorem dX10_refresh_10 : decode cX10_refresh 10 = .ok (.putfield 23, 3) := by decide +kernel
theorem dX10_refresh_13 : decode cX10_refresh 13 = .ok (.aload_n 0, 1) := by decide +kernel
theorem dX10_refresh_14 : decode cX10_refresh 14 = .ok (.getfield 15, 3) := by decide +kernel
theorem dX10_refresh_17 : decode cX10_refresh 17 = .ok (.aload_n 1, 1) := by decide +kernel
theorem dX10_refresh_18 : decode cX10_refresh 18 = .ok (.invokevirtual 27, 3) := by decide +kernel
theorem dX10_refresh_21 : decode cX10_refresh 21 = .ok (.aload_n 0, 1) := by decide +kernel
theorem dX10_refresh_22 : decode cX10_refresh 22 = .ok (.invokevirtual 33, 3) := by decide +kernel
theorem dX10_refresh_25 : decode cX10_refresh 25 = .ok (.aload_n 0, 1) := by decide +kernel
theorem dX10_refresh_26 : decode cX10_refresh 26 = .ok (.iconst 0, 1) := by decide +kernel
theorem dX10_refresh_27 : decode cX10_refresh 27 = .ok (.iconst 0, 1) := by decide +kernel
theorem dX10_refresh_28 : decode cX10_refresh 28 = .ok (.iconst 0, 1) := by decide +kernel
theorem dX10_refresh_29 : decode cX10_refresh 29 = .ok (.invokevirtual 36, 3) := by decide +kernel
theorem dX10_refresh_32 : decode cX10_refresh 32 = .ok (.aload_n 0, 1) := by decide +kernel
theorem dX10_refresh_33 : decode cX10_refresh 33 = .ok (.invokevirtual 40, 3) := by decide +kernel
theorem dX10_refresh_36 : decode cX10_refresh 36 = .ok (.aload_n 0, 1) := by decide +kernel
theorem dX10_refresh_37 : decode cX10_refresh 37 = .ok (.iconst 1, 1) := by decide +kernel
theorem dX10_refresh_38 : decode cX10_refresh 38 = .ok (.putfield 19, 3) := by decide +kernel
theorem dX10_refresh_41 : decode cX10_refresh 41 = .ok (.return_, 1) := by decide +kernel
theorem dX10_search_0 : decode cX10_search 0 = .ok (.iload_n 1, 1) := by decide +kernel
theorem dX10_search_1 : decode cX10_search 1 = .ok (.aload_n 0, 1) := by decide +kernel
theorem dX10_search_2 : decode cX10_search 2 = .ok (.getfield 15, 3) := by decide +kernel
theorem dX10_search_5 : decode cX10_search 5 = .ok (.getfield 43, 3) := by decide +kernel
theorem dX10_search_8 : decode cX10_search 8 = .ok (.getfield 47, 3) := by decide +kernel
theorem dX10_search_11 : decode cX10_search 11 = .ok (.if_icmp .lt 10, 3) := by decide +kernel
theorem dX10_search_14 : decode cX10_search 14 = .ok (.aload_n 0, 1) := by decide +kernel
theorem dX10_search_15 : decode cX10_search 15 = .ok (.iload_n 2, 1) := by decide +kernel
theorem dX10_search_16 : decode cX10_search 16 = .ok (.iload_n 3, 1) := by decide +kernel
theorem dX10_search_17 : decode cX10_search 17 = .ok (.invokevirtual 52, 3) := by decide +kernel
theorem dX10_search_20 : decode cX10_search 20 = .ok (.return_, 1) := by decide +kernel
theorem dX10_search_21 : decode cX10_search 21 = .ok (.aload_n 0, 1) := by decide +kernel
theorem dX10_search_22 : decode cX10_search 22 = .ok (.iload_n 1, 1) := by decide +kernel
theorem dX10_search_23 : decode cX10_search 23 = .ok (.iconst 1, 1) := by decide +kernel
theorem dX10_search_24 : decode cX10_search 24 = .ok (.iadd, 1) := by decide +kernel
theorem dX10_search_25 : decode cX10_search 25 = .ok (.iload_n 2, 1) := by decide +kernel
theorem dX10_search_26 : decode cX10_search 26 = .ok (.iload_n 3, 1) := by decide +kernel
theorem dX10_search_27 : decode cX10_search 27 = .ok (.invokevirtual 36, 3) := by decide +kernel
theorem dX10_search_30 : decode cX10_search 30 = .ok (.iconst 0, 1) := by decide +kernel
theorem dX10_search_31 : decode cX10_search 31 = .ok (.istore 4, 2) := by decide +kernel
theorem dX10_search_33 : decode cX10_search 33 = .ok (.iload 4, 2) := by decide +kernel
theorem dX10_search_35 : decode cX10_search 35 = .ok (.aload_n 0, 1) := by decide +kernel
theorem dX10_search_36 : decode cX10_search 36 = .ok (.getfield 15, 3) := by decide +kernel
theorem dX10_search_39 : decode cX10_search 39 = .ok (.getfield 43, 3) := by decide +kernel
theorem dX10_search_42 : decode cX10_search 42 = .ok (.getfield 47, 3) := by decide +kernel
theorem dX10_search_45 : decode cX10_search 45 = .ok (.if_icmp .ge 66, 3) := by decide +kernel
theorem dX10_search_48 : decode cX10_search 48 = .ok (.aload_n 0, 1) := by decide +kernel
theorem dX10_search_49 : decode cX10_search 49 = .ok (.getfield 15, 3) := by decide +kernel
theorem dX10_search_52 : decode cX10_search 52 = .ok (.iload_n 1, 1) := by decide +kernel
theorem dX10_search_53 : decode cX10_search 53 = .ok (.iload 4, 2) := by decide +kernel
theorem dX10_search_55 : decode cX10_search 55 = .ok (.invokevirtual 56, 3) := by decide +kernel
theorem dX10_search_58 : decode cX10_search 58 = .ok (.ifCond .eq 47, 3) := by decide +kernel
theorem dX10_search_61 : decode cX10_search 61 = .ok (.aload_n 0, 1) := by decide +kernel
theorem dX10_search_62 : decode cX10_search 62 = .ok (.getfield 15, 3) := by decide +kernel
theorem dX10_search_65 : decode cX10_search 65 = .ok (.iload_n 1, 1) := by decide +kernel
theorem dX10_search_66 : decode cX10_search 66 = .ok (.iload 4, 2) := by decide +kernel
theorem dX10_search_68 : decode cX10_search 68 = .ok (.invokevirtual 60, 3) := by decide +kernel
theorem dX10_search_71 : decode cX10_search 71 = .ok (.aload_n 0, 1) := by decide +kernel
theorem dX10_search_72 : decode cX10_search 72 = .ok (.iload_n 1, 1) := by decide +kernel
theorem dX10_search_73 : decode cX10_search 73 = .ok (.iconst 1, 1) := by decide +kernel
theorem dX10_search_74 : decode cX10_search 74 = .ok (.iadd, 1) := by decide +kernel
theorem dX10_search_75 : decode cX10_search 75 = .ok (.iload_n 2, 1) := by decide +kernel
theorem dX10_search_76 : decode cX10_search 76 = .ok (.aload_n 0, 1) := by decide +kernel
theorem dX10_search_77 : decode cX10_search 77 = .ok (.getfield 15, 3) := by decide +kernel
theorem dX10_search_80 : decode cX10_search 80 = .ok (.getfield 43, 3) := by decide +kernel
theorem dX10_search_83 : decode cX10_search 83 = .ok (.iload_n 1, 1) := by decide +kernel
theorem dX10_search_84 : decode cX10_search 84 = .ok (.iload 4, 2) := by decide +kernel
theorem dX10_search_86 : decode cX10_search 86 = .ok (.invokevirtual 63, 3) := by decide +kernel
theorem dX10_search_89 : decode cX10_search 89 = .ok (.iadd, 1) := by decide +kernel
theorem dX10_search_90 : decode cX10_search 90 = .ok (.iload_n 3, 1) := by decide +kernel
theorem dX10_search_91 : decode cX10_search 91 = .ok (.iconst 1, 1) := by decide +kernel
theorem dX10_search_92 : decode cX10_search 92 = .ok (.iadd, 1) := by decide +kernel
theorem dX10_search_93 : decode cX10_search 93 = .ok (.invokevirtual 36, 3) := by decide +kernel
theorem dX10_search_96 : decode cX10_search 96 = .ok (.aload_n 0, 1) := by decide +kernel
theorem dX10_search_97 : decode cX10_search 97 = .ok (.getfield 15, 3) := by decide +kernel
theorem dX10_search_100 : decode cX10_search 100 = .ok (.iload_n 1, 1) := by decide +kernel
theorem dX10_search_101 : decode cX10_search 101 = .ok (.invokevirtual 67, 3) := by decide +kernel
theorem dX10_search_104 : decode cX10_search 104 = .ok (.pop, 1) := by decide +kernel
theorem dX10_search_105 : decode cX10_search 105 = .ok (.iinc 4 1, 3) := by decide +kernel
theorem dX10_search_108 : decode cX10_search 108 = .ok (.goto (-75), 3) := by decide +kernel
theorem dX10_search_111 : decode cX10_search 111 = .ok (.return_, 1) := by decide +kernel
theorem dX11_keyWith_0 : decode cX11_keyWith 0 = .ok (.lload_n 0, 1) := by decide +kernel
theorem dX11_keyWith_1 : decode cX11_keyWith 1 = .ok (.ldc2_w 148, 3) := by decide +kernel
theorem dX11_keyWith_4 : decode cX11_keyWith 4 = .ok (.lmul, 1) := by decide +kernel
theorem dX11_keyWith_5 : decode cX11_keyWith 5 = .ok (.iload_n 2, 1) := by decide +kernel
theorem dX11_keyWith_6 : decode cX11_keyWith 6 = .ok (.bipush 97, 2) := by decide +kernel
theorem dX11_keyWith_8 : decode cX11_keyWith 8 = .ok (.isub, 1) := by decide +kernel
theorem dX11_keyWith_9 : decode cX11_keyWith 9 = .ok (.iconst 1, 1) := by decide +kernel
theorem dX11_keyWith_10 : decode cX11_keyWith 10 = .ok (.iadd, 1) := by decide +kernel
theorem dX11_keyWith_11 : decode cX11_keyWith 11 = .ok (.i2l, 1) := by decide +kernel
theorem dX11_keyWith_12 : decode cX11_keyWith 12 = .ok (.ladd, 1) := by decide +kernel
theorem dX11_keyWith_13 : decode cX11_keyWith 13 = .ok (.lreturn, 1) := by decide +kernel
theorem dX12_feed_0 : decode cX12_feed 0 = .ok (.aload_n 0, 1) := by decide +kernel
theorem dX12_feed_1 : decode cX12_feed 1 = .ok (.lload_n 1, 1) := by decide +kernel
theorem dX12_feed_2 : decode cX12_feed 2 = .ok (.invokevirtual 96, 3) := by decide +kernel
theorem dX12_feed_5 : decode cX12_feed 5 = .ok (.aload_n 0, 1) := by decide +kernel
theorem dX12_feed_6 : decode cX12_feed 6 = .ok (.lload_n 3, 1) := by decide +kernel
theorem dX12_feed_7 : decode cX12_feed 7 = .ok (.invokevirtual 96, 3) := by decide +kernel
theorem dX12_feed_10 : decode cX12_feed 10 = .ok (.aload_n 0, 1) := by decide +kernel
theorem dX12_feed_11 : decode cX12_feed 11 = .ok (.lload 5, 2) := by decide +kernel
theorem dX12_feed_13 : decode cX12_feed 13 = .ok (.invokevirtual 96, 3) := by decide +kernel
theorem dX12_feed_16 : decode cX12_feed 16 = .ok (.aload_n 0, 1) := by decide +kernel
theorem dX12_feed_17 : decode cX12_feed 17 = .ok (.getfield 10, 3) := by decide +kernel
theorem dX12_feed_20 : decode cX12_feed 20 = .ok (.getfield 100, 3) := by decide +kernel
theorem dX12_feed_23 : decode cX12_feed 23 = .ok (.ireturn, 1) := by decide +kernel
theorem dX12_feedBytes_0 : decode cX12_feedBytes 0 = .ok (.bipush 56, 2) := by decide +kernel
theorem dX12_feedBytes_2 : decode cX12_feedBytes 2 = .ok (.istore_n 3, 1) := by decide +kernel
theorem dX12_feedBytes_3 : decode cX12_feedBytes 3 = .ok (.iload_n 3, 1) := by decide +kernel
theorem dX12_feedBytes_4 : decode cX12_feedBytes 4 = .ok (.ifCond .lt 24, 3) := by decide +kernel
theorem dX12_feedBytes_7 : decode cX12_feedBytes 7 = .ok (.aload_n 0, 1) := by decide +kernel
theorem dX12_feedBytes_8 : decode cX12_feedBytes 8 = .ok (.getfield 10, 3) := by decide +kernel
theorem dX12_feedBytes_11 : decode cX12_feedBytes 11 = .ok (.lload_n 1, 1) := by decide +kernel
theorem dX12_feedBytes_12 : decode cX12_feedBytes 12 = .ok (.iload_n 3, 1) := by decide +kernel
theorem dX12_feedBytes_13 : decode cX12_feedBytes 13 = .ok (.lushr, 1) := by decide +kernel
theorem dX12_feedBytes_14 : decode cX12_feedBytes 14 = .ok (.l2i, 1) := by decide +kernel
theorem dX12_feedBytes_15 : decode cX12_feedBytes 15 = .ok (.sipush 255, 3) := by decide +kernel
theorem dX12_feedBytes_18 : decode cX12_feedBytes 18 = .ok (.iand, 1) := by decide +kernel
theorem dX12_feedBytes_19 : decode cX12_feedBytes 19 = .ok (.invokevirtual 103, 3) := by decide +kernel
theorem dX12_feedBytes_22 : decode cX12_feedBytes 22 = .ok (.iinc 3 (-8), 3) := by decide +kernel
theorem dX12_feedBytes_25 : decode cX12_feedBytes 25 = .ok (.goto (-22), 3) := by decide +kernel
theorem dX12_feedBytes_28 : decode cX12_feedBytes 28 = .ok (.return_, 1) := by decide +kernel
theorem dX12_land_0 : decode cX12_land 0 = .ok (.aload_n 0, 1) := by decide +kernel
theorem dX12_land_1 : decode cX12_land 1 = .ok (.getfield 31, 3) := by decide +kernel
theorem dX12_land_4 : decode cX12_land 4 = .ok (.aload_n 0, 1) := by decide +kernel
theorem dX12_land_5 : decode cX12_land 5 = .ok (.getfield 23, 3) := by decide +kernel
theorem dX12_land_8 : decode cX12_land 8 = .ok (.invokevirtual 107, 3) := by decide +kernel
theorem dX12_land_11 : decode cX12_land 11 = .ok (.istore_n 1, 1) := by decide +kernel
theorem dX12_land_12 : decode cX12_land 12 = .ok (.aload_n 0, 1) := by decide +kernel
theorem dX12_land_13 : decode cX12_land 13 = .ok (.getfield 10, 3) := by decide +kernel
theorem dX12_land_16 : decode cX12_land 16 = .ok (.invokevirtual 111, 3) := by decide +kernel
theorem dX12_land_19 : decode cX12_land 19 = .ok (.iload_n 1, 1) := by decide +kernel
theorem dX12_land_20 : decode cX12_land 20 = .ok (.ifCond .ne 25, 3) := by decide +kernel
theorem dX12_land_23 : decode cX12_land 23 = .ok (.aload_n 0, 1) := by decide +kernel
theorem dX12_land_24 : decode cX12_land 24 = .ok (.getfield 23, 3) := by decide +kernel
theorem dX12_land_27 : decode cX12_land 27 = .ok (.astore_n 2, 1) := by decide +kernel
theorem dX12_land_28 : decode cX12_land 28 = .ok (.aload_n 0, 1) := by decide +kernel
theorem dX12_land_29 : decode cX12_land 29 = .ok (.aload_n 0, 1) := by decide +kernel
theorem dX12_land_30 : decode cX12_land 30 = .ok (.getfield 19, 3) := by decide +kernel
theorem dX12_land_33 : decode cX12_land 33 = .ok (.putfield 23, 3) := by decide +kernel
theorem dX12_land_36 : decode cX12_land 36 = .ok (.aload_n 0, 1) := by decide +kernel
theorem dX12_land_37 : decode cX12_land 37 = .ok (.aload_n 2, 1) := by decide +kernel
theorem dX12_land_38 : decode cX12_land 38 = .ok (.putfield 19, 3) := by decide +kernel
theorem dX12_land_41 : decode cX12_land 41 = .ok (.aload_n 0, 1) := by decide +kernel
theorem dX12_land_42 : decode cX12_land 42 = .ok (.invokevirtual 114, 3) := by decide +kernel
theorem dX12_land_45 : decode cX12_land 45 = .ok (.iload_n 1, 1) := by decide +kernel
theorem dX12_land_46 : decode cX12_land 46 = .ok (.ireturn, 1) := by decide +kernel
theorem dX12_beginAnew_0 : decode cX12_beginAnew 0 = .ok (.aload_n 0, 1) := by decide +kernel
theorem dX12_beginAnew_1 : decode cX12_beginAnew 1 = .ok (.getfield 38, 3) := by decide +kernel
theorem dX12_beginAnew_4 : decode cX12_beginAnew 4 = .ok (.invokevirtual 117, 3) := by decide +kernel
theorem dX12_beginAnew_7 : decode cX12_beginAnew 7 = .ok (.iconst 0, 1) := by decide +kernel
theorem dX12_beginAnew_8 : decode cX12_beginAnew 8 = .ok (.istore_n 1, 1) := by decide +kernel
theorem dX12_beginAnew_9 : decode cX12_beginAnew 9 = .ok (.iload_n 1, 1) := by decide +kernel
theorem dX12_beginAnew_10 : decode cX12_beginAnew 10 = .ok (.aload_n 0, 1) := by decide +kernel
theorem dX12_beginAnew_11 : decode cX12_beginAnew 11 = .ok (.getfield 46, 3) := by decide +kernel
theorem dX12_beginAnew_14 : decode cX12_beginAnew 14 = .ok (.arraylength, 1) := by decide +kernel
theorem dX12_beginAnew_15 : decode cX12_beginAnew 15 = .ok (.if_icmp .ge 19, 3) := by decide +kernel
theorem dX12_beginAnew_18 : decode cX12_beginAnew 18 = .ok (.aload_n 0, 1) := by decide +kernel
theorem dX12_beginAnew_19 : decode cX12_beginAnew 19 = .ok (.getfield 46, 3) := by decide +kernel
theorem dX12_beginAnew_22 : decode cX12_beginAnew 22 = .ok (.iload_n 1, 1) := by decide +kernel
theorem dX12_beginAnew_23 : decode cX12_beginAnew 23 = .ok (.aaload, 1) := by decide +kernel
theorem dX12_beginAnew_24 : decode cX12_beginAnew 24 = .ok (.iconst 0, 1) := by decide +kernel
theorem dX12_beginAnew_25 : decode cX12_beginAnew 25 = .ok (.putfield 120, 3) := by decide +kernel
theorem dX12_beginAnew_28 : decode cX12_beginAnew 28 = .ok (.iinc 1 1, 3) := by decide +kernel
theorem dX12_beginAnew_31 : decode cX12_beginAnew 31 = .ok (.goto (-22), 3) := by decide +kernel
theorem dX12_beginAnew_34 : decode cX12_beginAnew 34 = .ok (.aload_n 0, 1) := by decide +kernel
theorem dX12_beginAnew_35 : decode cX12_beginAnew 35 = .ok (.iconst 0, 1) := by decide +kernel
theorem dX12_beginAnew_36 : decode cX12_beginAnew 36 = .ok (.putfield 86, 3) := by decide +kernel
theorem dX12_beginAnew_39 : decode cX12_beginAnew 39 = .ok (.aload_n 0, 1) := by decide +kernel
theorem dX12_beginAnew_40 : decode cX12_beginAnew 40 = .ok (.iconst 0, 1) := by decide +kernel
theorem dX12_beginAnew_41 : decode cX12_beginAnew 41 = .ok (.putfield 93, 3) := by decide +kernel
theorem dX12_beginAnew_44 : decode cX12_beginAnew 44 = .ok (.aload_n 0, 1) := by decide +kernel
theorem dX12_beginAnew_45 : decode cX12_beginAnew 45 = .ok (.getfield 67, 3) := by decide +kernel
theorem dX12_beginAnew_48 : decode cX12_beginAnew 48 = .ok (.iconst 0, 1) := by decide +kernel
theorem dX12_beginAnew_49 : decode cX12_beginAnew 49 = .ok (.putfield 124, 3) := by decide +kernel
theorem dX12_beginAnew_52 : decode cX12_beginAnew 52 = .ok (.aload_n 0, 1) := by decide +kernel
theorem dX12_beginAnew_53 : decode cX12_beginAnew 53 = .ok (.getfield 76, 3) := by decide +kernel
theorem dX12_beginAnew_56 : decode cX12_beginAnew 56 = .ok (.iconst 0, 1) := by decide +kernel
theorem dX12_beginAnew_57 : decode cX12_beginAnew 57 = .ok (.putfield 127, 3) := by decide +kernel
theorem dX12_beginAnew_60 : decode cX12_beginAnew 60 = .ok (.return_, 1) := by decide +kernel
theorem dX12_vows_0 : decode cX12_vows 0 = .ok (.aload_n 0, 1) := by decide +kernel
theorem dX12_vows_1 : decode cX12_vows 1 = .ok (.getfield 31, 3) := by decide +kernel
theorem dX12_vows_4 : decode cX12_vows 4 = .ok (.aload_n 0, 1) := by decide +kernel
theorem dX12_vows_5 : decode cX12_vows 5 = .ok (.getfield 19, 3) := by decide +kernel
theorem dX12_vows_8 : decode cX12_vows 8 = .ok (.invokevirtual 128, 3) := by decide +kernel
