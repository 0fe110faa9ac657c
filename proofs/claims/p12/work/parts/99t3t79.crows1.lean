theorem dX5_allows_39 : decode cX5_allows 39 = .ok (.iconst 1, 1) := by decide +kernel
theorem dX5_allows_40 : decode cX5_allows 40 = .ok (.iand, 1) := by decide +kernel
theorem dX5_allows_41 : decode cX5_allows 41 = .ok (.ifCond .eq 7, 3) := by decide +kernel
theorem dX5_allows_44 : decode cX5_allows 44 = .ok (.iconst 1, 1) := by decide +kernel
theorem dX5_allows_45 : decode cX5_allows 45 = .ok (.goto 4, 3) := by decide +kernel
theorem dX5_allows_48 : decode cX5_allows 48 = .ok (.iconst 0, 1) := by decide +kernel
theorem dX5_allows_49 : decode cX5_allows 49 = .ok (.istore_n 3, 1) := by decide +kernel
theorem dX5_allows_50 : decode cX5_allows 50 = .ok (.aload_n 0, 1) := by decide +kernel
theorem dX5_allows_51 : decode cX5_allows 51 = .ok (.getfield 15, 3) := by decide +kernel
theorem dX5_allows_54 : decode cX5_allows 54 = .ok (.iload_n 1, 1) := by decide +kernel
theorem dX5_allows_55 : decode cX5_allows 55 = .ok (.iaload, 1) := by decide +kernel
theorem dX5_allows_56 : decode cX5_allows 56 = .ok (.iload_n 2, 1) := by decide +kernel
theorem dX5_allows_57 : decode cX5_allows 57 = .ok (.ishr, 1) := by decide +kernel
theorem dX5_allows_58 : decode cX5_allows 58 = .ok (.iconst 1, 1) := by decide +kernel
theorem dX5_allows_59 : decode cX5_allows 59 = .ok (.iand, 1) := by decide +kernel
theorem dX5_allows_60 : decode cX5_allows 60 = .ok (.ifCond .eq 7, 3) := by decide +kernel
theorem dX5_allows_63 : decode cX5_allows 63 = .ok (.iconst 1, 1) := by decide +kernel
theorem dX5_allows_64 : decode cX5_allows 64 = .ok (.goto 4, 3) := by decide +kernel
theorem dX5_allows_67 : decode cX5_allows 67 = .ok (.iconst 0, 1) := by decide +kernel
theorem dX5_allows_68 : decode cX5_allows 68 = .ok (.istore 4, 2) := by decide +kernel
theorem dX5_allows_70 : decode cX5_allows 70 = .ok (.aload_n 0, 1) := by decide +kernel
theorem dX5_allows_71 : decode cX5_allows 71 = .ok (.getfield 18, 3) := by decide +kernel
theorem dX5_allows_74 : decode cX5_allows 74 = .ok (.getfield 43, 3) := by decide +kernel
theorem dX5_allows_77 : decode cX5_allows 77 = .ok (.iload_n 2, 1) := by decide +kernel
theorem dX5_allows_78 : decode cX5_allows 78 = .ok (.aaload, 1) := by decide +kernel
theorem dX5_allows_79 : decode cX5_allows 79 = .ok (.getfield 47, 3) := by decide +kernel
theorem dX5_allows_82 : decode cX5_allows 82 = .ok (.iconst 1, 1) := by decide +kernel
theorem dX5_allows_83 : decode cX5_allows 83 = .ok (.if_icmp .ne 19, 3) := by decide +kernel
theorem dX5_allows_86 : decode cX5_allows 86 = .ok (.aload_n 0, 1) := by decide +kernel
theorem dX5_allows_87 : decode cX5_allows 87 = .ok (.getfield 15, 3) := by decide +kernel
theorem dX5_allows_90 : decode cX5_allows 90 = .ok (.iload_n 2, 1) := by decide +kernel
theorem dX5_allows_91 : decode cX5_allows 91 = .ok (.iaload, 1) := by decide +kernel
theorem dX5_allows_92 : decode cX5_allows 92 = .ok (.iconst 1, 1) := by decide +kernel
theorem dX5_allows_93 : decode cX5_allows 93 = .ok (.iload_n 2, 1) := by decide +kernel
theorem dX5_allows_94 : decode cX5_allows 94 = .ok (.ishl, 1) := by decide +kernel
theorem dX5_allows_95 : decode cX5_allows 95 = .ok (.if_icmp .eq 7, 3) := by decide +kernel
theorem dX5_allows_98 : decode cX5_allows 98 = .ok (.iconst 1, 1) := by decide +kernel
theorem dX5_allows_99 : decode cX5_allows 99 = .ok (.goto 4, 3) := by decide +kernel
theorem dX5_allows_102 : decode cX5_allows 102 = .ok (.iconst 0, 1) := by decide +kernel
theorem dX5_allows_103 : decode cX5_allows 103 = .ok (.istore 5, 2) := by decide +kernel
theorem dX5_allows_105 : decode cX5_allows 105 = .ok (.iload_n 3, 1) := by decide +kernel
theorem dX5_allows_106 : decode cX5_allows 106 = .ok (.ifCond .eq 17, 3) := by decide +kernel
theorem dX5_allows_109 : decode cX5_allows 109 = .ok (.iload 4, 2) := by decide +kernel
theorem dX5_allows_111 : decode cX5_allows 111 = .ok (.ifCond .ne 12, 3) := by decide +kernel
theorem dX5_allows_114 : decode cX5_allows 114 = .ok (.iload 5, 2) := by decide +kernel
theorem dX5_allows_116 : decode cX5_allows 116 = .ok (.ifCond .ne 7, 3) := by decide +kernel
theorem dX5_allows_119 : decode cX5_allows 119 = .ok (.iconst 1, 1) := by decide +kernel
theorem dX5_allows_120 : decode cX5_allows 120 = .ok (.goto 4, 3) := by decide +kernel
theorem dX5_allows_123 : decode cX5_allows 123 = .ok (.iconst 0, 1) := by decide +kernel
theorem dX5_allows_124 : decode cX5_allows 124 = .ok (.ireturn, 1) := by decide +kernel
theorem dX5_join_0 : decode cX5_join 0 = .ok (.aload_n 0, 1) := by decide +kernel
theorem dX5_join_1 : decode cX5_join 1 = .ok (.iload_n 1, 1) := by decide +kernel
theorem dX5_join_2 : decode cX5_join 2 = .ok (.invokevirtual 36, 3) := by decide +kernel
theorem dX5_join_5 : decode cX5_join 5 = .ok (.ifCond .ne 4, 3) := by decide +kernel
theorem dX5_join_8 : decode cX5_join 8 = .ok (.return_, 1) := by decide +kernel
theorem dX5_join_9 : decode cX5_join 9 = .ok (.aload_n 0, 1) := by decide +kernel
theorem dX5_join_10 : decode cX5_join 10 = .ok (.getfield 9, 3) := by decide +kernel
theorem dX5_join_13 : decode cX5_join 13 = .ok (.iload_n 1, 1) := by decide +kernel
theorem dX5_join_14 : decode cX5_join 14 = .ok (.iload_n 2, 1) := by decide +kernel
theorem dX5_join_15 : decode cX5_join 15 = .ok (.iastore, 1) := by decide +kernel
theorem dX5_join_16 : decode cX5_join 16 = .ok (.iload_n 2, 1) := by decide +kernel
theorem dX5_join_17 : decode cX5_join 17 = .ok (.istore_n 3, 1) := by decide +kernel
theorem dX5_join_18 : decode cX5_join 18 = .ok (.iconst 0, 1) := by decide +kernel
theorem dX5_join_19 : decode cX5_join 19 = .ok (.istore 4, 2) := by decide +kernel
theorem dX5_join_21 : decode cX5_join 21 = .ok (.iload 4, 2) := by decide +kernel
theorem dX5_join_23 : decode cX5_join 23 = .ok (.bipush 6, 2) := by decide +kernel
theorem dX5_join_25 : decode cX5_join 25 = .ok (.if_icmp .ge 39, 3) := by decide +kernel
theorem dX5_join_28 : decode cX5_join 28 = .ok (.aload_n 0, 1) := by decide +kernel
theorem dX5_join_29 : decode cX5_join 29 = .ok (.iload_n 3, 1) := by decide +kernel
theorem dX5_join_30 : decode cX5_join 30 = .ok (.invokevirtual 36, 3) := by decide +kernel
theorem dX5_join_33 : decode cX5_join 33 = .ok (.ifCond .eq 31, 3) := by decide +kernel
theorem dX5_join_36 : decode cX5_join 36 = .ok (.aload_n 0, 1) := by decide +kernel
theorem dX5_join_37 : decode cX5_join 37 = .ok (.getfield 15, 3) := by decide +kernel
theorem dX5_join_40 : decode cX5_join 40 = .ok (.iload_n 3, 1) := by decide +kernel
theorem dX5_join_41 : decode cX5_join 41 = .ok (.dup2, 1) := by decide +kernel
theorem dX5_join_42 : decode cX5_join 42 = .ok (.iaload, 1) := by decide +kernel
theorem dX5_join_43 : decode cX5_join 43 = .ok (.aload_n 0, 1) := by decide +kernel
theorem dX5_join_44 : decode cX5_join 44 = .ok (.getfield 15, 3) := by decide +kernel
theorem dX5_join_47 : decode cX5_join 47 = .ok (.iload_n 1, 1) := by decide +kernel
theorem dX5_join_48 : decode cX5_join 48 = .ok (.iaload, 1) := by decide +kernel
theorem dX5_join_49 : decode cX5_join 49 = .ok (.ior, 1) := by decide +kernel
theorem dX5_join_50 : decode cX5_join 50 = .ok (.iastore, 1) := by decide +kernel
theorem dX5_join_51 : decode cX5_join 51 = .ok (.aload_n 0, 1) := by decide +kernel
theorem dX5_join_52 : decode cX5_join 52 = .ok (.getfield 9, 3) := by decide +kernel
theorem dX5_join_55 : decode cX5_join 55 = .ok (.iload_n 3, 1) := by decide +kernel
theorem dX5_join_56 : decode cX5_join 56 = .ok (.iaload, 1) := by decide +kernel
theorem dX5_join_57 : decode cX5_join 57 = .ok (.istore_n 3, 1) := by decide +kernel
theorem dX5_join_58 : decode cX5_join 58 = .ok (.iinc 4 1, 3) := by decide +kernel
theorem dX5_join_61 : decode cX5_join 61 = .ok (.goto (-40), 3) := by decide +kernel
theorem dX5_join_64 : decode cX5_join 64 = .ok (.return_, 1) := by decide +kernel
theorem dX5_release_0 : decode cX5_release 0 = .ok (.aload_n 0, 1) := by decide +kernel
theorem dX5_release_1 : decode cX5_release 1 = .ok (.iload_n 1, 1) := by decide +kernel
theorem dX5_release_2 : decode cX5_release 2 = .ok (.invokevirtual 36, 3) := by decide +kernel
theorem dX5_release_5 : decode cX5_release 5 = .ok (.ifCond .eq 13, 3) := by decide +kernel
theorem dX5_release_8 : decode cX5_release 8 = .ok (.aload_n 0, 1) := by decide +kernel
theorem dX5_release_9 : decode cX5_release 9 = .ok (.getfield 9, 3) := by decide +kernel
theorem dX5_release_12 : decode cX5_release 12 = .ok (.iload_n 1, 1) := by decide +kernel
theorem dX5_release_13 : decode cX5_release 13 = .ok (.iaload, 1) := by decide +kernel
theorem dX5_release_14 : decode cX5_release 14 = .ok (.iconst (-1), 1) := by decide +kernel
theorem dX5_release_15 : decode cX5_release 15 = .ok (.if_icmp .ne 5, 3) := by decide +kernel
theorem dX5_release_18 : decode cX5_release 18 = .ok (.iconst 0, 1) := by decide +kernel
theorem dX5_release_19 : decode cX5_release 19 = .ok (.ireturn, 1) := by decide +kernel
theorem dX5_release_20 : decode cX5_release 20 = .ok (.aload_n 0, 1) := by decide +kernel
theorem dX5_release_21 : decode cX5_release 21 = .ok (.getfield 9, 3) := by decide +kernel
theorem dX5_release_24 : decode cX5_release 24 = .ok (.iload_n 1, 1) := by decide +kernel
theorem dX5_release_25 : decode cX5_release 25 = .ok (.iaload, 1) := by decide +kernel
theorem dX5_release_26 : decode cX5_release 26 = .ok (.istore_n 2, 1) := by decide +kernel
theorem dX5_release_27 : decode cX5_release 27 = .ok (.iconst 0, 1) := by decide +kernel
theorem dX5_release_28 : decode cX5_release 28 = .ok (.istore_n 3, 1) := by decide +kernel
theorem dX5_release_29 : decode cX5_release 29 = .ok (.iload_n 3, 1) := by decide +kernel
theorem dX5_release_30 : decode cX5_release 30 = .ok (.bipush 6, 2) := by decide +kernel
theorem dX5_release_32 : decode cX5_release 32 = .ok (.if_icmp .ge 41, 3) := by decide +kernel
theorem dX5_release_35 : decode cX5_release 35 = .ok (.aload_n 0, 1) := by decide +kernel
theorem dX5_release_36 : decode cX5_release 36 = .ok (.iload_n 2, 1) := by decide +kernel
theorem dX5_release_37 : decode cX5_release 37 = .ok (.invokevirtual 36, 3) := by decide +kernel
theorem dX5_release_40 : decode cX5_release 40 = .ok (.ifCond .eq 33, 3) := by decide +kernel
theorem dX5_release_43 : decode cX5_release 43 = .ok (.aload_n 0, 1) := by decide +kernel
theorem dX5_release_44 : decode cX5_release 44 = .ok (.getfield 15, 3) := by decide +kernel
theorem dX5_release_47 : decode cX5_release 47 = .ok (.iload_n 2, 1) := by decide +kernel
theorem dX5_release_48 : decode cX5_release 48 = .ok (.dup2, 1) := by decide +kernel
theorem dX5_release_49 : decode cX5_release 49 = .ok (.iaload, 1) := by decide +kernel
theorem dX5_release_50 : decode cX5_release 50 = .ok (.aload_n 0, 1) := by decide +kernel
theorem dX5_release_51 : decode cX5_release 51 = .ok (.getfield 15, 3) := by decide +kernel
theorem dX5_release_54 : decode cX5_release 54 = .ok (.iload_n 1, 1) := by decide +kernel
theorem dX5_release_55 : decode cX5_release 55 = .ok (.iaload, 1) := by decide +kernel
theorem dX5_release_56 : decode cX5_release 56 = .ok (.iconst (-1), 1) := by decide +kernel
theorem dX5_release_57 : decode cX5_release 57 = .ok (.ixor, 1) := by decide +kernel
theorem dX5_release_58 : decode cX5_release 58 = .ok (.iand, 1) := by decide +kernel
theorem dX5_release_59 : decode cX5_release 59 = .ok (.iastore, 1) := by decide +kernel
theorem dX5_release_60 : decode cX5_release 60 = .ok (.aload_n 0, 1) := by decide +kernel
theorem dX5_release_61 : decode cX5_release 61 = .ok (.getfield 9, 3) := by decide +kernel
theorem dX5_release_64 : decode cX5_release 64 = .ok (.iload_n 2, 1) := by decide +kernel
theorem dX5_release_65 : decode cX5_release 65 = .ok (.iaload, 1) := by decide +kernel
theorem dX5_release_66 : decode cX5_release 66 = .ok (.istore_n 2, 1) := by decide +kernel
theorem dX5_release_67 : decode cX5_release 67 = .ok (.iinc 3 1, 3) := by decide +kernel
theorem dX5_release_70 : decode cX5_release 70 = .ok (.goto (-41), 3) := by decide +kernel
theorem dX5_release_73 : decode cX5_release 73 = .ok (.aload_n 0, 1) := by decide +kernel
theorem dX5_release_74 : decode cX5_release 74 = .ok (.getfield 9, 3) := by decide +kernel
theorem dX5_release_77 : decode cX5_release 77 = .ok (.iload_n 1, 1) := by decide +kernel
theorem dX5_release_78 : decode cX5_release 78 = .ok (.iconst (-1), 1) := by decide +kernel
theorem dX5_release_79 : decode cX5_release 79 = .ok (.iastore, 1) := by decide +kernel
theorem dX5_release_80 : decode cX5_release 80 = .ok (.iconst 1, 1) := by decide +kernel
theorem dX5_release_81 : decode cX5_release 81 = .ok (.ireturn, 1) := by decide +kernel
theorem dX5_wives_0 : decode cX5_wives 0 = .ok (.iconst 0, 1) := by decide +kernel
theorem dX5_wives_1 : decode cX5_wives 1 = .ok (.istore_n 2, 1) := by decide +kernel
theorem dX5_wives_2 : decode cX5_wives 2 = .ok (.iconst 0, 1) := by decide +kernel
theorem dX5_wives_3 : decode cX5_wives 3 = .ok (.istore_n 3, 1) := by decide +kernel
theorem dX5_wives_4 : decode cX5_wives 4 = .ok (.iload_n 3, 1) := by decide +kernel
theorem dX5_wives_5 : decode cX5_wives 5 = .ok (.aload_n 0, 1) := by decide +kernel
theorem dX5_wives_6 : decode cX5_wives 6 = .ok (.getfield 18, 3) := by decide +kernel
theorem dX5_wives_9 : decode cX5_wives 9 = .ok (.getfield 26, 3) := by decide +kernel
theorem dX5_wives_12 : decode cX5_wives 12 = .ok (.if_icmp .ge 25, 3) := by decide +kernel
theorem dX5_wives_15 : decode cX5_wives 15 = .ok (.aload_n 0, 1) := by decide +kernel
theorem dX5_wives_16 : decode cX5_wives 16 = .ok (.getfield 9, 3) := by decide +kernel
theorem dX5_wives_19 : decode cX5_wives 19 = .ok (.iload_n 3, 1) := by decide +kernel
theorem dX5_wives_20 : decode cX5_wives 20 = .ok (.iaload, 1) := by decide +kernel
theorem dX5_wives_21 : decode cX5_wives 21 = .ok (.iload_n 1, 1) := by decide +kernel
theorem dX5_wives_22 : decode cX5_wives 22 = .ok (.if_icmp .ne 9, 3) := by decide +kernel
theorem dX5_wives_25 : decode cX5_wives 25 = .ok (.iload_n 2, 1) := by decide +kernel
theorem dX5_wives_26 : decode cX5_wives 26 = .ok (.iconst 1, 1) := by decide +kernel
theorem dX5_wives_27 : decode cX5_wives 27 = .ok (.iload_n 3, 1) := by decide +kernel
theorem dX5_wives_28 : decode cX5_wives 28 = .ok (.ishl, 1) := by decide +kernel
theorem dX5_wives_29 : decode cX5_wives 29 = .ok (.ior, 1) := by decide +kernel
theorem dX5_wives_30 : decode cX5_wives 30 = .ok (.istore_n 2, 1) := by decide +kernel
theorem dX5_wives_31 : decode cX5_wives 31 = .ok (.iinc 3 1, 3) := by decide +kernel
theorem dX5_wives_34 : decode cX5_wives 34 = .ok (.goto (-30), 3) := by decide +kernel
theorem dX5_wives_37 : decode cX5_wives 37 = .ok (.iload_n 2, 1) := by decide +kernel
theorem dX5_wives_38 : decode cX5_wives 38 = .ok (.ireturn, 1) := by decide +kernel
theorem dX5_weddings_0 : decode cX5_weddings 0 = .ok (.iconst 0, 1) := by decide +kernel
theorem dX5_weddings_1 : decode cX5_weddings 1 = .ok (.istore_n 1, 1) := by decide +kernel
theorem dX5_weddings_2 : decode cX5_weddings 2 = .ok (.iconst 0, 1) := by decide +kernel
theorem dX5_weddings_3 : decode cX5_weddings 3 = .ok (.istore_n 2, 1) := by decide +kernel
theorem dX5_weddings_4 : decode cX5_weddings 4 = .ok (.iload_n 2, 1) := by decide +kernel
theorem dX5_weddings_5 : decode cX5_weddings 5 = .ok (.aload_n 0, 1) := by decide +kernel
theorem dX5_weddings_6 : decode cX5_weddings 6 = .ok (.getfield 18, 3) := by decide +kernel
theorem dX5_weddings_9 : decode cX5_weddings 9 = .ok (.getfield 26, 3) := by decide +kernel
theorem dX5_weddings_12 : decode cX5_weddings 12 = .ok (.if_icmp .ge 22, 3) := by decide +kernel
theorem dX5_weddings_15 : decode cX5_weddings 15 = .ok (.aload_n 0, 1) := by decide +kernel
theorem dX5_weddings_16 : decode cX5_weddings 16 = .ok (.getfield 9, 3) := by decide +kernel
theorem dX5_weddings_19 : decode cX5_weddings 19 = .ok (.iload_n 2, 1) := by decide +kernel
theorem dX5_weddings_20 : decode cX5_weddings 20 = .ok (.iaload, 1) := by decide +kernel
theorem dX5_weddings_21 : decode cX5_weddings 21 = .ok (.iconst (-1), 1) := by decide +kernel
theorem dX5_weddings_22 : decode cX5_weddings 22 = .ok (.if_icmp .eq 6, 3) := by decide +kernel
theorem dX5_weddings_25 : decode cX5_weddings 25 = .ok (.iinc 1 1, 3) := by decide +kernel
theorem dX5_weddings_28 : decode cX5_weddings 28 = .ok (.iinc 2 1, 3) := by decide +kernel
theorem dX5_weddings_31 : decode cX5_weddings 31 = .ok (.goto (-27), 3) := by decide +kernel
theorem dX5_weddings_34 : decode cX5_weddings 34 = .ok (.iload_n 1, 1) := by decide +kernel
theorem dX5_weddings_35 : decode cX5_weddings 35 = .ok (.ireturn, 1) := by decide +kernel
theorem dX5_waters_0 : decode cX5_waters 0 = .ok (.iconst 1, 1) := by decide +kernel
theorem dX5_waters_1 : decode cX5_waters 1 = .ok (.iload_n 1, 1) := by decide +kernel
theorem dX5_waters_2 : decode cX5_waters 2 = .ok (.ishl, 1) := by decide +kernel
theorem dX5_waters_3 : decode cX5_waters 3 = .ok (.istore_n 3, 1) := by decide +kernel
theorem dX5_waters_4 : decode cX5_waters 4 = .ok (.aload_n 0, 1) := by decide +kernel
theorem dX5_waters_5 : decode cX5_waters 5 = .ok (.getfield 18, 3) := by decide +kernel
theorem dX5_waters_8 : decode cX5_waters 8 = .ok (.getfield 43, 3) := by decide +kernel
theorem dX5_waters_11 : decode cX5_waters 11 = .ok (.iload_n 1, 1) := by decide +kernel
theorem dX5_waters_12 : decode cX5_waters 12 = .ok (.aaload, 1) := by decide +kernel
theorem dX5_waters_13 : decode cX5_waters 13 = .ok (.astore 4, 2) := by decide +kernel
theorem dX5_waters_15 : decode cX5_waters 15 = .ok (.aload 4, 2) := by decide +kernel
theorem dX5_waters_17 : decode cX5_waters 17 = .ok (.getfield 47, 3) := by decide +kernel
theorem dX5_waters_20 : decode cX5_waters 20 = .ok (.iconst 2, 1) := by decide +kernel
theorem dX5_waters_21 : decode cX5_waters 21 = .ok (.if_icmp .ne 14, 3) := by decide +kernel
theorem dX5_waters_24 : decode cX5_waters 24 = .ok (.iload_n 2, 1) := by decide +kernel
theorem dX5_waters_25 : decode cX5_waters 25 = .ok (.aload 4, 2) := by decide +kernel
theorem dX5_waters_27 : decode cX5_waters 27 = .ok (.getfield 52, 3) := by decide +kernel
theorem dX5_waters_30 : decode cX5_waters 30 = .ok (.if_icmp .le 5, 3) := by decide +kernel
theorem dX5_waters_33 : decode cX5_waters 33 = .ok (.iload_n 3, 1) := by decide +kernel
theorem dX5_waters_34 : decode cX5_waters 34 = .ok (.ireturn, 1) := by decide +kernel
theorem dX5_waters_35 : decode cX5_waters 35 = .ok (.iconst 0, 1) := by decide +kernel
theorem dX5_waters_36 : decode cX5_waters 36 = .ok (.istore 5, 2) := by decide +kernel
theorem dX5_waters_38 : decode cX5_waters 38 = .ok (.iload 5, 2) := by decide +kernel
theorem dX5_waters_40 : decode cX5_waters 40 = .ok (.aload_n 0, 1) := by decide +kernel
theorem dX5_waters_41 : decode cX5_waters 41 = .ok (.getfield 18, 3) := by decide +kernel
theorem dX5_waters_44 : decode cX5_waters 44 = .ok (.getfield 26, 3) := by decide +kernel
theorem dX5_waters_47 : decode cX5_waters 47 = .ok (.if_icmp .ge 47, 3) := by decide +kernel
theorem dX5_waters_50 : decode cX5_waters 50 = .ok (.aload_n 0, 1) := by decide +kernel
theorem dX5_waters_51 : decode cX5_waters 51 = .ok (.getfield 9, 3) := by decide +kernel
theorem dX5_waters_54 : decode cX5_waters 54 = .ok (.iload 5, 2) := by decide +kernel
theorem dX5_waters_56 : decode cX5_waters 56 = .ok (.iaload, 1) := by decide +kernel
theorem dX5_waters_57 : decode cX5_waters 57 = .ok (.iload_n 1, 1) := by decide +kernel
theorem dX5_waters_58 : decode cX5_waters 58 = .ok (.if_icmp .ne 30, 3) := by decide +kernel
theorem dX5_waters_61 : decode cX5_waters 61 = .ok (.aload_n 0, 1) := by decide +kernel
theorem dX5_waters_62 : decode cX5_waters 62 = .ok (.getfield 18, 3) := by decide +kernel
theorem dX5_waters_65 : decode cX5_waters 65 = .ok (.getfield 43, 3) := by decide +kernel
theorem dX5_waters_68 : decode cX5_waters 68 = .ok (.iload 5, 2) := by decide +kernel
theorem dX5_waters_70 : decode cX5_waters 70 = .ok (.aaload, 1) := by decide +kernel
theorem dX5_waters_71 : decode cX5_waters 71 = .ok (.getfield 52, 3) := by decide +kernel
theorem dX5_waters_74 : decode cX5_waters 74 = .ok (.iload_n 2, 1) := by decide +kernel
theorem dX5_waters_75 : decode cX5_waters 75 = .ok (.if_icmp .lt 13, 3) := by decide +kernel
theorem dX5_waters_78 : decode cX5_waters 78 = .ok (.iload_n 3, 1) := by decide +kernel
theorem dX5_waters_79 : decode cX5_waters 79 = .ok (.aload_n 0, 1) := by decide +kernel
theorem dX5_waters_80 : decode cX5_waters 80 = .ok (.getfield 15, 3) := by decide +kernel
theorem dX5_waters_83 : decode cX5_waters 83 = .ok (.iload 5, 2) := by decide +kernel
theorem dX5_waters_85 : decode cX5_waters 85 = .ok (.iaload, 1) := by decide +kernel
theorem dX5_waters_86 : decode cX5_waters 86 = .ok (.ior, 1) := by decide +kernel
theorem dX5_waters_87 : decode cX5_waters 87 = .ok (.istore_n 3, 1) := by decide +kernel
theorem dX5_waters_88 : decode cX5_waters 88 = .ok (.iinc 5 1, 3) := by decide +kernel
theorem dX5_waters_91 : decode cX5_waters 91 = .ok (.goto (-53), 3) := by decide +kernel
theorem dX5_waters_94 : decode cX5_waters 94 = .ok (.iload_n 3, 1) := by decide +kernel
theorem dX5_waters_95 : decode cX5_waters 95 = .ok (.ireturn, 1) := by decide +kernel
theorem dX5_dryMills_0 : decode cX5_dryMills 0 = .ok (.iconst 0, 1) := by decide +kernel
theorem dX5_dryMills_1 : decode cX5_dryMills 1 = .ok (.istore_n 2, 1) := by decide +kernel
theorem dX5_dryMills_2 : decode cX5_dryMills 2 = .ok (.iconst 0, 1) := by decide +kernel
theorem dX5_dryMills_3 : decode cX5_dryMills 3 = .ok (.istore_n 3, 1) := by decide +kernel
theorem dX5_dryMills_4 : decode cX5_dryMills 4 = .ok (.iload_n 3, 1) := by decide +kernel
theorem dX5_dryMills_5 : decode cX5_dryMills 5 = .ok (.aload_n 0, 1) := by decide +kernel
theorem dX5_dryMills_6 : decode cX5_dryMills 6 = .ok (.getfield 18, 3) := by decide +kernel
theorem dX5_dryMills_9 : decode cX5_dryMills 9 = .ok (.getfield 26, 3) := by decide +kernel
theorem dX5_dryMills_12 : decode cX5_dryMills 12 = .ok (.if_icmp .ge 61, 3) := by decide +kernel
theorem dX5_dryMills_15 : decode cX5_dryMills 15 = .ok (.aload_n 0, 1) := by decide +kernel
theorem dX5_dryMills_16 : decode cX5_dryMills 16 = .ok (.getfield 18, 3) := by decide +kernel
theorem dX5_dryMills_19 : decode cX5_dryMills 19 = .ok (.getfield 43, 3) := by decide +kernel
theorem dX5_dryMills_22 : decode cX5_dryMills 22 = .ok (.iload_n 3, 1) := by decide +kernel
theorem dX5_dryMills_23 : decode cX5_dryMills 23 = .ok (.aaload, 1) := by decide +kernel
theorem dX5_dryMills_24 : decode cX5_dryMills 24 = .ok (.astore 4, 2) := by decide +kernel
theorem dX5_dryMills_26 : decode cX5_dryMills 26 = .ok (.aload 4, 2) := by decide +kernel
theorem dX5_dryMills_28 : decode cX5_dryMills 28 = .ok (.getfield 55, 3) := by decide +kernel
theorem dX5_dryMills_31 : decode cX5_dryMills 31 = .ok (.iconst (-1), 1) := by decide +kernel
theorem dX5_dryMills_32 : decode cX5_dryMills 32 = .ok (.if_icmp .eq 35, 3) := by decide +kernel
theorem dX5_dryMills_35 : decode cX5_dryMills 35 = .ok (.aload 4, 2) := by decide +kernel
theorem dX5_dryMills_37 : decode cX5_dryMills 37 = .ok (.getfield 58, 3) := by decide +kernel
theorem dX5_dryMills_40 : decode cX5_dryMills 40 = .ok (.aload_n 0, 1) := by decide +kernel
theorem dX5_dryMills_41 : decode cX5_dryMills 41 = .ok (.getfield 18, 3) := by decide +kernel
theorem dX5_dryMills_44 : decode cX5_dryMills 44 = .ok (.aload_n 0, 1) := by decide +kernel
theorem dX5_dryMills_45 : decode cX5_dryMills 45 = .ok (.iload_n 3, 1) := by decide +kernel
theorem dX5_dryMills_46 : decode cX5_dryMills 46 = .ok (.aload 4, 2) := by decide +kernel
theorem dX5_dryMills_48 : decode cX5_dryMills 48 = .ok (.getfield 55, 3) := by decide +kernel
theorem dX5_dryMills_51 : decode cX5_dryMills 51 = .ok (.invokevirtual 61, 3) := by decide +kernel
theorem dX5_dryMills_54 : decode cX5_dryMills 54 = .ok (.iload_n 1, 1) := by decide +kernel
theorem dX5_dryMills_55 : decode cX5_dryMills 55 = .ok (.invokevirtual 65, 3) := by decide +kernel
theorem dX5_dryMills_58 : decode cX5_dryMills 58 = .ok (.if_icmp .le 9, 3) := by decide +kernel
theorem dX5_dryMills_61 : decode cX5_dryMills 61 = .ok (.iload_n 2, 1) := by decide +kernel
theorem dX5_dryMills_62 : decode cX5_dryMills 62 = .ok (.iconst 1, 1) := by decide +kernel
theorem dX5_dryMills_63 : decode cX5_dryMills 63 = .ok (.iload_n 3, 1) := by decide +kernel
theorem dX5_dryMills_64 : decode cX5_dryMills 64 = .ok (.ishl, 1) := by decide +kernel
theorem dX5_dryMills_65 : decode cX5_dryMills 65 = .ok (.ior, 1) := by decide +kernel
theorem dX5_dryMills_66 : decode cX5_dryMills 66 = .ok (.istore_n 2, 1) := by decide +kernel
theorem dX5_dryMills_67 : decode cX5_dryMills 67 = .ok (.iinc 3 1, 3) := by decide +kernel
theorem dX5_dryMills_70 : decode cX5_dryMills 70 = .ok (.goto (-66), 3) := by decide +kernel
theorem dX5_dryMills_73 : decode cX5_dryMills 73 = .ok (.iload_n 2, 1) := by decide +kernel
theorem dX5_dryMills_74 : decode cX5_dryMills 74 = .ok (.ireturn, 1) := by decide +kernel
theorem dX5_floodedTowns_0 : decode cX5_floodedTowns 0 = .ok (.iconst 0, 1) := by decide +kernel
theorem dX5_floodedTowns_1 : decode cX5_floodedTowns 1 = .ok (.istore_n 2, 1) := by decide +kernel
theorem dX5_floodedTowns_2 : decode cX5_floodedTowns 2 = .ok (.iconst 0, 1) := by decide +kernel
theorem dX5_floodedTowns_3 : decode cX5_floodedTowns 3 = .ok (.istore_n 3, 1) := by decide +kernel
theorem dX5_floodedTowns_4 : decode cX5_floodedTowns 4 = .ok (.iload_n 3, 1) := by decide +kernel
theorem dX5_floodedTowns_5 : decode cX5_floodedTowns 5 = .ok (.aload_n 0, 1) := by decide +kernel
theorem dX5_floodedTowns_6 : decode cX5_floodedTowns 6 = .ok (.getfield 18, 3) := by decide +kernel
theorem dX5_floodedTowns_9 : decode cX5_floodedTowns 9 = .ok (.getfield 26, 3) := by decide +kernel
theorem dX5_floodedTowns_12 : decode cX5_floodedTowns 12 = .ok (.if_icmp .ge 61, 3) := by decide +kernel
theorem dX5_floodedTowns_15 : decode cX5_floodedTowns 15 = .ok (.aload_n 0, 1) := by decide +kernel
theorem dX5_floodedTowns_16 : decode cX5_floodedTowns 16 = .ok (.getfield 18, 3) := by decide +kernel
theorem dX5_floodedTowns_19 : decode cX5_floodedTowns 19 = .ok (.getfield 43, 3) := by decide +kernel
theorem dX5_floodedTowns_22 : decode cX5_floodedTowns 22 = .ok (.iload_n 3, 1) := by decide +kernel
theorem dX5_floodedTowns_23 : decode cX5_floodedTowns 23 = .ok (.aaload, 1) := by decide +kernel
theorem dX5_floodedTowns_24 : decode cX5_floodedTowns 24 = .ok (.astore 4, 2) := by decide +kernel
theorem dX5_floodedTowns_26 : decode cX5_floodedTowns 26 = .ok (.aload 4, 2) := by decide +kernel
theorem dX5_floodedTowns_28 : decode cX5_floodedTowns 28 = .ok (.getfield 68, 3) := by decide +kernel
theorem dX5_floodedTowns_31 : decode cX5_floodedTowns 31 = .ok (.iconst (-1), 1) := by decide +kernel
theorem dX5_floodedTowns_32 : decode cX5_floodedTowns 32 = .ok (.if_icmp .eq 35, 3) := by decide +kernel
theorem dX5_floodedTowns_35 : decode cX5_floodedTowns 35 = .ok (.aload 4, 2) := by decide +kernel
theorem dX5_floodedTowns_37 : decode cX5_floodedTowns 37 = .ok (.getfield 71, 3) := by decide +kernel
theorem dX5_floodedTowns_40 : decode cX5_floodedTowns 40 = .ok (.aload_n 0, 1) := by decide +kernel
theorem dX5_floodedTowns_41 : decode cX5_floodedTowns 41 = .ok (.getfield 18, 3) := by decide +kernel
theorem dX5_floodedTowns_44 : decode cX5_floodedTowns 44 = .ok (.aload_n 0, 1) := by decide +kernel
theorem dX5_floodedTowns_45 : decode cX5_floodedTowns 45 = .ok (.iload_n 3, 1) := by decide +kernel
theorem dX5_floodedTowns_46 : decode cX5_floodedTowns 46 = .ok (.aload 4, 2) := by decide +kernel
theorem dX5_floodedTowns_48 : decode cX5_floodedTowns 48 = .ok (.getfield 68, 3) := by decide +kernel
theorem dX5_floodedTowns_51 : decode cX5_floodedTowns 51 = .ok (.invokevirtual 61, 3) := by decide +kernel
theorem dX5_floodedTowns_54 : decode cX5_floodedTowns 54 = .ok (.iload_n 1, 1) := by decide +kernel
theorem dX5_floodedTowns_55 : decode cX5_floodedTowns 55 = .ok (.invokevirtual 65, 3) := by decide +kernel
theorem dX5_floodedTowns_58 : decode cX5_floodedTowns 58 = .ok (.if_icmp .ge 9, 3) := by decide +kernel
theorem dX5_floodedTowns_61 : decode cX5_floodedTowns 61 = .ok (.iload_n 2, 1) := by decide +kernel
theorem dX5_floodedTowns_62 : decode cX5_floodedTowns 62 = .ok (.iconst 1, 1) := by decide +kernel
theorem dX5_floodedTowns_63 : decode cX5_floodedTowns 63 = .ok (.iload_n 3, 1) := by decide +kernel
theorem dX5_floodedTowns_64 : decode cX5_floodedTowns 64 = .ok (.ishl, 1) := by decide +kernel
theorem dX5_floodedTowns_65 : decode cX5_floodedTowns 65 = .ok (.ior, 1) := by decide +kernel
theorem dX5_floodedTowns_66 : decode cX5_floodedTowns 66 = .ok (.istore_n 2, 1) := by decide +kernel
theorem dX5_floodedTowns_67 : decode cX5_floodedTowns 67 = .ok (.iinc 3 1, 3) := by decide +kernel
theorem dX5_floodedTowns_70 : decode cX5_floodedTowns 70 = .ok (.goto (-66), 3) := by decide +kernel
theorem dX5_floodedTowns_73 : decode cX5_floodedTowns 73 = .ok (.iload_n 2, 1) := by decide +kernel
theorem dX5_floodedTowns_74 : decode cX5_floodedTowns 74 = .ok (.ireturn, 1) := by decide +kernel
theorem dX5_isNeedy_0 : decode cX5_isNeedy 0 = .ok (.aload_n 0, 1) := by decide +kernel
theorem dX5_isNeedy_1 : decode cX5_isNeedy 1 = .ok (.iload_n 1, 1) := by decide +kernel
theorem dX5_isNeedy_2 : decode cX5_isNeedy 2 = .ok (.invokevirtual 74, 3) := by decide +kernel
theorem dX5_isNeedy_5 : decode cX5_isNeedy 5 = .ok (.ifCond .ne 11, 3) := by decide +kernel
theorem dX5_isNeedy_8 : decode cX5_isNeedy 8 = .ok (.aload_n 0, 1) := by decide +kernel
theorem dX5_isNeedy_9 : decode cX5_isNeedy 9 = .ok (.iload_n 1, 1) := by decide +kernel
theorem dX5_isNeedy_10 : decode cX5_isNeedy 10 = .ok (.invokevirtual 78, 3) := by decide +kernel
theorem dX5_isNeedy_13 : decode cX5_isNeedy 13 = .ok (.ifCond .eq 7, 3) := by decide +kernel
theorem dX5_isNeedy_16 : decode cX5_isNeedy 16 = .ok (.iconst 1, 1) := by decide +kernel
theorem dX5_isNeedy_17 : decode cX5_isNeedy 17 = .ok (.goto 4, 3) := by decide +kernel
theorem dX5_isNeedy_20 : decode cX5_isNeedy 20 = .ok (.iconst 0, 1) := by decide +kernel
theorem dX5_isNeedy_21 : decode cX5_isNeedy 21 = .ok (.ireturn, 1) := by decide +kernel
theorem dX6_readLand_0 : decode cX6_readLand 0 = .ok (.aload_n 0, 1) := by decide +kernel
theorem dX6_readLand_1 : decode cX6_readLand 1 = .ok (.aload_n 1, 1) := by decide +kernel
theorem dX6_readLand_2 : decode cX6_readLand 2 = .ok (.invokevirtual 35, 3) := by decide +kernel
theorem dX6_readLand_5 : decode cX6_readLand 5 = .ok (.aload_n 1, 1) := by decide +kernel
theorem dX6_readLand_6 : decode cX6_readLand 6 = .ok (.invokevirtual 39, 3) := by decide +kernel
theorem dX6_readLand_9 : decode cX6_readLand 9 = .ok (.aload_n 0, 1) := by decide +kernel
theorem dX6_readLand_10 : decode cX6_readLand 10 = .ok (.iconst 0, 1) := by decide +kernel
theorem dX6_readLand_11 : decode cX6_readLand 11 = .ok (.putfield 42, 3) := by decide +kernel
theorem dX6_readLand_14 : decode cX6_readLand 14 = .ok (.iconst 0, 1) := by decide +kernel
theorem dX6_readLand_15 : decode cX6_readLand 15 = .ok (.istore_n 2, 1) := by decide +kernel
theorem dX6_readLand_16 : decode cX6_readLand 16 = .ok (.iload_n 2, 1) := by decide +kernel
theorem dX6_readLand_17 : decode cX6_readLand 17 = .ok (.sipush 1000, 3) := by decide +kernel
theorem dX6_readLand_20 : decode cX6_readLand 20 = .ok (.if_icmp .gt 28, 3) := by decide +kernel
theorem dX6_readLand_23 : decode cX6_readLand 23 = .ok (.aload_n 0, 1) := by decide +kernel
theorem dX6_readLand_24 : decode cX6_readLand 24 = .ok (.invokevirtual 46, 3) := by decide +kernel
theorem dX6_readLand_27 : decode cX6_readLand 27 = .ok (.ifCond .eq 21, 3) := by decide +kernel
theorem dX6_readLand_30 : decode cX6_readLand 30 = .ok (.aload_n 0, 1) := by decide +kernel
theorem dX6_readLand_31 : decode cX6_readLand 31 = .ok (.invokevirtual 50, 3) := by decide +kernel
theorem dX6_readLand_34 : decode cX6_readLand 34 = .ok (.ifCond .eq 8, 3) := by decide +kernel
theorem dX6_readLand_37 : decode cX6_readLand 37 = .ok (.aload_n 0, 1) := by decide +kernel
theorem dX6_readLand_38 : decode cX6_readLand 38 = .ok (.invokevirtual 53, 3) := by decide +kernel
theorem dX6_readLand_41 : decode cX6_readLand 41 = .ok (.pop, 1) := by decide +kernel
theorem dX6_readLand_42 : decode cX6_readLand 42 = .ok (.iinc 2 1, 3) := by decide +kernel
theorem dX6_readLand_45 : decode cX6_readLand 45 = .ok (.goto (-29), 3) := by decide +kernel
theorem dX6_readLand_48 : decode cX6_readLand 48 = .ok (.aload_n 0, 1) := by decide +kernel
theorem dX6_readLand_49 : decode cX6_readLand 49 = .ok (.getfield 56, 3) := by decide +kernel
theorem dX6_readLand_52 : decode cX6_readLand 52 = .ok (.ifCond .ne 7, 3) := by decide +kernel
theorem dX6_readLand_55 : decode cX6_readLand 55 = .ok (.aload_n 1, 1) := by decide +kernel
theorem dX6_readLand_56 : decode cX6_readLand 56 = .ok (.invokevirtual 59, 3) := by decide +kernel
theorem dX6_readLand_59 : decode cX6_readLand 59 = .ok (.aload_n 0, 1) := by decide +kernel
theorem dX6_readLand_60 : decode cX6_readLand 60 = .ok (.getfield 56, 3) := by decide +kernel
theorem dX6_readLand_63 : decode cX6_readLand 63 = .ok (.ireturn, 1) := by decide +kernel
theorem dX6_readVows_0 : decode cX6_readVows 0 = .ok (.aload_n 0, 1) := by decide +kernel
theorem dX6_readVows_1 : decode cX6_readVows 1 = .ok (.aload_n 1, 1) := by decide +kernel
theorem dX6_readVows_2 : decode cX6_readVows 2 = .ok (.invokevirtual 35, 3) := by decide +kernel
theorem dX6_readVows_5 : decode cX6_readVows 5 = .ok (.aload_n 0, 1) := by decide +kernel
theorem dX6_readVows_6 : decode cX6_readVows 6 = .ok (.iconst 0, 1) := by decide +kernel
theorem dX6_readVows_7 : decode cX6_readVows 7 = .ok (.putfield 62, 3) := by decide +kernel
theorem dX6_readVows_10 : decode cX6_readVows 10 = .ok (.iconst 0, 1) := by decide +kernel
theorem dX6_readVows_11 : decode cX6_readVows 11 = .ok (.istore_n 2, 1) := by decide +kernel
theorem dX6_readVows_12 : decode cX6_readVows 12 = .ok (.iload_n 2, 1) := by decide +kernel
theorem dX6_readVows_13 : decode cX6_readVows 13 = .ok (.bipush 24, 2) := by decide +kernel
theorem dX6_readVows_15 : decode cX6_readVows 15 = .ok (.if_icmp .gt 28, 3) := by decide +kernel
theorem dX6_readVows_18 : decode cX6_readVows 18 = .ok (.aload_n 0, 1) := by decide +kernel
theorem dX6_readVows_19 : decode cX6_readVows 19 = .ok (.invokevirtual 46, 3) := by decide +kernel
theorem dX6_readVows_22 : decode cX6_readVows 22 = .ok (.ifCond .eq 21, 3) := by decide +kernel
theorem dX6_readVows_25 : decode cX6_readVows 25 = .ok (.aload_n 0, 1) := by decide +kernel
theorem dX6_readVows_26 : decode cX6_readVows 26 = .ok (.invokevirtual 65, 3) := by decide +kernel
theorem dX6_readVows_29 : decode cX6_readVows 29 = .ok (.ifCond .eq 8, 3) := by decide +kernel
theorem dX6_readVows_32 : decode cX6_readVows 32 = .ok (.aload_n 0, 1) := by decide +kernel
theorem dX6_readVows_33 : decode cX6_readVows 33 = .ok (.invokevirtual 53, 3) := by decide +kernel
theorem dX6_readVows_36 : decode cX6_readVows 36 = .ok (.pop, 1) := by decide +kernel
theorem dX6_readVows_37 : decode cX6_readVows 37 = .ok (.iinc 2 1, 3) := by decide +kernel
theorem dX6_readVows_40 : decode cX6_readVows 40 = .ok (.goto (-28), 3) := by decide +kernel
theorem dX6_readVows_43 : decode cX6_readVows 43 = .ok (.aload_n 0, 1) := by decide +kernel
theorem dX6_readVows_44 : decode cX6_readVows 44 = .ok (.getfield 56, 3) := by decide +kernel
theorem dX6_readVows_47 : decode cX6_readVows 47 = .ok (.ireturn, 1) := by decide +kernel
theorem dX6_readWill_0 : decode cX6_readWill 0 = .ok (.aload_n 0, 1) := by decide +kernel
theorem dX6_readWill_1 : decode cX6_readWill 1 = .ok (.aload_n 0, 1) := by decide +kernel
theorem dX6_readWill_2 : decode cX6_readWill 2 = .ok (.getfield 22, 3) := by decide +kernel
theorem dX6_readWill_5 : decode cX6_readWill 5 = .ok (.invokevirtual 35, 3) := by decide +kernel
theorem dX6_readWill_8 : decode cX6_readWill 8 = .ok (.aload_n 0, 1) := by decide +kernel
theorem dX6_readWill_9 : decode cX6_readWill 9 = .ok (.iconst 0, 1) := by decide +kernel
theorem dX6_readWill_10 : decode cX6_readWill 10 = .ok (.putfield 68, 3) := by decide +kernel
theorem dX6_readWill_13 : decode cX6_readWill 13 = .ok (.iconst 0, 1) := by decide +kernel
theorem dX6_readWill_14 : decode cX6_readWill 14 = .ok (.istore_n 1, 1) := by decide +kernel
theorem dX6_readWill_15 : decode cX6_readWill 15 = .ok (.iload_n 1, 1) := by decide +kernel
theorem dX6_readWill_16 : decode cX6_readWill 16 = .ok (.bipush 6, 2) := by decide +kernel
theorem dX6_readWill_18 : decode cX6_readWill 18 = .ok (.if_icmp .gt 28, 3) := by decide +kernel
theorem dX6_readWill_21 : decode cX6_readWill 21 = .ok (.aload_n 0, 1) := by decide +kernel
theorem dX6_readWill_22 : decode cX6_readWill 22 = .ok (.invokevirtual 46, 3) := by decide +kernel
theorem dX6_readWill_25 : decode cX6_readWill 25 = .ok (.ifCond .eq 21, 3) := by decide +kernel
theorem dX6_readWill_28 : decode cX6_readWill 28 = .ok (.aload_n 0, 1) := by decide +kernel
theorem dX6_readWill_29 : decode cX6_readWill 29 = .ok (.invokevirtual 71, 3) := by decide +kernel
theorem dX6_readWill_32 : decode cX6_readWill 32 = .ok (.ifCond .eq 8, 3) := by decide +kernel
theorem dX6_readWill_35 : decode cX6_readWill 35 = .ok (.aload_n 0, 1) := by decide +kernel
theorem dX6_readWill_36 : decode cX6_readWill 36 = .ok (.invokevirtual 53, 3) := by decide +kernel
theorem dX6_readWill_39 : decode cX6_readWill 39 = .ok (.pop, 1) := by decide +kernel
theorem dX6_readWill_40 : decode cX6_readWill 40 = .ok (.iinc 1 1, 3) := by decide +kernel
theorem dX6_readWill_43 : decode cX6_readWill 43 = .ok (.goto (-28), 3) := by decide +kernel
theorem dX6_readWill_46 : decode cX6_readWill 46 = .ok (.aload_n 0, 1) := by decide +kernel
theorem dX6_readWill_47 : decode cX6_readWill 47 = .ok (.getfield 56, 3) := by decide +kernel
theorem dX6_readWill_50 : decode cX6_readWill 50 = .ok (.ireturn, 1) := by decide +kernel
theorem dX6_begin_0 : decode cX6_begin 0 = .ok (.aload_n 0, 1) := by decide +kernel
theorem dX6_begin_1 : decode cX6_begin 1 = .ok (.aload_n 1, 1) := by decide +kernel
theorem dX6_begin_2 : decode cX6_begin 2 = .ok (.putfield 22, 3) := by decide +kernel
theorem dX6_begin_5 : decode cX6_begin 5 = .ok (.aload_n 0, 1) := by decide +kernel
theorem dX6_begin_6 : decode cX6_begin 6 = .ok (.iconst 0, 1) := by decide +kernel
theorem dX6_begin_7 : decode cX6_begin 7 = .ok (.putfield 56, 3) := by decide +kernel
theorem dX6_begin_10 : decode cX6_begin 10 = .ok (.aload_n 0, 1) := by decide +kernel
theorem dX6_begin_11 : decode cX6_begin 11 = .ok (.getfield 18, 3) := by decide +kernel
theorem dX6_begin_14 : decode cX6_begin 14 = .ok (.invokevirtual 74, 3) := by decide +kernel
theorem dX6_begin_17 : decode cX6_begin 17 = .ok (.return_, 1) := by decide +kernel
theorem dX6_goesOn_0 : decode cX6_goesOn 0 = .ok (.aload_n 0, 1) := by decide +kernel
theorem dX6_goesOn_1 : decode cX6_goesOn 1 = .ok (.getfield 56, 3) := by decide +kernel
theorem dX6_goesOn_4 : decode cX6_goesOn 4 = .ok (.ifCond .ne 17, 3) := by decide +kernel
theorem dX6_goesOn_7 : decode cX6_goesOn 7 = .ok (.aload_n 0, 1) := by decide +kernel
theorem dX6_goesOn_8 : decode cX6_goesOn 8 = .ok (.getfield 18, 3) := by decide +kernel
theorem dX6_goesOn_11 : decode cX6_goesOn 11 = .ok (.getfield 78, 3) := by decide +kernel
theorem dX6_goesOn_14 : decode cX6_goesOn 14 = .ok (.ifCond .eq 7, 3) := by decide +kernel
theorem dX6_goesOn_17 : decode cX6_goesOn 17 = .ok (.iconst 1, 1) := by decide +kernel
theorem dX6_goesOn_18 : decode cX6_goesOn 18 = .ok (.goto 4, 3) := by decide +kernel
theorem dX6_goesOn_21 : decode cX6_goesOn 21 = .ok (.iconst 0, 1) := by decide +kernel
theorem dX6_goesOn_22 : decode cX6_goesOn 22 = .ok (.ireturn, 1) := by decide +kernel
theorem dX6_fail_0 : decode cX6_fail 0 = .ok (.aload_n 0, 1) := by decide +kernel
theorem dX6_fail_1 : decode cX6_fail 1 = .ok (.iload_n 1, 1) := by decide +kernel
theorem dX6_fail_2 : decode cX6_fail 2 = .ok (.bipush 16, 2) := by decide +kernel
theorem dX6_fail_4 : decode cX6_fail 4 = .ok (.aload_n 0, 1) := by decide +kernel
theorem dX6_fail_5 : decode cX6_fail 5 = .ok (.getfield 18, 3) := by decide +kernel
theorem dX6_fail_8 : decode cX6_fail 8 = .ok (.getfield 81, 3) := by decide +kernel
theorem dX6_fail_11 : decode cX6_fail 11 = .ok (.imul, 1) := by decide +kernel
theorem dX6_fail_12 : decode cX6_fail 12 = .ok (.iadd, 1) := by decide +kernel
theorem dX6_fail_13 : decode cX6_fail 13 = .ok (.putfield 56, 3) := by decide +kernel
theorem dX6_fail_16 : decode cX6_fail 16 = .ok (.iconst 0, 1) := by decide +kernel
theorem dX6_fail_17 : decode cX6_fail 17 = .ok (.ireturn, 1) := by decide +kernel
theorem dX6_isSign_0 : decode cX6_isSign 0 = .ok (.aload_n 0, 1) := by decide +kernel
theorem dX6_isSign_1 : decode cX6_isSign 1 = .ok (.getfield 18, 3) := by decide +kernel
theorem dX6_isSign_4 : decode cX6_isSign 4 = .ok (.getfield 78, 3) := by decide +kernel
theorem dX6_isSign_7 : decode cX6_isSign 7 = .ok (.iconst 4, 1) := by decide +kernel
theorem dX6_isSign_8 : decode cX6_isSign 8 = .ok (.if_icmp .ne 20, 3) := by decide +kernel
theorem dX6_isSign_11 : decode cX6_isSign 11 = .ok (.aload_n 0, 1) := by decide +kernel
theorem dX6_isSign_12 : decode cX6_isSign 12 = .ok (.getfield 18, 3) := by decide +kernel
theorem dX6_isSign_15 : decode cX6_isSign 15 = .ok (.getfield 84, 3) := by decide +kernel
theorem dX6_isSign_18 : decode cX6_isSign 18 = .ok (.iload_n 1, 1) := by decide +kernel
theorem dX6_isSign_19 : decode cX6_isSign 19 = .ok (.i2l, 1) := by decide +kernel
theorem dX6_isSign_20 : decode cX6_isSign 20 = .ok (.lcmp, 1) := by decide +kernel
theorem dX6_isSign_21 : decode cX6_isSign 21 = .ok (.ifCond .ne 7, 3) := by decide +kernel
theorem dX6_isSign_24 : decode cX6_isSign 24 = .ok (.iconst 1, 1) := by decide +kernel
theorem dX6_isSign_25 : decode cX6_isSign 25 = .ok (.goto 4, 3) := by decide +kernel
theorem dX6_isSign_28 : decode cX6_isSign 28 = .ok (.iconst 0, 1) := by decide +kernel
theorem dX6_isSign_29 : decode cX6_isSign 29 = .ok (.ireturn, 1) := by decide +kernel
theorem dX6_lineEnd_0 : decode cX6_lineEnd 0 = .ok (.aload_n 0, 1) := by decide +kernel
theorem dX6_lineEnd_1 : decode cX6_lineEnd 1 = .ok (.bipush 59, 2) := by decide +kernel
theorem dX6_lineEnd_3 : decode cX6_lineEnd 3 = .ok (.invokevirtual 88, 3) := by decide +kernel
theorem dX6_lineEnd_6 : decode cX6_lineEnd 6 = .ok (.ireturn, 1) := by decide +kernel
theorem dX6_passSign_0 : decode cX6_passSign 0 = .ok (.aload_n 0, 1) := by decide +kernel
theorem dX6_passSign_1 : decode cX6_passSign 1 = .ok (.iload_n 1, 1) := by decide +kernel
theorem dX6_passSign_2 : decode cX6_passSign 2 = .ok (.invokevirtual 92, 3) := by decide +kernel
theorem dX6_passSign_5 : decode cX6_passSign 5 = .ok (.ifCond .ne 9, 3) := by decide +kernel
theorem dX6_passSign_8 : decode cX6_passSign 8 = .ok (.aload_n 0, 1) := by decide +kernel
theorem dX6_passSign_9 : decode cX6_passSign 9 = .ok (.iconst 1, 1) := by decide +kernel
theorem dX6_passSign_10 : decode cX6_passSign 10 = .ok (.invokevirtual 95, 3) := by decide +kernel
theorem dX6_passSign_13 : decode cX6_passSign 13 = .ok (.ireturn, 1) := by decide +kernel
theorem dX6_passSign_14 : decode cX6_passSign 14 = .ok (.aload_n 0, 1) := by decide +kernel
theorem dX6_passSign_15 : decode cX6_passSign 15 = .ok (.getfield 18, 3) := by decide +kernel
theorem dX6_passSign_18 : decode cX6_passSign 18 = .ok (.invokevirtual 99, 3) := by decide +kernel
theorem dX6_passSign_21 : decode cX6_passSign 21 = .ok (.iconst 1, 1) := by decide +kernel
theorem dX6_passSign_22 : decode cX6_passSign 22 = .ok (.ireturn, 1) := by decide +kernel
theorem dX6_passWord_0 : decode cX6_passWord 0 = .ok (.aload_n 0, 1) := by decide +kernel
theorem dX6_passWord_1 : decode cX6_passWord 1 = .ok (.getfield 18, 3) := by decide +kernel
theorem dX6_passWord_4 : decode cX6_passWord 4 = .ok (.getfield 102, 3) := by decide +kernel
theorem dX6_passWord_7 : decode cX6_passWord 7 = .ok (.aload_n 1, 1) := by decide +kernel
theorem dX6_passWord_8 : decode cX6_passWord 8 = .ok (.if_acmp .eq 9, 3) := by decide +kernel
theorem dX6_passWord_11 : decode cX6_passWord 11 = .ok (.aload_n 0, 1) := by decide +kernel
theorem dX6_passWord_12 : decode cX6_passWord 12 = .ok (.iconst 1, 1) := by decide +kernel
theorem dX6_passWord_13 : decode cX6_passWord 13 = .ok (.invokevirtual 95, 3) := by decide +kernel
theorem dX6_passWord_16 : decode cX6_passWord 16 = .ok (.ireturn, 1) := by decide +kernel
theorem dX6_passWord_17 : decode cX6_passWord 17 = .ok (.aload_n 0, 1) := by decide +kernel
theorem dX6_passWord_18 : decode cX6_passWord 18 = .ok (.getfield 18, 3) := by decide +kernel
theorem dX6_passWord_21 : decode cX6_passWord 21 = .ok (.invokevirtual 99, 3) := by decide +kernel
theorem dX6_passWord_24 : decode cX6_passWord 24 = .ok (.iconst 1, 1) := by decide +kernel
theorem dX6_passWord_25 : decode cX6_passWord 25 = .ok (.ireturn, 1) := by decide +kernel
theorem dX6_isNumber_0 : decode cX6_isNumber 0 = .ok (.aload_n 0, 1) := by decide +kernel
theorem dX6_isNumber_1 : decode cX6_isNumber 1 = .ok (.getfield 18, 3) := by decide +kernel
theorem dX6_isNumber_4 : decode cX6_isNumber 4 = .ok (.getfield 78, 3) := by decide +kernel
theorem dX6_isNumber_7 : decode cX6_isNumber 7 = .ok (.iconst 3, 1) := by decide +kernel
theorem dX6_isNumber_8 : decode cX6_isNumber 8 = .ok (.if_icmp .eq 9, 3) := by decide +kernel
theorem dX6_isNumber_11 : decode cX6_isNumber 11 = .ok (.aload_n 0, 1) := by decide +kernel
theorem dX6_isNumber_12 : decode cX6_isNumber 12 = .ok (.iconst 1, 1) := by decide +kernel
theorem dX6_isNumber_13 : decode cX6_isNumber 13 = .ok (.invokevirtual 95, 3) := by decide +kernel
theorem dX6_isNumber_16 : decode cX6_isNumber 16 = .ok (.ireturn, 1) := by decide +kernel
theorem dX6_isNumber_17 : decode cX6_isNumber 17 = .ok (.aload_n 0, 1) := by decide +kernel
theorem dX6_isNumber_18 : decode cX6_isNumber 18 = .ok (.getfield 18, 3) := by decide +kernel
theorem dX6_isNumber_21 : decode cX6_isNumber 21 = .ok (.getfield 84, 3) := by decide +kernel
theorem dX6_isNumber_24 : decode cX6_isNumber 24 = .ok (.iload_n 1, 1) := by decide +kernel
theorem dX6_isNumber_25 : decode cX6_isNumber 25 = .ok (.i2l, 1) := by decide +kernel
theorem dX6_isNumber_26 : decode cX6_isNumber 26 = .ok (.lcmp, 1) := by decide +kernel
theorem dX6_isNumber_27 : decode cX6_isNumber 27 = .ok (.ifCond .lt 16, 3) := by decide +kernel
theorem dX6_isNumber_30 : decode cX6_isNumber 30 = .ok (.aload_n 0, 1) := by decide +kernel
theorem dX6_isNumber_31 : decode cX6_isNumber 31 = .ok (.getfield 18, 3) := by decide +kernel
theorem dX6_isNumber_34 : decode cX6_isNumber 34 = .ok (.getfield 84, 3) := by decide +kernel
theorem dX6_isNumber_37 : decode cX6_isNumber 37 = .ok (.iload_n 2, 1) := by decide +kernel
theorem dX6_isNumber_38 : decode cX6_isNumber 38 = .ok (.i2l, 1) := by decide +kernel
theorem dX6_isNumber_39 : decode cX6_isNumber 39 = .ok (.lcmp, 1) := by decide +kernel
theorem dX6_isNumber_40 : decode cX6_isNumber 40 = .ok (.ifCond .le 9, 3) := by decide +kernel
theorem dX6_isNumber_43 : decode cX6_isNumber 43 = .ok (.aload_n 0, 1) := by decide +kernel
theorem dX6_isNumber_44 : decode cX6_isNumber 44 = .ok (.iconst 4, 1) := by decide +kernel
theorem dX6_isNumber_45 : decode cX6_isNumber 45 = .ok (.invokevirtual 95, 3) := by decide +kernel
theorem dX6_isNumber_48 : decode cX6_isNumber 48 = .ok (.ireturn, 1) := by decide +kernel
theorem dX6_isNumber_49 : decode cX6_isNumber 49 = .ok (.aload_n 0, 1) := by decide +kernel
theorem dX6_isNumber_50 : decode cX6_isNumber 50 = .ok (.aload_n 0, 1) := by decide +kernel
theorem dX6_isNumber_51 : decode cX6_isNumber 51 = .ok (.getfield 18, 3) := by decide +kernel
theorem dX6_isNumber_54 : decode cX6_isNumber 54 = .ok (.getfield 84, 3) := by decide +kernel
theorem dX6_isNumber_57 : decode cX6_isNumber 57 = .ok (.l2i, 1) := by decide +kernel
theorem dX6_isNumber_58 : decode cX6_isNumber 58 = .ok (.putfield 106, 3) := by decide +kernel
theorem dX6_isNumber_61 : decode cX6_isNumber 61 = .ok (.iconst 1, 1) := by decide +kernel
theorem dX6_isNumber_62 : decode cX6_isNumber 62 = .ok (.ireturn, 1) := by decide +kernel
theorem dX6_passNumber_0 : decode cX6_passNumber 0 = .ok (.aload_n 0, 1) := by decide +kernel
theorem dX6_passNumber_1 : decode cX6_passNumber 1 = .ok (.iload_n 1, 1) := by decide +kernel
theorem dX6_passNumber_2 : decode cX6_passNumber 2 = .ok (.iload_n 2, 1) := by decide +kernel
theorem dX6_passNumber_3 : decode cX6_passNumber 3 = .ok (.invokevirtual 109, 3) := by decide +kernel
theorem dX6_passNumber_6 : decode cX6_passNumber 6 = .ok (.ifCond .ne 5, 3) := by decide +kernel
theorem dX6_passNumber_9 : decode cX6_passNumber 9 = .ok (.iconst 0, 1) := by decide +kernel
theorem dX6_passNumber_10 : decode cX6_passNumber 10 = .ok (.ireturn, 1) := by decide +kernel
theorem dX6_passNumber_11 : decode cX6_passNumber 11 = .ok (.aload_n 0, 1) := by decide +kernel
theorem dX6_passNumber_12 : decode cX6_passNumber 12 = .ok (.getfield 18, 3) := by decide +kernel
theorem dX6_passNumber_15 : decode cX6_passNumber 15 = .ok (.invokevirtual 99, 3) := by decide +kernel
theorem dX6_passNumber_18 : decode cX6_passNumber 18 = .ok (.iconst 1, 1) := by decide +kernel
theorem dX6_passNumber_19 : decode cX6_passNumber 19 = .ok (.ireturn, 1) := by decide +kernel
theorem dX6_numberBehind_0 : decode cX6_numberBehind 0 = .ok (.aload_n 0, 1) := by decide +kernel
theorem dX6_numberBehind_1 : decode cX6_numberBehind 1 = .ok (.aload_n 1, 1) := by decide +kernel
theorem dX6_numberBehind_2 : decode cX6_numberBehind 2 = .ok (.invokevirtual 113, 3) := by decide +kernel
theorem dX6_numberBehind_5 : decode cX6_numberBehind 5 = .ok (.ifCond .eq 12, 3) := by decide +kernel
theorem dX6_numberBehind_8 : decode cX6_numberBehind 8 = .ok (.aload_n 0, 1) := by decide +kernel
theorem dX6_numberBehind_9 : decode cX6_numberBehind 9 = .ok (.iload_n 2, 1) := by decide +kernel
theorem dX6_numberBehind_10 : decode cX6_numberBehind 10 = .ok (.iload_n 3, 1) := by decide +kernel
theorem dX6_numberBehind_11 : decode cX6_numberBehind 11 = .ok (.invokevirtual 109, 3) := by decide +kernel
theorem dX6_numberBehind_14 : decode cX6_numberBehind 14 = .ok (.ifCond .ne 5, 3) := by decide +kernel
theorem dX6_numberBehind_17 : decode cX6_numberBehind 17 = .ok (.iconst 0, 1) := by decide +kernel
theorem dX6_numberBehind_18 : decode cX6_numberBehind 18 = .ok (.ireturn, 1) := by decide +kernel
theorem dX6_numberBehind_19 : decode cX6_numberBehind 19 = .ok (.aload_n 0, 1) := by decide +kernel
theorem dX6_numberBehind_20 : decode cX6_numberBehind 20 = .ok (.getfield 18, 3) := by decide +kernel
theorem dX6_numberBehind_23 : decode cX6_numberBehind 23 = .ok (.invokevirtual 99, 3) := by decide +kernel
theorem dX6_numberBehind_26 : decode cX6_numberBehind 26 = .ok (.iconst 1, 1) := by decide +kernel
theorem dX6_numberBehind_27 : decode cX6_numberBehind 27 = .ok (.ireturn, 1) := by decide +kernel
theorem dX6_isName_0 : decode cX6_isName 0 = .ok (.aload_n 0, 1) := by decide +kernel
theorem dX6_isName_1 : decode cX6_isName 1 = .ok (.getfield 18, 3) := by decide +kernel
theorem dX6_isName_4 : decode cX6_isName 4 = .ok (.getfield 102, 3) := by decide +kernel
theorem dX6_isName_7 : decode cX6_isName 7 = .ok (.ifnull 16, 3) := by decide +kernel
theorem dX6_isName_10 : decode cX6_isName 10 = .ok (.aload_n 0, 1) := by decide +kernel
theorem dX6_isName_11 : decode cX6_isName 11 = .ok (.getfield 18, 3) := by decide +kernel
theorem dX6_isName_14 : decode cX6_isName 14 = .ok (.getfield 102, 3) := by decide +kernel
theorem dX6_isName_17 : decode cX6_isName 17 = .ok (.getfield 117, 3) := by decide +kernel
theorem dX6_isName_20 : decode cX6_isName 20 = .ok (.ifCond .ne 7, 3) := by decide +kernel
theorem dX6_isName_23 : decode cX6_isName 23 = .ok (.iconst 1, 1) := by decide +kernel
theorem dX6_isName_24 : decode cX6_isName 24 = .ok (.goto 4, 3) := by decide +kernel
theorem dX6_isName_27 : decode cX6_isName 27 = .ok (.iconst 0, 1) := by decide +kernel
theorem dX6_isName_28 : decode cX6_isName 28 = .ok (.istore_n 1, 1) := by decide +kernel
theorem dX6_isName_29 : decode cX6_isName 29 = .ok (.aload_n 0, 1) := by decide +kernel
theorem dX6_isName_30 : decode cX6_isName 30 = .ok (.getfield 18, 3) := by decide +kernel
theorem dX6_isName_33 : decode cX6_isName 33 = .ok (.getfield 78, 3) := by decide +kernel
theorem dX6_isName_36 : decode cX6_isName 36 = .ok (.iconst 2, 1) := by decide +kernel
theorem dX6_isName_37 : decode cX6_isName 37 = .ok (.if_icmp .ne 7, 3) := by decide +kernel
theorem dX6_isName_40 : decode cX6_isName 40 = .ok (.iload_n 1, 1) := by decide +kernel
theorem dX6_isName_41 : decode cX6_isName 41 = .ok (.ifCond .ne 11, 3) := by decide +kernel
theorem dX6_isName_44 : decode cX6_isName 44 = .ok (.aload_n 0, 1) := by decide +kernel
theorem dX6_isName_45 : decode cX6_isName 45 = .ok (.iconst 1, 1) := by decide +kernel
theorem dX6_isName_46 : decode cX6_isName 46 = .ok (.invokevirtual 95, 3) := by decide +kernel
theorem dX6_isName_49 : decode cX6_isName 49 = .ok (.ifCond .eq 7, 3) := by decide +kernel
theorem dX6_isName_52 : decode cX6_isName 52 = .ok (.iconst 1, 1) := by decide +kernel
theorem dX6_isName_53 : decode cX6_isName 53 = .ok (.goto 4, 3) := by decide +kernel
theorem dX6_isName_56 : decode cX6_isName 56 = .ok (.iconst 0, 1) := by decide +kernel
theorem dX6_isName_57 : decode cX6_isName 57 = .ok (.ireturn, 1) := by decide +kernel
theorem dX6_isToldName_0 : decode cX6_isToldName 0 = .ok (.aload_n 0, 1) := by decide +kernel
theorem dX6_isToldName_1 : decode cX6_isToldName 1 = .ok (.invokevirtual 123, 3) := by decide +kernel
theorem dX6_isToldName_4 : decode cX6_isToldName 4 = .ok (.ifCond .ne 5, 3) := by decide +kernel
theorem dX6_isToldName_7 : decode cX6_isToldName 7 = .ok (.iconst 0, 1) := by decide +kernel
theorem dX6_isToldName_8 : decode cX6_isToldName 8 = .ok (.ireturn, 1) := by decide +kernel
theorem dX6_isToldName_9 : decode cX6_isToldName 9 = .ok (.aload_n 0, 1) := by decide +kernel
theorem dX6_isToldName_10 : decode cX6_isToldName 10 = .ok (.aload_n 0, 1) := by decide +kernel
theorem dX6_isToldName_11 : decode cX6_isToldName 11 = .ok (.getfield 22, 3) := by decide +kernel
theorem dX6_isToldName_14 : decode cX6_isToldName 14 = .ok (.aload_n 0, 1) := by decide +kernel
theorem dX6_isToldName_15 : decode cX6_isToldName 15 = .ok (.getfield 18, 3) := by decide +kernel
theorem dX6_isToldName_18 : decode cX6_isToldName 18 = .ok (.getfield 84, 3) := by decide +kernel
theorem dX6_isToldName_21 : decode cX6_isToldName 21 = .ok (.invokevirtual 126, 3) := by decide +kernel
theorem dX6_isToldName_24 : decode cX6_isToldName 24 = .ok (.putfield 106, 3) := by decide +kernel
theorem dX6_isToldName_27 : decode cX6_isToldName 27 = .ok (.aload_n 0, 1) := by decide +kernel
theorem dX6_isToldName_28 : decode cX6_isToldName 28 = .ok (.getfield 106, 3) := by decide +kernel
theorem dX6_isToldName_31 : decode cX6_isToldName 31 = .ok (.iconst (-1), 1) := by decide +kernel
theorem dX6_isToldName_32 : decode cX6_isToldName 32 = .ok (.if_icmp .ne 11, 3) := by decide +kernel
theorem dX6_isToldName_35 : decode cX6_isToldName 35 = .ok (.aload_n 0, 1) := by decide +kernel
theorem dX6_isToldName_36 : decode cX6_isToldName 36 = .ok (.iconst 2, 1) := by decide +kernel
theorem dX6_isToldName_37 : decode cX6_isToldName 37 = .ok (.invokevirtual 95, 3) := by decide +kernel
theorem dX6_isToldName_40 : decode cX6_isToldName 40 = .ok (.ifCond .eq 7, 3) := by decide +kernel
theorem dX6_isToldName_43 : decode cX6_isToldName 43 = .ok (.iconst 1, 1) := by decide +kernel
theorem dX6_isToldName_44 : decode cX6_isToldName 44 = .ok (.goto 4, 3) := by decide +kernel
theorem dX6_isToldName_47 : decode cX6_isToldName 47 = .ok (.iconst 0, 1) := by decide +kernel
theorem dX6_isToldName_48 : decode cX6_isToldName 48 = .ok (.ireturn, 1) := by decide +kernel
theorem dX6_landLine_0 : decode cX6_landLine 0 = .ok (.aload_n 0, 1) := by decide +kernel
theorem dX6_landLine_1 : decode cX6_landLine 1 = .ok (.getfield 18, 3) := by decide +kernel
theorem dX6_landLine_4 : decode cX6_landLine 4 = .ok (.getfield 102, 3) := by decide +kernel
theorem dX6_landLine_7 : decode cX6_landLine 7 = .ok (.ifnonnull 9, 3) := by decide +kernel
theorem dX6_landLine_10 : decode cX6_landLine 10 = .ok (.aload_n 0, 1) := by decide +kernel
theorem dX6_landLine_11 : decode cX6_landLine 11 = .ok (.iconst 1, 1) := by decide +kernel
theorem dX6_landLine_12 : decode cX6_landLine 12 = .ok (.invokevirtual 95, 3) := by decide +kernel
theorem dX6_landLine_15 : decode cX6_landLine 15 = .ok (.ireturn, 1) := by decide +kernel
theorem dX6_landLine_16 : decode cX6_landLine 16 = .ok (.getstatic 130, 3) := by decide +kernel
theorem dX6_landLine_19 : decode cX6_landLine 19 = .ok (.aload_n 0, 1) := by decide +kernel
theorem dX6_landLine_20 : decode cX6_landLine 20 = .ok (.getfield 18, 3) := by decide +kernel
theorem dX6_landLine_23 : decode cX6_landLine 23 = .ok (.getfield 102, 3) := by decide +kernel
theorem dX6_landLine_26 : decode cX6_landLine 26 = .ok (.invokevirtual 135, 3) := by decide +kernel
theorem dX6_landLine_29 : decode cX6_landLine 29 = .ok (.iaload, 1) := by decide +kernel
theorem dX6_landLine_30 : decode cX6_landLine 30 = .ok (.tableswitch 71 1 6 #[38, 43, 48, 53, 58, 64], 38) := by decide +kernel
theorem dX6_landLine_68 : decode cX6_landLine 68 = .ok (.aload_n 0, 1) := by decide +kernel
theorem dX6_landLine_69 : decode cX6_landLine 69 = .ok (.invokevirtual 139, 3) := by decide +kernel
theorem dX6_landLine_72 : decode cX6_landLine 72 = .ok (.ireturn, 1) := by decide +kernel
theorem dX6_landLine_73 : decode cX6_landLine 73 = .ok (.aload_n 0, 1) := by decide +kernel
theorem dX6_landLine_74 : decode cX6_landLine 74 = .ok (.invokevirtual 142, 3) := by decide +kernel
theorem dX6_landLine_77 : decode cX6_landLine 77 = .ok (.ireturn, 1) := by decide +kernel
theorem dX6_landLine_78 : decode cX6_landLine 78 = .ok (.aload_n 0, 1) := by decide +kernel
theorem dX6_landLine_79 : decode cX6_landLine 79 = .ok (.invokevirtual 145, 3) := by decide +kernel
theorem dX6_landLine_82 : decode cX6_landLine 82 = .ok (.ireturn, 1) := by decide +kernel
theorem dX6_landLine_83 : decode cX6_landLine 83 = .ok (.aload_n 0, 1) := by decide +kernel
theorem dX6_landLine_84 : decode cX6_landLine 84 = .ok (.invokevirtual 148, 3) := by decide +kernel
theorem dX6_landLine_87 : decode cX6_landLine 87 = .ok (.ireturn, 1) := by decide +kernel
theorem dX6_landLine_88 : decode cX6_landLine 88 = .ok (.aload_n 0, 1) := by decide +kernel
theorem dX6_landLine_89 : decode cX6_landLine 89 = .ok (.iconst 4, 1) := by decide +kernel
theorem dX6_landLine_90 : decode cX6_landLine 90 = .ok (.invokevirtual 151, 3) := by decide +kernel
theorem dX6_landLine_93 : decode cX6_landLine 93 = .ok (.ireturn, 1) := by decide +kernel
theorem dX6_landLine_94 : decode cX6_landLine 94 = .ok (.aload_n 0, 1) := by decide +kernel
theorem dX6_landLine_95 : decode cX6_landLine 95 = .ok (.bipush 8, 2) := by decide +kernel
theorem dX6_landLine_97 : decode cX6_landLine 97 = .ok (.invokevirtual 151, 3) := by decide +kernel
theorem dX6_landLine_100 : decode cX6_landLine 100 = .ok (.ireturn, 1) := by decide +kernel
theorem dX6_landLine_101 : decode cX6_landLine 101 = .ok (.aload_n 0, 1) := by decide +kernel
theorem dX6_landLine_102 : decode cX6_landLine 102 = .ok (.iconst 1, 1) := by decide +kernel
theorem dX6_landLine_103 : decode cX6_landLine 103 = .ok (.invokevirtual 95, 3) := by decide +kernel
theorem dX6_landLine_106 : decode cX6_landLine 106 = .ok (.ireturn, 1) := by decide +kernel
theorem dX6_riverLine_0 : decode cX6_riverLine 0 = .ok (.aload_n 0, 1) := by decide +kernel
theorem dX6_riverLine_1 : decode cX6_riverLine 1 = .ok (.getfield 22, 3) := by decide +kernel
theorem dX6_riverLine_4 : decode cX6_riverLine 4 = .ok (.getfield 154, 3) := by decide +kernel
theorem dX6_riverLine_7 : decode cX6_riverLine 7 = .ok (.bipush 6, 2) := by decide +kernel
theorem dX6_riverLine_9 : decode cX6_riverLine 9 = .ok (.if_icmp .lt 9, 3) := by decide +kernel
theorem dX6_riverLine_12 : decode cX6_riverLine 12 = .ok (.aload_n 0, 1) := by decide +kernel
theorem dX6_riverLine_13 : decode cX6_riverLine 13 = .ok (.iconst 5, 1) := by decide +kernel
theorem dX6_riverLine_14 : decode cX6_riverLine 14 = .ok (.invokevirtual 95, 3) := by decide +kernel
theorem dX6_riverLine_17 : decode cX6_riverLine 17 = .ok (.ireturn, 1) := by decide +kernel
theorem dX6_riverLine_18 : decode cX6_riverLine 18 = .ok (.aload_n 0, 1) := by decide +kernel
theorem dX6_riverLine_19 : decode cX6_riverLine 19 = .ok (.getfield 18, 3) := by decide +kernel
theorem dX6_riverLine_22 : decode cX6_riverLine 22 = .ok (.invokevirtual 99, 3) := by decide +kernel
theorem dX6_riverLine_25 : decode cX6_riverLine 25 = .ok (.aload_n 0, 1) := by decide +kernel
theorem dX6_riverLine_26 : decode cX6_riverLine 26 = .ok (.getfield 22, 3) := by decide +kernel
theorem dX6_riverLine_29 : decode cX6_riverLine 29 = .ok (.getfield 157, 3) := by decide +kernel
theorem dX6_riverLine_32 : decode cX6_riverLine 32 = .ok (.aload_n 0, 1) := by decide +kernel
theorem dX6_riverLine_33 : decode cX6_riverLine 33 = .ok (.getfield 22, 3) := by decide +kernel
theorem dX6_riverLine_36 : decode cX6_riverLine 36 = .ok (.getfield 154, 3) := by decide +kernel
theorem dX6_riverLine_39 : decode cX6_riverLine 39 = .ok (.aaload, 1) := by decide +kernel
theorem dX6_riverLine_40 : decode cX6_riverLine 40 = .ok (.astore_n 1, 1) := by decide +kernel
theorem dX6_riverLine_41 : decode cX6_riverLine 41 = .ok (.aload_n 1, 1) := by decide +kernel
theorem dX6_riverLine_42 : decode cX6_riverLine 42 = .ok (.invokevirtual 161, 3) := by decide +kernel
theorem dX6_riverLine_45 : decode cX6_riverLine 45 = .ok (.aload_n 0, 1) := by decide +kernel
theorem dX6_riverLine_46 : decode cX6_riverLine 46 = .ok (.aload_n 1, 1) := by decide +kernel
theorem dX6_riverLine_47 : decode cX6_riverLine 47 = .ok (.invokevirtual 164, 3) := by decide +kernel
theorem dX6_riverLine_50 : decode cX6_riverLine 50 = .ok (.ifCond .eq 55, 3) := by decide +kernel
theorem dX6_riverLine_53 : decode cX6_riverLine 53 = .ok (.aload_n 0, 1) := by decide +kernel
theorem dX6_riverLine_54 : decode cX6_riverLine 54 = .ok (.aload_n 1, 1) := by decide +kernel
theorem dX6_riverLine_55 : decode cX6_riverLine 55 = .ok (.invokevirtual 168, 3) := by decide +kernel
theorem dX6_riverLine_58 : decode cX6_riverLine 58 = .ok (.ifCond .eq 47, 3) := by decide +kernel
theorem dX6_riverLine_61 : decode cX6_riverLine 61 = .ok (.aload_n 0, 1) := by decide +kernel
theorem dX6_riverLine_62 : decode cX6_riverLine 62 = .ok (.aload_n 1, 1) := by decide +kernel
theorem dX6_riverLine_63 : decode cX6_riverLine 63 = .ok (.invokevirtual 171, 3) := by decide +kernel
theorem dX6_riverLine_66 : decode cX6_riverLine 66 = .ok (.ifCond .eq 39, 3) := by decide +kernel
theorem dX6_riverLine_69 : decode cX6_riverLine 69 = .ok (.aload_n 0, 1) := by decide +kernel
theorem dX6_riverLine_70 : decode cX6_riverLine 70 = .ok (.aload_n 1, 1) := by decide +kernel
theorem dX6_riverLine_71 : decode cX6_riverLine 71 = .ok (.invokevirtual 174, 3) := by decide +kernel
theorem dX6_riverLine_74 : decode cX6_riverLine 74 = .ok (.ifCond .eq 31, 3) := by decide +kernel
theorem dX6_riverLine_77 : decode cX6_riverLine 77 = .ok (.aload_n 0, 1) := by decide +kernel
theorem dX6_riverLine_78 : decode cX6_riverLine 78 = .ok (.aload_n 1, 1) := by decide +kernel
theorem dX6_riverLine_79 : decode cX6_riverLine 79 = .ok (.invokevirtual 177, 3) := by decide +kernel
theorem dX6_riverLine_82 : decode cX6_riverLine 82 = .ok (.ifCond .eq 23, 3) := by decide +kernel
theorem dX6_riverLine_85 : decode cX6_riverLine 85 = .ok (.aload_n 0, 1) := by decide +kernel
theorem dX6_riverLine_86 : decode cX6_riverLine 86 = .ok (.aload_n 1, 1) := by decide +kernel
theorem dX6_riverLine_87 : decode cX6_riverLine 87 = .ok (.invokevirtual 180, 3) := by decide +kernel
theorem dX6_riverLine_90 : decode cX6_riverLine 90 = .ok (.ifCond .eq 15, 3) := by decide +kernel
theorem dX6_riverLine_93 : decode cX6_riverLine 93 = .ok (.aload_n 0, 1) := by decide +kernel
theorem dX6_riverLine_94 : decode cX6_riverLine 94 = .ok (.aload_n 1, 1) := by decide +kernel
theorem dX6_riverLine_95 : decode cX6_riverLine 95 = .ok (.invokevirtual 183, 3) := by decide +kernel
theorem dX6_riverLine_98 : decode cX6_riverLine 98 = .ok (.ifCond .eq 7, 3) := by decide +kernel
theorem dX6_riverLine_101 : decode cX6_riverLine 101 = .ok (.iconst 1, 1) := by decide +kernel
theorem dX6_riverLine_102 : decode cX6_riverLine 102 = .ok (.goto 4, 3) := by decide +kernel
theorem dX6_riverLine_105 : decode cX6_riverLine 105 = .ok (.iconst 0, 1) := by decide +kernel
theorem dX6_riverLine_106 : decode cX6_riverLine 106 = .ok (.istore_n 2, 1) := by decide +kernel
theorem dX6_riverLine_107 : decode cX6_riverLine 107 = .ok (.iload_n 2, 1) := by decide +kernel
theorem dX6_riverLine_108 : decode cX6_riverLine 108 = .ok (.ifCond .eq 16, 3) := by decide +kernel
theorem dX6_riverLine_111 : decode cX6_riverLine 111 = .ok (.aload_n 0, 1) := by decide +kernel
theorem dX6_riverLine_112 : decode cX6_riverLine 112 = .ok (.getfield 22, 3) := by decide +kernel
theorem dX6_riverLine_115 : decode cX6_riverLine 115 = .ok (.dup, 1) := by decide +kernel
theorem dX6_riverLine_116 : decode cX6_riverLine 116 = .ok (.getfield 154, 3) := by decide +kernel
theorem dX6_riverLine_119 : decode cX6_riverLine 119 = .ok (.iconst 1, 1) := by decide +kernel
theorem dX6_riverLine_120 : decode cX6_riverLine 120 = .ok (.iadd, 1) := by decide +kernel
theorem dX6_riverLine_121 : decode cX6_riverLine 121 = .ok (.putfield 154, 3) := by decide +kernel
theorem dX6_riverLine_124 : decode cX6_riverLine 124 = .ok (.iload_n 2, 1) := by decide +kernel
theorem dX6_riverLine_125 : decode cX6_riverLine 125 = .ok (.ireturn, 1) := by decide +kernel
theorem dX6_riverName_0 : decode cX6_riverName 0 = .ok (.aload_n 0, 1) := by decide +kernel
theorem dX6_riverName_1 : decode cX6_riverName 1 = .ok (.invokevirtual 123, 3) := by decide +kernel
theorem dX6_riverName_4 : decode cX6_riverName 4 = .ok (.ifCond .ne 5, 3) := by decide +kernel
theorem dX6_riverName_7 : decode cX6_riverName 7 = .ok (.iconst 0, 1) := by decide +kernel
theorem dX6_riverName_8 : decode cX6_riverName 8 = .ok (.ireturn, 1) := by decide +kernel
theorem dX6_riverName_9 : decode cX6_riverName 9 = .ok (.aload_n 0, 1) := by decide +kernel
theorem dX6_riverName_10 : decode cX6_riverName 10 = .ok (.getfield 22, 3) := by decide +kernel
theorem dX6_riverName_13 : decode cX6_riverName 13 = .ok (.aload_n 0, 1) := by decide +kernel
theorem dX6_riverName_14 : decode cX6_riverName 14 = .ok (.getfield 18, 3) := by decide +kernel
theorem dX6_riverName_17 : decode cX6_riverName 17 = .ok (.getfield 84, 3) := by decide +kernel
theorem dX6_riverName_20 : decode cX6_riverName 20 = .ok (.invokevirtual 126, 3) := by decide +kernel
theorem dX6_riverName_23 : decode cX6_riverName 23 = .ok (.iconst (-1), 1) := by decide +kernel
theorem dX6_riverName_24 : decode cX6_riverName 24 = .ok (.if_icmp .eq 9, 3) := by decide +kernel
theorem dX6_riverName_27 : decode cX6_riverName 27 = .ok (.aload_n 0, 1) := by decide +kernel
theorem dX6_riverName_28 : decode cX6_riverName 28 = .ok (.iconst 3, 1) := by decide +kernel
theorem dX6_riverName_29 : decode cX6_riverName 29 = .ok (.invokevirtual 95, 3) := by decide +kernel
theorem dX6_riverName_32 : decode cX6_riverName 32 = .ok (.ireturn, 1) := by decide +kernel
theorem dX6_riverName_33 : decode cX6_riverName 33 = .ok (.aload_n 1, 1) := by decide +kernel
theorem dX6_riverName_34 : decode cX6_riverName 34 = .ok (.aload_n 0, 1) := by decide +kernel
theorem dX6_riverName_35 : decode cX6_riverName 35 = .ok (.getfield 18, 3) := by decide +kernel
theorem dX6_riverName_38 : decode cX6_riverName 38 = .ok (.getfield 84, 3) := by decide +kernel
theorem dX6_riverName_41 : decode cX6_riverName 41 = .ok (.putfield 186, 3) := by decide +kernel
theorem dX6_riverName_44 : decode cX6_riverName 44 = .ok (.aload_n 1, 1) := by decide +kernel
theorem dX6_riverName_45 : decode cX6_riverName 45 = .ok (.aload_n 0, 1) := by decide +kernel
theorem dX6_riverName_46 : decode cX6_riverName 46 = .ok (.getfield 18, 3) := by decide +kernel
theorem dX6_riverName_49 : decode cX6_riverName 49 = .ok (.getfield 187, 3) := by decide +kernel
theorem dX6_riverName_52 : decode cX6_riverName 52 = .ok (.putfield 190, 3) := by decide +kernel
theorem dX6_riverName_55 : decode cX6_riverName 55 = .ok (.aload_n 0, 1) := by decide +kernel
theorem dX6_riverName_56 : decode cX6_riverName 56 = .ok (.getfield 18, 3) := by decide +kernel
theorem dX6_riverName_59 : decode cX6_riverName 59 = .ok (.invokevirtual 99, 3) := by decide +kernel
theorem dX6_riverName_62 : decode cX6_riverName 62 = .ok (.iconst 1, 1) := by decide +kernel
theorem dX6_riverName_63 : decode cX6_riverName 63 = .ok (.ireturn, 1) := by decide +kernel
theorem dX6_riverKind_0 : decode cX6_riverKind 0 = .ok (.aload_n 0, 1) := by decide +kernel
theorem dX6_riverKind_1 : decode cX6_riverKind 1 = .ok (.getfield 18, 3) := by decide +kernel
theorem dX6_riverKind_4 : decode cX6_riverKind 4 = .ok (.getfield 102, 3) := by decide +kernel
theorem dX6_riverKind_7 : decode cX6_riverKind 7 = .ok (.ifnull 17, 3) := by decide +kernel
theorem dX6_riverKind_10 : decode cX6_riverKind 10 = .ok (.aload_n 0, 1) := by decide +kernel
theorem dX6_riverKind_11 : decode cX6_riverKind 11 = .ok (.getfield 18, 3) := by decide +kernel
theorem dX6_riverKind_14 : decode cX6_riverKind 14 = .ok (.getfield 102, 3) := by decide +kernel
theorem dX6_riverKind_17 : decode cX6_riverKind 17 = .ok (.getfield 191, 3) := by decide +kernel
theorem dX6_riverKind_20 : decode cX6_riverKind 20 = .ok (.iconst (-1), 1) := by decide +kernel
theorem dX6_riverKind_21 : decode cX6_riverKind 21 = .ok (.if_icmp .ne 9, 3) := by decide +kernel
theorem dX6_riverKind_24 : decode cX6_riverKind 24 = .ok (.aload_n 0, 1) := by decide +kernel
theorem dX6_riverKind_25 : decode cX6_riverKind 25 = .ok (.iconst 1, 1) := by decide +kernel
theorem dX6_riverKind_26 : decode cX6_riverKind 26 = .ok (.invokevirtual 95, 3) := by decide +kernel
theorem dX6_riverKind_29 : decode cX6_riverKind 29 = .ok (.ireturn, 1) := by decide +kernel
theorem dX6_riverKind_30 : decode cX6_riverKind 30 = .ok (.aload_n 1, 1) := by decide +kernel
theorem dX6_riverKind_31 : decode cX6_riverKind 31 = .ok (.aload_n 0, 1) := by decide +kernel
theorem dX6_riverKind_32 : decode cX6_riverKind 32 = .ok (.getfield 18, 3) := by decide +kernel
theorem dX6_riverKind_35 : decode cX6_riverKind 35 = .ok (.getfield 102, 3) := by decide +kernel
theorem dX6_riverKind_38 : decode cX6_riverKind 38 = .ok (.getfield 191, 3) := by decide +kernel
theorem dX6_riverKind_41 : decode cX6_riverKind 41 = .ok (.putfield 192, 3) := by decide +kernel
theorem dX6_riverKind_44 : decode cX6_riverKind 44 = .ok (.aload_n 0, 1) := by decide +kernel
theorem dX6_riverKind_45 : decode cX6_riverKind 45 = .ok (.getfield 18, 3) := by decide +kernel
theorem dX6_riverKind_48 : decode cX6_riverKind 48 = .ok (.invokevirtual 99, 3) := by decide +kernel
theorem dX6_riverKind_51 : decode cX6_riverKind 51 = .ok (.iconst 1, 1) := by decide +kernel
theorem dX6_riverKind_52 : decode cX6_riverKind 52 = .ok (.ireturn, 1) := by decide +kernel
theorem dX6_riverCourse_0 : decode cX6_riverCourse 0 = .ok (.aload_n 0, 1) := by decide +kernel
theorem dX6_riverCourse_1 : decode cX6_riverCourse 1 = .ok (.getstatic 193, 3) := by decide +kernel
theorem dX6_riverCourse_4 : decode cX6_riverCourse 4 = .ok (.iconst 1, 1) := by decide +kernel
theorem dX6_riverCourse_5 : decode cX6_riverCourse 5 = .ok (.bipush 99, 2) := by decide +kernel
theorem dX6_riverCourse_7 : decode cX6_riverCourse 7 = .ok (.invokevirtual 196, 3) := by decide +kernel
theorem dX6_riverCourse_10 : decode cX6_riverCourse 10 = .ok (.ifCond .ne 5, 3) := by decide +kernel
theorem dX6_riverCourse_13 : decode cX6_riverCourse 13 = .ok (.iconst 0, 1) := by decide +kernel
theorem dX6_riverCourse_14 : decode cX6_riverCourse 14 = .ok (.ireturn, 1) := by decide +kernel
theorem dX6_riverCourse_15 : decode cX6_riverCourse 15 = .ok (.aload_n 1, 1) := by decide +kernel
theorem dX6_riverCourse_16 : decode cX6_riverCourse 16 = .ok (.aload_n 0, 1) := by decide +kernel
theorem dX6_riverCourse_17 : decode cX6_riverCourse 17 = .ok (.getfield 106, 3) := by decide +kernel
theorem dX6_riverCourse_20 : decode cX6_riverCourse 20 = .ok (.putfield 200, 3) := by decide +kernel
theorem dX6_riverCourse_23 : decode cX6_riverCourse 23 = .ok (.aload_n 0, 1) := by decide +kernel
theorem dX6_riverCourse_24 : decode cX6_riverCourse 24 = .ok (.getstatic 203, 3) := by decide +kernel
theorem dX6_riverCourse_27 : decode cX6_riverCourse 27 = .ok (.iconst 0, 1) := by decide +kernel
theorem dX6_riverCourse_28 : decode cX6_riverCourse 28 = .ok (.aload_n 1, 1) := by decide +kernel
theorem dX6_riverCourse_29 : decode cX6_riverCourse 29 = .ok (.getfield 200, 3) := by decide +kernel
theorem dX6_riverCourse_32 : decode cX6_riverCourse 32 = .ok (.iconst 1, 1) := by decide +kernel
theorem dX6_riverCourse_33 : decode cX6_riverCourse 33 = .ok (.isub, 1) := by decide +kernel
theorem dX6_riverCourse_34 : decode cX6_riverCourse 34 = .ok (.invokevirtual 196, 3) := by decide +kernel
theorem dX6_riverCourse_37 : decode cX6_riverCourse 37 = .ok (.ifCond .ne 5, 3) := by decide +kernel
theorem dX6_riverCourse_40 : decode cX6_riverCourse 40 = .ok (.iconst 0, 1) := by decide +kernel
theorem dX6_riverCourse_41 : decode cX6_riverCourse 41 = .ok (.ireturn, 1) := by decide +kernel
theorem dX6_riverCourse_42 : decode cX6_riverCourse 42 = .ok (.aload_n 1, 1) := by decide +kernel
theorem dX6_riverCourse_43 : decode cX6_riverCourse 43 = .ok (.aload_n 0, 1) := by decide +kernel
theorem dX6_riverCourse_44 : decode cX6_riverCourse 44 = .ok (.getfield 106, 3) := by decide +kernel
theorem dX6_riverCourse_47 : decode cX6_riverCourse 47 = .ok (.putfield 206, 3) := by decide +kernel
theorem dX6_riverCourse_50 : decode cX6_riverCourse 50 = .ok (.aload_n 0, 1) := by decide +kernel
theorem dX6_riverCourse_51 : decode cX6_riverCourse 51 = .ok (.getstatic 209, 3) := by decide +kernel
theorem dX6_riverCourse_54 : decode cX6_riverCourse 54 = .ok (.iconst 0, 1) := by decide +kernel
theorem dX6_riverCourse_55 : decode cX6_riverCourse 55 = .ok (.bipush 99, 2) := by decide +kernel
theorem dX6_riverCourse_57 : decode cX6_riverCourse 57 = .ok (.invokevirtual 196, 3) := by decide +kernel
theorem dX6_riverCourse_60 : decode cX6_riverCourse 60 = .ok (.ifCond .ne 5, 3) := by decide +kernel
theorem dX6_riverCourse_63 : decode cX6_riverCourse 63 = .ok (.iconst 0, 1) := by decide +kernel
theorem dX6_riverCourse_64 : decode cX6_riverCourse 64 = .ok (.ireturn, 1) := by decide +kernel
theorem dX6_riverCourse_65 : decode cX6_riverCourse 65 = .ok (.aload_n 1, 1) := by decide +kernel
theorem dX6_riverCourse_66 : decode cX6_riverCourse 66 = .ok (.aload_n 0, 1) := by decide +kernel
theorem dX6_riverCourse_67 : decode cX6_riverCourse 67 = .ok (.getfield 106, 3) := by decide +kernel
theorem dX6_riverCourse_70 : decode cX6_riverCourse 70 = .ok (.putfield 212, 3) := by decide +kernel
theorem dX6_riverCourse_73 : decode cX6_riverCourse 73 = .ok (.iconst 1, 1) := by decide +kernel
theorem dX6_riverCourse_74 : decode cX6_riverCourse 74 = .ok (.ireturn, 1) := by decide +kernel
theorem dX6_riverWater_0 : decode cX6_riverWater 0 = .ok (.aload_n 0, 1) := by decide +kernel
theorem dX6_riverWater_1 : decode cX6_riverWater 1 = .ok (.getstatic 215, 3) := by decide +kernel
theorem dX6_riverWater_4 : decode cX6_riverWater 4 = .ok (.invokevirtual 113, 3) := by decide +kernel
theorem dX6_riverWater_7 : decode cX6_riverWater 7 = .ok (.ifCond .ne 5, 3) := by decide +kernel
theorem dX6_riverWater_10 : decode cX6_riverWater 10 = .ok (.iconst 0, 1) := by decide +kernel
theorem dX6_riverWater_11 : decode cX6_riverWater 11 = .ok (.ireturn, 1) := by decide +kernel
theorem dX6_riverWater_12 : decode cX6_riverWater 12 = .ok (.iconst 0, 1) := by decide +kernel
theorem dX6_riverWater_13 : decode cX6_riverWater 13 = .ok (.istore_n 2, 1) := by decide +kernel
theorem dX6_riverWater_14 : decode cX6_riverWater 14 = .ok (.iload_n 2, 1) := by decide +kernel
theorem dX6_riverWater_15 : decode cX6_riverWater 15 = .ok (.iconst 4, 1) := by decide +kernel
theorem dX6_riverWater_16 : decode cX6_riverWater 16 = .ok (.if_icmp .ge 31, 3) := by decide +kernel
theorem dX6_riverWater_19 : decode cX6_riverWater 19 = .ok (.aload_n 0, 1) := by decide +kernel
theorem dX6_riverWater_20 : decode cX6_riverWater 20 = .ok (.iconst 0, 1) := by decide +kernel
theorem dX6_riverWater_21 : decode cX6_riverWater 21 = .ok (.bipush 99, 2) := by decide +kernel
theorem dX6_riverWater_23 : decode cX6_riverWater 23 = .ok (.invokevirtual 218, 3) := by decide +kernel
theorem dX6_riverWater_26 : decode cX6_riverWater 26 = .ok (.ifCond .ne 5, 3) := by decide +kernel
theorem dX6_riverWater_29 : decode cX6_riverWater 29 = .ok (.iconst 0, 1) := by decide +kernel
theorem dX6_riverWater_30 : decode cX6_riverWater 30 = .ok (.ireturn, 1) := by decide +kernel
theorem dX6_riverWater_31 : decode cX6_riverWater 31 = .ok (.aload_n 1, 1) := by decide +kernel
theorem dX6_riverWater_32 : decode cX6_riverWater 32 = .ok (.getfield 221, 3) := by decide +kernel
theorem dX6_riverWater_35 : decode cX6_riverWater 35 = .ok (.iload_n 2, 1) := by decide +kernel
theorem dX6_riverWater_36 : decode cX6_riverWater 36 = .ok (.aload_n 0, 1) := by decide +kernel
theorem dX6_riverWater_37 : decode cX6_riverWater 37 = .ok (.getfield 106, 3) := by decide +kernel
theorem dX6_riverWater_40 : decode cX6_riverWater 40 = .ok (.iastore, 1) := by decide +kernel
theorem dX6_riverWater_41 : decode cX6_riverWater 41 = .ok (.iinc 2 1, 3) := by decide +kernel
theorem dX6_riverWater_44 : decode cX6_riverWater 44 = .ok (.goto (-30), 3) := by decide +kernel
theorem dX6_riverWater_47 : decode cX6_riverWater 47 = .ok (.iconst 1, 1) := by decide +kernel
theorem dX6_riverWater_48 : decode cX6_riverWater 48 = .ok (.ireturn, 1) := by decide +kernel
theorem dX6_riverMill_0 : decode cX6_riverMill 0 = .ok (.aload_n 0, 1) := by decide +kernel
theorem dX6_riverMill_1 : decode cX6_riverMill 1 = .ok (.getfield 18, 3) := by decide +kernel
theorem dX6_riverMill_4 : decode cX6_riverMill 4 = .ok (.getfield 102, 3) := by decide +kernel
theorem dX6_riverMill_7 : decode cX6_riverMill 7 = .ok (.getstatic 224, 3) := by decide +kernel
theorem dX6_riverMill_10 : decode cX6_riverMill 10 = .ok (.if_acmp .eq 5, 3) := by decide +kernel
theorem dX6_riverMill_13 : decode cX6_riverMill 13 = .ok (.iconst 1, 1) := by decide +kernel
theorem dX6_riverMill_14 : decode cX6_riverMill 14 = .ok (.ireturn, 1) := by decide +kernel
theorem dX6_riverMill_15 : decode cX6_riverMill 15 = .ok (.aload_n 0, 1) := by decide +kernel
theorem dX6_riverMill_16 : decode cX6_riverMill 16 = .ok (.getstatic 224, 3) := by decide +kernel
theorem dX6_riverMill_19 : decode cX6_riverMill 19 = .ok (.iconst 1, 1) := by decide +kernel
theorem dX6_riverMill_20 : decode cX6_riverMill 20 = .ok (.sipush 999, 3) := by decide +kernel
theorem dX6_riverMill_23 : decode cX6_riverMill 23 = .ok (.invokevirtual 196, 3) := by decide +kernel
theorem dX6_riverMill_26 : decode cX6_riverMill 26 = .ok (.ifCond .ne 5, 3) := by decide +kernel
theorem dX6_riverMill_29 : decode cX6_riverMill 29 = .ok (.iconst 0, 1) := by decide +kernel
theorem dX6_riverMill_30 : decode cX6_riverMill 30 = .ok (.ireturn, 1) := by decide +kernel
theorem dX6_riverMill_31 : decode cX6_riverMill 31 = .ok (.aload_n 1, 1) := by decide +kernel
theorem dX6_riverMill_32 : decode cX6_riverMill 32 = .ok (.aload_n 0, 1) := by decide +kernel
theorem dX6_riverMill_33 : decode cX6_riverMill 33 = .ok (.getfield 106, 3) := by decide +kernel
theorem dX6_riverMill_36 : decode cX6_riverMill 36 = .ok (.putfield 227, 3) := by decide +kernel
theorem dX6_riverMill_39 : decode cX6_riverMill 39 = .ok (.aload_n 0, 1) := by decide +kernel
theorem dX6_riverMill_40 : decode cX6_riverMill 40 = .ok (.getstatic 230, 3) := by decide +kernel
theorem dX6_riverMill_43 : decode cX6_riverMill 43 = .ok (.aload_n 1, 1) := by decide +kernel
theorem dX6_riverMill_44 : decode cX6_riverMill 44 = .ok (.getfield 206, 3) := by decide +kernel
theorem dX6_riverMill_47 : decode cX6_riverMill 47 = .ok (.aload_n 1, 1) := by decide +kernel
theorem dX6_riverMill_48 : decode cX6_riverMill 48 = .ok (.getfield 200, 3) := by decide +kernel
theorem dX6_riverMill_51 : decode cX6_riverMill 51 = .ok (.invokevirtual 196, 3) := by decide +kernel
theorem dX6_riverMill_54 : decode cX6_riverMill 54 = .ok (.ifCond .ne 5, 3) := by decide +kernel
theorem dX6_riverMill_57 : decode cX6_riverMill 57 = .ok (.iconst 0, 1) := by decide +kernel
theorem dX6_riverMill_58 : decode cX6_riverMill 58 = .ok (.ireturn, 1) := by decide +kernel
theorem dX6_riverMill_59 : decode cX6_riverMill 59 = .ok (.aload_n 1, 1) := by decide +kernel
theorem dX6_riverMill_60 : decode cX6_riverMill 60 = .ok (.aload_n 0, 1) := by decide +kernel
theorem dX6_riverMill_61 : decode cX6_riverMill 61 = .ok (.getfield 106, 3) := by decide +kernel
theorem dX6_riverMill_64 : decode cX6_riverMill 64 = .ok (.putfield 233, 3) := by decide +kernel
theorem dX6_riverMill_67 : decode cX6_riverMill 67 = .ok (.iconst 1, 1) := by decide +kernel
theorem dX6_riverMill_68 : decode cX6_riverMill 68 = .ok (.ireturn, 1) := by decide +kernel
theorem dX6_riverTown_0 : decode cX6_riverTown 0 = .ok (.aload_n 0, 1) := by decide +kernel
theorem dX6_riverTown_1 : decode cX6_riverTown 1 = .ok (.getfield 18, 3) := by decide +kernel
theorem dX6_riverTown_4 : decode cX6_riverTown 4 = .ok (.getfield 102, 3) := by decide +kernel
theorem dX6_riverTown_7 : decode cX6_riverTown 7 = .ok (.getstatic 236, 3) := by decide +kernel
theorem dX6_riverTown_10 : decode cX6_riverTown 10 = .ok (.if_acmp .eq 5, 3) := by decide +kernel
theorem dX6_riverTown_13 : decode cX6_riverTown 13 = .ok (.iconst 1, 1) := by decide +kernel
theorem dX6_riverTown_14 : decode cX6_riverTown 14 = .ok (.ireturn, 1) := by decide +kernel
theorem dX6_riverTown_15 : decode cX6_riverTown 15 = .ok (.aload_n 0, 1) := by decide +kernel
theorem dX6_riverTown_16 : decode cX6_riverTown 16 = .ok (.getstatic 236, 3) := by decide +kernel
theorem dX6_riverTown_19 : decode cX6_riverTown 19 = .ok (.iconst 0, 1) := by decide +kernel
theorem dX6_riverTown_20 : decode cX6_riverTown 20 = .ok (.sipush 999, 3) := by decide +kernel
theorem dX6_riverTown_23 : decode cX6_riverTown 23 = .ok (.invokevirtual 196, 3) := by decide +kernel
theorem dX6_riverTown_26 : decode cX6_riverTown 26 = .ok (.ifCond .ne 5, 3) := by decide +kernel
theorem dX6_riverTown_29 : decode cX6_riverTown 29 = .ok (.iconst 0, 1) := by decide +kernel
theorem dX6_riverTown_30 : decode cX6_riverTown 30 = .ok (.ireturn, 1) := by decide +kernel
theorem dX6_riverTown_31 : decode cX6_riverTown 31 = .ok (.aload_n 1, 1) := by decide +kernel
theorem dX6_riverTown_32 : decode cX6_riverTown 32 = .ok (.aload_n 0, 1) := by decide +kernel
theorem dX6_riverTown_33 : decode cX6_riverTown 33 = .ok (.getfield 106, 3) := by decide +kernel
theorem dX6_riverTown_36 : decode cX6_riverTown 36 = .ok (.putfield 239, 3) := by decide +kernel
theorem dX6_riverTown_39 : decode cX6_riverTown 39 = .ok (.aload_n 0, 1) := by decide +kernel
theorem dX6_riverTown_40 : decode cX6_riverTown 40 = .ok (.getstatic 230, 3) := by decide +kernel
theorem dX6_riverTown_43 : decode cX6_riverTown 43 = .ok (.aload_n 1, 1) := by decide +kernel
theorem dX6_riverTown_44 : decode cX6_riverTown 44 = .ok (.getfield 206, 3) := by decide +kernel
theorem dX6_riverTown_47 : decode cX6_riverTown 47 = .ok (.aload_n 1, 1) := by decide +kernel
theorem dX6_riverTown_48 : decode cX6_riverTown 48 = .ok (.getfield 200, 3) := by decide +kernel
theorem dX6_riverTown_51 : decode cX6_riverTown 51 = .ok (.invokevirtual 196, 3) := by decide +kernel
theorem dX6_riverTown_54 : decode cX6_riverTown 54 = .ok (.ifCond .ne 5, 3) := by decide +kernel
theorem dX6_riverTown_57 : decode cX6_riverTown 57 = .ok (.iconst 0, 1) := by decide +kernel
theorem dX6_riverTown_58 : decode cX6_riverTown 58 = .ok (.ireturn, 1) := by decide +kernel
theorem dX6_riverTown_59 : decode cX6_riverTown 59 = .ok (.aload_n 1, 1) := by decide +kernel
theorem dX6_riverTown_60 : decode cX6_riverTown 60 = .ok (.aload_n 0, 1) := by decide +kernel
theorem dX6_riverTown_61 : decode cX6_riverTown 61 = .ok (.getfield 106, 3) := by decide +kernel
theorem dX6_riverTown_64 : decode cX6_riverTown 64 = .ok (.putfield 242, 3) := by decide +kernel
theorem dX6_riverTown_67 : decode cX6_riverTown 67 = .ok (.iconst 1, 1) := by decide +kernel
theorem dX6_riverTown_68 : decode cX6_riverTown 68 = .ok (.ireturn, 1) := by decide +kernel
theorem dX6_riverMother_0 : decode cX6_riverMother 0 = .ok (.aload_n 0, 1) := by decide +kernel
theorem dX6_riverMother_1 : decode cX6_riverMother 1 = .ok (.getfield 18, 3) := by decide +kernel
theorem dX6_riverMother_4 : decode cX6_riverMother 4 = .ok (.getfield 102, 3) := by decide +kernel
theorem dX6_riverMother_7 : decode cX6_riverMother 7 = .ok (.getstatic 245, 3) := by decide +kernel
theorem dX6_riverMother_10 : decode cX6_riverMother 10 = .ok (.if_acmp .eq 5, 3) := by decide +kernel
theorem dX6_riverMother_13 : decode cX6_riverMother 13 = .ok (.iconst 1, 1) := by decide +kernel
theorem dX6_riverMother_14 : decode cX6_riverMother 14 = .ok (.ireturn, 1) := by decide +kernel
theorem dX6_riverMother_15 : decode cX6_riverMother 15 = .ok (.aload_n 0, 1) := by decide +kernel
theorem dX6_riverMother_16 : decode cX6_riverMother 16 = .ok (.getfield 18, 3) := by decide +kernel
theorem dX6_riverMother_19 : decode cX6_riverMother 19 = .ok (.invokevirtual 99, 3) := by decide +kernel
theorem dX6_riverMother_22 : decode cX6_riverMother 22 = .ok (.aload_n 0, 1) := by decide +kernel
theorem dX6_riverMother_23 : decode cX6_riverMother 23 = .ok (.invokevirtual 248, 3) := by decide +kernel
theorem dX6_riverMother_26 : decode cX6_riverMother 26 = .ok (.ifCond .ne 5, 3) := by decide +kernel
theorem dX6_riverMother_29 : decode cX6_riverMother 29 = .ok (.iconst 0, 1) := by decide +kernel
theorem dX6_riverMother_30 : decode cX6_riverMother 30 = .ok (.ireturn, 1) := by decide +kernel
theorem dX6_riverMother_31 : decode cX6_riverMother 31 = .ok (.aload_n 1, 1) := by decide +kernel
theorem dX6_riverMother_32 : decode cX6_riverMother 32 = .ok (.aload_n 0, 1) := by decide +kernel
theorem dX6_riverMother_33 : decode cX6_riverMother 33 = .ok (.getfield 106, 3) := by decide +kernel
theorem dX6_riverMother_36 : decode cX6_riverMother 36 = .ok (.putfield 251, 3) := by decide +kernel
theorem dX6_riverMother_39 : decode cX6_riverMother 39 = .ok (.aload_n 0, 1) := by decide +kernel
theorem dX6_riverMother_40 : decode cX6_riverMother 40 = .ok (.getfield 18, 3) := by decide +kernel
theorem dX6_riverMother_43 : decode cX6_riverMother 43 = .ok (.invokevirtual 99, 3) := by decide +kernel
theorem dX6_riverMother_46 : decode cX6_riverMother 46 = .ok (.iconst 1, 1) := by decide +kernel
theorem dX6_riverMother_47 : decode cX6_riverMother 47 = .ok (.ireturn, 1) := by decide +kernel
theorem dX6_rangeLine_0 : decode cX6_rangeLine 0 = .ok (.aload_n 0, 1) := by decide +kernel
theorem dX6_rangeLine_1 : decode cX6_rangeLine 1 = .ok (.getfield 22, 3) := by decide +kernel
theorem dX6_rangeLine_4 : decode cX6_rangeLine 4 = .ok (.getfield 254, 3) := by decide +kernel
theorem dX6_rangeLine_7 : decode cX6_rangeLine 7 = .ok (.iconst 4, 1) := by decide +kernel
theorem dX6_rangeLine_8 : decode cX6_rangeLine 8 = .ok (.if_icmp .lt 9, 3) := by decide +kernel
theorem dX6_rangeLine_11 : decode cX6_rangeLine 11 = .ok (.aload_n 0, 1) := by decide +kernel
theorem dX6_rangeLine_12 : decode cX6_rangeLine 12 = .ok (.iconst 5, 1) := by decide +kernel
theorem dX6_rangeLine_13 : decode cX6_rangeLine 13 = .ok (.invokevirtual 95, 3) := by decide +kernel
theorem dX6_rangeLine_16 : decode cX6_rangeLine 16 = .ok (.ireturn, 1) := by decide +kernel
theorem dX6_rangeLine_17 : decode cX6_rangeLine 17 = .ok (.aload_n 0, 1) := by decide +kernel
theorem dX6_rangeLine_18 : decode cX6_rangeLine 18 = .ok (.getfield 18, 3) := by decide +kernel
theorem dX6_rangeLine_21 : decode cX6_rangeLine 21 = .ok (.invokevirtual 99, 3) := by decide +kernel
theorem dX6_rangeLine_24 : decode cX6_rangeLine 24 = .ok (.aload_n 0, 1) := by decide +kernel
theorem dX6_rangeLine_25 : decode cX6_rangeLine 25 = .ok (.iconst 0, 1) := by decide +kernel
theorem dX6_rangeLine_26 : decode cX6_rangeLine 26 = .ok (.bipush 99, 2) := by decide +kernel
theorem dX6_rangeLine_28 : decode cX6_rangeLine 28 = .ok (.invokevirtual 109, 3) := by decide +kernel
theorem dX6_rangeLine_31 : decode cX6_rangeLine 31 = .ok (.ifCond .ne 5, 3) := by decide +kernel
theorem dX6_rangeLine_34 : decode cX6_rangeLine 34 = .ok (.iconst 0, 1) := by decide +kernel
theorem dX6_rangeLine_35 : decode cX6_rangeLine 35 = .ok (.ireturn, 1) := by decide +kernel
theorem dX6_rangeLine_36 : decode cX6_rangeLine 36 = .ok (.aload_n 0, 1) := by decide +kernel
theorem dX6_rangeLine_37 : decode cX6_rangeLine 37 = .ok (.getfield 106, 3) := by decide +kernel
theorem dX6_rangeLine_40 : decode cX6_rangeLine 40 = .ok (.istore_n 1, 1) := by decide +kernel
theorem dX6_rangeLine_41 : decode cX6_rangeLine 41 = .ok (.aload_n 0, 1) := by decide +kernel
theorem dX6_rangeLine_42 : decode cX6_rangeLine 42 = .ok (.getfield 22, 3) := by decide +kernel
theorem dX6_rangeLine_45 : decode cX6_rangeLine 45 = .ok (.iload_n 1, 1) := by decide +kernel
theorem dX6_rangeLine_46 : decode cX6_rangeLine 46 = .ok (.invokevirtual 257, 3) := by decide +kernel
theorem dX6_rangeLine_49 : decode cX6_rangeLine 49 = .ok (.ifCond .eq 9, 3) := by decide +kernel
theorem dX6_rangeLine_52 : decode cX6_rangeLine 52 = .ok (.aload_n 0, 1) := by decide +kernel
theorem dX6_rangeLine_53 : decode cX6_rangeLine 53 = .ok (.iconst 3, 1) := by decide +kernel
theorem dX6_rangeLine_54 : decode cX6_rangeLine 54 = .ok (.invokevirtual 95, 3) := by decide +kernel
theorem dX6_rangeLine_57 : decode cX6_rangeLine 57 = .ok (.ireturn, 1) := by decide +kernel
theorem dX6_rangeLine_58 : decode cX6_rangeLine 58 = .ok (.aload_n 0, 1) := by decide +kernel
theorem dX6_rangeLine_59 : decode cX6_rangeLine 59 = .ok (.getfield 18, 3) := by decide +kernel
theorem dX6_rangeLine_62 : decode cX6_rangeLine 62 = .ok (.invokevirtual 99, 3) := by decide +kernel
theorem dX6_rangeLine_65 : decode cX6_rangeLine 65 = .ok (.aload_n 0, 1) := by decide +kernel
theorem dX6_rangeLine_66 : decode cX6_rangeLine 66 = .ok (.getstatic 260, 3) := by decide +kernel
theorem dX6_rangeLine_69 : decode cX6_rangeLine 69 = .ok (.iconst 1, 1) := by decide +kernel
theorem dX6_rangeLine_70 : decode cX6_rangeLine 70 = .ok (.bipush 99, 2) := by decide +kernel
theorem dX6_rangeLine_72 : decode cX6_rangeLine 72 = .ok (.invokevirtual 196, 3) := by decide +kernel
theorem dX6_rangeLine_75 : decode cX6_rangeLine 75 = .ok (.ifCond .ne 5, 3) := by decide +kernel
theorem dX6_rangeLine_78 : decode cX6_rangeLine 78 = .ok (.iconst 0, 1) := by decide +kernel
theorem dX6_rangeLine_79 : decode cX6_rangeLine 79 = .ok (.ireturn, 1) := by decide +kernel
theorem dX6_rangeLine_80 : decode cX6_rangeLine 80 = .ok (.aload_n 0, 1) := by decide +kernel
theorem dX6_rangeLine_81 : decode cX6_rangeLine 81 = .ok (.getfield 22, 3) := by decide +kernel
theorem dX6_rangeLine_84 : decode cX6_rangeLine 84 = .ok (.getfield 263, 3) := by decide +kernel
theorem dX6_rangeLine_87 : decode cX6_rangeLine 87 = .ok (.aload_n 0, 1) := by decide +kernel
theorem dX6_rangeLine_88 : decode cX6_rangeLine 88 = .ok (.getfield 22, 3) := by decide +kernel
theorem dX6_rangeLine_91 : decode cX6_rangeLine 91 = .ok (.getfield 254, 3) := by decide +kernel
theorem dX6_rangeLine_94 : decode cX6_rangeLine 94 = .ok (.iload_n 1, 1) := by decide +kernel
theorem dX6_rangeLine_95 : decode cX6_rangeLine 95 = .ok (.iastore, 1) := by decide +kernel
theorem dX6_rangeLine_96 : decode cX6_rangeLine 96 = .ok (.aload_n 0, 1) := by decide +kernel
theorem dX6_rangeLine_97 : decode cX6_rangeLine 97 = .ok (.getfield 22, 3) := by decide +kernel
theorem dX6_rangeLine_100 : decode cX6_rangeLine 100 = .ok (.getfield 266, 3) := by decide +kernel
theorem dX6_rangeLine_103 : decode cX6_rangeLine 103 = .ok (.aload_n 0, 1) := by decide +kernel
theorem dX6_rangeLine_104 : decode cX6_rangeLine 104 = .ok (.getfield 22, 3) := by decide +kernel
theorem dX6_rangeLine_107 : decode cX6_rangeLine 107 = .ok (.getfield 254, 3) := by decide +kernel
theorem dX6_rangeLine_110 : decode cX6_rangeLine 110 = .ok (.aload_n 0, 1) := by decide +kernel
theorem dX6_rangeLine_111 : decode cX6_rangeLine 111 = .ok (.getfield 106, 3) := by decide +kernel
theorem dX6_rangeLine_114 : decode cX6_rangeLine 114 = .ok (.iastore, 1) := by decide +kernel
theorem dX6_rangeLine_115 : decode cX6_rangeLine 115 = .ok (.aload_n 0, 1) := by decide +kernel
theorem dX6_rangeLine_116 : decode cX6_rangeLine 116 = .ok (.getfield 22, 3) := by decide +kernel
theorem dX6_rangeLine_119 : decode cX6_rangeLine 119 = .ok (.dup, 1) := by decide +kernel
theorem dX6_rangeLine_120 : decode cX6_rangeLine 120 = .ok (.getfield 254, 3) := by decide +kernel
theorem dX6_rangeLine_123 : decode cX6_rangeLine 123 = .ok (.iconst 1, 1) := by decide +kernel
theorem dX6_rangeLine_124 : decode cX6_rangeLine 124 = .ok (.iadd, 1) := by decide +kernel
theorem dX6_rangeLine_125 : decode cX6_rangeLine 125 = .ok (.putfield 254, 3) := by decide +kernel
theorem dX6_rangeLine_128 : decode cX6_rangeLine 128 = .ok (.iconst 1, 1) := by decide +kernel
theorem dX6_rangeLine_129 : decode cX6_rangeLine 129 = .ok (.ireturn, 1) := by decide +kernel
theorem dX6_passOnce_0 : decode cX6_passOnce 0 = .ok (.aload_n 0, 1) := by decide +kernel
theorem dX6_passOnce_1 : decode cX6_passOnce 1 = .ok (.getfield 42, 3) := by decide +kernel
theorem dX6_passOnce_4 : decode cX6_passOnce 4 = .ok (.iload_n 1, 1) := by decide +kernel
theorem dX6_passOnce_5 : decode cX6_passOnce 5 = .ok (.iand, 1) := by decide +kernel
theorem dX6_passOnce_6 : decode cX6_passOnce 6 = .ok (.ifCond .eq 9, 3) := by decide +kernel
theorem dX6_passOnce_9 : decode cX6_passOnce 9 = .ok (.aload_n 0, 1) := by decide +kernel
theorem dX6_passOnce_10 : decode cX6_passOnce 10 = .ok (.iconst 3, 1) := by decide +kernel
theorem dX6_passOnce_11 : decode cX6_passOnce 11 = .ok (.invokevirtual 95, 3) := by decide +kernel
theorem dX6_passOnce_14 : decode cX6_passOnce 14 = .ok (.ireturn, 1) := by decide +kernel
theorem dX6_passOnce_15 : decode cX6_passOnce 15 = .ok (.aload_n 0, 1) := by decide +kernel
theorem dX6_passOnce_16 : decode cX6_passOnce 16 = .ok (.dup, 1) := by decide +kernel
theorem dX6_passOnce_17 : decode cX6_passOnce 17 = .ok (.getfield 42, 3) := by decide +kernel
theorem dX6_passOnce_20 : decode cX6_passOnce 20 = .ok (.iload_n 1, 1) := by decide +kernel
theorem dX6_passOnce_21 : decode cX6_passOnce 21 = .ok (.ior, 1) := by decide +kernel
theorem dX6_passOnce_22 : decode cX6_passOnce 22 = .ok (.putfield 42, 3) := by decide +kernel
theorem dX6_passOnce_25 : decode cX6_passOnce 25 = .ok (.aload_n 0, 1) := by decide +kernel
theorem dX6_passOnce_26 : decode cX6_passOnce 26 = .ok (.getfield 18, 3) := by decide +kernel
theorem dX6_passOnce_29 : decode cX6_passOnce 29 = .ok (.invokevirtual 99, 3) := by decide +kernel
theorem dX6_passOnce_32 : decode cX6_passOnce 32 = .ok (.iconst 1, 1) := by decide +kernel
theorem dX6_passOnce_33 : decode cX6_passOnce 33 = .ok (.ireturn, 1) := by decide +kernel
theorem dX6_kinLine_0 : decode cX6_kinLine 0 = .ok (.aload_n 0, 1) := by decide +kernel
theorem dX6_kinLine_1 : decode cX6_kinLine 1 = .ok (.iconst 1, 1) := by decide +kernel
theorem dX6_kinLine_2 : decode cX6_kinLine 2 = .ok (.invokevirtual 269, 3) := by decide +kernel
theorem dX6_kinLine_5 : decode cX6_kinLine 5 = .ok (.ifCond .eq 13, 3) := by decide +kernel
theorem dX6_kinLine_8 : decode cX6_kinLine 8 = .ok (.aload_n 0, 1) := by decide +kernel
theorem dX6_kinLine_9 : decode cX6_kinLine 9 = .ok (.iconst 0, 1) := by decide +kernel
theorem dX6_kinLine_10 : decode cX6_kinLine 10 = .ok (.bipush 9, 2) := by decide +kernel
theorem dX6_kinLine_12 : decode cX6_kinLine 12 = .ok (.invokevirtual 218, 3) := by decide +kernel
theorem dX6_kinLine_15 : decode cX6_kinLine 15 = .ok (.ifCond .ne 5, 3) := by decide +kernel
theorem dX6_kinLine_18 : decode cX6_kinLine 18 = .ok (.iconst 0, 1) := by decide +kernel
theorem dX6_kinLine_19 : decode cX6_kinLine 19 = .ok (.ireturn, 1) := by decide +kernel
theorem dX6_kinLine_20 : decode cX6_kinLine 20 = .ok (.aload_n 0, 1) := by decide +kernel
theorem dX6_kinLine_21 : decode cX6_kinLine 21 = .ok (.getfield 22, 3) := by decide +kernel
theorem dX6_kinLine_24 : decode cX6_kinLine 24 = .ok (.aload_n 0, 1) := by decide +kernel
theorem dX6_kinLine_25 : decode cX6_kinLine 25 = .ok (.getfield 106, 3) := by decide +kernel
theorem dX6_kinLine_28 : decode cX6_kinLine 28 = .ok (.putfield 272, 3) := by decide +kernel
theorem dX6_kinLine_31 : decode cX6_kinLine 31 = .ok (.iconst 1, 1) := by decide +kernel
theorem dX6_kinLine_32 : decode cX6_kinLine 32 = .ok (.ireturn, 1) := by decide +kernel
theorem dX6_stormLine_0 : decode cX6_stormLine 0 = .ok (.aload_n 0, 1) := by decide +kernel
theorem dX6_stormLine_1 : decode cX6_stormLine 1 = .ok (.iconst 2, 1) := by decide +kernel
theorem dX6_stormLine_2 : decode cX6_stormLine 2 = .ok (.invokevirtual 269, 3) := by decide +kernel
theorem dX6_stormLine_5 : decode cX6_stormLine 5 = .ok (.ifCond .eq 13, 3) := by decide +kernel
theorem dX6_stormLine_8 : decode cX6_stormLine 8 = .ok (.aload_n 0, 1) := by decide +kernel
theorem dX6_stormLine_9 : decode cX6_stormLine 9 = .ok (.iconst 0, 1) := by decide +kernel
theorem dX6_stormLine_10 : decode cX6_stormLine 10 = .ok (.bipush 10, 2) := by decide +kernel
theorem dX6_stormLine_12 : decode cX6_stormLine 12 = .ok (.invokevirtual 218, 3) := by decide +kernel
theorem dX6_stormLine_15 : decode cX6_stormLine 15 = .ok (.ifCond .ne 5, 3) := by decide +kernel
theorem dX6_stormLine_18 : decode cX6_stormLine 18 = .ok (.iconst 0, 1) := by decide +kernel
theorem dX6_stormLine_19 : decode cX6_stormLine 19 = .ok (.ireturn, 1) := by decide +kernel
theorem dX6_stormLine_20 : decode cX6_stormLine 20 = .ok (.aload_n 0, 1) := by decide +kernel
theorem dX6_stormLine_21 : decode cX6_stormLine 21 = .ok (.getfield 22, 3) := by decide +kernel
theorem dX6_stormLine_24 : decode cX6_stormLine 24 = .ok (.aload_n 0, 1) := by decide +kernel
theorem dX6_stormLine_25 : decode cX6_stormLine 25 = .ok (.getfield 106, 3) := by decide +kernel
theorem dX6_stormLine_28 : decode cX6_stormLine 28 = .ok (.putfield 275, 3) := by decide +kernel
theorem dX6_stormLine_31 : decode cX6_stormLine 31 = .ok (.aload_n 0, 1) := by decide +kernel
theorem dX6_stormLine_32 : decode cX6_stormLine 32 = .ok (.getstatic 278, 3) := by decide +kernel
theorem dX6_stormLine_35 : decode cX6_stormLine 35 = .ok (.iconst 0, 1) := by decide +kernel
theorem dX6_stormLine_36 : decode cX6_stormLine 36 = .ok (.bipush 99, 2) := by decide +kernel
theorem dX6_stormLine_38 : decode cX6_stormLine 38 = .ok (.invokevirtual 196, 3) := by decide +kernel
theorem dX6_stormLine_41 : decode cX6_stormLine 41 = .ok (.ifCond .ne 5, 3) := by decide +kernel
theorem dX6_stormLine_44 : decode cX6_stormLine 44 = .ok (.iconst 0, 1) := by decide +kernel
theorem dX6_stormLine_45 : decode cX6_stormLine 45 = .ok (.ireturn, 1) := by decide +kernel
theorem dX6_stormLine_46 : decode cX6_stormLine 46 = .ok (.aload_n 0, 1) := by decide +kernel
theorem dX6_stormLine_47 : decode cX6_stormLine 47 = .ok (.getfield 22, 3) := by decide +kernel
theorem dX6_stormLine_50 : decode cX6_stormLine 50 = .ok (.aload_n 0, 1) := by decide +kernel
theorem dX6_stormLine_51 : decode cX6_stormLine 51 = .ok (.getfield 106, 3) := by decide +kernel
theorem dX6_stormLine_54 : decode cX6_stormLine 54 = .ok (.putfield 281, 3) := by decide +kernel
theorem dX6_stormLine_57 : decode cX6_stormLine 57 = .ok (.iconst 1, 1) := by decide +kernel
theorem dX6_stormLine_58 : decode cX6_stormLine 58 = .ok (.ireturn, 1) := by decide +kernel
theorem dX6_formulaLine_0 : decode cX6_formulaLine 0 = .ok (.aload_n 0, 1) := by decide +kernel
theorem dX6_formulaLine_1 : decode cX6_formulaLine 1 = .ok (.iload_n 1, 1) := by decide +kernel
theorem dX6_formulaLine_2 : decode cX6_formulaLine 2 = .ok (.invokevirtual 269, 3) := by decide +kernel
theorem dX6_formulaLine_5 : decode cX6_formulaLine 5 = .ok (.ifCond .ne 5, 3) := by decide +kernel
theorem dX6_formulaLine_8 : decode cX6_formulaLine 8 = .ok (.iconst 0, 1) := by decide +kernel
theorem dX6_formulaLine_9 : decode cX6_formulaLine 9 = .ok (.ireturn, 1) := by decide +kernel
theorem dX6_formulaLine_10 : decode cX6_formulaLine 10 = .ok (.aload_n 0, 1) := by decide +kernel
theorem dX6_formulaLine_11 : decode cX6_formulaLine 11 = .ok (.iload_n 1, 1) := by decide +kernel
theorem dX6_formulaLine_12 : decode cX6_formulaLine 12 = .ok (.iconst 4, 1) := by decide +kernel
theorem dX6_formulaLine_13 : decode cX6_formulaLine 13 = .ok (.if_icmp .ne 7, 3) := by decide +kernel
theorem dX6_formulaLine_16 : decode cX6_formulaLine 16 = .ok (.iconst 1, 1) := by decide +kernel
theorem dX6_formulaLine_17 : decode cX6_formulaLine 17 = .ok (.goto 4, 3) := by decide +kernel
theorem dX6_formulaLine_20 : decode cX6_formulaLine 20 = .ok (.iconst 0, 1) := by decide +kernel
theorem dX6_formulaLine_21 : decode cX6_formulaLine 21 = .ok (.putfield 284, 3) := by decide +kernel
theorem dX6_formulaLine_24 : decode cX6_formulaLine 24 = .ok (.aload_n 0, 1) := by decide +kernel
theorem dX6_formulaLine_25 : decode cX6_formulaLine 25 = .ok (.aload_n 0, 1) := by decide +kernel
theorem dX6_formulaLine_26 : decode cX6_formulaLine 26 = .ok (.getfield 284, 3) := by decide +kernel
theorem dX6_formulaLine_29 : decode cX6_formulaLine 29 = .ok (.ifCond .eq 13, 3) := by decide +kernel
theorem dX6_formulaLine_32 : decode cX6_formulaLine 32 = .ok (.aload_n 0, 1) := by decide +kernel
theorem dX6_formulaLine_33 : decode cX6_formulaLine 33 = .ok (.getfield 22, 3) := by decide +kernel
theorem dX6_formulaLine_36 : decode cX6_formulaLine 36 = .ok (.getfield 26, 3) := by decide +kernel
theorem dX6_formulaLine_39 : decode cX6_formulaLine 39 = .ok (.goto 10, 3) := by decide +kernel
theorem dX6_formulaLine_42 : decode cX6_formulaLine 42 = .ok (.aload_n 0, 1) := by decide +kernel
theorem dX6_formulaLine_43 : decode cX6_formulaLine 43 = .ok (.getfield 22, 3) := by decide +kernel
theorem dX6_formulaLine_46 : decode cX6_formulaLine 46 = .ok (.getfield 287, 3) := by decide +kernel
theorem dX6_formulaLine_49 : decode cX6_formulaLine 49 = .ok (.putfield 32, 3) := by decide +kernel
theorem dX6_formulaLine_52 : decode cX6_formulaLine 52 = .ok (.aload_n 0, 1) := by decide +kernel
