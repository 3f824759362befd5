theorem dX8_staysAtMark_55 : decode cX8_staysAtMark 55 = .ok (.iinc 5 1, 3) := by decide +kernel
theorem dX8_staysAtMark_58 : decode cX8_staysAtMark 58 = .ok (.goto (-39), 3) := by decide +kernel
theorem dX8_staysAtMark_61 : decode cX8_staysAtMark 61 = .ok (.iload 4, 2) := by decide +kernel
theorem dX8_staysAtMark_63 : decode cX8_staysAtMark 63 = .ok (.ifCond .ne 7, 3) := by decide +kernel
theorem dX8_staysAtMark_66 : decode cX8_staysAtMark 66 = .ok (.iconst 1, 1) := by decide +kernel
theorem dX8_staysAtMark_67 : decode cX8_staysAtMark 67 = .ok (.goto 4, 3) := by decide +kernel
theorem dX8_staysAtMark_70 : decode cX8_staysAtMark 70 = .ok (.iconst 0, 1) := by decide +kernel
theorem dX8_staysAtMark_71 : decode cX8_staysAtMark 71 = .ok (.ireturn, 1) := by decide +kernel
theorem dX8_flow_0 : decode cX8_flow 0 = .ok (.iload_n 1, 1) := by decide +kernel
theorem dX8_flow_1 : decode cX8_flow 1 = .ok (.ifCond .eq 12, 3) := by decide +kernel
theorem dX8_flow_4 : decode cX8_flow 4 = .ok (.iload_n 1, 1) := by decide +kernel
theorem dX8_flow_5 : decode cX8_flow 5 = .ok (.iconst 1, 1) := by decide +kernel
theorem dX8_flow_6 : decode cX8_flow 6 = .ok (.if_icmp .eq 7, 3) := by decide +kernel
theorem dX8_flow_9 : decode cX8_flow 9 = .ok (.ldc2_w 208, 3) := by decide +kernel
theorem dX8_flow_12 : decode cX8_flow 12 = .ok (.lreturn, 1) := by decide +kernel
theorem dX8_flow_13 : decode cX8_flow 13 = .ok (.aload_n 0, 1) := by decide +kernel
theorem dX8_flow_14 : decode cX8_flow 14 = .ok (.getfield 68, 3) := by decide +kernel
theorem dX8_flow_17 : decode cX8_flow 17 = .ok (.lconst 0, 1) := by decide +kernel
theorem dX8_flow_18 : decode cX8_flow 18 = .ok (.lconst 1, 1) := by decide +kernel
theorem dX8_flow_19 : decode cX8_flow 19 = .ok (.invokevirtual 210, 3) := by decide +kernel
theorem dX8_flow_22 : decode cX8_flow 22 = .ok (.iconst 0, 1) := by decide +kernel
theorem dX8_flow_23 : decode cX8_flow 23 = .ok (.istore_n 2, 1) := by decide +kernel
theorem dX8_flow_24 : decode cX8_flow 24 = .ok (.iload_n 2, 1) := by decide +kernel
theorem dX8_flow_25 : decode cX8_flow 25 = .ok (.bipush 8, 2) := by decide +kernel
theorem dX8_flow_27 : decode cX8_flow 27 = .ok (.if_icmp .ge 69, 3) := by decide +kernel
theorem dX8_flow_30 : decode cX8_flow 30 = .ok (.aload_n 0, 1) := by decide +kernel
theorem dX8_flow_31 : decode cX8_flow 31 = .ok (.getfield 36, 3) := by decide +kernel
theorem dX8_flow_34 : decode cX8_flow 34 = .ok (.iload_n 2, 1) := by decide +kernel
theorem dX8_flow_35 : decode cX8_flow 35 = .ok (.invokevirtual 167, 3) := by decide +kernel
theorem dX8_flow_38 : decode cX8_flow 38 = .ok (.ifCond .eq 52, 3) := by decide +kernel
theorem dX8_flow_41 : decode cX8_flow 41 = .ok (.aload_n 0, 1) := by decide +kernel
theorem dX8_flow_42 : decode cX8_flow 42 = .ok (.getfield 36, 3) := by decide +kernel
theorem dX8_flow_45 : decode cX8_flow 45 = .ok (.iload_n 2, 1) := by decide +kernel
theorem dX8_flow_46 : decode cX8_flow 46 = .ok (.invokevirtual 214, 3) := by decide +kernel
theorem dX8_flow_49 : decode cX8_flow 49 = .ok (.istore_n 3, 1) := by decide +kernel
theorem dX8_flow_50 : decode cX8_flow 50 = .ok (.aload_n 0, 1) := by decide +kernel
theorem dX8_flow_51 : decode cX8_flow 51 = .ok (.getfield 68, 3) := by decide +kernel
theorem dX8_flow_54 : decode cX8_flow 54 = .ok (.aload_n 0, 1) := by decide +kernel
theorem dX8_flow_55 : decode cX8_flow 55 = .ok (.getfield 36, 3) := by decide +kernel
theorem dX8_flow_58 : decode cX8_flow 58 = .ok (.getfield 119, 3) := by decide +kernel
theorem dX8_flow_61 : decode cX8_flow 61 = .ok (.iload_n 2, 1) := by decide +kernel
theorem dX8_flow_62 : decode cX8_flow 62 = .ok (.invokestatic 122, 3) := by decide +kernel
theorem dX8_flow_65 : decode cX8_flow 65 = .ok (.iconst 1, 1) := by decide +kernel
theorem dX8_flow_66 : decode cX8_flow 66 = .ok (.if_icmp .ne 9, 3) := by decide +kernel
theorem dX8_flow_69 : decode cX8_flow 69 = .ok (.iload_n 3, 1) := by decide +kernel
theorem dX8_flow_70 : decode cX8_flow 70 = .ok (.ineg, 1) := by decide +kernel
theorem dX8_flow_71 : decode cX8_flow 71 = .ok (.i2l, 1) := by decide +kernel
theorem dX8_flow_72 : decode cX8_flow 72 = .ok (.goto 5, 3) := by decide +kernel
theorem dX8_flow_75 : decode cX8_flow 75 = .ok (.iload_n 3, 1) := by decide +kernel
theorem dX8_flow_76 : decode cX8_flow 76 = .ok (.i2l, 1) := by decide +kernel
theorem dX8_flow_77 : decode cX8_flow 77 = .ok (.aload_n 0, 1) := by decide +kernel
theorem dX8_flow_78 : decode cX8_flow 78 = .ok (.getfield 36, 3) := by decide +kernel
theorem dX8_flow_81 : decode cX8_flow 81 = .ok (.getfield 113, 3) := by decide +kernel
theorem dX8_flow_84 : decode cX8_flow 84 = .ok (.iload_n 2, 1) := by decide +kernel
theorem dX8_flow_85 : decode cX8_flow 85 = .ok (.iaload, 1) := by decide +kernel
theorem dX8_flow_86 : decode cX8_flow 86 = .ok (.i2l, 1) := by decide +kernel
theorem dX8_flow_87 : decode cX8_flow 87 = .ok (.invokevirtual 217, 3) := by decide +kernel
theorem dX8_flow_90 : decode cX8_flow 90 = .ok (.iinc 2 1, 3) := by decide +kernel
theorem dX8_flow_93 : decode cX8_flow 93 = .ok (.goto (-69), 3) := by decide +kernel
theorem dX8_flow_96 : decode cX8_flow 96 = .ok (.aload_n 0, 1) := by decide +kernel
theorem dX8_flow_97 : decode cX8_flow 97 = .ok (.getfield 68, 3) := by decide +kernel
theorem dX8_flow_100 : decode cX8_flow 100 = .ok (.iload_n 1, 1) := by decide +kernel
theorem dX8_flow_101 : decode cX8_flow 101 = .ok (.invokevirtual 220, 3) := by decide +kernel
theorem dX8_flow_104 : decode cX8_flow 104 = .ok (.lreturn, 1) := by decide +kernel
theorem dX8_splitOn_0 : decode cX8_splitOn 0 = .ok (.aload_n 0, 1) := by decide +kernel
theorem dX8_splitOn_1 : decode cX8_splitOn 1 = .ok (.getfield 36, 3) := by decide +kernel
theorem dX8_splitOn_4 : decode cX8_splitOn 4 = .ok (.iload_n 1, 1) := by decide +kernel
theorem dX8_splitOn_5 : decode cX8_splitOn 5 = .ok (.invokevirtual 167, 3) := by decide +kernel
theorem dX8_splitOn_8 : decode cX8_splitOn 8 = .ok (.ifCond .eq 22, 3) := by decide +kernel
theorem dX8_splitOn_11 : decode cX8_splitOn 11 = .ok (.iload_n 2, 1) := by decide +kernel
theorem dX8_splitOn_12 : decode cX8_splitOn 12 = .ok (.ifCond .lt 18, 3) := by decide +kernel
theorem dX8_splitOn_15 : decode cX8_splitOn 15 = .ok (.iload_n 2, 1) := by decide +kernel
theorem dX8_splitOn_16 : decode cX8_splitOn 16 = .ok (.bipush 6, 2) := by decide +kernel
theorem dX8_splitOn_18 : decode cX8_splitOn 18 = .ok (.if_icmp .gt 12, 3) := by decide +kernel
theorem dX8_splitOn_21 : decode cX8_splitOn 21 = .ok (.iload_n 3, 1) := by decide +kernel
theorem dX8_splitOn_22 : decode cX8_splitOn 22 = .ok (.ifCond .lt 8, 3) := by decide +kernel
theorem dX8_splitOn_25 : decode cX8_splitOn 25 = .ok (.iload_n 3, 1) := by decide +kernel
theorem dX8_splitOn_26 : decode cX8_splitOn 26 = .ok (.iconst 1, 1) := by decide +kernel
theorem dX8_splitOn_27 : decode cX8_splitOn 27 = .ok (.if_icmp .le 5, 3) := by decide +kernel
theorem dX8_splitOn_30 : decode cX8_splitOn 30 = .ok (.iconst (-1), 1) := by decide +kernel
theorem dX8_splitOn_31 : decode cX8_splitOn 31 = .ok (.ireturn, 1) := by decide +kernel
theorem dX8_splitOn_32 : decode cX8_splitOn 32 = .ok (.aload_n 0, 1) := by decide +kernel
theorem dX8_splitOn_33 : decode cX8_splitOn 33 = .ok (.getfield 36, 3) := by decide +kernel
theorem dX8_splitOn_36 : decode cX8_splitOn 36 = .ok (.getfield 109, 3) := by decide +kernel
theorem dX8_splitOn_39 : decode cX8_splitOn 39 = .ok (.iload_n 1, 1) := by decide +kernel
theorem dX8_splitOn_40 : decode cX8_splitOn 40 = .ok (.iaload, 1) := by decide +kernel
theorem dX8_splitOn_41 : decode cX8_splitOn 41 = .ok (.iload_n 2, 1) := by decide +kernel
theorem dX8_splitOn_42 : decode cX8_splitOn 42 = .ok (.ishr, 1) := by decide +kernel
theorem dX8_splitOn_43 : decode cX8_splitOn 43 = .ok (.istore 4, 2) := by decide +kernel
theorem dX8_splitOn_45 : decode cX8_splitOn 45 = .ok (.iload 4, 2) := by decide +kernel
theorem dX8_splitOn_47 : decode cX8_splitOn 47 = .ok (.ifCond .ne 7, 3) := by decide +kernel
theorem dX8_splitOn_50 : decode cX8_splitOn 50 = .ok (.iconst 0, 1) := by decide +kernel
theorem dX8_splitOn_51 : decode cX8_splitOn 51 = .ok (.goto 6, 3) := by decide +kernel
theorem dX8_splitOn_54 : decode cX8_splitOn 54 = .ok (.iconst 1, 1) := by decide +kernel
theorem dX8_splitOn_55 : decode cX8_splitOn 55 = .ok (.iload_n 2, 1) := by decide +kernel
theorem dX8_splitOn_56 : decode cX8_splitOn 56 = .ok (.ishl, 1) := by decide +kernel
theorem dX8_splitOn_57 : decode cX8_splitOn 57 = .ok (.istore 5, 2) := by decide +kernel
theorem dX8_splitOn_59 : decode cX8_splitOn 59 = .ok (.iload_n 3, 1) := by decide +kernel
theorem dX8_splitOn_60 : decode cX8_splitOn 60 = .ok (.ifCond .ne 8, 3) := by decide +kernel
theorem dX8_splitOn_63 : decode cX8_splitOn 63 = .ok (.iload 5, 2) := by decide +kernel
theorem dX8_splitOn_65 : decode cX8_splitOn 65 = .ok (.goto 8, 3) := by decide +kernel
theorem dX8_splitOn_68 : decode cX8_splitOn 68 = .ok (.iload 5, 2) := by decide +kernel
theorem dX8_splitOn_70 : decode cX8_splitOn 70 = .ok (.iload 4, 2) := by decide +kernel
theorem dX8_splitOn_72 : decode cX8_splitOn 72 = .ok (.imul, 1) := by decide +kernel
theorem dX8_splitOn_73 : decode cX8_splitOn 73 = .ok (.ireturn, 1) := by decide +kernel
theorem dX8_price_0 : decode cX8_price 0 = .ok (.iload_n 1, 1) := by decide +kernel
theorem dX8_price_1 : decode cX8_price 1 = .ok (.iconst 1, 1) := by decide +kernel
theorem dX8_price_2 : decode cX8_price 2 = .ok (.if_icmp .lt 20, 3) := by decide +kernel
theorem dX8_price_5 : decode cX8_price 5 = .ok (.iload_n 1, 1) := by decide +kernel
theorem dX8_price_6 : decode cX8_price 6 = .ok (.bipush 9, 2) := by decide +kernel
theorem dX8_price_8 : decode cX8_price 8 = .ok (.if_icmp .gt 14, 3) := by decide +kernel
theorem dX8_price_11 : decode cX8_price 11 = .ok (.iload_n 2, 1) := by decide +kernel
theorem dX8_price_12 : decode cX8_price 12 = .ok (.ifCond .lt 10, 3) := by decide +kernel
theorem dX8_price_15 : decode cX8_price 15 = .ok (.iload_n 2, 1) := by decide +kernel
theorem dX8_price_16 : decode cX8_price 16 = .ok (.sipush 200, 3) := by decide +kernel
theorem dX8_price_19 : decode cX8_price 19 = .ok (.if_icmp .le 5, 3) := by decide +kernel
theorem dX8_price_22 : decode cX8_price 22 = .ok (.iconst (-1), 1) := by decide +kernel
theorem dX8_price_23 : decode cX8_price 23 = .ok (.ireturn, 1) := by decide +kernel
theorem dX8_price_24 : decode cX8_price 24 = .ok (.aload_n 0, 1) := by decide +kernel
theorem dX8_price_25 : decode cX8_price 25 = .ok (.invokevirtual 187, 3) := by decide +kernel
theorem dX8_price_28 : decode cX8_price 28 = .ok (.iconst 0, 1) := by decide +kernel
theorem dX8_price_29 : decode cX8_price 29 = .ok (.istore_n 3, 1) := by decide +kernel
theorem dX8_price_30 : decode cX8_price 30 = .ok (.iconst 0, 1) := by decide +kernel
theorem dX8_price_31 : decode cX8_price 31 = .ok (.istore 4, 2) := by decide +kernel
theorem dX8_price_33 : decode cX8_price 33 = .ok (.iload 4, 2) := by decide +kernel
theorem dX8_price_35 : decode cX8_price 35 = .ok (.iload_n 2, 1) := by decide +kernel
theorem dX8_price_36 : decode cX8_price 36 = .ok (.if_icmp .ge 40, 3) := by decide +kernel
theorem dX8_price_39 : decode cX8_price 39 = .ok (.aload_n 0, 1) := by decide +kernel
theorem dX8_price_40 : decode cX8_price 40 = .ok (.getfield 40, 3) := by decide +kernel
theorem dX8_price_43 : decode cX8_price 43 = .ok (.aload_n 0, 1) := by decide +kernel
theorem dX8_price_44 : decode cX8_price 44 = .ok (.getfield 26, 3) := by decide +kernel
theorem dX8_price_47 : decode cX8_price 47 = .ok (.invokevirtual 151, 3) := by decide +kernel
theorem dX8_price_50 : decode cX8_price 50 = .ok (.aload_n 0, 1) := by decide +kernel
theorem dX8_price_51 : decode cX8_price 51 = .ok (.getfield 26, 3) := by decide +kernel
theorem dX8_price_54 : decode cX8_price 54 = .ok (.invokevirtual 155, 3) := by decide +kernel
theorem dX8_price_57 : decode cX8_price 57 = .ok (.invokevirtual 158, 3) := by decide +kernel
theorem dX8_price_60 : decode cX8_price 60 = .ok (.iload_n 3, 1) := by decide +kernel
theorem dX8_price_61 : decode cX8_price 61 = .ok (.aload_n 0, 1) := by decide +kernel
theorem dX8_price_62 : decode cX8_price 62 = .ok (.getfield 40, 3) := by decide +kernel
theorem dX8_price_65 : decode cX8_price 65 = .ok (.getfield 224, 3) := by decide +kernel
theorem dX8_price_68 : decode cX8_price 68 = .ok (.iadd, 1) := by decide +kernel
theorem dX8_price_69 : decode cX8_price 69 = .ok (.istore_n 3, 1) := by decide +kernel
theorem dX8_price_70 : decode cX8_price 70 = .ok (.iinc 4 1, 3) := by decide +kernel
theorem dX8_price_73 : decode cX8_price 73 = .ok (.goto (-40), 3) := by decide +kernel
theorem dX8_price_76 : decode cX8_price 76 = .ok (.iload_n 1, 1) := by decide +kernel
theorem dX8_price_77 : decode cX8_price 77 = .ok (.iload_n 3, 1) := by decide +kernel
theorem dX8_price_78 : decode cX8_price 78 = .ok (.imul, 1) := by decide +kernel
theorem dX8_price_79 : decode cX8_price 79 = .ok (.ireturn, 1) := by decide +kernel
theorem dX8_heard_0 : decode cX8_heard 0 = .ok (.aload_n 0, 1) := by decide +kernel
theorem dX8_heard_1 : decode cX8_heard 1 = .ok (.getfield 36, 3) := by decide +kernel
theorem dX8_heard_4 : decode cX8_heard 4 = .ok (.iload_n 1, 1) := by decide +kernel
theorem dX8_heard_5 : decode cX8_heard 5 = .ok (.invokevirtual 167, 3) := by decide +kernel
theorem dX8_heard_8 : decode cX8_heard 8 = .ok (.ifCond .ne 5, 3) := by decide +kernel
theorem dX8_heard_11 : decode cX8_heard 11 = .ok (.iconst (-1), 1) := by decide +kernel
theorem dX8_heard_12 : decode cX8_heard 12 = .ok (.ireturn, 1) := by decide +kernel
theorem dX8_heard_13 : decode cX8_heard 13 = .ok (.aload_n 0, 1) := by decide +kernel
theorem dX8_heard_14 : decode cX8_heard 14 = .ok (.invokevirtual 187, 3) := by decide +kernel
theorem dX8_heard_17 : decode cX8_heard 17 = .ok (.iconst 1, 1) := by decide +kernel
theorem dX8_heard_18 : decode cX8_heard 18 = .ok (.iload_n 1, 1) := by decide +kernel
theorem dX8_heard_19 : decode cX8_heard 19 = .ok (.ishl, 1) := by decide +kernel
theorem dX8_heard_20 : decode cX8_heard 20 = .ok (.istore_n 2, 1) := by decide +kernel
theorem dX8_heard_21 : decode cX8_heard 21 = .ok (.iconst 0, 1) := by decide +kernel
theorem dX8_heard_22 : decode cX8_heard 22 = .ok (.istore_n 3, 1) := by decide +kernel
theorem dX8_heard_23 : decode cX8_heard 23 = .ok (.iload_n 3, 1) := by decide +kernel
theorem dX8_heard_24 : decode cX8_heard 24 = .ok (.sipush 200, 3) := by decide +kernel
theorem dX8_heard_27 : decode cX8_heard 27 = .ok (.if_icmp .gt 68, 3) := by decide +kernel
theorem dX8_heard_30 : decode cX8_heard 30 = .ok (.aload_n 0, 1) := by decide +kernel
theorem dX8_heard_31 : decode cX8_heard 31 = .ok (.getfield 40, 3) := by decide +kernel
theorem dX8_heard_34 : decode cX8_heard 34 = .ok (.getfield 132, 3) := by decide +kernel
theorem dX8_heard_37 : decode cX8_heard 37 = .ok (.iload_n 2, 1) := by decide +kernel
theorem dX8_heard_38 : decode cX8_heard 38 = .ok (.iconst (-1), 1) := by decide +kernel
theorem dX8_heard_39 : decode cX8_heard 39 = .ok (.ixor, 1) := by decide +kernel
theorem dX8_heard_40 : decode cX8_heard 40 = .ok (.iand, 1) := by decide +kernel
theorem dX8_heard_41 : decode cX8_heard 41 = .ok (.ifCond .ne 5, 3) := by decide +kernel
theorem dX8_heard_44 : decode cX8_heard 44 = .ok (.iload_n 3, 1) := by decide +kernel
theorem dX8_heard_45 : decode cX8_heard 45 = .ok (.ireturn, 1) := by decide +kernel
theorem dX8_heard_46 : decode cX8_heard 46 = .ok (.aload_n 0, 1) := by decide +kernel
theorem dX8_heard_47 : decode cX8_heard 47 = .ok (.getfield 40, 3) := by decide +kernel
theorem dX8_heard_50 : decode cX8_heard 50 = .ok (.aload_n 0, 1) := by decide +kernel
theorem dX8_heard_51 : decode cX8_heard 51 = .ok (.getfield 26, 3) := by decide +kernel
theorem dX8_heard_54 : decode cX8_heard 54 = .ok (.invokevirtual 151, 3) := by decide +kernel
theorem dX8_heard_57 : decode cX8_heard 57 = .ok (.aload_n 0, 1) := by decide +kernel
theorem dX8_heard_58 : decode cX8_heard 58 = .ok (.getfield 26, 3) := by decide +kernel
theorem dX8_heard_61 : decode cX8_heard 61 = .ok (.invokevirtual 155, 3) := by decide +kernel
theorem dX8_heard_64 : decode cX8_heard 64 = .ok (.invokevirtual 158, 3) := by decide +kernel
theorem dX8_heard_67 : decode cX8_heard 67 = .ok (.aload_n 0, 1) := by decide +kernel
theorem dX8_heard_68 : decode cX8_heard 68 = .ok (.getfield 40, 3) := by decide +kernel
theorem dX8_heard_71 : decode cX8_heard 71 = .ok (.getfield 227, 3) := by decide +kernel
theorem dX8_heard_74 : decode cX8_heard 74 = .ok (.iload_n 2, 1) := by decide +kernel
theorem dX8_heard_75 : decode cX8_heard 75 = .ok (.iand, 1) := by decide +kernel
theorem dX8_heard_76 : decode cX8_heard 76 = .ok (.ifCond .eq 13, 3) := by decide +kernel
theorem dX8_heard_79 : decode cX8_heard 79 = .ok (.iload_n 2, 1) := by decide +kernel
theorem dX8_heard_80 : decode cX8_heard 80 = .ok (.aload_n 0, 1) := by decide +kernel
theorem dX8_heard_81 : decode cX8_heard 81 = .ok (.getfield 40, 3) := by decide +kernel
theorem dX8_heard_84 : decode cX8_heard 84 = .ok (.getfield 227, 3) := by decide +kernel
theorem dX8_heard_87 : decode cX8_heard 87 = .ok (.ior, 1) := by decide +kernel
theorem dX8_heard_88 : decode cX8_heard 88 = .ok (.istore_n 2, 1) := by decide +kernel
theorem dX8_heard_89 : decode cX8_heard 89 = .ok (.iinc 3 1, 3) := by decide +kernel
theorem dX8_heard_92 : decode cX8_heard 92 = .ok (.goto (-69), 3) := by decide +kernel
theorem dX8_heard_95 : decode cX8_heard 95 = .ok (.bipush (-9), 2) := by decide +kernel
theorem dX8_heard_97 : decode cX8_heard 97 = .ok (.ireturn, 1) := by decide +kernel
theorem dX8_measured_0 : decode cX8_measured 0 = .ok (.iload_n 1, 1) := by decide +kernel
theorem dX8_measured_1 : decode cX8_measured 1 = .ok (.ifCond .lt 19, 3) := by decide +kernel
theorem dX8_measured_4 : decode cX8_measured 4 = .ok (.iload_n 1, 1) := by decide +kernel
theorem dX8_measured_5 : decode cX8_measured 5 = .ok (.bipush 40, 2) := by decide +kernel
theorem dX8_measured_7 : decode cX8_measured 7 = .ok (.if_icmp .gt 13, 3) := by decide +kernel
theorem dX8_measured_10 : decode cX8_measured 10 = .ok (.iload_n 2, 1) := by decide +kernel
theorem dX8_measured_11 : decode cX8_measured 11 = .ok (.ifCond .lt 9, 3) := by decide +kernel
theorem dX8_measured_14 : decode cX8_measured 14 = .ok (.iload_n 2, 1) := by decide +kernel
theorem dX8_measured_15 : decode cX8_measured 15 = .ok (.ldc 230, 2) := by decide +kernel
theorem dX8_measured_17 : decode cX8_measured 17 = .ok (.if_icmp .le 5, 3) := by decide +kernel
theorem dX8_measured_20 : decode cX8_measured 20 = .ok (.iconst (-1), 1) := by decide +kernel
theorem dX8_measured_21 : decode cX8_measured 21 = .ok (.ireturn, 1) := by decide +kernel
theorem dX8_measured_22 : decode cX8_measured 22 = .ok (.aload_n 0, 1) := by decide +kernel
theorem dX8_measured_23 : decode cX8_measured 23 = .ok (.getfield 61, 3) := by decide +kernel
theorem dX8_measured_26 : decode cX8_measured 26 = .ok (.iload_n 1, 1) := by decide +kernel
theorem dX8_measured_27 : decode cX8_measured 27 = .ok (.iload_n 2, 1) := by decide +kernel
theorem dX8_measured_28 : decode cX8_measured 28 = .ok (.invokevirtual 231, 3) := by decide +kernel
theorem dX8_measured_31 : decode cX8_measured 31 = .ok (.ifCond .eq 13, 3) := by decide +kernel
theorem dX8_measured_34 : decode cX8_measured 34 = .ok (.aload_n 0, 1) := by decide +kernel
theorem dX8_measured_35 : decode cX8_measured 35 = .ok (.getfield 61, 3) := by decide +kernel
theorem dX8_measured_38 : decode cX8_measured 38 = .ok (.getfield 105, 3) := by decide +kernel
theorem dX8_measured_41 : decode cX8_measured 41 = .ok (.goto 5, 3) := by decide +kernel
theorem dX8_measured_44 : decode cX8_measured 44 = .ok (.bipush (-3), 2) := by decide +kernel
theorem dX8_measured_46 : decode cX8_measured 46 = .ok (.ireturn, 1) := by decide +kernel
theorem dX8_forget_0 : decode cX8_forget 0 = .ok (.aload_n 0, 1) := by decide +kernel
theorem dX8_forget_1 : decode cX8_forget 1 = .ok (.getfield 61, 3) := by decide +kernel
theorem dX8_forget_4 : decode cX8_forget 4 = .ok (.getfield 105, 3) := by decide +kernel
theorem dX8_forget_7 : decode cX8_forget 7 = .ok (.istore_n 1, 1) := by decide +kernel
theorem dX8_forget_8 : decode cX8_forget 8 = .ok (.aload_n 0, 1) := by decide +kernel
theorem dX8_forget_9 : decode cX8_forget 9 = .ok (.getfield 61, 3) := by decide +kernel
theorem dX8_forget_12 : decode cX8_forget 12 = .ok (.iconst 0, 1) := by decide +kernel
theorem dX8_forget_13 : decode cX8_forget 13 = .ok (.putfield 105, 3) := by decide +kernel
theorem dX8_forget_16 : decode cX8_forget 16 = .ok (.iload_n 1, 1) := by decide +kernel
theorem dX8_forget_17 : decode cX8_forget 17 = .ok (.ireturn, 1) := by decide +kernel
theorem dX8_splitFirst_0 : decode cX8_splitFirst 0 = .ok (.aload_n 0, 1) := by decide +kernel
theorem dX8_splitFirst_1 : decode cX8_splitFirst 1 = .ok (.getfield 40, 3) := by decide +kernel
theorem dX8_splitFirst_4 : decode cX8_splitFirst 4 = .ok (.aload_n 0, 1) := by decide +kernel
theorem dX8_splitFirst_5 : decode cX8_splitFirst 5 = .ok (.getfield 26, 3) := by decide +kernel
theorem dX8_splitFirst_8 : decode cX8_splitFirst 8 = .ok (.getfield 99, 3) := by decide +kernel
theorem dX8_splitFirst_11 : decode cX8_splitFirst 11 = .ok (.invokevirtual 102, 3) := by decide +kernel
theorem dX8_splitFirst_14 : decode cX8_splitFirst 14 = .ok (.aload_n 0, 1) := by decide +kernel
theorem dX8_splitFirst_15 : decode cX8_splitFirst 15 = .ok (.invokevirtual 234, 3) := by decide +kernel
theorem dX8_splitFirst_18 : decode cX8_splitFirst 18 = .ok (.ifCond .eq 9, 3) := by decide +kernel
theorem dX8_splitFirst_21 : decode cX8_splitFirst 21 = .ok (.sipush 256, 3) := by decide +kernel
theorem dX8_splitFirst_24 : decode cX8_splitFirst 24 = .ok (.goto 4, 3) := by decide +kernel
theorem dX8_splitFirst_27 : decode cX8_splitFirst 27 = .ok (.iconst 0, 1) := by decide +kernel
theorem dX8_splitFirst_28 : decode cX8_splitFirst 28 = .ok (.istore_n 1, 1) := by decide +kernel
theorem dX8_splitFirst_29 : decode cX8_splitFirst 29 = .ok (.iconst 0, 1) := by decide +kernel
theorem dX8_splitFirst_30 : decode cX8_splitFirst 30 = .ok (.istore_n 2, 1) := by decide +kernel
theorem dX8_splitFirst_31 : decode cX8_splitFirst 31 = .ok (.iload_n 2, 1) := by decide +kernel
theorem dX8_splitFirst_32 : decode cX8_splitFirst 32 = .ok (.bipush 8, 2) := by decide +kernel
theorem dX8_splitFirst_34 : decode cX8_splitFirst 34 = .ok (.if_icmp .ge 60, 3) := by decide +kernel
theorem dX8_splitFirst_37 : decode cX8_splitFirst 37 = .ok (.aload_n 0, 1) := by decide +kernel
theorem dX8_splitFirst_38 : decode cX8_splitFirst 38 = .ok (.getfield 40, 3) := by decide +kernel
theorem dX8_splitFirst_41 : decode cX8_splitFirst 41 = .ok (.aload_n 0, 1) := by decide +kernel
theorem dX8_splitFirst_42 : decode cX8_splitFirst 42 = .ok (.getfield 26, 3) := by decide +kernel
theorem dX8_splitFirst_45 : decode cX8_splitFirst 45 = .ok (.getfield 99, 3) := by decide +kernel
theorem dX8_splitFirst_48 : decode cX8_splitFirst 48 = .ok (.invokevirtual 102, 3) := by decide +kernel
theorem dX8_splitFirst_51 : decode cX8_splitFirst 51 = .ok (.aload_n 0, 1) := by decide +kernel
theorem dX8_splitFirst_52 : decode cX8_splitFirst 52 = .ok (.getfield 40, 3) := by decide +kernel
theorem dX8_splitFirst_55 : decode cX8_splitFirst 55 = .ok (.iload_n 2, 1) := by decide +kernel
theorem dX8_splitFirst_56 : decode cX8_splitFirst 56 = .ok (.invokevirtual 170, 3) := by decide +kernel
theorem dX8_splitFirst_59 : decode cX8_splitFirst 59 = .ok (.ifCond .eq 29, 3) := by decide +kernel
theorem dX8_splitFirst_62 : decode cX8_splitFirst 62 = .ok (.aload_n 0, 1) := by decide +kernel
theorem dX8_splitFirst_63 : decode cX8_splitFirst 63 = .ok (.getfield 40, 3) := by decide +kernel
theorem dX8_splitFirst_66 : decode cX8_splitFirst 66 = .ok (.iload_n 2, 1) := by decide +kernel
theorem dX8_splitFirst_67 : decode cX8_splitFirst 67 = .ok (.invokevirtual 173, 3) := by decide +kernel
theorem dX8_splitFirst_70 : decode cX8_splitFirst 70 = .ok (.pop, 1) := by decide +kernel
theorem dX8_splitFirst_71 : decode cX8_splitFirst 71 = .ok (.iload_n 1, 1) := by decide +kernel
theorem dX8_splitFirst_72 : decode cX8_splitFirst 72 = .ok (.aload_n 0, 1) := by decide +kernel
theorem dX8_splitFirst_73 : decode cX8_splitFirst 73 = .ok (.invokevirtual 234, 3) := by decide +kernel
theorem dX8_splitFirst_76 : decode cX8_splitFirst 76 = .ok (.ifCond .eq 9, 3) := by decide +kernel
theorem dX8_splitFirst_79 : decode cX8_splitFirst 79 = .ok (.iconst 1, 1) := by decide +kernel
theorem dX8_splitFirst_80 : decode cX8_splitFirst 80 = .ok (.iload_n 2, 1) := by decide +kernel
theorem dX8_splitFirst_81 : decode cX8_splitFirst 81 = .ok (.ishl, 1) := by decide +kernel
theorem dX8_splitFirst_82 : decode cX8_splitFirst 82 = .ok (.goto 4, 3) := by decide +kernel
theorem dX8_splitFirst_85 : decode cX8_splitFirst 85 = .ok (.iconst 0, 1) := by decide +kernel
theorem dX8_splitFirst_86 : decode cX8_splitFirst 86 = .ok (.ior, 1) := by decide +kernel
theorem dX8_splitFirst_87 : decode cX8_splitFirst 87 = .ok (.istore_n 1, 1) := by decide +kernel
theorem dX8_splitFirst_88 : decode cX8_splitFirst 88 = .ok (.iinc 2 1, 3) := by decide +kernel
theorem dX8_splitFirst_91 : decode cX8_splitFirst 91 = .ok (.goto (-60), 3) := by decide +kernel
theorem dX8_splitFirst_94 : decode cX8_splitFirst 94 = .ok (.iload_n 1, 1) := by decide +kernel
theorem dX8_splitFirst_95 : decode cX8_splitFirst 95 = .ok (.ireturn, 1) := by decide +kernel
theorem dX8_isAsMeasured_0 : decode cX8_isAsMeasured 0 = .ok (.aload_n 0, 1) := by decide +kernel
theorem dX8_isAsMeasured_1 : decode cX8_isAsMeasured 1 = .ok (.getfield 61, 3) := by decide +kernel
theorem dX8_isAsMeasured_4 : decode cX8_isAsMeasured 4 = .ok (.iconst 0, 1) := by decide +kernel
theorem dX8_isAsMeasured_5 : decode cX8_isAsMeasured 5 = .ok (.aload_n 0, 1) := by decide +kernel
theorem dX8_isAsMeasured_6 : decode cX8_isAsMeasured 6 = .ok (.getfield 40, 3) := by decide +kernel
theorem dX8_isAsMeasured_9 : decode cX8_isAsMeasured 9 = .ok (.getfield 138, 3) := by decide +kernel
theorem dX8_isAsMeasured_12 : decode cX8_isAsMeasured 12 = .ok (.invokevirtual 238, 3) := by decide +kernel
theorem dX8_isAsMeasured_15 : decode cX8_isAsMeasured 15 = .ok (.istore_n 1, 1) := by decide +kernel
theorem dX8_isAsMeasured_16 : decode cX8_isAsMeasured 16 = .ok (.iconst 1, 1) := by decide +kernel
theorem dX8_isAsMeasured_17 : decode cX8_isAsMeasured 17 = .ok (.istore_n 2, 1) := by decide +kernel
theorem dX8_isAsMeasured_18 : decode cX8_isAsMeasured 18 = .ok (.iload_n 2, 1) := by decide +kernel
theorem dX8_isAsMeasured_19 : decode cX8_isAsMeasured 19 = .ok (.bipush 40, 2) := by decide +kernel
theorem dX8_isAsMeasured_21 : decode cX8_isAsMeasured 21 = .ok (.if_icmp .gt 50, 3) := by decide +kernel
theorem dX8_isAsMeasured_24 : decode cX8_isAsMeasured 24 = .ok (.iload_n 1, 1) := by decide +kernel
theorem dX8_isAsMeasured_25 : decode cX8_isAsMeasured 25 = .ok (.ifCond .eq 46, 3) := by decide +kernel
theorem dX8_isAsMeasured_28 : decode cX8_isAsMeasured 28 = .ok (.aload_n 0, 1) := by decide +kernel
theorem dX8_isAsMeasured_29 : decode cX8_isAsMeasured 29 = .ok (.getfield 40, 3) := by decide +kernel
theorem dX8_isAsMeasured_32 : decode cX8_isAsMeasured 32 = .ok (.aload_n 0, 1) := by decide +kernel
theorem dX8_isAsMeasured_33 : decode cX8_isAsMeasured 33 = .ok (.getfield 26, 3) := by decide +kernel
theorem dX8_isAsMeasured_36 : decode cX8_isAsMeasured 36 = .ok (.invokevirtual 151, 3) := by decide +kernel
theorem dX8_isAsMeasured_39 : decode cX8_isAsMeasured 39 = .ok (.aload_n 0, 1) := by decide +kernel
theorem dX8_isAsMeasured_40 : decode cX8_isAsMeasured 40 = .ok (.getfield 26, 3) := by decide +kernel
theorem dX8_isAsMeasured_43 : decode cX8_isAsMeasured 43 = .ok (.invokevirtual 155, 3) := by decide +kernel
theorem dX8_isAsMeasured_46 : decode cX8_isAsMeasured 46 = .ok (.invokevirtual 158, 3) := by decide +kernel
theorem dX8_isAsMeasured_49 : decode cX8_isAsMeasured 49 = .ok (.aload_n 0, 1) := by decide +kernel
theorem dX8_isAsMeasured_50 : decode cX8_isAsMeasured 50 = .ok (.getfield 61, 3) := by decide +kernel
theorem dX8_isAsMeasured_53 : decode cX8_isAsMeasured 53 = .ok (.iload_n 2, 1) := by decide +kernel
theorem dX8_isAsMeasured_54 : decode cX8_isAsMeasured 54 = .ok (.aload_n 0, 1) := by decide +kernel
theorem dX8_isAsMeasured_55 : decode cX8_isAsMeasured 55 = .ok (.getfield 40, 3) := by decide +kernel
theorem dX8_isAsMeasured_58 : decode cX8_isAsMeasured 58 = .ok (.getfield 138, 3) := by decide +kernel
theorem dX8_isAsMeasured_61 : decode cX8_isAsMeasured 61 = .ok (.invokevirtual 238, 3) := by decide +kernel
theorem dX8_isAsMeasured_64 : decode cX8_isAsMeasured 64 = .ok (.istore_n 1, 1) := by decide +kernel
theorem dX8_isAsMeasured_65 : decode cX8_isAsMeasured 65 = .ok (.iinc 2 1, 3) := by decide +kernel
theorem dX8_isAsMeasured_68 : decode cX8_isAsMeasured 68 = .ok (.goto (-50), 3) := by decide +kernel
theorem dX8_isAsMeasured_71 : decode cX8_isAsMeasured 71 = .ok (.iload_n 1, 1) := by decide +kernel
theorem dX8_isAsMeasured_72 : decode cX8_isAsMeasured 72 = .ok (.ireturn, 1) := by decide +kernel
theorem dX8_odds_0 : decode cX8_odds 0 = .ok (.aload_n 0, 1) := by decide +kernel
theorem dX8_odds_1 : decode cX8_odds 1 = .ok (.getfield 36, 3) := by decide +kernel
theorem dX8_odds_4 : decode cX8_odds 4 = .ok (.iload_n 1, 1) := by decide +kernel
theorem dX8_odds_5 : decode cX8_odds 5 = .ok (.invokevirtual 167, 3) := by decide +kernel
theorem dX8_odds_8 : decode cX8_odds 8 = .ok (.ifCond .eq 23, 3) := by decide +kernel
theorem dX8_odds_11 : decode cX8_odds 11 = .ok (.iload_n 2, 1) := by decide +kernel
theorem dX8_odds_12 : decode cX8_odds 12 = .ok (.ifCond .lt 19, 3) := by decide +kernel
theorem dX8_odds_15 : decode cX8_odds 15 = .ok (.iload_n 2, 1) := by decide +kernel
theorem dX8_odds_16 : decode cX8_odds 16 = .ok (.bipush 10, 2) := by decide +kernel
theorem dX8_odds_18 : decode cX8_odds 18 = .ok (.if_icmp .gt 13, 3) := by decide +kernel
theorem dX8_odds_21 : decode cX8_odds 21 = .ok (.iload_n 3, 1) := by decide +kernel
theorem dX8_odds_22 : decode cX8_odds 22 = .ok (.ifCond .lt 9, 3) := by decide +kernel
theorem dX8_odds_25 : decode cX8_odds 25 = .ok (.iload_n 3, 1) := by decide +kernel
theorem dX8_odds_26 : decode cX8_odds 26 = .ok (.bipush 40, 2) := by decide +kernel
theorem dX8_odds_28 : decode cX8_odds 28 = .ok (.if_icmp .le 5, 3) := by decide +kernel
theorem dX8_odds_31 : decode cX8_odds 31 = .ok (.iconst (-1), 1) := by decide +kernel
theorem dX8_odds_32 : decode cX8_odds 32 = .ok (.ireturn, 1) := by decide +kernel
theorem dX8_odds_33 : decode cX8_odds 33 = .ok (.iload 4, 2) := by decide +kernel
theorem dX8_odds_35 : decode cX8_odds 35 = .ok (.ifCond .lt 21, 3) := by decide +kernel
theorem dX8_odds_38 : decode cX8_odds 38 = .ok (.iload 4, 2) := by decide +kernel
theorem dX8_odds_40 : decode cX8_odds 40 = .ok (.bipush 9, 2) := by decide +kernel
theorem dX8_odds_42 : decode cX8_odds 42 = .ok (.if_icmp .gt 14, 3) := by decide +kernel
theorem dX8_odds_45 : decode cX8_odds 45 = .ok (.iload 5, 2) := by decide +kernel
theorem dX8_odds_47 : decode cX8_odds 47 = .ok (.ifCond .lt 9, 3) := by decide +kernel
theorem dX8_odds_50 : decode cX8_odds 50 = .ok (.iload 5, 2) := by decide +kernel
theorem dX8_odds_52 : decode cX8_odds 52 = .ok (.iconst 1, 1) := by decide +kernel
theorem dX8_odds_53 : decode cX8_odds 53 = .ok (.if_icmp .le 5, 3) := by decide +kernel
theorem dX8_odds_56 : decode cX8_odds 56 = .ok (.iconst (-1), 1) := by decide +kernel
theorem dX8_odds_57 : decode cX8_odds 57 = .ok (.ireturn, 1) := by decide +kernel
theorem dX8_odds_58 : decode cX8_odds 58 = .ok (.aload_n 0, 1) := by decide +kernel
theorem dX8_odds_59 : decode cX8_odds 59 = .ok (.getfield 36, 3) := by decide +kernel
theorem dX8_odds_62 : decode cX8_odds 62 = .ok (.iload_n 1, 1) := by decide +kernel
theorem dX8_odds_63 : decode cX8_odds 63 = .ok (.iload_n 3, 1) := by decide +kernel
theorem dX8_odds_64 : decode cX8_odds 64 = .ok (.invokevirtual 241, 3) := by decide +kernel
theorem dX8_odds_67 : decode cX8_odds 67 = .ok (.istore 6, 2) := by decide +kernel
theorem dX8_odds_69 : decode cX8_odds 69 = .ok (.iload 6, 2) := by decide +kernel
theorem dX8_odds_71 : decode cX8_odds 71 = .ok (.bipush 9, 2) := by decide +kernel
theorem dX8_odds_73 : decode cX8_odds 73 = .ok (.if_icmp .le 6, 3) := by decide +kernel
theorem dX8_odds_76 : decode cX8_odds 76 = .ok (.ldc 244, 2) := by decide +kernel
theorem dX8_odds_78 : decode cX8_odds 78 = .ok (.ireturn, 1) := by decide +kernel
theorem dX8_odds_79 : decode cX8_odds 79 = .ok (.aload_n 0, 1) := by decide +kernel
theorem dX8_odds_80 : decode cX8_odds 80 = .ok (.iload_n 2, 1) := by decide +kernel
theorem dX8_odds_81 : decode cX8_odds 81 = .ok (.iload 6, 2) := by decide +kernel
theorem dX8_odds_83 : decode cX8_odds 83 = .ok (.invokevirtual 245, 3) := by decide +kernel
theorem dX8_odds_86 : decode cX8_odds 86 = .ok (.lstore 7, 2) := by decide +kernel
theorem dX8_odds_88 : decode cX8_odds 88 = .ok (.lconst 0, 1) := by decide +kernel
theorem dX8_odds_89 : decode cX8_odds 89 = .ok (.lstore 9, 2) := by decide +kernel
theorem dX8_odds_91 : decode cX8_odds 91 = .ok (.iload 4, 2) := by decide +kernel
theorem dX8_odds_93 : decode cX8_odds 93 = .ok (.istore 11, 2) := by decide +kernel
theorem dX8_odds_95 : decode cX8_odds 95 = .ok (.iload 11, 2) := by decide +kernel
theorem dX8_odds_97 : decode cX8_odds 97 = .ok (.iload 6, 2) := by decide +kernel
theorem dX8_odds_99 : decode cX8_odds 99 = .ok (.if_icmp .gt 21, 3) := by decide +kernel
theorem dX8_odds_102 : decode cX8_odds 102 = .ok (.lload 9, 2) := by decide +kernel
theorem dX8_odds_104 : decode cX8_odds 104 = .ok (.aload_n 0, 1) := by decide +kernel
theorem dX8_odds_105 : decode cX8_odds 105 = .ok (.getfield 72, 3) := by decide +kernel
theorem dX8_odds_108 : decode cX8_odds 108 = .ok (.iload 11, 2) := by decide +kernel
theorem dX8_odds_110 : decode cX8_odds 110 = .ok (.laload, 1) := by decide +kernel
theorem dX8_odds_111 : decode cX8_odds 111 = .ok (.ladd, 1) := by decide +kernel
theorem dX8_odds_112 : decode cX8_odds 112 = .ok (.lstore 9, 2) := by decide +kernel
theorem dX8_odds_114 : decode cX8_odds 114 = .ok (.iinc 11 1, 3) := by decide +kernel
theorem dX8_odds_117 : decode cX8_odds 117 = .ok (.goto (-22), 3) := by decide +kernel
theorem dX8_odds_120 : decode cX8_odds 120 = .ok (.aload_n 0, 1) := by decide +kernel
theorem dX8_odds_121 : decode cX8_odds 121 = .ok (.getfield 68, 3) := by decide +kernel
theorem dX8_odds_124 : decode cX8_odds 124 = .ok (.lload 9, 2) := by decide +kernel
theorem dX8_odds_126 : decode cX8_odds 126 = .ok (.lload 7, 2) := by decide +kernel
theorem dX8_odds_128 : decode cX8_odds 128 = .ok (.invokevirtual 210, 3) := by decide +kernel
theorem dX8_odds_131 : decode cX8_odds 131 = .ok (.aload_n 0, 1) := by decide +kernel
theorem dX8_odds_132 : decode cX8_odds 132 = .ok (.getfield 68, 3) := by decide +kernel
theorem dX8_odds_135 : decode cX8_odds 135 = .ok (.iload 5, 2) := by decide +kernel
theorem dX8_odds_137 : decode cX8_odds 137 = .ok (.invokevirtual 220, 3) := by decide +kernel
theorem dX8_odds_140 : decode cX8_odds 140 = .ok (.l2i, 1) := by decide +kernel
theorem dX8_odds_141 : decode cX8_odds 141 = .ok (.ireturn, 1) := by decide +kernel
theorem dX8_countWays_0 : decode cX8_countWays 0 = .ok (.iconst 0, 1) := by decide +kernel
theorem dX8_countWays_1 : decode cX8_countWays 1 = .ok (.istore_n 3, 1) := by decide +kernel
theorem dX8_countWays_2 : decode cX8_countWays 2 = .ok (.iload_n 3, 1) := by decide +kernel
theorem dX8_countWays_3 : decode cX8_countWays 3 = .ok (.bipush 9, 2) := by decide +kernel
theorem dX8_countWays_5 : decode cX8_countWays 5 = .ok (.if_icmp .gt 24, 3) := by decide +kernel
theorem dX8_countWays_8 : decode cX8_countWays 8 = .ok (.aload_n 0, 1) := by decide +kernel
theorem dX8_countWays_9 : decode cX8_countWays 9 = .ok (.getfield 72, 3) := by decide +kernel
theorem dX8_countWays_12 : decode cX8_countWays 12 = .ok (.iload_n 3, 1) := by decide +kernel
theorem dX8_countWays_13 : decode cX8_countWays 13 = .ok (.iload_n 3, 1) := by decide +kernel
theorem dX8_countWays_14 : decode cX8_countWays 14 = .ok (.ifCond .ne 7, 3) := by decide +kernel
theorem dX8_countWays_17 : decode cX8_countWays 17 = .ok (.lconst 1, 1) := by decide +kernel
theorem dX8_countWays_18 : decode cX8_countWays 18 = .ok (.goto 4, 3) := by decide +kernel
theorem dX8_countWays_21 : decode cX8_countWays 21 = .ok (.lconst 0, 1) := by decide +kernel
theorem dX8_countWays_22 : decode cX8_countWays 22 = .ok (.lastore, 1) := by decide +kernel
theorem dX8_countWays_23 : decode cX8_countWays 23 = .ok (.iinc 3 1, 3) := by decide +kernel
theorem dX8_countWays_26 : decode cX8_countWays 26 = .ok (.goto (-24), 3) := by decide +kernel
theorem dX8_countWays_29 : decode cX8_countWays 29 = .ok (.lconst 1, 1) := by decide +kernel
theorem dX8_countWays_30 : decode cX8_countWays 30 = .ok (.lstore_n 3, 1) := by decide +kernel
theorem dX8_countWays_31 : decode cX8_countWays 31 = .ok (.iconst 0, 1) := by decide +kernel
theorem dX8_countWays_32 : decode cX8_countWays 32 = .ok (.istore 5, 2) := by decide +kernel
theorem dX8_countWays_34 : decode cX8_countWays 34 = .ok (.iload 5, 2) := by decide +kernel
theorem dX8_countWays_36 : decode cX8_countWays 36 = .ok (.iload_n 2, 1) := by decide +kernel
theorem dX8_countWays_37 : decode cX8_countWays 37 = .ok (.if_icmp .ge 81, 3) := by decide +kernel
theorem dX8_countWays_40 : decode cX8_countWays 40 = .ok (.iload 5, 2) := by decide +kernel
theorem dX8_countWays_42 : decode cX8_countWays 42 = .ok (.bipush 9, 2) := by decide +kernel
theorem dX8_countWays_44 : decode cX8_countWays 44 = .ok (.if_icmp .ge 74, 3) := by decide +kernel
theorem dX8_countWays_47 : decode cX8_countWays 47 = .ok (.lload_n 3, 1) := by decide +kernel
theorem dX8_countWays_48 : decode cX8_countWays 48 = .ok (.ldc2_w 249, 3) := by decide +kernel
theorem dX8_countWays_51 : decode cX8_countWays 51 = .ok (.lmul, 1) := by decide +kernel
theorem dX8_countWays_52 : decode cX8_countWays 52 = .ok (.lstore_n 3, 1) := by decide +kernel
theorem dX8_countWays_53 : decode cX8_countWays 53 = .ok (.bipush 9, 2) := by decide +kernel
theorem dX8_countWays_55 : decode cX8_countWays 55 = .ok (.istore 6, 2) := by decide +kernel
theorem dX8_countWays_57 : decode cX8_countWays 57 = .ok (.iload 6, 2) := by decide +kernel
theorem dX8_countWays_59 : decode cX8_countWays 59 = .ok (.ifCond .le 42, 3) := by decide +kernel
theorem dX8_countWays_62 : decode cX8_countWays 62 = .ok (.aload_n 0, 1) := by decide +kernel
theorem dX8_countWays_63 : decode cX8_countWays 63 = .ok (.getfield 72, 3) := by decide +kernel
theorem dX8_countWays_66 : decode cX8_countWays 66 = .ok (.iload 6, 2) := by decide +kernel
theorem dX8_countWays_68 : decode cX8_countWays 68 = .ok (.aload_n 0, 1) := by decide +kernel
theorem dX8_countWays_69 : decode cX8_countWays 69 = .ok (.getfield 72, 3) := by decide +kernel
theorem dX8_countWays_72 : decode cX8_countWays 72 = .ok (.iload 6, 2) := by decide +kernel
theorem dX8_countWays_74 : decode cX8_countWays 74 = .ok (.laload, 1) := by decide +kernel
theorem dX8_countWays_75 : decode cX8_countWays 75 = .ok (.iload_n 1, 1) := by decide +kernel
theorem dX8_countWays_76 : decode cX8_countWays 76 = .ok (.i2l, 1) := by decide +kernel
theorem dX8_countWays_77 : decode cX8_countWays 77 = .ok (.lmul, 1) := by decide +kernel
theorem dX8_countWays_78 : decode cX8_countWays 78 = .ok (.aload_n 0, 1) := by decide +kernel
theorem dX8_countWays_79 : decode cX8_countWays 79 = .ok (.getfield 72, 3) := by decide +kernel
theorem dX8_countWays_82 : decode cX8_countWays 82 = .ok (.iload 6, 2) := by decide +kernel
theorem dX8_countWays_84 : decode cX8_countWays 84 = .ok (.iconst 1, 1) := by decide +kernel
theorem dX8_countWays_85 : decode cX8_countWays 85 = .ok (.isub, 1) := by decide +kernel
theorem dX8_countWays_86 : decode cX8_countWays 86 = .ok (.laload, 1) := by decide +kernel
theorem dX8_countWays_87 : decode cX8_countWays 87 = .ok (.bipush 10, 2) := by decide +kernel
theorem dX8_countWays_89 : decode cX8_countWays 89 = .ok (.iload_n 1, 1) := by decide +kernel
theorem dX8_countWays_90 : decode cX8_countWays 90 = .ok (.isub, 1) := by decide +kernel
theorem dX8_countWays_91 : decode cX8_countWays 91 = .ok (.i2l, 1) := by decide +kernel
theorem dX8_countWays_92 : decode cX8_countWays 92 = .ok (.lmul, 1) := by decide +kernel
theorem dX8_countWays_93 : decode cX8_countWays 93 = .ok (.ladd, 1) := by decide +kernel
theorem dX8_countWays_94 : decode cX8_countWays 94 = .ok (.lastore, 1) := by decide +kernel
theorem dX8_countWays_95 : decode cX8_countWays 95 = .ok (.iinc 6 (-1), 3) := by decide +kernel
theorem dX8_countWays_98 : decode cX8_countWays 98 = .ok (.goto (-41), 3) := by decide +kernel
theorem dX8_countWays_101 : decode cX8_countWays 101 = .ok (.aload_n 0, 1) := by decide +kernel
theorem dX8_countWays_102 : decode cX8_countWays 102 = .ok (.getfield 72, 3) := by decide +kernel
theorem dX8_countWays_105 : decode cX8_countWays 105 = .ok (.iconst 0, 1) := by decide +kernel
theorem dX8_countWays_106 : decode cX8_countWays 106 = .ok (.dup2, 1) := by decide +kernel
theorem dX8_countWays_107 : decode cX8_countWays 107 = .ok (.laload, 1) := by decide +kernel
theorem dX8_countWays_108 : decode cX8_countWays 108 = .ok (.iload_n 1, 1) := by decide +kernel
theorem dX8_countWays_109 : decode cX8_countWays 109 = .ok (.i2l, 1) := by decide +kernel
theorem dX8_countWays_110 : decode cX8_countWays 110 = .ok (.lmul, 1) := by decide +kernel
theorem dX8_countWays_111 : decode cX8_countWays 111 = .ok (.lastore, 1) := by decide +kernel
theorem dX8_countWays_112 : decode cX8_countWays 112 = .ok (.iinc 5 1, 3) := by decide +kernel
theorem dX8_countWays_115 : decode cX8_countWays 115 = .ok (.goto (-81), 3) := by decide +kernel
theorem dX8_countWays_118 : decode cX8_countWays 118 = .ok (.lload_n 3, 1) := by decide +kernel
theorem dX8_countWays_119 : decode cX8_countWays 119 = .ok (.lreturn, 1) := by decide +kernel
theorem dX8_rate_0 : decode cX8_rate 0 = .ok (.iload_n 2, 1) := by decide +kernel
theorem dX8_rate_1 : decode cX8_rate 1 = .ok (.ifCond .lt 9, 3) := by decide +kernel
theorem dX8_rate_4 : decode cX8_rate 4 = .ok (.iload_n 2, 1) := by decide +kernel
theorem dX8_rate_5 : decode cX8_rate 5 = .ok (.bipush 8, 2) := by decide +kernel
theorem dX8_rate_7 : decode cX8_rate 7 = .ok (.if_icmp .lt 6, 3) := by decide +kernel
theorem dX8_rate_10 : decode cX8_rate 10 = .ok (.ldc 244, 2) := by decide +kernel
theorem dX8_rate_12 : decode cX8_rate 12 = .ok (.ireturn, 1) := by decide +kernel
theorem dX8_rate_13 : decode cX8_rate 13 = .ok (.aload_n 0, 1) := by decide +kernel
theorem dX8_rate_14 : decode cX8_rate 14 = .ok (.getfield 36, 3) := by decide +kernel
theorem dX8_rate_17 : decode cX8_rate 17 = .ok (.getfield 109, 3) := by decide +kernel
theorem dX8_rate_20 : decode cX8_rate 20 = .ok (.iload_n 2, 1) := by decide +kernel
theorem dX8_rate_21 : decode cX8_rate 21 = .ok (.iaload, 1) := by decide +kernel
theorem dX8_rate_22 : decode cX8_rate 22 = .ok (.istore_n 3, 1) := by decide +kernel
theorem dX8_rate_23 : decode cX8_rate 23 = .ok (.iload_n 1, 1) := by decide +kernel
theorem dX8_rate_24 : decode cX8_rate 24 = .ok (.tableswitch 145 0 5 #[40, 49, 67, 85, 103, 122], 40) := by decide +kernel
theorem dX8_rate_64 : decode cX8_rate 64 = .ok (.aload_n 0, 1) := by decide +kernel
theorem dX8_rate_65 : decode cX8_rate 65 = .ok (.getfield 79, 3) := by decide +kernel
theorem dX8_rate_68 : decode cX8_rate 68 = .ok (.iload_n 3, 1) := by decide +kernel
theorem dX8_rate_69 : decode cX8_rate 69 = .ok (.invokevirtual 251, 3) := by decide +kernel
theorem dX8_rate_72 : decode cX8_rate 72 = .ok (.ireturn, 1) := by decide +kernel
theorem dX8_rate_73 : decode cX8_rate 73 = .ok (.aload_n 0, 1) := by decide +kernel
theorem dX8_rate_74 : decode cX8_rate 74 = .ok (.getfield 79, 3) := by decide +kernel
theorem dX8_rate_77 : decode cX8_rate 77 = .ok (.iload_n 3, 1) := by decide +kernel
theorem dX8_rate_78 : decode cX8_rate 78 = .ok (.aload_n 0, 1) := by decide +kernel
theorem dX8_rate_79 : decode cX8_rate 79 = .ok (.getfield 36, 3) := by decide +kernel
theorem dX8_rate_82 : decode cX8_rate 82 = .ok (.getfield 113, 3) := by decide +kernel
theorem dX8_rate_85 : decode cX8_rate 85 = .ok (.iload_n 2, 1) := by decide +kernel
theorem dX8_rate_86 : decode cX8_rate 86 = .ok (.iaload, 1) := by decide +kernel
theorem dX8_rate_87 : decode cX8_rate 87 = .ok (.invokevirtual 254, 3) := by decide +kernel
theorem dX8_rate_90 : decode cX8_rate 90 = .ok (.ireturn, 1) := by decide +kernel
theorem dX8_rate_91 : decode cX8_rate 91 = .ok (.aload_n 0, 1) := by decide +kernel
theorem dX8_rate_92 : decode cX8_rate 92 = .ok (.getfield 79, 3) := by decide +kernel
theorem dX8_rate_95 : decode cX8_rate 95 = .ok (.iload_n 3, 1) := by decide +kernel
theorem dX8_rate_96 : decode cX8_rate 96 = .ok (.aload_n 0, 1) := by decide +kernel
theorem dX8_rate_97 : decode cX8_rate 97 = .ok (.getfield 36, 3) := by decide +kernel
theorem dX8_rate_100 : decode cX8_rate 100 = .ok (.getfield 116, 3) := by decide +kernel
theorem dX8_rate_103 : decode cX8_rate 103 = .ok (.iload_n 2, 1) := by decide +kernel
theorem dX8_rate_104 : decode cX8_rate 104 = .ok (.iaload, 1) := by decide +kernel
theorem dX8_rate_105 : decode cX8_rate 105 = .ok (.invokevirtual 257, 3) := by decide +kernel
theorem dX8_rate_108 : decode cX8_rate 108 = .ok (.ireturn, 1) := by decide +kernel
theorem dX8_rate_109 : decode cX8_rate 109 = .ok (.aload_n 0, 1) := by decide +kernel
theorem dX8_rate_110 : decode cX8_rate 110 = .ok (.getfield 79, 3) := by decide +kernel
theorem dX8_rate_113 : decode cX8_rate 113 = .ok (.iload_n 3, 1) := by decide +kernel
theorem dX8_rate_114 : decode cX8_rate 114 = .ok (.aload_n 0, 1) := by decide +kernel
theorem dX8_rate_115 : decode cX8_rate 115 = .ok (.getfield 36, 3) := by decide +kernel
theorem dX8_rate_118 : decode cX8_rate 118 = .ok (.getfield 113, 3) := by decide +kernel
theorem dX8_rate_121 : decode cX8_rate 121 = .ok (.iload_n 2, 1) := by decide +kernel
theorem dX8_rate_122 : decode cX8_rate 122 = .ok (.iaload, 1) := by decide +kernel
theorem dX8_rate_123 : decode cX8_rate 123 = .ok (.invokevirtual 260, 3) := by decide +kernel
theorem dX8_rate_126 : decode cX8_rate 126 = .ok (.ireturn, 1) := by decide +kernel
theorem dX8_rate_127 : decode cX8_rate 127 = .ok (.aload_n 0, 1) := by decide +kernel
theorem dX8_rate_128 : decode cX8_rate 128 = .ok (.getfield 79, 3) := by decide +kernel
theorem dX8_rate_131 : decode cX8_rate 131 = .ok (.iload_n 3, 1) := by decide +kernel
theorem dX8_rate_132 : decode cX8_rate 132 = .ok (.aload_n 0, 1) := by decide +kernel
theorem dX8_rate_133 : decode cX8_rate 133 = .ok (.getfield 36, 3) := by decide +kernel
theorem dX8_rate_136 : decode cX8_rate 136 = .ok (.getfield 116, 3) := by decide +kernel
theorem dX8_rate_139 : decode cX8_rate 139 = .ok (.iload_n 2, 1) := by decide +kernel
theorem dX8_rate_140 : decode cX8_rate 140 = .ok (.iaload, 1) := by decide +kernel
theorem dX8_rate_141 : decode cX8_rate 141 = .ok (.iload_n 2, 1) := by decide +kernel
theorem dX8_rate_142 : decode cX8_rate 142 = .ok (.invokevirtual 263, 3) := by decide +kernel
theorem dX8_rate_145 : decode cX8_rate 145 = .ok (.ireturn, 1) := by decide +kernel
theorem dX8_rate_146 : decode cX8_rate 146 = .ok (.aload_n 0, 1) := by decide +kernel
theorem dX8_rate_147 : decode cX8_rate 147 = .ok (.getfield 79, 3) := by decide +kernel
theorem dX8_rate_150 : decode cX8_rate 150 = .ok (.iload_n 3, 1) := by decide +kernel
theorem dX8_rate_151 : decode cX8_rate 151 = .ok (.aload_n 0, 1) := by decide +kernel
theorem dX8_rate_152 : decode cX8_rate 152 = .ok (.getfield 26, 3) := by decide +kernel
theorem dX8_rate_155 : decode cX8_rate 155 = .ok (.aload_n 0, 1) := by decide +kernel
theorem dX8_rate_156 : decode cX8_rate 156 = .ok (.getfield 36, 3) := by decide +kernel
theorem dX8_rate_159 : decode cX8_rate 159 = .ok (.getfield 138, 3) := by decide +kernel
theorem dX8_rate_162 : decode cX8_rate 162 = .ok (.invokevirtual 141, 3) := by decide +kernel
theorem dX8_rate_165 : decode cX8_rate 165 = .ok (.invokevirtual 267, 3) := by decide +kernel
theorem dX8_rate_168 : decode cX8_rate 168 = .ok (.ireturn, 1) := by decide +kernel
theorem dX8_rate_169 : decode cX8_rate 169 = .ok (.ldc 244, 2) := by decide +kernel
theorem dX8_rate_171 : decode cX8_rate 171 = .ok (.ireturn, 1) := by decide +kernel
theorem dX8_keep_0 : decode cX8_keep 0 = .ok (.iload_n 1, 1) := by decide +kernel
theorem dX8_keep_1 : decode cX8_keep 1 = .ok (.ifCond .lt 8, 3) := by decide +kernel
theorem dX8_keep_4 : decode cX8_keep 4 = .ok (.iload_n 1, 1) := by decide +kernel
theorem dX8_keep_5 : decode cX8_keep 5 = .ok (.iconst 2, 1) := by decide +kernel
theorem dX8_keep_6 : decode cX8_keep 6 = .ok (.if_icmp .lt 5, 3) := by decide +kernel
theorem dX8_keep_9 : decode cX8_keep 9 = .ok (.iconst (-1), 1) := by decide +kernel
theorem dX8_keep_10 : decode cX8_keep 10 = .ok (.ireturn, 1) := by decide +kernel
theorem dX8_keep_11 : decode cX8_keep 11 = .ok (.aload_n 0, 1) := by decide +kernel
theorem dX8_keep_12 : decode cX8_keep 12 = .ok (.getfield 50, 3) := by decide +kernel
theorem dX8_keep_15 : decode cX8_keep 15 = .ok (.iload_n 1, 1) := by decide +kernel
theorem dX8_keep_16 : decode cX8_keep 16 = .ok (.aaload, 1) := by decide +kernel
theorem dX8_keep_17 : decode cX8_keep 17 = .ok (.astore_n 2, 1) := by decide +kernel
theorem dX8_keep_18 : decode cX8_keep 18 = .ok (.aload_n 2, 1) := by decide +kernel
theorem dX8_keep_19 : decode cX8_keep 19 = .ok (.ifnull 18, 3) := by decide +kernel
theorem dX8_keep_22 : decode cX8_keep 22 = .ok (.aload_n 2, 1) := by decide +kernel
theorem dX8_keep_23 : decode cX8_keep 23 = .ok (.aload_n 0, 1) := by decide +kernel
theorem dX8_keep_24 : decode cX8_keep 24 = .ok (.getfield 36, 3) := by decide +kernel
theorem dX8_keep_27 : decode cX8_keep 27 = .ok (.invokevirtual 102, 3) := by decide +kernel
theorem dX8_keep_30 : decode cX8_keep 30 = .ok (.aload_n 0, 1) := by decide +kernel
theorem dX8_keep_31 : decode cX8_keep 31 = .ok (.getfield 54, 3) := by decide +kernel
theorem dX8_keep_34 : decode cX8_keep 34 = .ok (.iload_n 1, 1) := by decide +kernel
theorem dX8_keep_35 : decode cX8_keep 35 = .ok (.iconst 1, 1) := by decide +kernel
theorem dX8_keep_36 : decode cX8_keep 36 = .ok (.bastore, 1) := by decide +kernel
theorem dX8_keep_37 : decode cX8_keep 37 = .ok (.aload_n 0, 1) := by decide +kernel
theorem dX8_keep_38 : decode cX8_keep 38 = .ok (.getfield 36, 3) := by decide +kernel
theorem dX8_keep_41 : decode cX8_keep 41 = .ok (.getfield 135, 3) := by decide +kernel
theorem dX8_keep_44 : decode cX8_keep 44 = .ok (.ireturn, 1) := by decide +kernel
theorem dX8_back_0 : decode cX8_back 0 = .ok (.iload_n 1, 1) := by decide +kernel
theorem dX8_back_1 : decode cX8_back 1 = .ok (.ifCond .lt 8, 3) := by decide +kernel
theorem dX8_back_4 : decode cX8_back 4 = .ok (.iload_n 1, 1) := by decide +kernel
theorem dX8_back_5 : decode cX8_back 5 = .ok (.iconst 2, 1) := by decide +kernel
theorem dX8_back_6 : decode cX8_back 6 = .ok (.if_icmp .lt 5, 3) := by decide +kernel
theorem dX8_back_9 : decode cX8_back 9 = .ok (.iconst (-1), 1) := by decide +kernel
theorem dX8_back_10 : decode cX8_back 10 = .ok (.ireturn, 1) := by decide +kernel
theorem dX8_back_11 : decode cX8_back 11 = .ok (.aload_n 0, 1) := by decide +kernel
theorem dX8_back_12 : decode cX8_back 12 = .ok (.getfield 50, 3) := by decide +kernel
theorem dX8_back_15 : decode cX8_back 15 = .ok (.iload_n 1, 1) := by decide +kernel
theorem dX8_back_16 : decode cX8_back 16 = .ok (.aaload, 1) := by decide +kernel
theorem dX8_back_17 : decode cX8_back 17 = .ok (.astore_n 2, 1) := by decide +kernel
theorem dX8_back_18 : decode cX8_back 18 = .ok (.aload_n 2, 1) := by decide +kernel
theorem dX8_back_19 : decode cX8_back 19 = .ok (.ifnull 12, 3) := by decide +kernel
theorem dX8_back_22 : decode cX8_back 22 = .ok (.aload_n 0, 1) := by decide +kernel
theorem dX8_back_23 : decode cX8_back 23 = .ok (.getfield 54, 3) := by decide +kernel
theorem dX8_back_26 : decode cX8_back 26 = .ok (.iload_n 1, 1) := by decide +kernel
theorem dX8_back_27 : decode cX8_back 27 = .ok (.baload, 1) := by decide +kernel
theorem dX8_back_28 : decode cX8_back 28 = .ok (.ifCond .ne 6, 3) := by decide +kernel
theorem dX8_back_31 : decode cX8_back 31 = .ok (.bipush (-2), 2) := by decide +kernel
theorem dX8_back_33 : decode cX8_back 33 = .ok (.ireturn, 1) := by decide +kernel
theorem dX8_back_34 : decode cX8_back 34 = .ok (.aload_n 0, 1) := by decide +kernel
theorem dX8_back_35 : decode cX8_back 35 = .ok (.getfield 36, 3) := by decide +kernel
theorem dX8_back_38 : decode cX8_back 38 = .ok (.aload_n 2, 1) := by decide +kernel
theorem dX8_back_39 : decode cX8_back 39 = .ok (.invokevirtual 102, 3) := by decide +kernel
theorem dX8_back_42 : decode cX8_back 42 = .ok (.aload_n 0, 1) := by decide +kernel
theorem dX8_back_43 : decode cX8_back 43 = .ok (.getfield 46, 3) := by decide +kernel
theorem dX8_back_46 : decode cX8_back 46 = .ok (.iconst 0, 1) := by decide +kernel
theorem dX8_back_47 : decode cX8_back 47 = .ok (.putfield 108, 3) := by decide +kernel
theorem dX8_back_50 : decode cX8_back 50 = .ok (.aload_n 0, 1) := by decide +kernel
theorem dX8_back_51 : decode cX8_back 51 = .ok (.getfield 36, 3) := by decide +kernel
theorem dX8_back_54 : decode cX8_back 54 = .ok (.getfield 135, 3) := by decide +kernel
theorem dX8_back_57 : decode cX8_back 57 = .ok (.ireturn, 1) := by decide +kernel
theorem dX8_count_0 : decode cX8_count 0 = .ok (.iload_n 1, 1) := by decide +kernel
theorem dX8_count_1 : decode cX8_count 1 = .ok (.tableswitch 103 0 6 #[43, 53, 61, 71, 79, 87, 95], 43) := by decide +kernel
theorem dX8_count_44 : decode cX8_count 44 = .ok (.aload_n 0, 1) := by decide +kernel
theorem dX8_count_45 : decode cX8_count 45 = .ok (.getfield 26, 3) := by decide +kernel
theorem dX8_count_48 : decode cX8_count 48 = .ok (.getfield 270, 3) := by decide +kernel
theorem dX8_count_51 : decode cX8_count 51 = .ok (.iconst 1, 1) := by decide +kernel
theorem dX8_count_52 : decode cX8_count 52 = .ok (.iaload, 1) := by decide +kernel
theorem dX8_count_53 : decode cX8_count 53 = .ok (.ireturn, 1) := by decide +kernel
theorem dX8_count_54 : decode cX8_count 54 = .ok (.aload_n 0, 1) := by decide +kernel
theorem dX8_count_55 : decode cX8_count 55 = .ok (.getfield 26, 3) := by decide +kernel
theorem dX8_count_58 : decode cX8_count 58 = .ok (.invokevirtual 155, 3) := by decide +kernel
theorem dX8_count_61 : decode cX8_count 61 = .ok (.ireturn, 1) := by decide +kernel
theorem dX8_count_62 : decode cX8_count 62 = .ok (.aload_n 0, 1) := by decide +kernel
theorem dX8_count_63 : decode cX8_count 63 = .ok (.getfield 26, 3) := by decide +kernel
theorem dX8_count_66 : decode cX8_count 66 = .ok (.getfield 270, 3) := by decide +kernel
theorem dX8_count_69 : decode cX8_count 69 = .ok (.iconst 3, 1) := by decide +kernel
theorem dX8_count_70 : decode cX8_count 70 = .ok (.iaload, 1) := by decide +kernel
theorem dX8_count_71 : decode cX8_count 71 = .ok (.ireturn, 1) := by decide +kernel
theorem dX8_count_72 : decode cX8_count 72 = .ok (.aload_n 0, 1) := by decide +kernel
theorem dX8_count_73 : decode cX8_count 73 = .ok (.getfield 26, 3) := by decide +kernel
theorem dX8_count_76 : decode cX8_count 76 = .ok (.invokevirtual 151, 3) := by decide +kernel
theorem dX8_count_79 : decode cX8_count 79 = .ok (.ireturn, 1) := by decide +kernel
theorem dX8_count_80 : decode cX8_count 80 = .ok (.aload_n 0, 1) := by decide +kernel
theorem dX8_count_81 : decode cX8_count 81 = .ok (.getfield 26, 3) := by decide +kernel
theorem dX8_count_84 : decode cX8_count 84 = .ok (.getfield 273, 3) := by decide +kernel
theorem dX8_count_87 : decode cX8_count 87 = .ok (.ireturn, 1) := by decide +kernel
theorem dX8_count_88 : decode cX8_count 88 = .ok (.aload_n 0, 1) := by decide +kernel
theorem dX8_count_89 : decode cX8_count 89 = .ok (.getfield 61, 3) := by decide +kernel
theorem dX8_count_92 : decode cX8_count 92 = .ok (.getfield 105, 3) := by decide +kernel
theorem dX8_count_95 : decode cX8_count 95 = .ok (.ireturn, 1) := by decide +kernel
theorem dX8_count_96 : decode cX8_count 96 = .ok (.aload_n 0, 1) := by decide +kernel
theorem dX8_count_97 : decode cX8_count 97 = .ok (.getfield 10, 3) := by decide +kernel
theorem dX8_count_100 : decode cX8_count 100 = .ok (.getfield 87, 3) := by decide +kernel
theorem dX8_count_103 : decode cX8_count 103 = .ok (.ireturn, 1) := by decide +kernel
theorem dX8_count_104 : decode cX8_count 104 = .ok (.iconst (-1), 1) := by decide +kernel
theorem dX8_count_105 : decode cX8_count 105 = .ok (.ireturn, 1) := by decide +kernel
theorem dX8_trace_0 : decode cX8_trace 0 = .ok (.aload_n 0, 1) := by decide +kernel
theorem dX8_trace_1 : decode cX8_trace 1 = .ok (.getfield 79, 3) := by decide +kernel
theorem dX8_trace_4 : decode cX8_trace 4 = .ok (.getfield 276, 3) := by decide +kernel
theorem dX8_trace_7 : decode cX8_trace 7 = .ok (.lreturn, 1) := by decide +kernel
theorem dX8_bitOf_0 : decode cX8_bitOf 0 = .ok (.iload_n 0, 1) := by decide +kernel
theorem dX8_bitOf_1 : decode cX8_bitOf 1 = .ok (.iload_n 1, 1) := by decide +kernel
theorem dX8_bitOf_2 : decode cX8_bitOf 2 = .ok (.ishr, 1) := by decide +kernel
theorem dX8_bitOf_3 : decode cX8_bitOf 3 = .ok (.iconst 1, 1) := by decide +kernel
theorem dX8_bitOf_4 : decode cX8_bitOf 4 = .ok (.iand, 1) := by decide +kernel
theorem dX8_bitOf_5 : decode cX8_bitOf 5 = .ok (.ireturn, 1) := by decide +kernel
theorem dX9_init_0 : decode cX9_init 0 = .ok (.aload_n 0, 1) := by decide +kernel
theorem dX9_init_1 : decode cX9_init 1 = .ok (.invokespecial 1, 3) := by decide +kernel
theorem dX9_init_4 : decode cX9_init 4 = .ok (.aload_n 0, 1) := by decide +kernel
theorem dX9_init_5 : decode cX9_init 5 = .ok (.sipush 200, 3) := by decide +kernel
theorem dX9_init_8 : decode cX9_init 8 = .ok (.newarray .int, 2) := by decide +kernel
theorem dX9_init_10 : decode cX9_init 10 = .ok (.putfield 7, 3) := by decide +kernel
theorem dX9_init_13 : decode cX9_init 13 = .ok (.aload_n 0, 1) := by decide +kernel
theorem dX9_init_14 : decode cX9_init 14 = .ok (.bipush 32, 2) := by decide +kernel
theorem dX9_init_16 : decode cX9_init 16 = .ok (.newarray .int, 2) := by decide +kernel
theorem dX9_init_18 : decode cX9_init 18 = .ok (.putfield 13, 3) := by decide +kernel
theorem dX9_init_21 : decode cX9_init 21 = .ok (.aload_n 0, 1) := by decide +kernel
theorem dX9_init_22 : decode cX9_init 22 = .ok (.bipush 32, 2) := by decide +kernel
theorem dX9_init_24 : decode cX9_init 24 = .ok (.newarray .int, 2) := by decide +kernel
theorem dX9_init_26 : decode cX9_init 26 = .ok (.putfield 16, 3) := by decide +kernel
theorem dX9_init_29 : decode cX9_init 29 = .ok (.aload_n 0, 1) := by decide +kernel
theorem dX9_init_30 : decode cX9_init 30 = .ok (.bipush 59, 2) := by decide +kernel
theorem dX9_init_32 : decode cX9_init 32 = .ok (.newarray .int, 2) := by decide +kernel
theorem dX9_init_34 : decode cX9_init 34 = .ok (.putfield 19, 3) := by decide +kernel
theorem dX9_init_37 : decode cX9_init 37 = .ok (.aload_n 0, 1) := by decide +kernel
theorem dX9_init_38 : decode cX9_init 38 = .ok (.sipush 472, 3) := by decide +kernel
theorem dX9_init_41 : decode cX9_init 41 = .ok (.newarray .int, 2) := by decide +kernel
theorem dX9_init_43 : decode cX9_init 43 = .ok (.putfield 22, 3) := by decide +kernel
theorem dX9_init_46 : decode cX9_init 46 = .ok (.aload_n 0, 1) := by decide +kernel
theorem dX9_init_47 : decode cX9_init 47 = .ok (.bipush 118, 2) := by decide +kernel
theorem dX9_init_49 : decode cX9_init 49 = .ok (.newarray .int, 2) := by decide +kernel
theorem dX9_init_51 : decode cX9_init 51 = .ok (.putfield 25, 3) := by decide +kernel
theorem dX9_init_54 : decode cX9_init 54 = .ok (.aload_n 0, 1) := by decide +kernel
theorem dX9_init_55 : decode cX9_init 55 = .ok (.iconst 2, 1) := by decide +kernel
theorem dX9_init_56 : decode cX9_init 56 = .ok (.newarray .boolean, 2) := by decide +kernel
theorem dX9_init_58 : decode cX9_init 58 = .ok (.putfield 28, 3) := by decide +kernel
theorem dX9_init_61 : decode cX9_init 61 = .ok (.aload_n 0, 1) := by decide +kernel
theorem dX9_init_62 : decode cX9_init 62 = .ok (.bipush 8, 2) := by decide +kernel
theorem dX9_init_64 : decode cX9_init 64 = .ok (.newarray .int, 2) := by decide +kernel
theorem dX9_init_66 : decode cX9_init 66 = .ok (.putfield 32, 3) := by decide +kernel
theorem dX9_init_69 : decode cX9_init 69 = .ok (.aload_n 0, 1) := by decide +kernel
theorem dX9_init_70 : decode cX9_init 70 = .ok (.bipush 59, 2) := by decide +kernel
theorem dX9_init_72 : decode cX9_init 72 = .ok (.newarray .int, 2) := by decide +kernel
theorem dX9_init_74 : decode cX9_init 74 = .ok (.putfield 35, 3) := by decide +kernel
theorem dX9_init_77 : decode cX9_init 77 = .ok (.aload_n 0, 1) := by decide +kernel
theorem dX9_init_78 : decode cX9_init 78 = .ok (.invokevirtual 38, 3) := by decide +kernel
theorem dX9_init_81 : decode cX9_init 81 = .ok (.pop, 1) := by decide +kernel
theorem dX9_init_82 : decode cX9_init 82 = .ok (.aload_n 0, 1) := by decide +kernel
theorem dX9_init_83 : decode cX9_init 83 = .ok (.invokevirtual 42, 3) := by decide +kernel
theorem dX9_init_86 : decode cX9_init 86 = .ok (.return_, 1) := by decide +kernel
theorem dX9_in_0 : decode cX9_in 0 = .ok (.iload_n 0, 1) := by decide +kernel
theorem dX9_in_1 : decode cX9_in 1 = .ok (.iload_n 1, 1) := by decide +kernel
theorem dX9_in_2 : decode cX9_in 2 = .ok (.if_icmp .lt 12, 3) := by decide +kernel
theorem dX9_in_5 : decode cX9_in 5 = .ok (.iload_n 0, 1) := by decide +kernel
theorem dX9_in_6 : decode cX9_in 6 = .ok (.iload_n 2, 1) := by decide +kernel
theorem dX9_in_7 : decode cX9_in 7 = .ok (.if_icmp .gt 7, 3) := by decide +kernel
theorem dX9_in_10 : decode cX9_in 10 = .ok (.iconst 1, 1) := by decide +kernel
theorem dX9_in_11 : decode cX9_in 11 = .ok (.goto 4, 3) := by decide +kernel
theorem dX9_in_14 : decode cX9_in 14 = .ok (.iconst 0, 1) := by decide +kernel
theorem dX9_in_15 : decode cX9_in 15 = .ok (.ireturn, 1) := by decide +kernel
theorem dX9_isNumber_0 : decode cX9_isNumber 0 = .ok (.iload_n 0, 1) := by decide +kernel
theorem dX9_isNumber_1 : decode cX9_isNumber 1 = .ok (.iconst 0, 1) := by decide +kernel
theorem dX9_isNumber_2 : decode cX9_isNumber 2 = .ok (.bipush 7, 2) := by decide +kernel
theorem dX9_isNumber_4 : decode cX9_isNumber 4 = .ok (.invokestatic 45, 3) := by decide +kernel
theorem dX9_isNumber_7 : decode cX9_isNumber 7 = .ok (.ireturn, 1) := by decide +kernel
theorem dX9_isThere_0 : decode cX9_isThere 0 = .ok (.iload_n 1, 1) := by decide +kernel
theorem dX9_isThere_1 : decode cX9_isThere 1 = .ok (.invokestatic 49, 3) := by decide +kernel
theorem dX9_isThere_4 : decode cX9_isThere 4 = .ok (.ifCond .eq 20, 3) := by decide +kernel
theorem dX9_isThere_7 : decode cX9_isThere 7 = .ok (.aload_n 0, 1) := by decide +kernel
theorem dX9_isThere_8 : decode cX9_isThere 8 = .ok (.getfield 19, 3) := by decide +kernel
theorem dX9_isThere_11 : decode cX9_isThere 11 = .ok (.bipush 51, 2) := by decide +kernel
theorem dX9_isThere_13 : decode cX9_isThere 13 = .ok (.iload_n 1, 1) := by decide +kernel
theorem dX9_isThere_14 : decode cX9_isThere 14 = .ok (.iadd, 1) := by decide +kernel
theorem dX9_isThere_15 : decode cX9_isThere 15 = .ok (.iaload, 1) := by decide +kernel
theorem dX9_isThere_16 : decode cX9_isThere 16 = .ok (.iconst 1, 1) := by decide +kernel
theorem dX9_isThere_17 : decode cX9_isThere 17 = .ok (.if_icmp .ne 7, 3) := by decide +kernel
theorem dX9_isThere_20 : decode cX9_isThere 20 = .ok (.iconst 1, 1) := by decide +kernel
theorem dX9_isThere_21 : decode cX9_isThere 21 = .ok (.goto 4, 3) := by decide +kernel
theorem dX9_isThere_24 : decode cX9_isThere 24 = .ok (.iconst 0, 1) := by decide +kernel
theorem dX9_isThere_25 : decode cX9_isThere 25 = .ok (.ireturn, 1) := by decide +kernel
theorem dX9_ones_0 : decode cX9_ones 0 = .ok (.iconst 0, 1) := by decide +kernel
theorem dX9_ones_1 : decode cX9_ones 1 = .ok (.istore_n 1, 1) := by decide +kernel
theorem dX9_ones_2 : decode cX9_ones 2 = .ok (.iconst 0, 1) := by decide +kernel
theorem dX9_ones_3 : decode cX9_ones 3 = .ok (.istore_n 2, 1) := by decide +kernel
theorem dX9_ones_4 : decode cX9_ones 4 = .ok (.iload_n 2, 1) := by decide +kernel
theorem dX9_ones_5 : decode cX9_ones 5 = .ok (.bipush 8, 2) := by decide +kernel
theorem dX9_ones_7 : decode cX9_ones 7 = .ok (.if_icmp .ge 17, 3) := by decide +kernel
theorem dX9_ones_10 : decode cX9_ones 10 = .ok (.iload_n 1, 1) := by decide +kernel
theorem dX9_ones_11 : decode cX9_ones 11 = .ok (.iload_n 0, 1) := by decide +kernel
theorem dX9_ones_12 : decode cX9_ones 12 = .ok (.iload_n 2, 1) := by decide +kernel
theorem dX9_ones_13 : decode cX9_ones 13 = .ok (.ishr, 1) := by decide +kernel
theorem dX9_ones_14 : decode cX9_ones 14 = .ok (.iconst 1, 1) := by decide +kernel
theorem dX9_ones_15 : decode cX9_ones 15 = .ok (.iand, 1) := by decide +kernel
theorem dX9_ones_16 : decode cX9_ones 16 = .ok (.iadd, 1) := by decide +kernel
theorem dX9_ones_17 : decode cX9_ones 17 = .ok (.istore_n 1, 1) := by decide +kernel
theorem dX9_ones_18 : decode cX9_ones 18 = .ok (.iinc 2 1, 3) := by decide +kernel
theorem dX9_ones_21 : decode cX9_ones 21 = .ok (.goto (-17), 3) := by decide +kernel
theorem dX9_ones_24 : decode cX9_ones 24 = .ok (.iload_n 1, 1) := by decide +kernel
theorem dX9_ones_25 : decode cX9_ones 25 = .ok (.ireturn, 1) := by decide +kernel
theorem dX9_type_0 : decode cX9_type 0 = .ok (.iload_n 1, 1) := by decide +kernel
theorem dX9_type_1 : decode cX9_type 1 = .ok (.iconst 0, 1) := by decide +kernel
theorem dX9_type_2 : decode cX9_type 2 = .ok (.sipush 255, 3) := by decide +kernel
theorem dX9_type_5 : decode cX9_type 5 = .ok (.invokestatic 45, 3) := by decide +kernel
theorem dX9_type_8 : decode cX9_type 8 = .ok (.ifCond .ne 5, 3) := by decide +kernel
theorem dX9_type_11 : decode cX9_type 11 = .ok (.iconst (-1), 1) := by decide +kernel
theorem dX9_type_12 : decode cX9_type 12 = .ok (.ireturn, 1) := by decide +kernel
theorem dX9_type_13 : decode cX9_type 13 = .ok (.aload_n 0, 1) := by decide +kernel
theorem dX9_type_14 : decode cX9_type 14 = .ok (.getfield 53, 3) := by decide +kernel
theorem dX9_type_17 : decode cX9_type 17 = .ok (.sipush 200, 3) := by decide +kernel
theorem dX9_type_20 : decode cX9_type 20 = .ok (.if_icmp .ne 6, 3) := by decide +kernel
theorem dX9_type_23 : decode cX9_type 23 = .ok (.bipush (-3), 2) := by decide +kernel
theorem dX9_type_25 : decode cX9_type 25 = .ok (.ireturn, 1) := by decide +kernel
theorem dX9_type_26 : decode cX9_type 26 = .ok (.aload_n 0, 1) := by decide +kernel
theorem dX9_type_27 : decode cX9_type 27 = .ok (.getfield 7, 3) := by decide +kernel
theorem dX9_type_30 : decode cX9_type 30 = .ok (.aload_n 0, 1) := by decide +kernel
theorem dX9_type_31 : decode cX9_type 31 = .ok (.getfield 53, 3) := by decide +kernel
theorem dX9_type_34 : decode cX9_type 34 = .ok (.iload_n 1, 1) := by decide +kernel
theorem dX9_type_35 : decode cX9_type 35 = .ok (.iastore, 1) := by decide +kernel
theorem dX9_type_36 : decode cX9_type 36 = .ok (.aload_n 0, 1) := by decide +kernel
theorem dX9_type_37 : decode cX9_type 37 = .ok (.dup, 1) := by decide +kernel
theorem dX9_type_38 : decode cX9_type 38 = .ok (.getfield 53, 3) := by decide +kernel
theorem dX9_type_41 : decode cX9_type 41 = .ok (.iconst 1, 1) := by decide +kernel
theorem dX9_type_42 : decode cX9_type 42 = .ok (.iadd, 1) := by decide +kernel
theorem dX9_type_43 : decode cX9_type 43 = .ok (.putfield 53, 3) := by decide +kernel
theorem dX9_type_46 : decode cX9_type 46 = .ok (.aload_n 0, 1) := by decide +kernel
theorem dX9_type_47 : decode cX9_type 47 = .ok (.getfield 53, 3) := by decide +kernel
theorem dX9_type_50 : decode cX9_type 50 = .ok (.ireturn, 1) := by decide +kernel
theorem dX9_clear_0 : decode cX9_clear 0 = .ok (.aload_n 0, 1) := by decide +kernel
theorem dX9_clear_1 : decode cX9_clear 1 = .ok (.getfield 53, 3) := by decide +kernel
theorem dX9_clear_4 : decode cX9_clear 4 = .ok (.istore_n 1, 1) := by decide +kernel
theorem dX9_clear_5 : decode cX9_clear 5 = .ok (.aload_n 0, 1) := by decide +kernel
theorem dX9_clear_6 : decode cX9_clear 6 = .ok (.iconst 0, 1) := by decide +kernel
theorem dX9_clear_7 : decode cX9_clear 7 = .ok (.putfield 53, 3) := by decide +kernel
theorem dX9_clear_10 : decode cX9_clear 10 = .ok (.iload_n 1, 1) := by decide +kernel
theorem dX9_clear_11 : decode cX9_clear 11 = .ok (.ireturn, 1) := by decide +kernel
theorem dX9_letterAt_0 : decode cX9_letterAt 0 = .ok (.iload_n 1, 1) := by decide +kernel
theorem dX9_letterAt_1 : decode cX9_letterAt 1 = .ok (.aload_n 0, 1) := by decide +kernel
theorem dX9_letterAt_2 : decode cX9_letterAt 2 = .ok (.getfield 53, 3) := by decide +kernel
theorem dX9_letterAt_5 : decode cX9_letterAt 5 = .ok (.if_icmp .ge 12, 3) := by decide +kernel
theorem dX9_letterAt_8 : decode cX9_letterAt 8 = .ok (.aload_n 0, 1) := by decide +kernel
theorem dX9_letterAt_9 : decode cX9_letterAt 9 = .ok (.getfield 7, 3) := by decide +kernel
theorem dX9_letterAt_12 : decode cX9_letterAt 12 = .ok (.iload_n 1, 1) := by decide +kernel
theorem dX9_letterAt_13 : decode cX9_letterAt 13 = .ok (.iaload, 1) := by decide +kernel
theorem dX9_letterAt_14 : decode cX9_letterAt 14 = .ok (.goto 4, 3) := by decide +kernel
theorem dX9_letterAt_17 : decode cX9_letterAt 17 = .ok (.iconst (-1), 1) := by decide +kernel
theorem dX9_letterAt_18 : decode cX9_letterAt 18 = .ok (.ireturn, 1) := by decide +kernel
theorem dX9_isDigit_0 : decode cX9_isDigit 0 = .ok (.iload_n 0, 1) := by decide +kernel
theorem dX9_isDigit_1 : decode cX9_isDigit 1 = .ok (.bipush 48, 2) := by decide +kernel
theorem dX9_isDigit_3 : decode cX9_isDigit 3 = .ok (.bipush 57, 2) := by decide +kernel
theorem dX9_isDigit_5 : decode cX9_isDigit 5 = .ok (.invokestatic 45, 3) := by decide +kernel
theorem dX9_isDigit_8 : decode cX9_isDigit 8 = .ok (.ireturn, 1) := by decide +kernel
theorem dX9_itemOf_0 : decode cX9_itemOf 0 = .ok (.iload_n 0, 1) := by decide +kernel
theorem dX9_itemOf_1 : decode cX9_itemOf 1 = .ok (.bipush 119, 2) := by decide +kernel
theorem dX9_itemOf_3 : decode cX9_itemOf 3 = .ok (.if_icmp .ne 7, 3) := by decide +kernel
theorem dX9_itemOf_6 : decode cX9_itemOf 6 = .ok (.iconst 0, 1) := by decide +kernel
theorem dX9_itemOf_7 : decode cX9_itemOf 7 = .ok (.goto 54, 3) := by decide +kernel
theorem dX9_itemOf_10 : decode cX9_itemOf 10 = .ok (.iload_n 0, 1) := by decide +kernel
theorem dX9_itemOf_11 : decode cX9_itemOf 11 = .ok (.bipush 97, 2) := by decide +kernel
theorem dX9_itemOf_13 : decode cX9_itemOf 13 = .ok (.if_icmp .ne 7, 3) := by decide +kernel
theorem dX9_itemOf_16 : decode cX9_itemOf 16 = .ok (.iconst 1, 1) := by decide +kernel
theorem dX9_itemOf_17 : decode cX9_itemOf 17 = .ok (.goto 44, 3) := by decide +kernel
theorem dX9_itemOf_20 : decode cX9_itemOf 20 = .ok (.iload_n 0, 1) := by decide +kernel
theorem dX9_itemOf_21 : decode cX9_itemOf 21 = .ok (.bipush 100, 2) := by decide +kernel
theorem dX9_itemOf_23 : decode cX9_itemOf 23 = .ok (.if_icmp .ne 7, 3) := by decide +kernel
theorem dX9_itemOf_26 : decode cX9_itemOf 26 = .ok (.iconst 2, 1) := by decide +kernel
theorem dX9_itemOf_27 : decode cX9_itemOf 27 = .ok (.goto 34, 3) := by decide +kernel
theorem dX9_itemOf_30 : decode cX9_itemOf 30 = .ok (.iload_n 0, 1) := by decide +kernel
theorem dX9_itemOf_31 : decode cX9_itemOf 31 = .ok (.bipush 109, 2) := by decide +kernel
theorem dX9_itemOf_33 : decode cX9_itemOf 33 = .ok (.if_icmp .ne 7, 3) := by decide +kernel
theorem dX9_itemOf_36 : decode cX9_itemOf 36 = .ok (.iconst 3, 1) := by decide +kernel
theorem dX9_itemOf_37 : decode cX9_itemOf 37 = .ok (.goto 24, 3) := by decide +kernel
theorem dX9_itemOf_40 : decode cX9_itemOf 40 = .ok (.iload_n 0, 1) := by decide +kernel
theorem dX9_itemOf_41 : decode cX9_itemOf 41 = .ok (.bipush 115, 2) := by decide +kernel
theorem dX9_itemOf_43 : decode cX9_itemOf 43 = .ok (.if_icmp .ne 7, 3) := by decide +kernel
theorem dX9_itemOf_46 : decode cX9_itemOf 46 = .ok (.iconst 4, 1) := by decide +kernel
theorem dX9_itemOf_47 : decode cX9_itemOf 47 = .ok (.goto 14, 3) := by decide +kernel
theorem dX9_itemOf_50 : decode cX9_itemOf 50 = .ok (.iload_n 0, 1) := by decide +kernel
theorem dX9_itemOf_51 : decode cX9_itemOf 51 = .ok (.bipush 98, 2) := by decide +kernel
theorem dX9_itemOf_53 : decode cX9_itemOf 53 = .ok (.if_icmp .ne 7, 3) := by decide +kernel
theorem dX9_itemOf_56 : decode cX9_itemOf 56 = .ok (.iconst 5, 1) := by decide +kernel
theorem dX9_itemOf_57 : decode cX9_itemOf 57 = .ok (.goto 4, 3) := by decide +kernel
theorem dX9_itemOf_60 : decode cX9_itemOf 60 = .ok (.iconst (-1), 1) := by decide +kernel
theorem dX9_itemOf_61 : decode cX9_itemOf 61 = .ok (.ireturn, 1) := by decide +kernel
theorem dX9_token_0 : decode cX9_token 0 = .ok (.aload_n 0, 1) := by decide +kernel
theorem dX9_token_1 : decode cX9_token 1 = .ok (.aload_n 0, 1) := by decide +kernel
theorem dX9_token_2 : decode cX9_token 2 = .ok (.getfield 57, 3) := by decide +kernel
theorem dX9_token_5 : decode cX9_token 5 = .ok (.invokevirtual 60, 3) := by decide +kernel
theorem dX9_token_8 : decode cX9_token 8 = .ok (.bipush 32, 2) := by decide +kernel
theorem dX9_token_10 : decode cX9_token 10 = .ok (.if_icmp .ne 16, 3) := by decide +kernel
theorem dX9_token_13 : decode cX9_token 13 = .ok (.aload_n 0, 1) := by decide +kernel
theorem dX9_token_14 : decode cX9_token 14 = .ok (.dup, 1) := by decide +kernel
theorem dX9_token_15 : decode cX9_token 15 = .ok (.getfield 57, 3) := by decide +kernel
theorem dX9_token_18 : decode cX9_token 18 = .ok (.iconst 1, 1) := by decide +kernel
theorem dX9_token_19 : decode cX9_token 19 = .ok (.iadd, 1) := by decide +kernel
theorem dX9_token_20 : decode cX9_token 20 = .ok (.putfield 57, 3) := by decide +kernel
theorem dX9_token_23 : decode cX9_token 23 = .ok (.goto (-23), 3) := by decide +kernel
theorem dX9_token_26 : decode cX9_token 26 = .ok (.aload_n 0, 1) := by decide +kernel
theorem dX9_token_27 : decode cX9_token 27 = .ok (.aload_n 0, 1) := by decide +kernel
theorem dX9_token_28 : decode cX9_token 28 = .ok (.getfield 57, 3) := by decide +kernel
theorem dX9_token_31 : decode cX9_token 31 = .ok (.putfield 64, 3) := by decide +kernel
theorem dX9_token_34 : decode cX9_token 34 = .ok (.aload_n 0, 1) := by decide +kernel
theorem dX9_token_35 : decode cX9_token 35 = .ok (.aload_n 0, 1) := by decide +kernel
theorem dX9_token_36 : decode cX9_token 36 = .ok (.getfield 57, 3) := by decide +kernel
theorem dX9_token_39 : decode cX9_token 39 = .ok (.invokevirtual 60, 3) := by decide +kernel
theorem dX9_token_42 : decode cX9_token 42 = .ok (.istore_n 1, 1) := by decide +kernel
theorem dX9_token_43 : decode cX9_token 43 = .ok (.aload_n 0, 1) := by decide +kernel
theorem dX9_token_44 : decode cX9_token 44 = .ok (.iload_n 1, 1) := by decide +kernel
theorem dX9_token_45 : decode cX9_token 45 = .ok (.ifCond .ge 7, 3) := by decide +kernel
theorem dX9_token_48 : decode cX9_token 48 = .ok (.iconst 0, 1) := by decide +kernel
theorem dX9_token_49 : decode cX9_token 49 = .ok (.goto 36, 3) := by decide +kernel
theorem dX9_token_52 : decode cX9_token 52 = .ok (.iload_n 1, 1) := by decide +kernel
theorem dX9_token_53 : decode cX9_token 53 = .ok (.invokestatic 67, 3) := by decide +kernel
theorem dX9_token_56 : decode cX9_token 56 = .ok (.ifCond .lt 7, 3) := by decide +kernel
theorem dX9_token_59 : decode cX9_token 59 = .ok (.iconst 1, 1) := by decide +kernel
theorem dX9_token_60 : decode cX9_token 60 = .ok (.goto 25, 3) := by decide +kernel
theorem dX9_token_63 : decode cX9_token 63 = .ok (.iload_n 1, 1) := by decide +kernel
theorem dX9_token_64 : decode cX9_token 64 = .ok (.invokestatic 70, 3) := by decide +kernel
theorem dX9_token_67 : decode cX9_token 67 = .ok (.ifCond .eq 7, 3) := by decide +kernel
theorem dX9_token_70 : decode cX9_token 70 = .ok (.iconst 2, 1) := by decide +kernel
theorem dX9_token_71 : decode cX9_token 71 = .ok (.goto 14, 3) := by decide +kernel
theorem dX9_token_74 : decode cX9_token 74 = .ok (.iload_n 1, 1) := by decide +kernel
theorem dX9_token_75 : decode cX9_token 75 = .ok (.bipush 59, 2) := by decide +kernel
theorem dX9_token_77 : decode cX9_token 77 = .ok (.if_icmp .ne 7, 3) := by decide +kernel
theorem dX9_token_80 : decode cX9_token 80 = .ok (.iconst 3, 1) := by decide +kernel
theorem dX9_token_81 : decode cX9_token 81 = .ok (.goto 4, 3) := by decide +kernel
theorem dX9_token_84 : decode cX9_token 84 = .ok (.iconst 4, 1) := by decide +kernel
theorem dX9_token_85 : decode cX9_token 85 = .ok (.putfield 73, 3) := by decide +kernel
theorem dX9_token_88 : decode cX9_token 88 = .ok (.aload_n 0, 1) := by decide +kernel
theorem dX9_token_89 : decode cX9_token 89 = .ok (.iload_n 1, 1) := by decide +kernel
theorem dX9_token_90 : decode cX9_token 90 = .ok (.putfield 76, 3) := by decide +kernel
theorem dX9_token_93 : decode cX9_token 93 = .ok (.aload_n 0, 1) := by decide +kernel
theorem dX9_token_94 : decode cX9_token 94 = .ok (.dup, 1) := by decide +kernel
theorem dX9_token_95 : decode cX9_token 95 = .ok (.getfield 57, 3) := by decide +kernel
theorem dX9_token_98 : decode cX9_token 98 = .ok (.aload_n 0, 1) := by decide +kernel
theorem dX9_token_99 : decode cX9_token 99 = .ok (.getfield 73, 3) := by decide +kernel
theorem dX9_token_102 : decode cX9_token 102 = .ok (.ifCond .ne 7, 3) := by decide +kernel
theorem dX9_token_105 : decode cX9_token 105 = .ok (.iconst 0, 1) := by decide +kernel
theorem dX9_token_106 : decode cX9_token 106 = .ok (.goto 4, 3) := by decide +kernel
theorem dX9_token_109 : decode cX9_token 109 = .ok (.iconst 1, 1) := by decide +kernel
theorem dX9_token_110 : decode cX9_token 110 = .ok (.iadd, 1) := by decide +kernel
theorem dX9_token_111 : decode cX9_token 111 = .ok (.putfield 57, 3) := by decide +kernel
theorem dX9_token_114 : decode cX9_token 114 = .ok (.aload_n 0, 1) := by decide +kernel
theorem dX9_token_115 : decode cX9_token 115 = .ok (.getfield 73, 3) := by decide +kernel
theorem dX9_token_118 : decode cX9_token 118 = .ok (.iconst 2, 1) := by decide +kernel
theorem dX9_token_119 : decode cX9_token 119 = .ok (.if_icmp .ne 83, 3) := by decide +kernel
theorem dX9_token_122 : decode cX9_token 122 = .ok (.aload_n 0, 1) := by decide +kernel
theorem dX9_token_123 : decode cX9_token 123 = .ok (.iload_n 1, 1) := by decide +kernel
theorem dX9_token_124 : decode cX9_token 124 = .ok (.bipush 48, 2) := by decide +kernel
theorem dX9_token_126 : decode cX9_token 126 = .ok (.isub, 1) := by decide +kernel
theorem dX9_token_127 : decode cX9_token 127 = .ok (.putfield 76, 3) := by decide +kernel
theorem dX9_token_130 : decode cX9_token 130 = .ok (.aload_n 0, 1) := by decide +kernel
theorem dX9_token_131 : decode cX9_token 131 = .ok (.aload_n 0, 1) := by decide +kernel
theorem dX9_token_132 : decode cX9_token 132 = .ok (.getfield 57, 3) := by decide +kernel
theorem dX9_token_135 : decode cX9_token 135 = .ok (.invokevirtual 60, 3) := by decide +kernel
theorem dX9_token_138 : decode cX9_token 138 = .ok (.invokestatic 70, 3) := by decide +kernel
theorem dX9_token_141 : decode cX9_token 141 = .ok (.ifCond .eq 61, 3) := by decide +kernel
theorem dX9_token_144 : decode cX9_token 144 = .ok (.aload_n 0, 1) := by decide +kernel
theorem dX9_token_145 : decode cX9_token 145 = .ok (.iload_n 1, 1) := by decide +kernel
theorem dX9_token_146 : decode cX9_token 146 = .ok (.bipush 48, 2) := by decide +kernel
theorem dX9_token_148 : decode cX9_token 148 = .ok (.if_icmp .eq 12, 3) := by decide +kernel
theorem dX9_token_151 : decode cX9_token 151 = .ok (.aload_n 0, 1) := by decide +kernel
theorem dX9_token_152 : decode cX9_token 152 = .ok (.getfield 76, 3) := by decide +kernel
theorem dX9_token_155 : decode cX9_token 155 = .ok (.bipush 99, 2) := by decide +kernel
theorem dX9_token_157 : decode cX9_token 157 = .ok (.if_icmp .le 9, 3) := by decide +kernel
theorem dX9_token_160 : decode cX9_token 160 = .ok (.sipush 1000, 3) := by decide +kernel
theorem dX9_token_163 : decode cX9_token 163 = .ok (.goto 23, 3) := by decide +kernel
theorem dX9_token_166 : decode cX9_token 166 = .ok (.bipush 10, 2) := by decide +kernel
theorem dX9_token_168 : decode cX9_token 168 = .ok (.aload_n 0, 1) := by decide +kernel
theorem dX9_token_169 : decode cX9_token 169 = .ok (.getfield 76, 3) := by decide +kernel
theorem dX9_token_172 : decode cX9_token 172 = .ok (.imul, 1) := by decide +kernel
theorem dX9_token_173 : decode cX9_token 173 = .ok (.aload_n 0, 1) := by decide +kernel
theorem dX9_token_174 : decode cX9_token 174 = .ok (.getfield 7, 3) := by decide +kernel
theorem dX9_token_177 : decode cX9_token 177 = .ok (.aload_n 0, 1) := by decide +kernel
theorem dX9_token_178 : decode cX9_token 178 = .ok (.getfield 57, 3) := by decide +kernel
theorem dX9_token_181 : decode cX9_token 181 = .ok (.iaload, 1) := by decide +kernel
theorem dX9_token_182 : decode cX9_token 182 = .ok (.iadd, 1) := by decide +kernel
theorem dX9_token_183 : decode cX9_token 183 = .ok (.bipush 48, 2) := by decide +kernel
theorem dX9_token_185 : decode cX9_token 185 = .ok (.isub, 1) := by decide +kernel
theorem dX9_token_186 : decode cX9_token 186 = .ok (.putfield 76, 3) := by decide +kernel
theorem dX9_token_189 : decode cX9_token 189 = .ok (.aload_n 0, 1) := by decide +kernel
theorem dX9_token_190 : decode cX9_token 190 = .ok (.dup, 1) := by decide +kernel
theorem dX9_token_191 : decode cX9_token 191 = .ok (.getfield 57, 3) := by decide +kernel
theorem dX9_token_194 : decode cX9_token 194 = .ok (.iconst 1, 1) := by decide +kernel
theorem dX9_token_195 : decode cX9_token 195 = .ok (.iadd, 1) := by decide +kernel
theorem dX9_token_196 : decode cX9_token 196 = .ok (.putfield 57, 3) := by decide +kernel
theorem dX9_token_199 : decode cX9_token 199 = .ok (.goto (-69), 3) := by decide +kernel
theorem dX9_token_202 : decode cX9_token 202 = .ok (.return_, 1) := by decide +kernel
theorem dX9_number_0 : decode cX9_number 0 = .ok (.aload_n 0, 1) := by decide +kernel
theorem dX9_number_1 : decode cX9_number 1 = .ok (.invokevirtual 79, 3) := by decide +kernel
theorem dX9_number_4 : decode cX9_number 4 = .ok (.aload_n 0, 1) := by decide +kernel
theorem dX9_number_5 : decode cX9_number 5 = .ok (.getfield 16, 3) := by decide +kernel
theorem dX9_number_8 : decode cX9_number 8 = .ok (.iload_n 1, 1) := by decide +kernel
theorem dX9_number_9 : decode cX9_number 9 = .ok (.aload_n 0, 1) := by decide +kernel
theorem dX9_number_10 : decode cX9_number 10 = .ok (.getfield 76, 3) := by decide +kernel
theorem dX9_number_13 : decode cX9_number 13 = .ok (.iastore, 1) := by decide +kernel
theorem dX9_number_14 : decode cX9_number 14 = .ok (.aload_n 0, 1) := by decide +kernel
theorem dX9_number_15 : decode cX9_number 15 = .ok (.getfield 73, 3) := by decide +kernel
theorem dX9_number_18 : decode cX9_number 18 = .ok (.iconst 2, 1) := by decide +kernel
theorem dX9_number_19 : decode cX9_number 19 = .ok (.if_icmp .ne 19, 3) := by decide +kernel
theorem dX9_number_22 : decode cX9_number 22 = .ok (.aload_n 0, 1) := by decide +kernel
theorem dX9_number_23 : decode cX9_number 23 = .ok (.getfield 76, 3) := by decide +kernel
theorem dX9_number_26 : decode cX9_number 26 = .ok (.iload_n 2, 1) := by decide +kernel
theorem dX9_number_27 : decode cX9_number 27 = .ok (.iload_n 3, 1) := by decide +kernel
theorem dX9_number_28 : decode cX9_number 28 = .ok (.invokestatic 45, 3) := by decide +kernel
theorem dX9_number_31 : decode cX9_number 31 = .ok (.ifCond .eq 7, 3) := by decide +kernel
theorem dX9_number_34 : decode cX9_number 34 = .ok (.iconst 1, 1) := by decide +kernel
theorem dX9_number_35 : decode cX9_number 35 = .ok (.goto 4, 3) := by decide +kernel
theorem dX9_number_38 : decode cX9_number 38 = .ok (.iconst 0, 1) := by decide +kernel
theorem dX9_number_39 : decode cX9_number 39 = .ok (.ireturn, 1) := by decide +kernel
theorem dX9_readsItem_0 : decode cX9_readsItem 0 = .ok (.aload_n 0, 1) := by decide +kernel
theorem dX9_readsItem_1 : decode cX9_readsItem 1 = .ok (.getfield 73, 3) := by decide +kernel
theorem dX9_readsItem_4 : decode cX9_readsItem 4 = .ok (.iconst 1, 1) := by decide +kernel
theorem dX9_readsItem_5 : decode cX9_readsItem 5 = .ok (.if_icmp .ne 13, 3) := by decide +kernel
theorem dX9_readsItem_8 : decode cX9_readsItem 8 = .ok (.aload_n 0, 1) := by decide +kernel
theorem dX9_readsItem_9 : decode cX9_readsItem 9 = .ok (.getfield 76, 3) := by decide +kernel
theorem dX9_readsItem_12 : decode cX9_readsItem 12 = .ok (.invokestatic 67, 3) := by decide +kernel
theorem dX9_readsItem_15 : decode cX9_readsItem 15 = .ok (.goto 4, 3) := by decide +kernel
theorem dX9_readsItem_18 : decode cX9_readsItem 18 = .ok (.iconst (-1), 1) := by decide +kernel
theorem dX9_readsItem_19 : decode cX9_readsItem 19 = .ok (.istore_n 1, 1) := by decide +kernel
theorem dX9_readsItem_20 : decode cX9_readsItem 20 = .ok (.iload_n 1, 1) := by decide +kernel
theorem dX9_readsItem_21 : decode cX9_readsItem 21 = .ok (.ifCond .ge 5, 3) := by decide +kernel
theorem dX9_readsItem_24 : decode cX9_readsItem 24 = .ok (.iconst 0, 1) := by decide +kernel
theorem dX9_readsItem_25 : decode cX9_readsItem 25 = .ok (.ireturn, 1) := by decide +kernel
theorem dX9_readsItem_26 : decode cX9_readsItem 26 = .ok (.iload_n 1, 1) := by decide +kernel
theorem dX9_readsItem_27 : decode cX9_readsItem 27 = .ok (.iconst 5, 1) := by decide +kernel
theorem dX9_readsItem_28 : decode cX9_readsItem 28 = .ok (.if_icmp .ne 72, 3) := by decide +kernel
theorem dX9_readsItem_31 : decode cX9_readsItem 31 = .ok (.aload_n 0, 1) := by decide +kernel
theorem dX9_readsItem_32 : decode cX9_readsItem 32 = .ok (.getfield 16, 3) := by decide +kernel
theorem dX9_readsItem_35 : decode cX9_readsItem 35 = .ok (.iconst 5, 1) := by decide +kernel
theorem dX9_readsItem_36 : decode cX9_readsItem 36 = .ok (.iaload, 1) := by decide +kernel
theorem dX9_readsItem_37 : decode cX9_readsItem 37 = .ok (.istore_n 2, 1) := by decide +kernel
theorem dX9_readsItem_38 : decode cX9_readsItem 38 = .ok (.iload_n 2, 1) := by decide +kernel
theorem dX9_readsItem_39 : decode cX9_readsItem 39 = .ok (.bipush 8, 2) := by decide +kernel
theorem dX9_readsItem_41 : decode cX9_readsItem 41 = .ok (.if_icmp .eq 45, 3) := by decide +kernel
theorem dX9_readsItem_44 : decode cX9_readsItem 44 = .ok (.aload_n 0, 1) := by decide +kernel
theorem dX9_readsItem_45 : decode cX9_readsItem 45 = .ok (.bipush 8, 2) := by decide +kernel
theorem dX9_readsItem_47 : decode cX9_readsItem 47 = .ok (.iload_n 2, 1) := by decide +kernel
theorem dX9_readsItem_48 : decode cX9_readsItem 48 = .ok (.iadd, 1) := by decide +kernel
theorem dX9_readsItem_49 : decode cX9_readsItem 49 = .ok (.iconst 1, 1) := by decide +kernel
theorem dX9_readsItem_50 : decode cX9_readsItem 50 = .ok (.bipush 64, 2) := by decide +kernel
theorem dX9_readsItem_52 : decode cX9_readsItem 52 = .ok (.invokevirtual 82, 3) := by decide +kernel
theorem dX9_readsItem_55 : decode cX9_readsItem 55 = .ok (.ifCond .eq 31, 3) := by decide +kernel
theorem dX9_readsItem_58 : decode cX9_readsItem 58 = .ok (.aload_n 0, 1) := by decide +kernel
theorem dX9_readsItem_59 : decode cX9_readsItem 59 = .ok (.bipush 16, 2) := by decide +kernel
theorem dX9_readsItem_61 : decode cX9_readsItem 61 = .ok (.iload_n 2, 1) := by decide +kernel
theorem dX9_readsItem_62 : decode cX9_readsItem 62 = .ok (.iadd, 1) := by decide +kernel
theorem dX9_readsItem_63 : decode cX9_readsItem 63 = .ok (.iconst 1, 1) := by decide +kernel
theorem dX9_readsItem_64 : decode cX9_readsItem 64 = .ok (.bipush 40, 2) := by decide +kernel
theorem dX9_readsItem_66 : decode cX9_readsItem 66 = .ok (.invokevirtual 82, 3) := by decide +kernel
theorem dX9_readsItem_69 : decode cX9_readsItem 69 = .ok (.ifCond .eq 17, 3) := by decide +kernel
theorem dX9_readsItem_72 : decode cX9_readsItem 72 = .ok (.aload_n 0, 1) := by decide +kernel
theorem dX9_readsItem_73 : decode cX9_readsItem 73 = .ok (.bipush 24, 2) := by decide +kernel
theorem dX9_readsItem_75 : decode cX9_readsItem 75 = .ok (.iload_n 2, 1) := by decide +kernel
theorem dX9_readsItem_76 : decode cX9_readsItem 76 = .ok (.iadd, 1) := by decide +kernel
theorem dX9_readsItem_77 : decode cX9_readsItem 77 = .ok (.iconst 1, 1) := by decide +kernel
theorem dX9_readsItem_78 : decode cX9_readsItem 78 = .ok (.bipush 40, 2) := by decide +kernel
theorem dX9_readsItem_80 : decode cX9_readsItem 80 = .ok (.invokevirtual 82, 3) := by decide +kernel
theorem dX9_readsItem_83 : decode cX9_readsItem 83 = .ok (.ifCond .ne 5, 3) := by decide +kernel
theorem dX9_readsItem_86 : decode cX9_readsItem 86 = .ok (.iconst 0, 1) := by decide +kernel
theorem dX9_readsItem_87 : decode cX9_readsItem 87 = .ok (.ireturn, 1) := by decide +kernel
theorem dX9_readsItem_88 : decode cX9_readsItem 88 = .ok (.aload_n 0, 1) := by decide +kernel
theorem dX9_readsItem_89 : decode cX9_readsItem 89 = .ok (.getfield 16, 3) := by decide +kernel
theorem dX9_readsItem_92 : decode cX9_readsItem 92 = .ok (.iconst 5, 1) := by decide +kernel
theorem dX9_readsItem_93 : decode cX9_readsItem 93 = .ok (.dup2, 1) := by decide +kernel
theorem dX9_readsItem_94 : decode cX9_readsItem 94 = .ok (.iaload, 1) := by decide +kernel
theorem dX9_readsItem_95 : decode cX9_readsItem 95 = .ok (.iconst 1, 1) := by decide +kernel
theorem dX9_readsItem_96 : decode cX9_readsItem 96 = .ok (.iadd, 1) := by decide +kernel
