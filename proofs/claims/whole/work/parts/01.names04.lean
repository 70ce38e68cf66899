theorem dX9_many_0 : decode cX9_many 0 = .ok (.iload_n 1, 1) := by decide +kernel
theorem dX9_many_1 : decode cX9_many 1 = .ok (.tableswitch 111 0 6 #[43, 54, 65, 76, 84, 92, 100], 43) := by decide +kernel
theorem dX9_many_44 : decode cX9_many 44 = .ok (.aload_n 0, 1) := by decide +kernel
theorem dX9_many_45 : decode cX9_many 45 = .ok (.getfield 10, 3) := by decide +kernel
theorem dX9_many_48 : decode cX9_many 48 = .ok (.getfield 89, 3) := by decide +kernel
theorem dX9_many_51 : decode cX9_many 51 = .ok (.invokevirtual 109, 3) := by decide +kernel
theorem dX9_many_54 : decode cX9_many 54 = .ok (.ireturn, 1) := by decide +kernel
theorem dX9_many_55 : decode cX9_many 55 = .ok (.aload_n 0, 1) := by decide +kernel
theorem dX9_many_56 : decode cX9_many 56 = .ok (.getfield 10, 3) := by decide +kernel
theorem dX9_many_59 : decode cX9_many 59 = .ok (.getfield 137, 3) := by decide +kernel
theorem dX9_many_62 : decode cX9_many 62 = .ok (.invokevirtual 347, 3) := by decide +kernel
theorem dX9_many_65 : decode cX9_many 65 = .ok (.ireturn, 1) := by decide +kernel
theorem dX9_many_66 : decode cX9_many 66 = .ok (.aload_n 0, 1) := by decide +kernel
theorem dX9_many_67 : decode cX9_many 67 = .ok (.getfield 10, 3) := by decide +kernel
theorem dX9_many_70 : decode cX9_many 70 = .ok (.getfield 62, 3) := by decide +kernel
theorem dX9_many_73 : decode cX9_many 73 = .ok (.invokevirtual 348, 3) := by decide +kernel
theorem dX9_many_76 : decode cX9_many 76 = .ok (.ireturn, 1) := by decide +kernel
theorem dX9_many_77 : decode cX9_many 77 = .ok (.aload_n 0, 1) := by decide +kernel
theorem dX9_many_78 : decode cX9_many 78 = .ok (.getfield 10, 3) := by decide +kernel
theorem dX9_many_81 : decode cX9_many 81 = .ok (.invokevirtual 351, 3) := by decide +kernel
theorem dX9_many_84 : decode cX9_many 84 = .ok (.ireturn, 1) := by decide +kernel
theorem dX9_many_85 : decode cX9_many 85 = .ok (.aload_n 0, 1) := by decide +kernel
theorem dX9_many_86 : decode cX9_many 86 = .ok (.getfield 26, 3) := by decide +kernel
theorem dX9_many_89 : decode cX9_many 89 = .ok (.invokevirtual 277, 3) := by decide +kernel
theorem dX9_many_92 : decode cX9_many 92 = .ok (.ireturn, 1) := by decide +kernel
theorem dX9_many_93 : decode cX9_many 93 = .ok (.aload_n 0, 1) := by decide +kernel
theorem dX9_many_94 : decode cX9_many 94 = .ok (.getfield 10, 3) := by decide +kernel
theorem dX9_many_97 : decode cX9_many 97 = .ok (.getfield 266, 3) := by decide +kernel
theorem dX9_many_100 : decode cX9_many 100 = .ok (.ireturn, 1) := by decide +kernel
theorem dX9_many_101 : decode cX9_many 101 = .ok (.aload_n 0, 1) := by decide +kernel
theorem dX9_many_102 : decode cX9_many 102 = .ok (.getfield 10, 3) := by decide +kernel
theorem dX9_many_105 : decode cX9_many 105 = .ok (.getfield 224, 3) := by decide +kernel
theorem dX9_many_108 : decode cX9_many 108 = .ok (.invokevirtual 354, 3) := by decide +kernel
theorem dX9_many_111 : decode cX9_many 111 = .ok (.ireturn, 1) := by decide +kernel
theorem dX9_many_112 : decode cX9_many 112 = .ok (.aload_n 0, 1) := by decide +kernel
theorem dX9_many_113 : decode cX9_many 113 = .ok (.iconst 0, 1) := by decide +kernel
theorem dX9_many_114 : decode cX9_many 114 = .ok (.invokevirtual 58, 3) := by decide +kernel
theorem dX9_many_117 : decode cX9_many 117 = .ok (.ireturn, 1) := by decide +kernel
theorem dX9_status_0 : decode cX9_status 0 = .ok (.iload_n 1, 1) := by decide +kernel
theorem dX9_status_1 : decode cX9_status 1 = .ok (.iconst (-1), 1) := by decide +kernel
theorem dX9_status_2 : decode cX9_status 2 = .ok (.if_icmp .lt 9, 3) := by decide +kernel
theorem dX9_status_5 : decode cX9_status 5 = .ok (.iload_n 1, 1) := by decide +kernel
theorem dX9_status_6 : decode cX9_status 6 = .ok (.bipush 7, 2) := by decide +kernel
theorem dX9_status_8 : decode cX9_status 8 = .ok (.if_icmp .lt 9, 3) := by decide +kernel
theorem dX9_status_11 : decode cX9_status 11 = .ok (.aload_n 0, 1) := by decide +kernel
theorem dX9_status_12 : decode cX9_status 12 = .ok (.iconst 0, 1) := by decide +kernel
theorem dX9_status_13 : decode cX9_status 13 = .ok (.invokevirtual 58, 3) := by decide +kernel
theorem dX9_status_16 : decode cX9_status 16 = .ok (.ireturn, 1) := by decide +kernel
theorem dX9_status_17 : decode cX9_status 17 = .ok (.iload_n 1, 1) := by decide +kernel
theorem dX9_status_18 : decode cX9_status 18 = .ok (.ifCond .lt 10, 3) := by decide +kernel
theorem dX9_status_21 : decode cX9_status 21 = .ok (.aload_n 0, 1) := by decide +kernel
theorem dX9_status_22 : decode cX9_status 22 = .ok (.getfield 19, 3) := by decide +kernel
theorem dX9_status_25 : decode cX9_status 25 = .ok (.iload_n 1, 1) := by decide +kernel
theorem dX9_status_26 : decode cX9_status 26 = .ok (.iaload, 1) := by decide +kernel
theorem dX9_status_27 : decode cX9_status 27 = .ok (.ireturn, 1) := by decide +kernel
theorem dX9_status_28 : decode cX9_status 28 = .ok (.iconst 0, 1) := by decide +kernel
theorem dX9_status_29 : decode cX9_status 29 = .ok (.istore_n 2, 1) := by decide +kernel
theorem dX9_status_30 : decode cX9_status 30 = .ok (.iconst 0, 1) := by decide +kernel
theorem dX9_status_31 : decode cX9_status 31 = .ok (.istore_n 3, 1) := by decide +kernel
theorem dX9_status_32 : decode cX9_status 32 = .ok (.iload_n 3, 1) := by decide +kernel
theorem dX9_status_33 : decode cX9_status 33 = .ok (.bipush 7, 2) := by decide +kernel
theorem dX9_status_35 : decode cX9_status 35 = .ok (.if_icmp .ge 18, 3) := by decide +kernel
theorem dX9_status_38 : decode cX9_status 38 = .ok (.iload_n 2, 1) := by decide +kernel
theorem dX9_status_39 : decode cX9_status 39 = .ok (.aload_n 0, 1) := by decide +kernel
theorem dX9_status_40 : decode cX9_status 40 = .ok (.getfield 19, 3) := by decide +kernel
theorem dX9_status_43 : decode cX9_status 43 = .ok (.iload_n 3, 1) := by decide +kernel
theorem dX9_status_44 : decode cX9_status 44 = .ok (.iaload, 1) := by decide +kernel
theorem dX9_status_45 : decode cX9_status 45 = .ok (.iadd, 1) := by decide +kernel
theorem dX9_status_46 : decode cX9_status 46 = .ok (.istore_n 2, 1) := by decide +kernel
theorem dX9_status_47 : decode cX9_status 47 = .ok (.iinc 3 1, 3) := by decide +kernel
theorem dX9_status_50 : decode cX9_status 50 = .ok (.goto (-18), 3) := by decide +kernel
theorem dX9_status_53 : decode cX9_status 53 = .ok (.iload_n 2, 1) := by decide +kernel
theorem dX9_status_54 : decode cX9_status 54 = .ok (.ireturn, 1) := by decide +kernel
theorem dX9_finding_0 : decode cX9_finding 0 = .ok (.aload_n 0, 1) := by decide +kernel
theorem dX9_finding_1 : decode cX9_finding 1 = .ok (.getfield 19, 3) := by decide +kernel
theorem dX9_finding_4 : decode cX9_finding 4 = .ok (.iload_n 1, 1) := by decide +kernel
theorem dX9_finding_5 : decode cX9_finding 5 = .ok (.dup2, 1) := by decide +kernel
theorem dX9_finding_6 : decode cX9_finding 6 = .ok (.iaload, 1) := by decide +kernel
theorem dX9_finding_7 : decode cX9_finding 7 = .ok (.iconst 1, 1) := by decide +kernel
theorem dX9_finding_8 : decode cX9_finding 8 = .ok (.iadd, 1) := by decide +kernel
theorem dX9_finding_9 : decode cX9_finding 9 = .ok (.iastore, 1) := by decide +kernel
theorem dX9_finding_10 : decode cX9_finding 10 = .ok (.ldc_w 357, 3) := by decide +kernel
theorem dX9_finding_13 : decode cX9_finding 13 = .ok (.iload_n 1, 1) := by decide +kernel
theorem dX9_finding_14 : decode cX9_finding 14 = .ok (.isub, 1) := by decide +kernel
theorem dX9_finding_15 : decode cX9_finding 15 = .ok (.ireturn, 1) := by decide +kernel
theorem dX9_placesOfWays_0 : decode cX9_placesOfWays 0 = .ok (.aload_n 0, 1) := by decide +kernel
theorem dX9_placesOfWays_1 : decode cX9_placesOfWays 1 = .ok (.getfield 40, 3) := by decide +kernel
theorem dX9_placesOfWays_4 : decode cX9_placesOfWays 4 = .ok (.aload_n 0, 1) := by decide +kernel
theorem dX9_placesOfWays_5 : decode cX9_placesOfWays 5 = .ok (.getfield 10, 3) := by decide +kernel
theorem dX9_placesOfWays_8 : decode cX9_placesOfWays 8 = .ok (.iload_n 1, 1) := by decide +kernel
theorem dX9_placesOfWays_9 : decode cX9_placesOfWays 9 = .ok (.iload_n 2, 1) := by decide +kernel
theorem dX9_placesOfWays_10 : decode cX9_placesOfWays 10 = .ok (.invokestatic 99, 3) := by decide +kernel
theorem dX9_placesOfWays_13 : decode cX9_placesOfWays 13 = .ok (.iload_n 3, 1) := by decide +kernel
theorem dX9_placesOfWays_14 : decode cX9_placesOfWays 14 = .ok (.invokevirtual 330, 3) := by decide +kernel
theorem dX9_placesOfWays_17 : decode cX9_placesOfWays 17 = .ok (.aload_n 0, 1) := by decide +kernel
theorem dX9_placesOfWays_18 : decode cX9_placesOfWays 18 = .ok (.getfield 40, 3) := by decide +kernel
theorem dX9_placesOfWays_21 : decode cX9_placesOfWays 21 = .ok (.invokevirtual 358, 3) := by decide +kernel
theorem dX9_placesOfWays_24 : decode cX9_placesOfWays 24 = .ok (.aload_n 0, 1) := by decide +kernel
theorem dX9_placesOfWays_25 : decode cX9_placesOfWays 25 = .ok (.getfield 40, 3) := by decide +kernel
theorem dX9_placesOfWays_28 : decode cX9_placesOfWays 28 = .ok (.invokevirtual 184, 3) := by decide +kernel
theorem dX9_placesOfWays_31 : decode cX9_placesOfWays 31 = .ok (.aload_n 0, 1) := by decide +kernel
theorem dX9_placesOfWays_32 : decode cX9_placesOfWays 32 = .ok (.getfield 40, 3) := by decide +kernel
theorem dX9_placesOfWays_35 : decode cX9_placesOfWays 35 = .ok (.iload_n 2, 1) := by decide +kernel
theorem dX9_placesOfWays_36 : decode cX9_placesOfWays 36 = .ok (.invokestatic 102, 3) := by decide +kernel
theorem dX9_placesOfWays_39 : decode cX9_placesOfWays 39 = .ok (.invokevirtual 361, 3) := by decide +kernel
theorem dX9_placesOfWays_42 : decode cX9_placesOfWays 42 = .ok (.ireturn, 1) := by decide +kernel
theorem dX9_isThereAWay_0 : decode cX9_isThereAWay 0 = .ok (.aload_n 0, 1) := by decide +kernel
theorem dX9_isThereAWay_1 : decode cX9_isThereAWay 1 = .ok (.getfield 40, 3) := by decide +kernel
theorem dX9_isThereAWay_4 : decode cX9_isThereAWay 4 = .ok (.aload_n 0, 1) := by decide +kernel
theorem dX9_isThereAWay_5 : decode cX9_isThereAWay 5 = .ok (.getfield 10, 3) := by decide +kernel
theorem dX9_isThereAWay_8 : decode cX9_isThereAWay 8 = .ok (.iload_n 1, 1) := by decide +kernel
theorem dX9_isThereAWay_9 : decode cX9_isThereAWay 9 = .ok (.iload_n 2, 1) := by decide +kernel
theorem dX9_isThereAWay_10 : decode cX9_isThereAWay 10 = .ok (.iload_n 3, 1) := by decide +kernel
theorem dX9_isThereAWay_11 : decode cX9_isThereAWay 11 = .ok (.invokevirtual 330, 3) := by decide +kernel
theorem dX9_isThereAWay_14 : decode cX9_isThereAWay 14 = .ok (.aload_n 0, 1) := by decide +kernel
theorem dX9_isThereAWay_15 : decode cX9_isThereAWay 15 = .ok (.getfield 40, 3) := by decide +kernel
theorem dX9_isThereAWay_18 : decode cX9_isThereAWay 18 = .ok (.invokevirtual 358, 3) := by decide +kernel
theorem dX9_isThereAWay_21 : decode cX9_isThereAWay 21 = .ok (.aload_n 0, 1) := by decide +kernel
theorem dX9_isThereAWay_22 : decode cX9_isThereAWay 22 = .ok (.getfield 40, 3) := by decide +kernel
theorem dX9_isThereAWay_25 : decode cX9_isThereAWay 25 = .ok (.invokevirtual 364, 3) := by decide +kernel
theorem dX9_isThereAWay_28 : decode cX9_isThereAWay 28 = .ok (.ireturn, 1) := by decide +kernel
theorem dX9_isSomeTermBroken_0 : decode cX9_isSomeTermBroken 0 = .ok (.aload_n 0, 1) := by decide +kernel
theorem dX9_isSomeTermBroken_1 : decode cX9_isSomeTermBroken 1 = .ok (.getfield 10, 3) := by decide +kernel
theorem dX9_isSomeTermBroken_4 : decode cX9_isSomeTermBroken 4 = .ok (.getfield 137, 3) := by decide +kernel
theorem dX9_isSomeTermBroken_7 : decode cX9_isSomeTermBroken 7 = .ok (.iload_n 1, 1) := by decide +kernel
theorem dX9_isSomeTermBroken_8 : decode cX9_isSomeTermBroken 8 = .ok (.iload_n 2, 1) := by decide +kernel
theorem dX9_isSomeTermBroken_9 : decode cX9_isSomeTermBroken 9 = .ok (.invokevirtual 167, 3) := by decide +kernel
theorem dX9_isSomeTermBroken_12 : decode cX9_isSomeTermBroken 12 = .ok (.istore_n 3, 1) := by decide +kernel
theorem dX9_isSomeTermBroken_13 : decode cX9_isSomeTermBroken 13 = .ok (.iconst 0, 1) := by decide +kernel
theorem dX9_isSomeTermBroken_14 : decode cX9_isSomeTermBroken 14 = .ok (.istore 4, 2) := by decide +kernel
theorem dX9_isSomeTermBroken_16 : decode cX9_isSomeTermBroken 16 = .ok (.iload 4, 2) := by decide +kernel
theorem dX9_isSomeTermBroken_18 : decode cX9_isSomeTermBroken 18 = .ok (.bipush 12, 2) := by decide +kernel
theorem dX9_isSomeTermBroken_20 : decode cX9_isSomeTermBroken 20 = .ok (.if_icmp .ge 38, 3) := by decide +kernel
theorem dX9_isSomeTermBroken_23 : decode cX9_isSomeTermBroken 23 = .ok (.iload_n 3, 1) := by decide +kernel
theorem dX9_isSomeTermBroken_24 : decode cX9_isSomeTermBroken 24 = .ok (.iload 4, 2) := by decide +kernel
theorem dX9_isSomeTermBroken_26 : decode cX9_isSomeTermBroken 26 = .ok (.invokestatic 198, 3) := by decide +kernel
theorem dX9_isSomeTermBroken_29 : decode cX9_isSomeTermBroken 29 = .ok (.ifCond .eq 23, 3) := by decide +kernel
theorem dX9_isSomeTermBroken_32 : decode cX9_isSomeTermBroken 32 = .ok (.aload_n 0, 1) := by decide +kernel
theorem dX9_isSomeTermBroken_33 : decode cX9_isSomeTermBroken 33 = .ok (.getfield 47, 3) := by decide +kernel
theorem dX9_isSomeTermBroken_36 : decode cX9_isSomeTermBroken 36 = .ok (.aload_n 0, 1) := by decide +kernel
theorem dX9_isSomeTermBroken_37 : decode cX9_isSomeTermBroken 37 = .ok (.getfield 10, 3) := by decide +kernel
theorem dX9_isSomeTermBroken_40 : decode cX9_isSomeTermBroken 40 = .ok (.iload 4, 2) := by decide +kernel
theorem dX9_isSomeTermBroken_42 : decode cX9_isSomeTermBroken 42 = .ok (.iload_n 2, 1) := by decide +kernel
theorem dX9_isSomeTermBroken_43 : decode cX9_isSomeTermBroken 43 = .ok (.invokevirtual 173, 3) := by decide +kernel
theorem dX9_isSomeTermBroken_46 : decode cX9_isSomeTermBroken 46 = .ok (.iconst 2, 1) := by decide +kernel
theorem dX9_isSomeTermBroken_47 : decode cX9_isSomeTermBroken 47 = .ok (.if_icmp .ne 5, 3) := by decide +kernel
theorem dX9_isSomeTermBroken_50 : decode cX9_isSomeTermBroken 50 = .ok (.iconst 1, 1) := by decide +kernel
theorem dX9_isSomeTermBroken_51 : decode cX9_isSomeTermBroken 51 = .ok (.ireturn, 1) := by decide +kernel
theorem dX9_isSomeTermBroken_52 : decode cX9_isSomeTermBroken 52 = .ok (.iinc 4 1, 3) := by decide +kernel
theorem dX9_isSomeTermBroken_55 : decode cX9_isSomeTermBroken 55 = .ok (.goto (-39), 3) := by decide +kernel
theorem dX9_isSomeTermBroken_58 : decode cX9_isSomeTermBroken 58 = .ok (.iconst 0, 1) := by decide +kernel
theorem dX9_isSomeTermBroken_59 : decode cX9_isSomeTermBroken 59 = .ok (.ireturn, 1) := by decide +kernel
theorem dX9_carryOut_0 : decode cX9_carryOut 0 = .ok (.aload_n 0, 1) := by decide +kernel
theorem dX9_carryOut_1 : decode cX9_carryOut 1 = .ok (.getfield 26, 3) := by decide +kernel
theorem dX9_carryOut_4 : decode cX9_carryOut 4 = .ok (.iload_n 1, 1) := by decide +kernel
theorem dX9_carryOut_5 : decode cX9_carryOut 5 = .ok (.iconst 1, 1) := by decide +kernel
theorem dX9_carryOut_6 : decode cX9_carryOut 6 = .ok (.invokevirtual 367, 3) := by decide +kernel
theorem dX9_carryOut_9 : decode cX9_carryOut 9 = .ok (.istore_n 2, 1) := by decide +kernel
theorem dX9_carryOut_10 : decode cX9_carryOut 10 = .ok (.aload_n 0, 1) := by decide +kernel
theorem dX9_carryOut_11 : decode cX9_carryOut 11 = .ok (.getfield 26, 3) := by decide +kernel
theorem dX9_carryOut_14 : decode cX9_carryOut 14 = .ok (.iload_n 1, 1) := by decide +kernel
theorem dX9_carryOut_15 : decode cX9_carryOut 15 = .ok (.iconst 2, 1) := by decide +kernel
theorem dX9_carryOut_16 : decode cX9_carryOut 16 = .ok (.invokevirtual 367, 3) := by decide +kernel
theorem dX9_carryOut_19 : decode cX9_carryOut 19 = .ok (.istore_n 3, 1) := by decide +kernel
theorem dX9_carryOut_20 : decode cX9_carryOut 20 = .ok (.aload_n 0, 1) := by decide +kernel
theorem dX9_carryOut_21 : decode cX9_carryOut 21 = .ok (.getfield 26, 3) := by decide +kernel
theorem dX9_carryOut_24 : decode cX9_carryOut 24 = .ok (.iload_n 1, 1) := by decide +kernel
theorem dX9_carryOut_25 : decode cX9_carryOut 25 = .ok (.iconst 0, 1) := by decide +kernel
theorem dX9_carryOut_26 : decode cX9_carryOut 26 = .ok (.invokevirtual 367, 3) := by decide +kernel
theorem dX9_carryOut_29 : decode cX9_carryOut 29 = .ok (.lookupswitch 58 #[(0, 27), (1, 43)], 27) := by decide +kernel
theorem dX9_carryOut_56 : decode cX9_carryOut 56 = .ok (.aload_n 0, 1) := by decide +kernel
theorem dX9_carryOut_57 : decode cX9_carryOut 57 = .ok (.getfield 10, 3) := by decide +kernel
theorem dX9_carryOut_60 : decode cX9_carryOut 60 = .ok (.getfield 62, 3) := by decide +kernel
theorem dX9_carryOut_63 : decode cX9_carryOut 63 = .ok (.iload_n 2, 1) := by decide +kernel
theorem dX9_carryOut_64 : decode cX9_carryOut 64 = .ok (.iload_n 3, 1) := by decide +kernel
theorem dX9_carryOut_65 : decode cX9_carryOut 65 = .ok (.iconst 1, 1) := by decide +kernel
theorem dX9_carryOut_66 : decode cX9_carryOut 66 = .ok (.invokevirtual 72, 3) := by decide +kernel
theorem dX9_carryOut_69 : decode cX9_carryOut 69 = .ok (.goto 25, 3) := by decide +kernel
theorem dX9_carryOut_72 : decode cX9_carryOut 72 = .ok (.aload_n 0, 1) := by decide +kernel
theorem dX9_carryOut_73 : decode cX9_carryOut 73 = .ok (.getfield 10, 3) := by decide +kernel
theorem dX9_carryOut_76 : decode cX9_carryOut 76 = .ok (.getfield 224, 3) := by decide +kernel
theorem dX9_carryOut_79 : decode cX9_carryOut 79 = .ok (.iload_n 2, 1) := by decide +kernel
theorem dX9_carryOut_80 : decode cX9_carryOut 80 = .ok (.iload_n 3, 1) := by decide +kernel
theorem dX9_carryOut_81 : decode cX9_carryOut 81 = .ok (.invokevirtual 242, 3) := by decide +kernel
theorem dX9_carryOut_84 : decode cX9_carryOut 84 = .ok (.goto 10, 3) := by decide +kernel
theorem dX9_carryOut_87 : decode cX9_carryOut 87 = .ok (.aload_n 0, 1) := by decide +kernel
theorem dX9_carryOut_88 : decode cX9_carryOut 88 = .ok (.iload_n 1, 1) := by decide +kernel
theorem dX9_carryOut_89 : decode cX9_carryOut 89 = .ok (.iload_n 2, 1) := by decide +kernel
theorem dX9_carryOut_90 : decode cX9_carryOut 90 = .ok (.iload_n 3, 1) := by decide +kernel
theorem dX9_carryOut_91 : decode cX9_carryOut 91 = .ok (.invokevirtual 370, 3) := by decide +kernel
theorem dX9_carryOut_94 : decode cX9_carryOut 94 = .ok (.return_, 1) := by decide +kernel
theorem dX9_addTermOf_0 : decode cX9_addTermOf 0 = .ok (.aload_n 0, 1) := by decide +kernel
theorem dX9_addTermOf_1 : decode cX9_addTermOf 1 = .ok (.getfield 10, 3) := by decide +kernel
theorem dX9_addTermOf_4 : decode cX9_addTermOf 4 = .ok (.getfield 137, 3) := by decide +kernel
theorem dX9_addTermOf_7 : decode cX9_addTermOf 7 = .ok (.aload_n 0, 1) := by decide +kernel
theorem dX9_addTermOf_8 : decode cX9_addTermOf 8 = .ok (.getfield 26, 3) := by decide +kernel
theorem dX9_addTermOf_11 : decode cX9_addTermOf 11 = .ok (.iload_n 1, 1) := by decide +kernel
theorem dX9_addTermOf_12 : decode cX9_addTermOf 12 = .ok (.iconst 3, 1) := by decide +kernel
theorem dX9_addTermOf_13 : decode cX9_addTermOf 13 = .ok (.invokevirtual 367, 3) := by decide +kernel
theorem dX9_addTermOf_16 : decode cX9_addTermOf 16 = .ok (.iload_n 2, 1) := by decide +kernel
theorem dX9_addTermOf_17 : decode cX9_addTermOf 17 = .ok (.iload_n 3, 1) := by decide +kernel
theorem dX9_addTermOf_18 : decode cX9_addTermOf 18 = .ok (.invokevirtual 144, 3) := by decide +kernel
theorem dX9_addTermOf_21 : decode cX9_addTermOf 21 = .ok (.istore 4, 2) := by decide +kernel
theorem dX9_addTermOf_23 : decode cX9_addTermOf 23 = .ok (.aload_n 0, 1) := by decide +kernel
theorem dX9_addTermOf_24 : decode cX9_addTermOf 24 = .ok (.getfield 10, 3) := by decide +kernel
theorem dX9_addTermOf_27 : decode cX9_addTermOf 27 = .ok (.getfield 137, 3) := by decide +kernel
theorem dX9_addTermOf_30 : decode cX9_addTermOf 30 = .ok (.iload 4, 2) := by decide +kernel
theorem dX9_addTermOf_32 : decode cX9_addTermOf 32 = .ok (.aload_n 0, 1) := by decide +kernel
theorem dX9_addTermOf_33 : decode cX9_addTermOf 33 = .ok (.getfield 26, 3) := by decide +kernel
theorem dX9_addTermOf_36 : decode cX9_addTermOf 36 = .ok (.iload_n 1, 1) := by decide +kernel
theorem dX9_addTermOf_37 : decode cX9_addTermOf 37 = .ok (.iconst 4, 1) := by decide +kernel
theorem dX9_addTermOf_38 : decode cX9_addTermOf 38 = .ok (.invokevirtual 367, 3) := by decide +kernel
theorem dX9_addTermOf_41 : decode cX9_addTermOf 41 = .ok (.aload_n 0, 1) := by decide +kernel
theorem dX9_addTermOf_42 : decode cX9_addTermOf 42 = .ok (.getfield 26, 3) := by decide +kernel
theorem dX9_addTermOf_45 : decode cX9_addTermOf 45 = .ok (.iload_n 1, 1) := by decide +kernel
theorem dX9_addTermOf_46 : decode cX9_addTermOf 46 = .ok (.iconst 5, 1) := by decide +kernel
theorem dX9_addTermOf_47 : decode cX9_addTermOf 47 = .ok (.invokevirtual 367, 3) := by decide +kernel
theorem dX9_addTermOf_50 : decode cX9_addTermOf 50 = .ok (.invokevirtual 153, 3) := by decide +kernel
theorem dX9_addTermOf_53 : decode cX9_addTermOf 53 = .ok (.aload_n 0, 1) := by decide +kernel
theorem dX9_addTermOf_54 : decode cX9_addTermOf 54 = .ok (.getfield 10, 3) := by decide +kernel
theorem dX9_addTermOf_57 : decode cX9_addTermOf 57 = .ok (.getfield 137, 3) := by decide +kernel
theorem dX9_addTermOf_60 : decode cX9_addTermOf 60 = .ok (.iload 4, 2) := by decide +kernel
theorem dX9_addTermOf_62 : decode cX9_addTermOf 62 = .ok (.aload_n 0, 1) := by decide +kernel
theorem dX9_addTermOf_63 : decode cX9_addTermOf 63 = .ok (.getfield 26, 3) := by decide +kernel
theorem dX9_addTermOf_66 : decode cX9_addTermOf 66 = .ok (.iload_n 1, 1) := by decide +kernel
theorem dX9_addTermOf_67 : decode cX9_addTermOf 67 = .ok (.bipush 6, 2) := by decide +kernel
theorem dX9_addTermOf_69 : decode cX9_addTermOf 69 = .ok (.invokevirtual 367, 3) := by decide +kernel
theorem dX9_addTermOf_72 : decode cX9_addTermOf 72 = .ok (.aload_n 0, 1) := by decide +kernel
theorem dX9_addTermOf_73 : decode cX9_addTermOf 73 = .ok (.getfield 26, 3) := by decide +kernel
theorem dX9_addTermOf_76 : decode cX9_addTermOf 76 = .ok (.iload_n 1, 1) := by decide +kernel
theorem dX9_addTermOf_77 : decode cX9_addTermOf 77 = .ok (.bipush 7, 2) := by decide +kernel
theorem dX9_addTermOf_79 : decode cX9_addTermOf 79 = .ok (.invokevirtual 367, 3) := by decide +kernel
theorem dX9_addTermOf_82 : decode cX9_addTermOf 82 = .ok (.invokevirtual 157, 3) := by decide +kernel
theorem dX9_addTermOf_85 : decode cX9_addTermOf 85 = .ok (.return_, 1) := by decide +kernel
theorem dX9_firstWrongNumber_0 : decode cX9_firstWrongNumber 0 = .ok (.iconst (-1), 1) := by decide +kernel
theorem dX9_firstWrongNumber_1 : decode cX9_firstWrongNumber 1 = .ok (.istore_n 2, 1) := by decide +kernel
theorem dX9_firstWrongNumber_2 : decode cX9_firstWrongNumber 2 = .ok (.iconst 0, 1) := by decide +kernel
theorem dX9_firstWrongNumber_3 : decode cX9_firstWrongNumber 3 = .ok (.istore_n 3, 1) := by decide +kernel
theorem dX9_firstWrongNumber_4 : decode cX9_firstWrongNumber 4 = .ok (.iload_n 3, 1) := by decide +kernel
theorem dX9_firstWrongNumber_5 : decode cX9_firstWrongNumber 5 = .ok (.bipush 24, 2) := by decide +kernel
theorem dX9_firstWrongNumber_7 : decode cX9_firstWrongNumber 7 = .ok (.if_icmp .ge 87, 3) := by decide +kernel
theorem dX9_firstWrongNumber_10 : decode cX9_firstWrongNumber 10 = .ok (.iload_n 3, 1) := by decide +kernel
theorem dX9_firstWrongNumber_11 : decode cX9_firstWrongNumber 11 = .ok (.aload_n 0, 1) := by decide +kernel
theorem dX9_firstWrongNumber_12 : decode cX9_firstWrongNumber 12 = .ok (.getfield 33, 3) := by decide +kernel
theorem dX9_firstWrongNumber_15 : decode cX9_firstWrongNumber 15 = .ok (.iload_n 1, 1) := by decide +kernel
theorem dX9_firstWrongNumber_16 : decode cX9_firstWrongNumber 16 = .ok (.invokevirtual 309, 3) := by decide +kernel
theorem dX9_firstWrongNumber_19 : decode cX9_firstWrongNumber 19 = .ok (.if_icmp .ge 75, 3) := by decide +kernel
theorem dX9_firstWrongNumber_22 : decode cX9_firstWrongNumber 22 = .ok (.aload_n 0, 1) := by decide +kernel
theorem dX9_firstWrongNumber_23 : decode cX9_firstWrongNumber 23 = .ok (.getfield 33, 3) := by decide +kernel
theorem dX9_firstWrongNumber_26 : decode cX9_firstWrongNumber 26 = .ok (.iload_n 1, 1) := by decide +kernel
theorem dX9_firstWrongNumber_27 : decode cX9_firstWrongNumber 27 = .ok (.iload_n 3, 1) := by decide +kernel
theorem dX9_firstWrongNumber_28 : decode cX9_firstWrongNumber 28 = .ok (.invokevirtual 327, 3) := by decide +kernel
theorem dX9_firstWrongNumber_31 : decode cX9_firstWrongNumber 31 = .ok (.istore 4, 2) := by decide +kernel
theorem dX9_firstWrongNumber_33 : decode cX9_firstWrongNumber 33 = .ok (.iload 4, 2) := by decide +kernel
theorem dX9_firstWrongNumber_35 : decode cX9_firstWrongNumber 35 = .ok (.invokestatic 54, 3) := by decide +kernel
theorem dX9_firstWrongNumber_38 : decode cX9_firstWrongNumber 38 = .ok (.ifCond .eq 16, 3) := by decide +kernel
theorem dX9_firstWrongNumber_41 : decode cX9_firstWrongNumber 41 = .ok (.aload_n 0, 1) := by decide +kernel
theorem dX9_firstWrongNumber_42 : decode cX9_firstWrongNumber 42 = .ok (.getfield 40, 3) := by decide +kernel
theorem dX9_firstWrongNumber_45 : decode cX9_firstWrongNumber 45 = .ok (.iload_n 3, 1) := by decide +kernel
theorem dX9_firstWrongNumber_46 : decode cX9_firstWrongNumber 46 = .ok (.iload 4, 2) := by decide +kernel
theorem dX9_firstWrongNumber_48 : decode cX9_firstWrongNumber 48 = .ok (.invokevirtual 373, 3) := by decide +kernel
theorem dX9_firstWrongNumber_51 : decode cX9_firstWrongNumber 51 = .ok (.ifCond .ne 5, 3) := by decide +kernel
theorem dX9_firstWrongNumber_54 : decode cX9_firstWrongNumber 54 = .ok (.iload_n 3, 1) := by decide +kernel
theorem dX9_firstWrongNumber_55 : decode cX9_firstWrongNumber 55 = .ok (.ireturn, 1) := by decide +kernel
theorem dX9_firstWrongNumber_56 : decode cX9_firstWrongNumber 56 = .ok (.iload_n 2, 1) := by decide +kernel
theorem dX9_firstWrongNumber_57 : decode cX9_firstWrongNumber 57 = .ok (.iconst (-1), 1) := by decide +kernel
theorem dX9_firstWrongNumber_58 : decode cX9_firstWrongNumber 58 = .ok (.if_icmp .eq 27, 3) := by decide +kernel
theorem dX9_firstWrongNumber_61 : decode cX9_firstWrongNumber 61 = .ok (.iload_n 2, 1) := by decide +kernel
theorem dX9_firstWrongNumber_62 : decode cX9_firstWrongNumber 62 = .ok (.iload 4, 2) := by decide +kernel
theorem dX9_firstWrongNumber_64 : decode cX9_firstWrongNumber 64 = .ok (.if_icmp .eq 21, 3) := by decide +kernel
theorem dX9_firstWrongNumber_67 : decode cX9_firstWrongNumber 67 = .ok (.aload_n 0, 1) := by decide +kernel
theorem dX9_firstWrongNumber_68 : decode cX9_firstWrongNumber 68 = .ok (.getfield 10, 3) := by decide +kernel
theorem dX9_firstWrongNumber_71 : decode cX9_firstWrongNumber 71 = .ok (.getfield 62, 3) := by decide +kernel
theorem dX9_firstWrongNumber_74 : decode cX9_firstWrongNumber 74 = .ok (.iload_n 2, 1) := by decide +kernel
theorem dX9_firstWrongNumber_75 : decode cX9_firstWrongNumber 75 = .ok (.iload 4, 2) := by decide +kernel
theorem dX9_firstWrongNumber_77 : decode cX9_firstWrongNumber 77 = .ok (.invokevirtual 66, 3) := by decide +kernel
theorem dX9_firstWrongNumber_80 : decode cX9_firstWrongNumber 80 = .ok (.ifCond .ne 5, 3) := by decide +kernel
theorem dX9_firstWrongNumber_83 : decode cX9_firstWrongNumber 83 = .ok (.iload_n 3, 1) := by decide +kernel
theorem dX9_firstWrongNumber_84 : decode cX9_firstWrongNumber 84 = .ok (.ireturn, 1) := by decide +kernel
theorem dX9_firstWrongNumber_85 : decode cX9_firstWrongNumber 85 = .ok (.iload 4, 2) := by decide +kernel
theorem dX9_firstWrongNumber_87 : decode cX9_firstWrongNumber 87 = .ok (.istore_n 2, 1) := by decide +kernel
theorem dX9_firstWrongNumber_88 : decode cX9_firstWrongNumber 88 = .ok (.iinc 3 1, 3) := by decide +kernel
theorem dX9_firstWrongNumber_91 : decode cX9_firstWrongNumber 91 = .ok (.goto (-87), 3) := by decide +kernel
theorem dX9_firstWrongNumber_94 : decode cX9_firstWrongNumber 94 = .ok (.iconst (-1), 1) := by decide +kernel
theorem dX9_firstWrongNumber_95 : decode cX9_firstWrongNumber 95 = .ok (.ireturn, 1) := by decide +kernel
theorem dX9_leastTermTooSeldom_0 : decode cX9_leastTermTooSeldom 0 = .ok (.iconst 0, 1) := by decide +kernel
theorem dX9_leastTermTooSeldom_1 : decode cX9_leastTermTooSeldom 1 = .ok (.istore_n 3, 1) := by decide +kernel
theorem dX9_leastTermTooSeldom_2 : decode cX9_leastTermTooSeldom 2 = .ok (.iload_n 3, 1) := by decide +kernel
theorem dX9_leastTermTooSeldom_3 : decode cX9_leastTermTooSeldom 3 = .ok (.bipush 12, 2) := by decide +kernel
theorem dX9_leastTermTooSeldom_5 : decode cX9_leastTermTooSeldom 5 = .ok (.if_icmp .ge 39, 3) := by decide +kernel
theorem dX9_leastTermTooSeldom_8 : decode cX9_leastTermTooSeldom 8 = .ok (.iload_n 2, 1) := by decide +kernel
theorem dX9_leastTermTooSeldom_9 : decode cX9_leastTermTooSeldom 9 = .ok (.iload_n 3, 1) := by decide +kernel
theorem dX9_leastTermTooSeldom_10 : decode cX9_leastTermTooSeldom 10 = .ok (.invokestatic 198, 3) := by decide +kernel
theorem dX9_leastTermTooSeldom_13 : decode cX9_leastTermTooSeldom 13 = .ok (.ifCond .eq 25, 3) := by decide +kernel
theorem dX9_leastTermTooSeldom_16 : decode cX9_leastTermTooSeldom 16 = .ok (.aload_n 0, 1) := by decide +kernel
theorem dX9_leastTermTooSeldom_17 : decode cX9_leastTermTooSeldom 17 = .ok (.iload_n 1, 1) := by decide +kernel
theorem dX9_leastTermTooSeldom_18 : decode cX9_leastTermTooSeldom 18 = .ok (.iload_n 3, 1) := by decide +kernel
theorem dX9_leastTermTooSeldom_19 : decode cX9_leastTermTooSeldom 19 = .ok (.invokevirtual 376, 3) := by decide +kernel
theorem dX9_leastTermTooSeldom_22 : decode cX9_leastTermTooSeldom 22 = .ok (.aload_n 0, 1) := by decide +kernel
theorem dX9_leastTermTooSeldom_23 : decode cX9_leastTermTooSeldom 23 = .ok (.getfield 10, 3) := by decide +kernel
theorem dX9_leastTermTooSeldom_26 : decode cX9_leastTermTooSeldom 26 = .ok (.getfield 137, 3) := by decide +kernel
theorem dX9_leastTermTooSeldom_29 : decode cX9_leastTermTooSeldom 29 = .ok (.iload_n 3, 1) := by decide +kernel
theorem dX9_leastTermTooSeldom_30 : decode cX9_leastTermTooSeldom 30 = .ok (.invokevirtual 149, 3) := by decide +kernel
theorem dX9_leastTermTooSeldom_33 : decode cX9_leastTermTooSeldom 33 = .ok (.if_icmp .ge 5, 3) := by decide +kernel
theorem dX9_leastTermTooSeldom_36 : decode cX9_leastTermTooSeldom 36 = .ok (.iload_n 3, 1) := by decide +kernel
theorem dX9_leastTermTooSeldom_37 : decode cX9_leastTermTooSeldom 37 = .ok (.ireturn, 1) := by decide +kernel
theorem dX9_leastTermTooSeldom_38 : decode cX9_leastTermTooSeldom 38 = .ok (.iinc 3 1, 3) := by decide +kernel
theorem dX9_leastTermTooSeldom_41 : decode cX9_leastTermTooSeldom 41 = .ok (.goto (-39), 3) := by decide +kernel
theorem dX9_leastTermTooSeldom_44 : decode cX9_leastTermTooSeldom 44 = .ok (.iconst (-1), 1) := by decide +kernel
theorem dX9_leastTermTooSeldom_45 : decode cX9_leastTermTooSeldom 45 = .ok (.ireturn, 1) := by decide +kernel
theorem dX9_timesThere_0 : decode cX9_timesThere 0 = .ok (.aload_n 0, 1) := by decide +kernel
theorem dX9_timesThere_1 : decode cX9_timesThere 1 = .ok (.getfield 10, 3) := by decide +kernel
theorem dX9_timesThere_4 : decode cX9_timesThere 4 = .ok (.getfield 137, 3) := by decide +kernel
theorem dX9_timesThere_7 : decode cX9_timesThere 7 = .ok (.iload_n 2, 1) := by decide +kernel
theorem dX9_timesThere_8 : decode cX9_timesThere 8 = .ok (.iconst 2, 1) := by decide +kernel
theorem dX9_timesThere_9 : decode cX9_timesThere 9 = .ok (.invokevirtual 152, 3) := by decide +kernel
theorem dX9_timesThere_12 : decode cX9_timesThere 12 = .ok (.istore_n 3, 1) := by decide +kernel
theorem dX9_timesThere_13 : decode cX9_timesThere 13 = .ok (.aload_n 0, 1) := by decide +kernel
theorem dX9_timesThere_14 : decode cX9_timesThere 14 = .ok (.getfield 10, 3) := by decide +kernel
theorem dX9_timesThere_17 : decode cX9_timesThere 17 = .ok (.getfield 137, 3) := by decide +kernel
theorem dX9_timesThere_20 : decode cX9_timesThere 20 = .ok (.iload_n 2, 1) := by decide +kernel
theorem dX9_timesThere_21 : decode cX9_timesThere 21 = .ok (.iconst 4, 1) := by decide +kernel
theorem dX9_timesThere_22 : decode cX9_timesThere 22 = .ok (.invokevirtual 152, 3) := by decide +kernel
theorem dX9_timesThere_25 : decode cX9_timesThere 25 = .ok (.istore 4, 2) := by decide +kernel
theorem dX9_timesThere_27 : decode cX9_timesThere 27 = .ok (.iconst 0, 1) := by decide +kernel
theorem dX9_timesThere_28 : decode cX9_timesThere 28 = .ok (.istore 5, 2) := by decide +kernel
theorem dX9_timesThere_30 : decode cX9_timesThere 30 = .ok (.aload_n 0, 1) := by decide +kernel
theorem dX9_timesThere_31 : decode cX9_timesThere 31 = .ok (.getfield 10, 3) := by decide +kernel
theorem dX9_timesThere_34 : decode cX9_timesThere 34 = .ok (.getfield 137, 3) := by decide +kernel
theorem dX9_timesThere_37 : decode cX9_timesThere 37 = .ok (.iload_n 2, 1) := by decide +kernel
theorem dX9_timesThere_38 : decode cX9_timesThere 38 = .ok (.iconst 3, 1) := by decide +kernel
theorem dX9_timesThere_39 : decode cX9_timesThere 39 = .ok (.invokevirtual 152, 3) := by decide +kernel
theorem dX9_timesThere_42 : decode cX9_timesThere 42 = .ok (.istore 6, 2) := by decide +kernel
theorem dX9_timesThere_44 : decode cX9_timesThere 44 = .ok (.iload 6, 2) := by decide +kernel
theorem dX9_timesThere_46 : decode cX9_timesThere 46 = .ok (.iload 4, 2) := by decide +kernel
theorem dX9_timesThere_48 : decode cX9_timesThere 48 = .ok (.if_icmp .gt 26, 3) := by decide +kernel
theorem dX9_timesThere_51 : decode cX9_timesThere 51 = .ok (.aload_n 0, 1) := by decide +kernel
theorem dX9_timesThere_52 : decode cX9_timesThere 52 = .ok (.getfield 33, 3) := by decide +kernel
theorem dX9_timesThere_55 : decode cX9_timesThere 55 = .ok (.iload_n 1, 1) := by decide +kernel
theorem dX9_timesThere_56 : decode cX9_timesThere 56 = .ok (.iload 6, 2) := by decide +kernel
theorem dX9_timesThere_58 : decode cX9_timesThere 58 = .ok (.invokevirtual 327, 3) := by decide +kernel
theorem dX9_timesThere_61 : decode cX9_timesThere 61 = .ok (.iload_n 3, 1) := by decide +kernel
theorem dX9_timesThere_62 : decode cX9_timesThere 62 = .ok (.if_icmp .ne 6, 3) := by decide +kernel
theorem dX9_timesThere_65 : decode cX9_timesThere 65 = .ok (.iinc 5 1, 3) := by decide +kernel
theorem dX9_timesThere_68 : decode cX9_timesThere 68 = .ok (.iinc 6 1, 3) := by decide +kernel
theorem dX9_timesThere_71 : decode cX9_timesThere 71 = .ok (.goto (-27), 3) := by decide +kernel
theorem dX9_timesThere_74 : decode cX9_timesThere 74 = .ok (.iload 5, 2) := by decide +kernel
theorem dX9_timesThere_76 : decode cX9_timesThere 76 = .ok (.ireturn, 1) := by decide +kernel
theorem dX9_has_0 : decode cX9_has 0 = .ok (.iload_n 0, 1) := by decide +kernel
theorem dX9_has_1 : decode cX9_has 1 = .ok (.iload_n 1, 1) := by decide +kernel
theorem dX9_has_2 : decode cX9_has 2 = .ok (.iushr, 1) := by decide +kernel
theorem dX9_has_3 : decode cX9_has 3 = .ok (.iconst 1, 1) := by decide +kernel
theorem dX9_has_4 : decode cX9_has 4 = .ok (.iand, 1) := by decide +kernel
theorem dX9_has_5 : decode cX9_has 5 = .ok (.ifCond .eq 7, 3) := by decide +kernel
theorem dX9_has_8 : decode cX9_has 8 = .ok (.iconst 1, 1) := by decide +kernel
theorem dX9_has_9 : decode cX9_has 9 = .ok (.goto 4, 3) := by decide +kernel
theorem dX9_has_12 : decode cX9_has 12 = .ok (.iconst 0, 1) := by decide +kernel
theorem dX9_has_13 : decode cX9_has 13 = .ok (.ireturn, 1) := by decide +kernel
theorem dX9_isPlace_0 : decode cX9_isPlace 0 = .ok (.iload_n 0, 1) := by decide +kernel
theorem dX9_isPlace_1 : decode cX9_isPlace 1 = .ok (.ifCond .lt 13, 3) := by decide +kernel
theorem dX9_isPlace_4 : decode cX9_isPlace 4 = .ok (.iload_n 0, 1) := by decide +kernel
theorem dX9_isPlace_5 : decode cX9_isPlace 5 = .ok (.bipush 8, 2) := by decide +kernel
theorem dX9_isPlace_7 : decode cX9_isPlace 7 = .ok (.if_icmp .ge 7, 3) := by decide +kernel
theorem dX9_isPlace_10 : decode cX9_isPlace 10 = .ok (.iconst 1, 1) := by decide +kernel
theorem dX9_isPlace_11 : decode cX9_isPlace 11 = .ok (.goto 4, 3) := by decide +kernel
theorem dX9_isPlace_14 : decode cX9_isPlace 14 = .ok (.iconst 0, 1) := by decide +kernel
theorem dX9_isPlace_15 : decode cX9_isPlace 15 = .ok (.ireturn, 1) := by decide +kernel
theorem dX9_isPerson_0 : decode cX9_isPerson 0 = .ok (.iload_n 0, 1) := by decide +kernel
theorem dX9_isPerson_1 : decode cX9_isPerson 1 = .ok (.ifCond .lt 13, 3) := by decide +kernel
theorem dX9_isPerson_4 : decode cX9_isPerson 4 = .ok (.iload_n 0, 1) := by decide +kernel
theorem dX9_isPerson_5 : decode cX9_isPerson 5 = .ok (.bipush 6, 2) := by decide +kernel
theorem dX9_isPerson_7 : decode cX9_isPerson 7 = .ok (.if_icmp .ge 7, 3) := by decide +kernel
theorem dX9_isPerson_10 : decode cX9_isPerson 10 = .ok (.iconst 1, 1) := by decide +kernel
theorem dX9_isPerson_11 : decode cX9_isPerson 11 = .ok (.goto 4, 3) := by decide +kernel
theorem dX9_isPerson_14 : decode cX9_isPerson 14 = .ok (.iconst 0, 1) := by decide +kernel
theorem dX9_isPerson_15 : decode cX9_isPerson 15 = .ok (.ireturn, 1) := by decide +kernel
theorem dX9_isDay_0 : decode cX9_isDay 0 = .ok (.iload_n 0, 1) := by decide +kernel
theorem dX9_isDay_1 : decode cX9_isDay 1 = .ok (.ifCond .lt 13, 3) := by decide +kernel
theorem dX9_isDay_4 : decode cX9_isDay 4 = .ok (.iload_n 0, 1) := by decide +kernel
theorem dX9_isDay_5 : decode cX9_isDay 5 = .ok (.bipush 30, 2) := by decide +kernel
theorem dX9_isDay_7 : decode cX9_isDay 7 = .ok (.if_icmp .ge 7, 3) := by decide +kernel
theorem dX9_isDay_10 : decode cX9_isDay 10 = .ok (.iconst 1, 1) := by decide +kernel
theorem dX9_isDay_11 : decode cX9_isDay 11 = .ok (.goto 4, 3) := by decide +kernel
theorem dX9_isDay_14 : decode cX9_isDay 14 = .ok (.iconst 0, 1) := by decide +kernel
theorem dX9_isDay_15 : decode cX9_isDay 15 = .ok (.ireturn, 1) := by decide +kernel
theorem dX9_isSurety_0 : decode cX9_isSurety 0 = .ok (.iload_n 0, 1) := by decide +kernel
theorem dX9_isSurety_1 : decode cX9_isSurety 1 = .ok (.ifCond .lt 12, 3) := by decide +kernel
theorem dX9_isSurety_4 : decode cX9_isSurety 4 = .ok (.iload_n 0, 1) := by decide +kernel
theorem dX9_isSurety_5 : decode cX9_isSurety 5 = .ok (.iconst 5, 1) := by decide +kernel
theorem dX9_isSurety_6 : decode cX9_isSurety 6 = .ok (.if_icmp .ge 7, 3) := by decide +kernel
theorem dX9_isSurety_9 : decode cX9_isSurety 9 = .ok (.iconst 1, 1) := by decide +kernel
theorem dX9_isSurety_10 : decode cX9_isSurety 10 = .ok (.goto 4, 3) := by decide +kernel
theorem dX9_isSurety_13 : decode cX9_isSurety 13 = .ok (.iconst 0, 1) := by decide +kernel
theorem dX9_isSurety_14 : decode cX9_isSurety 14 = .ok (.ireturn, 1) := by decide +kernel
theorem dX9_isSpot_0 : decode cX9_isSpot 0 = .ok (.iload_n 0, 1) := by decide +kernel
theorem dX9_isSpot_1 : decode cX9_isSpot 1 = .ok (.ifCond .lt 13, 3) := by decide +kernel
theorem dX9_isSpot_4 : decode cX9_isSpot 4 = .ok (.iload_n 0, 1) := by decide +kernel
theorem dX9_isSpot_5 : decode cX9_isSpot 5 = .ok (.bipush 10, 2) := by decide +kernel
theorem dX9_isSpot_7 : decode cX9_isSpot 7 = .ok (.if_icmp .ge 7, 3) := by decide +kernel
theorem dX9_isSpot_10 : decode cX9_isSpot 10 = .ok (.iconst 1, 1) := by decide +kernel
theorem dX9_isSpot_11 : decode cX9_isSpot 11 = .ok (.goto 4, 3) := by decide +kernel
theorem dX9_isSpot_14 : decode cX9_isSpot 14 = .ok (.iconst 0, 1) := by decide +kernel
theorem dX9_isSpot_15 : decode cX9_isSpot 15 = .ok (.ireturn, 1) := by decide +kernel
theorem dX9_isMoney_0 : decode cX9_isMoney 0 = .ok (.iload_n 0, 1) := by decide +kernel
theorem dX9_isMoney_1 : decode cX9_isMoney 1 = .ok (.ifCond .lt 14, 3) := by decide +kernel
theorem dX9_isMoney_4 : decode cX9_isMoney 4 = .ok (.iload_n 0, 1) := by decide +kernel
theorem dX9_isMoney_5 : decode cX9_isMoney 5 = .ok (.sipush 9999, 3) := by decide +kernel
theorem dX9_isMoney_8 : decode cX9_isMoney 8 = .ok (.if_icmp .gt 7, 3) := by decide +kernel
theorem dX9_isMoney_11 : decode cX9_isMoney 11 = .ok (.iconst 1, 1) := by decide +kernel
theorem dX9_isMoney_12 : decode cX9_isMoney 12 = .ok (.goto 4, 3) := by decide +kernel
theorem dX9_isMoney_15 : decode cX9_isMoney 15 = .ok (.iconst 0, 1) := by decide +kernel
theorem dX9_isMoney_16 : decode cX9_isMoney 16 = .ok (.ireturn, 1) := by decide +kernel
theorem dX9_isWhen_0 : decode cX9_isWhen 0 = .ok (.iload_n 0, 1) := by decide +kernel
theorem dX9_isWhen_1 : decode cX9_isWhen 1 = .ok (.ifCond .lt 25, 3) := by decide +kernel
theorem dX9_isWhen_4 : decode cX9_isWhen 4 = .ok (.iload_n 0, 1) := by decide +kernel
theorem dX9_isWhen_5 : decode cX9_isWhen 5 = .ok (.invokestatic 99, 3) := by decide +kernel
theorem dX9_isWhen_8 : decode cX9_isWhen 8 = .ok (.bipush 30, 2) := by decide +kernel
theorem dX9_isWhen_10 : decode cX9_isWhen 10 = .ok (.if_icmp .ge 16, 3) := by decide +kernel
theorem dX9_isWhen_13 : decode cX9_isWhen 13 = .ok (.iload_n 0, 1) := by decide +kernel
theorem dX9_isWhen_14 : decode cX9_isWhen 14 = .ok (.invokestatic 102, 3) := by decide +kernel
theorem dX9_isWhen_17 : decode cX9_isWhen 17 = .ok (.bipush 24, 2) := by decide +kernel
theorem dX9_isWhen_19 : decode cX9_isWhen 19 = .ok (.if_icmp .ge 7, 3) := by decide +kernel
theorem dX9_isWhen_22 : decode cX9_isWhen 22 = .ok (.iconst 1, 1) := by decide +kernel
theorem dX9_isWhen_23 : decode cX9_isWhen 23 = .ok (.goto 4, 3) := by decide +kernel
theorem dX9_isWhen_26 : decode cX9_isWhen 26 = .ok (.iconst 0, 1) := by decide +kernel
theorem dX9_isWhen_27 : decode cX9_isWhen 27 = .ok (.ireturn, 1) := by decide +kernel
theorem dX9_dayOf_0 : decode cX9_dayOf 0 = .ok (.iload_n 0, 1) := by decide +kernel
theorem dX9_dayOf_1 : decode cX9_dayOf 1 = .ok (.bipush 100, 2) := by decide +kernel
theorem dX9_dayOf_3 : decode cX9_dayOf 3 = .ok (.idiv, 1) := by decide +kernel
theorem dX9_dayOf_4 : decode cX9_dayOf 4 = .ok (.ireturn, 1) := by decide +kernel
theorem dX9_hourOf_0 : decode cX9_hourOf 0 = .ok (.iload_n 0, 1) := by decide +kernel
theorem dX9_hourOf_1 : decode cX9_hourOf 1 = .ok (.bipush 100, 2) := by decide +kernel
theorem dX9_hourOf_3 : decode cX9_hourOf 3 = .ok (.irem, 1) := by decide +kernel
theorem dX9_hourOf_4 : decode cX9_hourOf 4 = .ok (.ireturn, 1) := by decide +kernel
theorem dX9_areRiskBounds_0 : decode cX9_areRiskBounds 0 = .ok (.iload_n 0, 1) := by decide +kernel
theorem dX9_areRiskBounds_1 : decode cX9_areRiskBounds 1 = .ok (.ifCond .lt 24, 3) := by decide +kernel
theorem dX9_areRiskBounds_4 : decode cX9_areRiskBounds 4 = .ok (.iload_n 0, 1) := by decide +kernel
theorem dX9_areRiskBounds_5 : decode cX9_areRiskBounds 5 = .ok (.bipush 10, 2) := by decide +kernel
theorem dX9_areRiskBounds_7 : decode cX9_areRiskBounds 7 = .ok (.if_icmp .gt 18, 3) := by decide +kernel
theorem dX9_areRiskBounds_10 : decode cX9_areRiskBounds 10 = .ok (.iload_n 1, 1) := by decide +kernel
theorem dX9_areRiskBounds_11 : decode cX9_areRiskBounds 11 = .ok (.iconst 1, 1) := by decide +kernel
theorem dX9_areRiskBounds_12 : decode cX9_areRiskBounds 12 = .ok (.if_icmp .lt 13, 3) := by decide +kernel
theorem dX9_areRiskBounds_15 : decode cX9_areRiskBounds 15 = .ok (.iload_n 1, 1) := by decide +kernel
theorem dX9_areRiskBounds_16 : decode cX9_areRiskBounds 16 = .ok (.bipush 9, 2) := by decide +kernel
theorem dX9_areRiskBounds_18 : decode cX9_areRiskBounds 18 = .ok (.if_icmp .gt 7, 3) := by decide +kernel
theorem dX9_areRiskBounds_21 : decode cX9_areRiskBounds 21 = .ok (.iconst 1, 1) := by decide +kernel
theorem dX9_areRiskBounds_22 : decode cX9_areRiskBounds 22 = .ok (.goto 4, 3) := by decide +kernel
theorem dX9_areRiskBounds_25 : decode cX9_areRiskBounds 25 = .ok (.iconst 0, 1) := by decide +kernel
theorem dX9_areRiskBounds_26 : decode cX9_areRiskBounds 26 = .ok (.ireturn, 1) := by decide +kernel
theorem dX9_riskAbove_0 : decode cX9_riskAbove 0 = .ok (.lconst 0, 1) := by decide +kernel
theorem dX9_riskAbove_1 : decode cX9_riskAbove 1 = .ok (.lstore_n 3, 1) := by decide +kernel
theorem dX9_riskAbove_2 : decode cX9_riskAbove 2 = .ok (.lconst 1, 1) := by decide +kernel
theorem dX9_riskAbove_3 : decode cX9_riskAbove 3 = .ok (.lstore 5, 2) := by decide +kernel
theorem dX9_riskAbove_5 : decode cX9_riskAbove 5 = .ok (.iconst 0, 1) := by decide +kernel
theorem dX9_riskAbove_6 : decode cX9_riskAbove 6 = .ok (.istore 7, 2) := by decide +kernel
theorem dX9_riskAbove_8 : decode cX9_riskAbove 8 = .ok (.iload 7, 2) := by decide +kernel
theorem dX9_riskAbove_10 : decode cX9_riskAbove 10 = .ok (.iload_n 1, 1) := by decide +kernel
theorem dX9_riskAbove_11 : decode cX9_riskAbove 11 = .ok (.if_icmp .gt 55, 3) := by decide +kernel
theorem dX9_riskAbove_14 : decode cX9_riskAbove 14 = .ok (.iload 7, 2) := by decide +kernel
theorem dX9_riskAbove_16 : decode cX9_riskAbove 16 = .ok (.iload_n 2, 1) := by decide +kernel
theorem dX9_riskAbove_17 : decode cX9_riskAbove 17 = .ok (.if_icmp .lt 27, 3) := by decide +kernel
theorem dX9_riskAbove_20 : decode cX9_riskAbove 20 = .ok (.lload_n 3, 1) := by decide +kernel
theorem dX9_riskAbove_21 : decode cX9_riskAbove 21 = .ok (.lload 5, 2) := by decide +kernel
theorem dX9_riskAbove_23 : decode cX9_riskAbove 23 = .ok (.iload_n 0, 1) := by decide +kernel
theorem dX9_riskAbove_24 : decode cX9_riskAbove 24 = .ok (.iload 7, 2) := by decide +kernel
theorem dX9_riskAbove_26 : decode cX9_riskAbove 26 = .ok (.invokestatic 208, 3) := by decide +kernel
theorem dX9_riskAbove_29 : decode cX9_riskAbove 29 = .ok (.lmul, 1) := by decide +kernel
theorem dX9_riskAbove_30 : decode cX9_riskAbove 30 = .ok (.bipush 10, 2) := by decide +kernel
theorem dX9_riskAbove_32 : decode cX9_riskAbove 32 = .ok (.iload_n 0, 1) := by decide +kernel
theorem dX9_riskAbove_33 : decode cX9_riskAbove 33 = .ok (.isub, 1) := by decide +kernel
theorem dX9_riskAbove_34 : decode cX9_riskAbove 34 = .ok (.iload_n 1, 1) := by decide +kernel
theorem dX9_riskAbove_35 : decode cX9_riskAbove 35 = .ok (.iload 7, 2) := by decide +kernel
theorem dX9_riskAbove_37 : decode cX9_riskAbove 37 = .ok (.isub, 1) := by decide +kernel
theorem dX9_riskAbove_38 : decode cX9_riskAbove 38 = .ok (.invokestatic 208, 3) := by decide +kernel
theorem dX9_riskAbove_41 : decode cX9_riskAbove 41 = .ok (.lmul, 1) := by decide +kernel
theorem dX9_riskAbove_42 : decode cX9_riskAbove 42 = .ok (.ladd, 1) := by decide +kernel
theorem dX9_riskAbove_43 : decode cX9_riskAbove 43 = .ok (.lstore_n 3, 1) := by decide +kernel
theorem dX9_riskAbove_44 : decode cX9_riskAbove 44 = .ok (.lload 5, 2) := by decide +kernel
theorem dX9_riskAbove_46 : decode cX9_riskAbove 46 = .ok (.iload_n 1, 1) := by decide +kernel
theorem dX9_riskAbove_47 : decode cX9_riskAbove 47 = .ok (.iload 7, 2) := by decide +kernel
theorem dX9_riskAbove_49 : decode cX9_riskAbove 49 = .ok (.isub, 1) := by decide +kernel
theorem dX9_riskAbove_50 : decode cX9_riskAbove 50 = .ok (.i2l, 1) := by decide +kernel
theorem dX9_riskAbove_51 : decode cX9_riskAbove 51 = .ok (.lmul, 1) := by decide +kernel
theorem dX9_riskAbove_52 : decode cX9_riskAbove 52 = .ok (.iload 7, 2) := by decide +kernel
theorem dX9_riskAbove_54 : decode cX9_riskAbove 54 = .ok (.iconst 1, 1) := by decide +kernel
theorem dX9_riskAbove_55 : decode cX9_riskAbove 55 = .ok (.iadd, 1) := by decide +kernel
theorem dX9_riskAbove_56 : decode cX9_riskAbove 56 = .ok (.i2l, 1) := by decide +kernel
theorem dX9_riskAbove_57 : decode cX9_riskAbove 57 = .ok (.ldiv, 1) := by decide +kernel
theorem dX9_riskAbove_58 : decode cX9_riskAbove 58 = .ok (.lstore 5, 2) := by decide +kernel
theorem dX9_riskAbove_60 : decode cX9_riskAbove 60 = .ok (.iinc 7 1, 3) := by decide +kernel
theorem dX9_riskAbove_63 : decode cX9_riskAbove 63 = .ok (.goto (-55), 3) := by decide +kernel
theorem dX9_riskAbove_66 : decode cX9_riskAbove 66 = .ok (.lload_n 3, 1) := by decide +kernel
theorem dX9_riskAbove_67 : decode cX9_riskAbove 67 = .ok (.lreturn, 1) := by decide +kernel
theorem dX9_power_0 : decode cX9_power 0 = .ok (.lconst 1, 1) := by decide +kernel
theorem dX9_power_1 : decode cX9_power 1 = .ok (.lstore_n 2, 1) := by decide +kernel
theorem dX9_power_2 : decode cX9_power 2 = .ok (.iconst 0, 1) := by decide +kernel
theorem dX9_power_3 : decode cX9_power 3 = .ok (.istore 4, 2) := by decide +kernel
theorem dX9_power_5 : decode cX9_power 5 = .ok (.iload 4, 2) := by decide +kernel
theorem dX9_power_7 : decode cX9_power 7 = .ok (.iload_n 1, 1) := by decide +kernel
theorem dX9_power_8 : decode cX9_power 8 = .ok (.if_icmp .ge 14, 3) := by decide +kernel
theorem dX9_power_11 : decode cX9_power 11 = .ok (.lload_n 2, 1) := by decide +kernel
theorem dX9_power_12 : decode cX9_power 12 = .ok (.iload_n 0, 1) := by decide +kernel
theorem dX9_power_13 : decode cX9_power 13 = .ok (.i2l, 1) := by decide +kernel
theorem dX9_power_14 : decode cX9_power 14 = .ok (.lmul, 1) := by decide +kernel
theorem dX9_power_15 : decode cX9_power 15 = .ok (.lstore_n 2, 1) := by decide +kernel
theorem dX9_power_16 : decode cX9_power 16 = .ok (.iinc 4 1, 3) := by decide +kernel
theorem dX9_power_19 : decode cX9_power 19 = .ok (.goto (-14), 3) := by decide +kernel
theorem dX9_power_22 : decode cX9_power 22 = .ok (.lload_n 2, 1) := by decide +kernel
theorem dX9_power_23 : decode cX9_power 23 = .ok (.lreturn, 1) := by decide +kernel
theorem dX9_commonDivisor_0 : decode cX9_commonDivisor 0 = .ok (.lload_n 0, 1) := by decide +kernel
theorem dX9_commonDivisor_1 : decode cX9_commonDivisor 1 = .ok (.lstore 4, 2) := by decide +kernel
theorem dX9_commonDivisor_3 : decode cX9_commonDivisor 3 = .ok (.lload_n 2, 1) := by decide +kernel
theorem dX9_commonDivisor_4 : decode cX9_commonDivisor 4 = .ok (.lstore 6, 2) := by decide +kernel
theorem dX9_commonDivisor_6 : decode cX9_commonDivisor 6 = .ok (.iconst 0, 1) := by decide +kernel
theorem dX9_commonDivisor_7 : decode cX9_commonDivisor 7 = .ok (.istore 8, 2) := by decide +kernel
theorem dX9_commonDivisor_9 : decode cX9_commonDivisor 9 = .ok (.iload 8, 2) := by decide +kernel
theorem dX9_commonDivisor_11 : decode cX9_commonDivisor 11 = .ok (.bipush 100, 2) := by decide +kernel
theorem dX9_commonDivisor_13 : decode cX9_commonDivisor 13 = .ok (.if_icmp .ge 31, 3) := by decide +kernel
theorem dX9_commonDivisor_16 : decode cX9_commonDivisor 16 = .ok (.lload 6, 2) := by decide +kernel
theorem dX9_commonDivisor_18 : decode cX9_commonDivisor 18 = .ok (.lconst 0, 1) := by decide +kernel
theorem dX9_commonDivisor_19 : decode cX9_commonDivisor 19 = .ok (.lcmp, 1) := by decide +kernel
theorem dX9_commonDivisor_20 : decode cX9_commonDivisor 20 = .ok (.ifCond .eq 24, 3) := by decide +kernel
theorem dX9_commonDivisor_23 : decode cX9_commonDivisor 23 = .ok (.lload 4, 2) := by decide +kernel
theorem dX9_commonDivisor_25 : decode cX9_commonDivisor 25 = .ok (.lload 6, 2) := by decide +kernel
theorem dX9_commonDivisor_27 : decode cX9_commonDivisor 27 = .ok (.lrem, 1) := by decide +kernel
theorem dX9_commonDivisor_28 : decode cX9_commonDivisor 28 = .ok (.lstore 9, 2) := by decide +kernel
theorem dX9_commonDivisor_30 : decode cX9_commonDivisor 30 = .ok (.lload 6, 2) := by decide +kernel
theorem dX9_commonDivisor_32 : decode cX9_commonDivisor 32 = .ok (.lstore 4, 2) := by decide +kernel
theorem dX9_commonDivisor_34 : decode cX9_commonDivisor 34 = .ok (.lload 9, 2) := by decide +kernel
theorem dX9_commonDivisor_36 : decode cX9_commonDivisor 36 = .ok (.lstore 6, 2) := by decide +kernel
theorem dX9_commonDivisor_38 : decode cX9_commonDivisor 38 = .ok (.iinc 8 1, 3) := by decide +kernel
theorem dX9_commonDivisor_41 : decode cX9_commonDivisor 41 = .ok (.goto (-32), 3) := by decide +kernel
theorem dX9_commonDivisor_44 : decode cX9_commonDivisor 44 = .ok (.lload 4, 2) := by decide +kernel
theorem dX9_commonDivisor_46 : decode cX9_commonDivisor 46 = .ok (.lreturn, 1) := by decide +kernel
theorem dX10_init_0 : decode cX10_init 0 = .ok (.aload_n 0, 1) := by decide +kernel
theorem dX10_init_1 : decode cX10_init 1 = .ok (.invokespecial 1, 3) := by decide +kernel
theorem dX10_init_4 : decode cX10_init 4 = .ok (.aload_n 0, 1) := by decide +kernel
theorem dX10_init_5 : decode cX10_init 5 = .ok (.sipush 337, 3) := by decide +kernel
theorem dX10_init_8 : decode cX10_init 8 = .ok (.newarray .int, 2) := by decide +kernel
theorem dX10_init_10 : decode cX10_init 10 = .ok (.putfield 7, 3) := by decide +kernel
theorem dX10_init_13 : decode cX10_init 13 = .ok (.aload_n 0, 1) := by decide +kernel
theorem dX10_init_14 : decode cX10_init 14 = .ok (.sipush 337, 3) := by decide +kernel
theorem dX10_init_17 : decode cX10_init 17 = .ok (.newarray .int, 2) := by decide +kernel
theorem dX10_init_19 : decode cX10_init 19 = .ok (.putfield 13, 3) := by decide +kernel
theorem dX10_init_22 : decode cX10_init 22 = .ok (.aload_n 0, 1) := by decide +kernel
theorem dX10_init_23 : decode cX10_init 23 = .ok (.sipush 337, 3) := by decide +kernel
theorem dX10_init_26 : decode cX10_init 26 = .ok (.newarray .int, 2) := by decide +kernel
theorem dX10_init_28 : decode cX10_init 28 = .ok (.putfield 16, 3) := by decide +kernel
theorem dX10_init_31 : decode cX10_init 31 = .ok (.aload_n 0, 1) := by decide +kernel
theorem dX10_init_32 : decode cX10_init 32 = .ok (.bipush 7, 2) := by decide +kernel
theorem dX10_init_34 : decode cX10_init 34 = .ok (.newarray .int, 2) := by decide +kernel
theorem dX10_init_36 : decode cX10_init 36 = .ok (.putfield 19, 3) := by decide +kernel
theorem dX10_init_39 : decode cX10_init 39 = .ok (.aload_n 0, 1) := by decide +kernel
theorem dX10_init_40 : decode cX10_init 40 = .ok (.bipush 24, 2) := by decide +kernel
theorem dX10_init_42 : decode cX10_init 42 = .ok (.newarray .int, 2) := by decide +kernel
theorem dX10_init_44 : decode cX10_init 44 = .ok (.putfield 22, 3) := by decide +kernel
theorem dX10_init_47 : decode cX10_init 47 = .ok (.aload_n 0, 1) := by decide +kernel
theorem dX10_init_48 : decode cX10_init 48 = .ok (.iconst 5, 1) := by decide +kernel
theorem dX10_init_49 : decode cX10_init 49 = .ok (.newarray .int, 2) := by decide +kernel
theorem dX10_init_51 : decode cX10_init 51 = .ok (.putfield 25, 3) := by decide +kernel
theorem dX10_init_54 : decode cX10_init 54 = .ok (.aload_n 0, 1) := by decide +kernel
theorem dX10_init_55 : decode cX10_init 55 = .ok (.iconst 5, 1) := by decide +kernel
theorem dX10_init_56 : decode cX10_init 56 = .ok (.newarray .int, 2) := by decide +kernel
theorem dX10_init_58 : decode cX10_init 58 = .ok (.putfield 28, 3) := by decide +kernel
theorem dX10_init_61 : decode cX10_init 61 = .ok (.aload_n 0, 1) := by decide +kernel
theorem dX10_init_62 : decode cX10_init 62 = .ok (.iconst 5, 1) := by decide +kernel
theorem dX10_init_63 : decode cX10_init 63 = .ok (.newarray .int, 2) := by decide +kernel
theorem dX10_init_65 : decode cX10_init 65 = .ok (.putfield 31, 3) := by decide +kernel
theorem dX10_init_68 : decode cX10_init 68 = .ok (.aload_n 0, 1) := by decide +kernel
theorem dX10_init_69 : decode cX10_init 69 = .ok (.sipush 8192, 3) := by decide +kernel
theorem dX10_init_72 : decode cX10_init 72 = .ok (.newarray .int, 2) := by decide +kernel
theorem dX10_init_74 : decode cX10_init 74 = .ok (.putfield 34, 3) := by decide +kernel
theorem dX10_init_77 : decode cX10_init 77 = .ok (.aload_n 0, 1) := by decide +kernel
theorem dX10_init_78 : decode cX10_init 78 = .ok (.sipush 8192, 3) := by decide +kernel
theorem dX10_init_81 : decode cX10_init 81 = .ok (.newarray .int, 2) := by decide +kernel
theorem dX10_init_83 : decode cX10_init 83 = .ok (.putfield 37, 3) := by decide +kernel
theorem dX10_init_86 : decode cX10_init 86 = .ok (.aload_n 0, 1) := by decide +kernel
theorem dX10_init_87 : decode cX10_init 87 = .ok (.bipush 24, 2) := by decide +kernel
theorem dX10_init_89 : decode cX10_init 89 = .ok (.newarray .int, 2) := by decide +kernel
theorem dX10_init_91 : decode cX10_init 91 = .ok (.putfield 40, 3) := by decide +kernel
theorem dX10_init_94 : decode cX10_init 94 = .ok (.aload_n 0, 1) := by decide +kernel
theorem dX10_init_95 : decode cX10_init 95 = .ok (.sipush 8192, 3) := by decide +kernel
theorem dX10_init_98 : decode cX10_init 98 = .ok (.newarray .boolean, 2) := by decide +kernel
theorem dX10_init_100 : decode cX10_init 100 = .ok (.putfield 43, 3) := by decide +kernel
theorem dX10_init_103 : decode cX10_init 103 = .ok (.aload_n 0, 1) := by decide +kernel
theorem dX10_init_104 : decode cX10_init 104 = .ok (.sipush 8192, 3) := by decide +kernel
theorem dX10_init_107 : decode cX10_init 107 = .ok (.newarray .boolean, 2) := by decide +kernel
theorem dX10_init_109 : decode cX10_init 109 = .ok (.putfield 47, 3) := by decide +kernel
theorem dX10_init_112 : decode cX10_init 112 = .ok (.aload_n 0, 1) := by decide +kernel
theorem dX10_init_113 : decode cX10_init 113 = .ok (.bipush 10, 2) := by decide +kernel
theorem dX10_init_115 : decode cX10_init 115 = .ok (.newarray .int, 2) := by decide +kernel
theorem dX10_init_117 : decode cX10_init 117 = .ok (.putfield 50, 3) := by decide +kernel
theorem dX10_init_120 : decode cX10_init 120 = .ok (.aload_n 0, 1) := by decide +kernel
theorem dX10_init_121 : decode cX10_init 121 = .ok (.bipush 120, 2) := by decide +kernel
theorem dX10_init_123 : decode cX10_init 123 = .ok (.newarray .int, 2) := by decide +kernel
theorem dX10_init_125 : decode cX10_init 125 = .ok (.putfield 53, 3) := by decide +kernel
theorem dX10_init_128 : decode cX10_init 128 = .ok (.aload_n 0, 1) := by decide +kernel
theorem dX10_init_129 : decode cX10_init 129 = .ok (.iconst 4, 1) := by decide +kernel
theorem dX10_init_130 : decode cX10_init 130 = .ok (.newarray .int, 2) := by decide +kernel
theorem dX10_init_132 : decode cX10_init 132 = .ok (.putfield 56, 3) := by decide +kernel
theorem dX10_init_135 : decode cX10_init 135 = .ok (.aload_n 0, 1) := by decide +kernel
theorem dX10_init_136 : decode cX10_init 136 = .ok (.iconst 4, 1) := by decide +kernel
theorem dX10_init_137 : decode cX10_init 137 = .ok (.newarray .int, 2) := by decide +kernel
theorem dX10_init_139 : decode cX10_init 139 = .ok (.putfield 59, 3) := by decide +kernel
theorem dX10_init_142 : decode cX10_init 142 = .ok (.aload_n 0, 1) := by decide +kernel
theorem dX10_init_143 : decode cX10_init 143 = .ok (.sipush 160, 3) := by decide +kernel
theorem dX10_init_146 : decode cX10_init 146 = .ok (.newarray .int, 2) := by decide +kernel
theorem dX10_init_148 : decode cX10_init 148 = .ok (.putfield 62, 3) := by decide +kernel
theorem dX10_init_151 : decode cX10_init 151 = .ok (.aload_n 0, 1) := by decide +kernel
theorem dX10_init_152 : decode cX10_init 152 = .ok (.bipush 40, 2) := by decide +kernel
theorem dX10_init_154 : decode cX10_init 154 = .ok (.newarray .int, 2) := by decide +kernel
theorem dX10_init_156 : decode cX10_init 156 = .ok (.putfield 65, 3) := by decide +kernel
theorem dX10_init_159 : decode cX10_init 159 = .ok (.aload_n 0, 1) := by decide +kernel
theorem dX10_init_160 : decode cX10_init 160 = .ok (.getfield 7, 3) := by decide +kernel
theorem dX10_init_163 : decode cX10_init 163 = .ok (.sipush 284, 3) := by decide +kernel
theorem dX10_init_166 : decode cX10_init 166 = .ok (.iconst 1, 1) := by decide +kernel
theorem dX10_init_167 : decode cX10_init 167 = .ok (.iastore, 1) := by decide +kernel
theorem dX10_init_168 : decode cX10_init 168 = .ok (.iconst 0, 1) := by decide +kernel
theorem dX10_init_169 : decode cX10_init 169 = .ok (.istore_n 1, 1) := by decide +kernel
theorem dX10_init_170 : decode cX10_init 170 = .ok (.iload_n 1, 1) := by decide +kernel
theorem dX10_init_171 : decode cX10_init 171 = .ok (.bipush 10, 2) := by decide +kernel
theorem dX10_init_173 : decode cX10_init 173 = .ok (.if_icmp .ge 20, 3) := by decide +kernel
theorem dX10_init_176 : decode cX10_init 176 = .ok (.aload_n 0, 1) := by decide +kernel
theorem dX10_init_177 : decode cX10_init 177 = .ok (.getfield 7, 3) := by decide +kernel
theorem dX10_init_180 : decode cX10_init 180 = .ok (.sipush 274, 3) := by decide +kernel
theorem dX10_init_183 : decode cX10_init 183 = .ok (.iload_n 1, 1) := by decide +kernel
theorem dX10_init_184 : decode cX10_init 184 = .ok (.iadd, 1) := by decide +kernel
theorem dX10_init_185 : decode cX10_init 185 = .ok (.iconst (-1), 1) := by decide +kernel
theorem dX10_init_186 : decode cX10_init 186 = .ok (.iastore, 1) := by decide +kernel
theorem dX10_init_187 : decode cX10_init 187 = .ok (.iinc 1 1, 3) := by decide +kernel
theorem dX10_init_190 : decode cX10_init 190 = .ok (.goto (-20), 3) := by decide +kernel
theorem dX10_init_193 : decode cX10_init 193 = .ok (.iconst 0, 1) := by decide +kernel
theorem dX10_init_194 : decode cX10_init 194 = .ok (.istore_n 1, 1) := by decide +kernel
theorem dX10_init_195 : decode cX10_init 195 = .ok (.iload_n 1, 1) := by decide +kernel
theorem dX10_init_196 : decode cX10_init 196 = .ok (.bipush 6, 2) := by decide +kernel
theorem dX10_init_198 : decode cX10_init 198 = .ok (.if_icmp .ge 20, 3) := by decide +kernel
theorem dX10_init_201 : decode cX10_init 201 = .ok (.aload_n 0, 1) := by decide +kernel
theorem dX10_init_202 : decode cX10_init 202 = .ok (.getfield 7, 3) := by decide +kernel
theorem dX10_init_205 : decode cX10_init 205 = .ok (.sipush 331, 3) := by decide +kernel
theorem dX10_init_208 : decode cX10_init 208 = .ok (.iload_n 1, 1) := by decide +kernel
theorem dX10_init_209 : decode cX10_init 209 = .ok (.iadd, 1) := by decide +kernel
theorem dX10_init_210 : decode cX10_init 210 = .ok (.iconst (-1), 1) := by decide +kernel
theorem dX10_init_211 : decode cX10_init 211 = .ok (.iastore, 1) := by decide +kernel
theorem dX10_init_212 : decode cX10_init 212 = .ok (.iinc 1 1, 3) := by decide +kernel
theorem dX10_init_215 : decode cX10_init 215 = .ok (.goto (-20), 3) := by decide +kernel
theorem dX10_init_218 : decode cX10_init 218 = .ok (.return_, 1) := by decide +kernel
theorem dX10_in_0 : decode cX10_in 0 = .ok (.lload_n 0, 1) := by decide +kernel
theorem dX10_in_1 : decode cX10_in 1 = .ok (.lload_n 2, 1) := by decide +kernel
theorem dX10_in_2 : decode cX10_in 2 = .ok (.lcmp, 1) := by decide +kernel
theorem dX10_in_3 : decode cX10_in 3 = .ok (.ifCond .lt 14, 3) := by decide +kernel
theorem dX10_in_6 : decode cX10_in 6 = .ok (.lload_n 0, 1) := by decide +kernel
theorem dX10_in_7 : decode cX10_in 7 = .ok (.lload 4, 2) := by decide +kernel
theorem dX10_in_9 : decode cX10_in 9 = .ok (.lcmp, 1) := by decide +kernel
theorem dX10_in_10 : decode cX10_in 10 = .ok (.ifCond .gt 7, 3) := by decide +kernel
theorem dX10_in_13 : decode cX10_in 13 = .ok (.iconst 1, 1) := by decide +kernel
theorem dX10_in_14 : decode cX10_in 14 = .ok (.goto 4, 3) := by decide +kernel
theorem dX10_in_17 : decode cX10_in 17 = .ok (.iconst 0, 1) := by decide +kernel
theorem dX10_in_18 : decode cX10_in 18 = .ok (.ireturn, 1) := by decide +kernel
theorem dX10_has_0 : decode cX10_has 0 = .ok (.iload_n 0, 1) := by decide +kernel
theorem dX10_has_1 : decode cX10_has 1 = .ok (.iload_n 1, 1) := by decide +kernel
theorem dX10_has_2 : decode cX10_has 2 = .ok (.ishr, 1) := by decide +kernel
theorem dX10_has_3 : decode cX10_has 3 = .ok (.iconst 1, 1) := by decide +kernel
theorem dX10_has_4 : decode cX10_has 4 = .ok (.iand, 1) := by decide +kernel
theorem dX10_has_5 : decode cX10_has 5 = .ok (.iconst 1, 1) := by decide +kernel
theorem dX10_has_6 : decode cX10_has 6 = .ok (.if_icmp .ne 7, 3) := by decide +kernel
theorem dX10_has_9 : decode cX10_has 9 = .ok (.iconst 1, 1) := by decide +kernel
theorem dX10_has_10 : decode cX10_has 10 = .ok (.goto 4, 3) := by decide +kernel
theorem dX10_has_13 : decode cX10_has 13 = .ok (.iconst 0, 1) := by decide +kernel
theorem dX10_has_14 : decode cX10_has 14 = .ok (.ireturn, 1) := by decide +kernel
theorem dX10_finds_0 : decode cX10_finds 0 = .ok (.aload_n 0, 1) := by decide +kernel
theorem dX10_finds_1 : decode cX10_finds 1 = .ok (.getfield 19, 3) := by decide +kernel
theorem dX10_finds_4 : decode cX10_finds 4 = .ok (.ldc 68, 2) := by decide +kernel
theorem dX10_finds_6 : decode cX10_finds 6 = .ok (.iload_n 1, 1) := by decide +kernel
theorem dX10_finds_7 : decode cX10_finds 7 = .ok (.isub, 1) := by decide +kernel
theorem dX10_finds_8 : decode cX10_finds 8 = .ok (.dup2, 1) := by decide +kernel
theorem dX10_finds_9 : decode cX10_finds 9 = .ok (.iaload, 1) := by decide +kernel
theorem dX10_finds_10 : decode cX10_finds 10 = .ok (.iconst 1, 1) := by decide +kernel
theorem dX10_finds_11 : decode cX10_finds 11 = .ok (.iadd, 1) := by decide +kernel
theorem dX10_finds_12 : decode cX10_finds 12 = .ok (.iastore, 1) := by decide +kernel
theorem dX10_finds_13 : decode cX10_finds 13 = .ok (.iload_n 1, 1) := by decide +kernel
theorem dX10_finds_14 : decode cX10_finds 14 = .ok (.ireturn, 1) := by decide +kernel
theorem dX10_isPerson_0 : decode cX10_isPerson 0 = .ok (.iload_n 0, 1) := by decide +kernel
theorem dX10_isPerson_1 : decode cX10_isPerson 1 = .ok (.i2l, 1) := by decide +kernel
theorem dX10_isPerson_2 : decode cX10_isPerson 2 = .ok (.lconst 0, 1) := by decide +kernel
theorem dX10_isPerson_3 : decode cX10_isPerson 3 = .ok (.ldc2_w 69, 3) := by decide +kernel
theorem dX10_isPerson_6 : decode cX10_isPerson 6 = .ok (.invokestatic 71, 3) := by decide +kernel
theorem dX10_isPerson_9 : decode cX10_isPerson 9 = .ok (.ireturn, 1) := by decide +kernel
theorem dX10_isPlace_0 : decode cX10_isPlace 0 = .ok (.iload_n 0, 1) := by decide +kernel
theorem dX10_isPlace_1 : decode cX10_isPlace 1 = .ok (.i2l, 1) := by decide +kernel
theorem dX10_isPlace_2 : decode cX10_isPlace 2 = .ok (.lconst 0, 1) := by decide +kernel
theorem dX10_isPlace_3 : decode cX10_isPlace 3 = .ok (.ldc2_w 75, 3) := by decide +kernel
theorem dX10_isPlace_6 : decode cX10_isPlace 6 = .ok (.invokestatic 71, 3) := by decide +kernel
theorem dX10_isPlace_9 : decode cX10_isPlace 9 = .ok (.ireturn, 1) := by decide +kernel
theorem dX10_isDay_0 : decode cX10_isDay 0 = .ok (.iload_n 0, 1) := by decide +kernel
theorem dX10_isDay_1 : decode cX10_isDay 1 = .ok (.i2l, 1) := by decide +kernel
theorem dX10_isDay_2 : decode cX10_isDay 2 = .ok (.lconst 0, 1) := by decide +kernel
theorem dX10_isDay_3 : decode cX10_isDay 3 = .ok (.ldc2_w 77, 3) := by decide +kernel
theorem dX10_isDay_6 : decode cX10_isDay 6 = .ok (.invokestatic 71, 3) := by decide +kernel
theorem dX10_isDay_9 : decode cX10_isDay 9 = .ok (.ireturn, 1) := by decide +kernel
theorem dX10_isWhen_0 : decode cX10_isWhen 0 = .ok (.iload_n 0, 1) := by decide +kernel
theorem dX10_isWhen_1 : decode cX10_isWhen 1 = .ok (.i2l, 1) := by decide +kernel
theorem dX10_isWhen_2 : decode cX10_isWhen 2 = .ok (.lconst 0, 1) := by decide +kernel
theorem dX10_isWhen_3 : decode cX10_isWhen 3 = .ok (.ldc2_w 79, 3) := by decide +kernel
theorem dX10_isWhen_6 : decode cX10_isWhen 6 = .ok (.invokestatic 71, 3) := by decide +kernel
theorem dX10_isWhen_9 : decode cX10_isWhen 9 = .ok (.ifCond .eq 16, 3) := by decide +kernel
theorem dX10_isWhen_12 : decode cX10_isWhen 12 = .ok (.iload_n 0, 1) := by decide +kernel
theorem dX10_isWhen_13 : decode cX10_isWhen 13 = .ok (.bipush 100, 2) := by decide +kernel
theorem dX10_isWhen_15 : decode cX10_isWhen 15 = .ok (.irem, 1) := by decide +kernel
theorem dX10_isWhen_16 : decode cX10_isWhen 16 = .ok (.bipush 23, 2) := by decide +kernel
theorem dX10_isWhen_18 : decode cX10_isWhen 18 = .ok (.if_icmp .gt 7, 3) := by decide +kernel
theorem dX10_isWhen_21 : decode cX10_isWhen 21 = .ok (.iconst 1, 1) := by decide +kernel
theorem dX10_isWhen_22 : decode cX10_isWhen 22 = .ok (.goto 4, 3) := by decide +kernel
theorem dX10_isWhen_25 : decode cX10_isWhen 25 = .ok (.iconst 0, 1) := by decide +kernel
theorem dX10_isWhen_26 : decode cX10_isWhen 26 = .ok (.ireturn, 1) := by decide +kernel
theorem dX10_isTerm_0 : decode cX10_isTerm 0 = .ok (.iload_n 1, 1) := by decide +kernel
theorem dX10_isTerm_1 : decode cX10_isTerm 1 = .ok (.i2l, 1) := by decide +kernel
theorem dX10_isTerm_2 : decode cX10_isTerm 2 = .ok (.lconst 0, 1) := by decide +kernel
theorem dX10_isTerm_3 : decode cX10_isTerm 3 = .ok (.aload_n 0, 1) := by decide +kernel
theorem dX10_isTerm_4 : decode cX10_isTerm 4 = .ok (.getfield 7, 3) := by decide +kernel
theorem dX10_isTerm_7 : decode cX10_isTerm 7 = .ok (.sipush 189, 3) := by decide +kernel
theorem dX10_isTerm_10 : decode cX10_isTerm 10 = .ok (.iaload, 1) := by decide +kernel
theorem dX10_isTerm_11 : decode cX10_isTerm 11 = .ok (.iconst 1, 1) := by decide +kernel
theorem dX10_isTerm_12 : decode cX10_isTerm 12 = .ok (.isub, 1) := by decide +kernel
theorem dX10_isTerm_13 : decode cX10_isTerm 13 = .ok (.i2l, 1) := by decide +kernel
theorem dX10_isTerm_14 : decode cX10_isTerm 14 = .ok (.invokestatic 71, 3) := by decide +kernel
theorem dX10_isTerm_17 : decode cX10_isTerm 17 = .ok (.ireturn, 1) := by decide +kernel
theorem dX10_of_0 : decode cX10_of 0 = .ok (.aload_n 0, 1) := by decide +kernel
theorem dX10_of_1 : decode cX10_of 1 = .ok (.getfield 7, 3) := by decide +kernel
theorem dX10_of_4 : decode cX10_of 4 = .ok (.sipush 190, 3) := by decide +kernel
theorem dX10_of_7 : decode cX10_of 7 = .ok (.bipush 7, 2) := by decide +kernel
theorem dX10_of_9 : decode cX10_of 9 = .ok (.iload_n 1, 1) := by decide +kernel
theorem dX10_of_10 : decode cX10_of 10 = .ok (.imul, 1) := by decide +kernel
theorem dX10_of_11 : decode cX10_of 11 = .ok (.iadd, 1) := by decide +kernel
theorem dX10_of_12 : decode cX10_of 12 = .ok (.iload_n 2, 1) := by decide +kernel
theorem dX10_of_13 : decode cX10_of 13 = .ok (.iadd, 1) := by decide +kernel
theorem dX10_of_14 : decode cX10_of 14 = .ok (.iaload, 1) := by decide +kernel
theorem dX10_of_15 : decode cX10_of 15 = .ok (.ireturn, 1) := by decide +kernel
theorem dX10_next_0 : decode cX10_next 0 = .ok (.aload_n 0, 1) := by decide +kernel
theorem dX10_next_1 : decode cX10_next 1 = .ok (.getfield 7, 3) := by decide +kernel
theorem dX10_next_4 : decode cX10_next 4 = .ok (.sipush 284, 3) := by decide +kernel
theorem dX10_next_7 : decode cX10_next 7 = .ok (.aload_n 0, 1) := by decide +kernel
theorem dX10_next_8 : decode cX10_next 8 = .ok (.getfield 7, 3) := by decide +kernel
theorem dX10_next_11 : decode cX10_next 11 = .ok (.sipush 284, 3) := by decide +kernel
theorem dX10_next_14 : decode cX10_next 14 = .ok (.iaload, 1) := by decide +kernel
theorem dX10_next_15 : decode cX10_next 15 = .ok (.ldc 81, 2) := by decide +kernel
theorem dX10_next_17 : decode cX10_next 17 = .ok (.imul, 1) := by decide +kernel
theorem dX10_next_18 : decode cX10_next 18 = .ok (.sipush 12345, 3) := by decide +kernel
theorem dX10_next_21 : decode cX10_next 21 = .ok (.iadd, 1) := by decide +kernel
theorem dX10_next_22 : decode cX10_next 22 = .ok (.iastore, 1) := by decide +kernel
theorem dX10_next_23 : decode cX10_next 23 = .ok (.aload_n 0, 1) := by decide +kernel
theorem dX10_next_24 : decode cX10_next 24 = .ok (.getfield 7, 3) := by decide +kernel
theorem dX10_next_27 : decode cX10_next 27 = .ok (.sipush 284, 3) := by decide +kernel
theorem dX10_next_30 : decode cX10_next 30 = .ok (.iaload, 1) := by decide +kernel
theorem dX10_next_31 : decode cX10_next 31 = .ok (.bipush 8, 2) := by decide +kernel
theorem dX10_next_33 : decode cX10_next 33 = .ok (.iushr, 1) := by decide +kernel
theorem dX10_next_34 : decode cX10_next 34 = .ok (.ireturn, 1) := by decide +kernel
theorem dX10_road_0 : decode cX10_road 0 = .ok (.iload_n 1, 1) := by decide +kernel
theorem dX10_road_1 : decode cX10_road 1 = .ok (.invokestatic 82, 3) := by decide +kernel
theorem dX10_road_4 : decode cX10_road 4 = .ok (.ifCond .eq 15, 3) := by decide +kernel
theorem dX10_road_7 : decode cX10_road 7 = .ok (.iload_n 2, 1) := by decide +kernel
theorem dX10_road_8 : decode cX10_road 8 = .ok (.invokestatic 82, 3) := by decide +kernel
theorem dX10_road_11 : decode cX10_road 11 = .ok (.ifCond .eq 8, 3) := by decide +kernel
theorem dX10_road_14 : decode cX10_road 14 = .ok (.iload_n 1, 1) := by decide +kernel
theorem dX10_road_15 : decode cX10_road 15 = .ok (.iload_n 2, 1) := by decide +kernel
theorem dX10_road_16 : decode cX10_road 16 = .ok (.if_icmp .ne 10, 3) := by decide +kernel
theorem dX10_road_19 : decode cX10_road 19 = .ok (.aload_n 0, 1) := by decide +kernel
theorem dX10_road_20 : decode cX10_road 20 = .ok (.ldc 68, 2) := by decide +kernel
theorem dX10_road_22 : decode cX10_road 22 = .ok (.invokevirtual 86, 3) := by decide +kernel
theorem dX10_road_25 : decode cX10_road 25 = .ok (.ireturn, 1) := by decide +kernel
theorem dX10_road_26 : decode cX10_road 26 = .ok (.aload_n 0, 1) := by decide +kernel
theorem dX10_road_27 : decode cX10_road 27 = .ok (.getfield 7, 3) := by decide +kernel
theorem dX10_road_30 : decode cX10_road 30 = .ok (.iconst 0, 1) := by decide +kernel
theorem dX10_road_31 : decode cX10_road 31 = .ok (.iload_n 1, 1) := by decide +kernel
theorem dX10_road_32 : decode cX10_road 32 = .ok (.iadd, 1) := by decide +kernel
theorem dX10_road_33 : decode cX10_road 33 = .ok (.iaload, 1) := by decide +kernel
theorem dX10_road_34 : decode cX10_road 34 = .ok (.iload_n 2, 1) := by decide +kernel
theorem dX10_road_35 : decode cX10_road 35 = .ok (.ishr, 1) := by decide +kernel
theorem dX10_road_36 : decode cX10_road 36 = .ok (.iconst 1, 1) := by decide +kernel
theorem dX10_road_37 : decode cX10_road 37 = .ok (.iand, 1) := by decide +kernel
theorem dX10_road_38 : decode cX10_road 38 = .ok (.istore 4, 2) := by decide +kernel
theorem dX10_road_40 : decode cX10_road 40 = .ok (.aload_n 0, 1) := by decide +kernel
theorem dX10_road_41 : decode cX10_road 41 = .ok (.getfield 7, 3) := by decide +kernel
theorem dX10_road_44 : decode cX10_road 44 = .ok (.iconst 0, 1) := by decide +kernel
theorem dX10_road_45 : decode cX10_road 45 = .ok (.iload_n 1, 1) := by decide +kernel
theorem dX10_road_46 : decode cX10_road 46 = .ok (.iadd, 1) := by decide +kernel
theorem dX10_road_47 : decode cX10_road 47 = .ok (.iload_n 3, 1) := by decide +kernel
theorem dX10_road_48 : decode cX10_road 48 = .ok (.ifCond .eq 18, 3) := by decide +kernel
theorem dX10_road_51 : decode cX10_road 51 = .ok (.aload_n 0, 1) := by decide +kernel
theorem dX10_road_52 : decode cX10_road 52 = .ok (.getfield 7, 3) := by decide +kernel
theorem dX10_road_55 : decode cX10_road 55 = .ok (.iconst 0, 1) := by decide +kernel
theorem dX10_road_56 : decode cX10_road 56 = .ok (.iload_n 1, 1) := by decide +kernel
theorem dX10_road_57 : decode cX10_road 57 = .ok (.iadd, 1) := by decide +kernel
theorem dX10_road_58 : decode cX10_road 58 = .ok (.iaload, 1) := by decide +kernel
theorem dX10_road_59 : decode cX10_road 59 = .ok (.iconst 1, 1) := by decide +kernel
theorem dX10_road_60 : decode cX10_road 60 = .ok (.iload_n 2, 1) := by decide +kernel
theorem dX10_road_61 : decode cX10_road 61 = .ok (.ishl, 1) := by decide +kernel
theorem dX10_road_62 : decode cX10_road 62 = .ok (.ior, 1) := by decide +kernel
theorem dX10_road_63 : decode cX10_road 63 = .ok (.goto 17, 3) := by decide +kernel
theorem dX10_road_66 : decode cX10_road 66 = .ok (.aload_n 0, 1) := by decide +kernel
theorem dX10_road_67 : decode cX10_road 67 = .ok (.getfield 7, 3) := by decide +kernel
theorem dX10_road_70 : decode cX10_road 70 = .ok (.iconst 0, 1) := by decide +kernel
theorem dX10_road_71 : decode cX10_road 71 = .ok (.iload_n 1, 1) := by decide +kernel
theorem dX10_road_72 : decode cX10_road 72 = .ok (.iadd, 1) := by decide +kernel
theorem dX10_road_73 : decode cX10_road 73 = .ok (.iaload, 1) := by decide +kernel
theorem dX10_road_74 : decode cX10_road 74 = .ok (.iconst 1, 1) := by decide +kernel
theorem dX10_road_75 : decode cX10_road 75 = .ok (.iload_n 2, 1) := by decide +kernel
theorem dX10_road_76 : decode cX10_road 76 = .ok (.ishl, 1) := by decide +kernel
theorem dX10_road_77 : decode cX10_road 77 = .ok (.iconst (-1), 1) := by decide +kernel
theorem dX10_road_78 : decode cX10_road 78 = .ok (.ixor, 1) := by decide +kernel
theorem dX10_road_79 : decode cX10_road 79 = .ok (.iand, 1) := by decide +kernel
theorem dX10_road_80 : decode cX10_road 80 = .ok (.iastore, 1) := by decide +kernel
theorem dX10_road_81 : decode cX10_road 81 = .ok (.aload_n 0, 1) := by decide +kernel
theorem dX10_road_82 : decode cX10_road 82 = .ok (.getfield 7, 3) := by decide +kernel
theorem dX10_road_85 : decode cX10_road 85 = .ok (.iconst 0, 1) := by decide +kernel
theorem dX10_road_86 : decode cX10_road 86 = .ok (.iload_n 2, 1) := by decide +kernel
theorem dX10_road_87 : decode cX10_road 87 = .ok (.iadd, 1) := by decide +kernel
theorem dX10_road_88 : decode cX10_road 88 = .ok (.iload_n 3, 1) := by decide +kernel
theorem dX10_road_89 : decode cX10_road 89 = .ok (.ifCond .eq 18, 3) := by decide +kernel
theorem dX10_road_92 : decode cX10_road 92 = .ok (.aload_n 0, 1) := by decide +kernel
theorem dX10_road_93 : decode cX10_road 93 = .ok (.getfield 7, 3) := by decide +kernel
theorem dX10_road_96 : decode cX10_road 96 = .ok (.iconst 0, 1) := by decide +kernel
theorem dX10_road_97 : decode cX10_road 97 = .ok (.iload_n 2, 1) := by decide +kernel
theorem dX10_road_98 : decode cX10_road 98 = .ok (.iadd, 1) := by decide +kernel
theorem dX10_road_99 : decode cX10_road 99 = .ok (.iaload, 1) := by decide +kernel
theorem dX10_road_100 : decode cX10_road 100 = .ok (.iconst 1, 1) := by decide +kernel
theorem dX10_road_101 : decode cX10_road 101 = .ok (.iload_n 1, 1) := by decide +kernel
theorem dX10_road_102 : decode cX10_road 102 = .ok (.ishl, 1) := by decide +kernel
theorem dX10_road_103 : decode cX10_road 103 = .ok (.ior, 1) := by decide +kernel
theorem dX10_road_104 : decode cX10_road 104 = .ok (.goto 17, 3) := by decide +kernel
theorem dX10_road_107 : decode cX10_road 107 = .ok (.aload_n 0, 1) := by decide +kernel
theorem dX10_road_108 : decode cX10_road 108 = .ok (.getfield 7, 3) := by decide +kernel
theorem dX10_road_111 : decode cX10_road 111 = .ok (.iconst 0, 1) := by decide +kernel
theorem dX10_road_112 : decode cX10_road 112 = .ok (.iload_n 2, 1) := by decide +kernel
theorem dX10_road_113 : decode cX10_road 113 = .ok (.iadd, 1) := by decide +kernel
theorem dX10_road_114 : decode cX10_road 114 = .ok (.iaload, 1) := by decide +kernel
theorem dX10_road_115 : decode cX10_road 115 = .ok (.iconst 1, 1) := by decide +kernel
theorem dX10_road_116 : decode cX10_road 116 = .ok (.iload_n 1, 1) := by decide +kernel
theorem dX10_road_117 : decode cX10_road 117 = .ok (.ishl, 1) := by decide +kernel
theorem dX10_road_118 : decode cX10_road 118 = .ok (.iconst (-1), 1) := by decide +kernel
theorem dX10_road_119 : decode cX10_road 119 = .ok (.ixor, 1) := by decide +kernel
theorem dX10_road_120 : decode cX10_road 120 = .ok (.iand, 1) := by decide +kernel
theorem dX10_road_121 : decode cX10_road 121 = .ok (.iastore, 1) := by decide +kernel
theorem dX10_road_122 : decode cX10_road 122 = .ok (.iload 4, 2) := by decide +kernel
theorem dX10_road_124 : decode cX10_road 124 = .ok (.ireturn, 1) := by decide +kernel
theorem dX10_roads_0 : decode cX10_roads 0 = .ok (.iload_n 1, 1) := by decide +kernel
theorem dX10_roads_1 : decode cX10_roads 1 = .ok (.invokestatic 82, 3) := by decide +kernel
theorem dX10_roads_4 : decode cX10_roads 4 = .ok (.ifCond .eq 14, 3) := by decide +kernel
theorem dX10_roads_7 : decode cX10_roads 7 = .ok (.aload_n 0, 1) := by decide +kernel
theorem dX10_roads_8 : decode cX10_roads 8 = .ok (.getfield 7, 3) := by decide +kernel
theorem dX10_roads_11 : decode cX10_roads 11 = .ok (.iconst 0, 1) := by decide +kernel
theorem dX10_roads_12 : decode cX10_roads 12 = .ok (.iload_n 1, 1) := by decide +kernel
theorem dX10_roads_13 : decode cX10_roads 13 = .ok (.iadd, 1) := by decide +kernel
theorem dX10_roads_14 : decode cX10_roads 14 = .ok (.iaload, 1) := by decide +kernel
theorem dX10_roads_15 : decode cX10_roads 15 = .ok (.goto 9, 3) := by decide +kernel
theorem dX10_roads_18 : decode cX10_roads 18 = .ok (.aload_n 0, 1) := by decide +kernel
theorem dX10_roads_19 : decode cX10_roads 19 = .ok (.ldc 68, 2) := by decide +kernel
theorem dX10_roads_21 : decode cX10_roads 21 = .ok (.invokevirtual 86, 3) := by decide +kernel
theorem dX10_roads_24 : decode cX10_roads 24 = .ok (.ireturn, 1) := by decide +kernel
theorem dX10_further_0 : decode cX10_further 0 = .ok (.iload_n 1, 1) := by decide +kernel
theorem dX10_further_1 : decode cX10_further 1 = .ok (.istore_n 2, 1) := by decide +kernel
theorem dX10_further_2 : decode cX10_further 2 = .ok (.iconst 0, 1) := by decide +kernel
theorem dX10_further_3 : decode cX10_further 3 = .ok (.istore_n 3, 1) := by decide +kernel
theorem dX10_further_4 : decode cX10_further 4 = .ok (.iload_n 3, 1) := by decide +kernel
theorem dX10_further_5 : decode cX10_further 5 = .ok (.bipush 8, 2) := by decide +kernel
theorem dX10_further_7 : decode cX10_further 7 = .ok (.if_icmp .ge 32, 3) := by decide +kernel
theorem dX10_further_10 : decode cX10_further 10 = .ok (.iload_n 2, 1) := by decide +kernel
theorem dX10_further_11 : decode cX10_further 11 = .ok (.iload_n 1, 1) := by decide +kernel
theorem dX10_further_12 : decode cX10_further 12 = .ok (.iload_n 3, 1) := by decide +kernel
theorem dX10_further_13 : decode cX10_further 13 = .ok (.invokestatic 90, 3) := by decide +kernel
theorem dX10_further_16 : decode cX10_further 16 = .ok (.ifCond .eq 14, 3) := by decide +kernel
theorem dX10_further_19 : decode cX10_further 19 = .ok (.aload_n 0, 1) := by decide +kernel
theorem dX10_further_20 : decode cX10_further 20 = .ok (.getfield 7, 3) := by decide +kernel
theorem dX10_further_23 : decode cX10_further 23 = .ok (.iconst 0, 1) := by decide +kernel
theorem dX10_further_24 : decode cX10_further 24 = .ok (.iload_n 3, 1) := by decide +kernel
theorem dX10_further_25 : decode cX10_further 25 = .ok (.iadd, 1) := by decide +kernel
theorem dX10_further_26 : decode cX10_further 26 = .ok (.iaload, 1) := by decide +kernel
theorem dX10_further_27 : decode cX10_further 27 = .ok (.goto 4, 3) := by decide +kernel
theorem dX10_further_30 : decode cX10_further 30 = .ok (.iconst 0, 1) := by decide +kernel
theorem dX10_further_31 : decode cX10_further 31 = .ok (.ior, 1) := by decide +kernel
theorem dX10_further_32 : decode cX10_further 32 = .ok (.istore_n 2, 1) := by decide +kernel
theorem dX10_further_33 : decode cX10_further 33 = .ok (.iinc 3 1, 3) := by decide +kernel
theorem dX10_further_36 : decode cX10_further 36 = .ok (.goto (-32), 3) := by decide +kernel
theorem dX10_further_39 : decode cX10_further 39 = .ok (.iload_n 2, 1) := by decide +kernel
theorem dX10_further_40 : decode cX10_further 40 = .ok (.ireturn, 1) := by decide +kernel
theorem dX10_far_0 : decode cX10_far 0 = .ok (.iload_n 1, 1) := by decide +kernel
theorem dX10_far_1 : decode cX10_far 1 = .ok (.invokestatic 82, 3) := by decide +kernel
theorem dX10_far_4 : decode cX10_far 4 = .ok (.ifCond .eq 10, 3) := by decide +kernel
theorem dX10_far_7 : decode cX10_far 7 = .ok (.iload_n 2, 1) := by decide +kernel
theorem dX10_far_8 : decode cX10_far 8 = .ok (.invokestatic 82, 3) := by decide +kernel
theorem dX10_far_11 : decode cX10_far 11 = .ok (.ifCond .ne 10, 3) := by decide +kernel
theorem dX10_far_14 : decode cX10_far 14 = .ok (.aload_n 0, 1) := by decide +kernel
theorem dX10_far_15 : decode cX10_far 15 = .ok (.ldc 68, 2) := by decide +kernel
theorem dX10_far_17 : decode cX10_far 17 = .ok (.invokevirtual 86, 3) := by decide +kernel
theorem dX10_far_20 : decode cX10_far 20 = .ok (.ireturn, 1) := by decide +kernel
theorem dX10_far_21 : decode cX10_far 21 = .ok (.iconst 1, 1) := by decide +kernel
theorem dX10_far_22 : decode cX10_far 22 = .ok (.iload_n 1, 1) := by decide +kernel
theorem dX10_far_23 : decode cX10_far 23 = .ok (.ishl, 1) := by decide +kernel
theorem dX10_far_24 : decode cX10_far 24 = .ok (.istore_n 3, 1) := by decide +kernel
theorem dX10_far_25 : decode cX10_far 25 = .ok (.iconst 0, 1) := by decide +kernel
theorem dX10_far_26 : decode cX10_far 26 = .ok (.istore 4, 2) := by decide +kernel
theorem dX10_far_28 : decode cX10_far 28 = .ok (.iload 4, 2) := by decide +kernel
theorem dX10_far_30 : decode cX10_far 30 = .ok (.bipush 8, 2) := by decide +kernel
theorem dX10_far_32 : decode cX10_far 32 = .ok (.if_icmp .ge 26, 3) := by decide +kernel
theorem dX10_far_35 : decode cX10_far 35 = .ok (.iload_n 3, 1) := by decide +kernel
theorem dX10_far_36 : decode cX10_far 36 = .ok (.iload_n 2, 1) := by decide +kernel
theorem dX10_far_37 : decode cX10_far 37 = .ok (.invokestatic 90, 3) := by decide +kernel
theorem dX10_far_40 : decode cX10_far 40 = .ok (.ifCond .eq 6, 3) := by decide +kernel
theorem dX10_far_43 : decode cX10_far 43 = .ok (.iload 4, 2) := by decide +kernel
theorem dX10_far_45 : decode cX10_far 45 = .ok (.ireturn, 1) := by decide +kernel
theorem dX10_far_46 : decode cX10_far 46 = .ok (.aload_n 0, 1) := by decide +kernel
theorem dX10_far_47 : decode cX10_far 47 = .ok (.iload_n 3, 1) := by decide +kernel
theorem dX10_far_48 : decode cX10_far 48 = .ok (.invokevirtual 94, 3) := by decide +kernel
theorem dX10_far_51 : decode cX10_far 51 = .ok (.istore_n 3, 1) := by decide +kernel
theorem dX10_far_52 : decode cX10_far 52 = .ok (.iinc 4 1, 3) := by decide +kernel
theorem dX10_far_55 : decode cX10_far 55 = .ok (.goto (-27), 3) := by decide +kernel
theorem dX10_far_58 : decode cX10_far 58 = .ok (.aload_n 0, 1) := by decide +kernel
theorem dX10_far_59 : decode cX10_far 59 = .ok (.ldc 97, 2) := by decide +kernel
theorem dX10_far_61 : decode cX10_far 61 = .ok (.invokevirtual 86, 3) := by decide +kernel
theorem dX10_far_64 : decode cX10_far 64 = .ok (.ireturn, 1) := by decide +kernel
theorem dX10_sees_0 : decode cX10_sees 0 = .ok (.bipush 9, 2) := by decide +kernel
theorem dX10_sees_2 : decode cX10_sees 2 = .ok (.iconst 3, 1) := by decide +kernel
theorem dX10_sees_3 : decode cX10_sees 3 = .ok (.aload_n 0, 1) := by decide +kernel
theorem dX10_sees_4 : decode cX10_sees 4 = .ok (.getfield 7, 3) := by decide +kernel
theorem dX10_sees_7 : decode cX10_sees 7 = .ok (.bipush 8, 2) := by decide +kernel
theorem dX10_sees_9 : decode cX10_sees 9 = .ok (.iaload, 1) := by decide +kernel
theorem dX10_sees_10 : decode cX10_sees 10 = .ok (.imul, 1) := by decide +kernel
theorem dX10_sees_11 : decode cX10_sees 11 = .ok (.iadd, 1) := by decide +kernel
theorem dX10_sees_12 : decode cX10_sees 12 = .ok (.istore 4, 2) := by decide +kernel
theorem dX10_sees_14 : decode cX10_sees 14 = .ok (.aload_n 0, 1) := by decide +kernel
theorem dX10_sees_15 : decode cX10_sees 15 = .ok (.getfield 7, 3) := by decide +kernel
theorem dX10_sees_18 : decode cX10_sees 18 = .ok (.iload 4, 2) := by decide +kernel
theorem dX10_sees_20 : decode cX10_sees 20 = .ok (.iload_n 1, 1) := by decide +kernel
theorem dX10_sees_21 : decode cX10_sees 21 = .ok (.iastore, 1) := by decide +kernel
theorem dX10_sees_22 : decode cX10_sees 22 = .ok (.aload_n 0, 1) := by decide +kernel
theorem dX10_sees_23 : decode cX10_sees 23 = .ok (.getfield 7, 3) := by decide +kernel
theorem dX10_sees_26 : decode cX10_sees 26 = .ok (.iload 4, 2) := by decide +kernel
theorem dX10_sees_28 : decode cX10_sees 28 = .ok (.iconst 1, 1) := by decide +kernel
theorem dX10_sees_29 : decode cX10_sees 29 = .ok (.iadd, 1) := by decide +kernel
theorem dX10_sees_30 : decode cX10_sees 30 = .ok (.iload_n 2, 1) := by decide +kernel
theorem dX10_sees_31 : decode cX10_sees 31 = .ok (.iastore, 1) := by decide +kernel
theorem dX10_sees_32 : decode cX10_sees 32 = .ok (.aload_n 0, 1) := by decide +kernel
theorem dX10_sees_33 : decode cX10_sees 33 = .ok (.getfield 7, 3) := by decide +kernel
theorem dX10_sees_36 : decode cX10_sees 36 = .ok (.iload 4, 2) := by decide +kernel
theorem dX10_sees_38 : decode cX10_sees 38 = .ok (.iconst 2, 1) := by decide +kernel
theorem dX10_sees_39 : decode cX10_sees 39 = .ok (.iadd, 1) := by decide +kernel
theorem dX10_sees_40 : decode cX10_sees 40 = .ok (.iload_n 3, 1) := by decide +kernel
theorem dX10_sees_41 : decode cX10_sees 41 = .ok (.iastore, 1) := by decide +kernel
theorem dX10_sees_42 : decode cX10_sees 42 = .ok (.aload_n 0, 1) := by decide +kernel
theorem dX10_sees_43 : decode cX10_sees 43 = .ok (.getfield 7, 3) := by decide +kernel
theorem dX10_sees_46 : decode cX10_sees 46 = .ok (.bipush 8, 2) := by decide +kernel
theorem dX10_sees_48 : decode cX10_sees 48 = .ok (.dup2, 1) := by decide +kernel
theorem dX10_sees_49 : decode cX10_sees 49 = .ok (.iaload, 1) := by decide +kernel
theorem dX10_sees_50 : decode cX10_sees 50 = .ok (.iconst 1, 1) := by decide +kernel
theorem dX10_sees_51 : decode cX10_sees 51 = .ok (.iadd, 1) := by decide +kernel
theorem dX10_sees_52 : decode cX10_sees 52 = .ok (.iastore, 1) := by decide +kernel
theorem dX10_sees_53 : decode cX10_sees 53 = .ok (.aload_n 0, 1) := by decide +kernel
theorem dX10_sees_54 : decode cX10_sees 54 = .ok (.getfield 7, 3) := by decide +kernel
theorem dX10_sees_57 : decode cX10_sees 57 = .ok (.bipush 8, 2) := by decide +kernel
theorem dX10_sees_59 : decode cX10_sees 59 = .ok (.iaload, 1) := by decide +kernel
theorem dX10_sees_60 : decode cX10_sees 60 = .ok (.iconst 1, 1) := by decide +kernel
theorem dX10_sees_61 : decode cX10_sees 61 = .ok (.isub, 1) := by decide +kernel
theorem dX10_sees_62 : decode cX10_sees 62 = .ok (.ireturn, 1) := by decide +kernel
theorem dX10_seen_0 : decode cX10_seen 0 = .ok (.iload_n 1, 1) := by decide +kernel
theorem dX10_seen_1 : decode cX10_seen 1 = .ok (.invokestatic 98, 3) := by decide +kernel
theorem dX10_seen_4 : decode cX10_seen 4 = .ok (.ifCond .eq 17, 3) := by decide +kernel
theorem dX10_seen_7 : decode cX10_seen 7 = .ok (.iload_n 2, 1) := by decide +kernel
theorem dX10_seen_8 : decode cX10_seen 8 = .ok (.invokestatic 82, 3) := by decide +kernel
theorem dX10_seen_11 : decode cX10_seen 11 = .ok (.ifCond .eq 10, 3) := by decide +kernel
theorem dX10_seen_14 : decode cX10_seen 14 = .ok (.iload_n 3, 1) := by decide +kernel
theorem dX10_seen_15 : decode cX10_seen 15 = .ok (.invokestatic 101, 3) := by decide +kernel
theorem dX10_seen_18 : decode cX10_seen 18 = .ok (.ifCond .ne 10, 3) := by decide +kernel
theorem dX10_seen_21 : decode cX10_seen 21 = .ok (.aload_n 0, 1) := by decide +kernel
theorem dX10_seen_22 : decode cX10_seen 22 = .ok (.ldc 68, 2) := by decide +kernel
theorem dX10_seen_24 : decode cX10_seen 24 = .ok (.invokevirtual 86, 3) := by decide +kernel
theorem dX10_seen_27 : decode cX10_seen 27 = .ok (.ireturn, 1) := by decide +kernel
theorem dX10_seen_28 : decode cX10_seen 28 = .ok (.aload_n 0, 1) := by decide +kernel
theorem dX10_seen_29 : decode cX10_seen 29 = .ok (.getfield 7, 3) := by decide +kernel
theorem dX10_seen_32 : decode cX10_seen 32 = .ok (.bipush 8, 2) := by decide +kernel
theorem dX10_seen_34 : decode cX10_seen 34 = .ok (.iaload, 1) := by decide +kernel
theorem dX10_seen_35 : decode cX10_seen 35 = .ok (.bipush 60, 2) := by decide +kernel
theorem dX10_seen_37 : decode cX10_seen 37 = .ok (.if_icmp .ne 12, 3) := by decide +kernel
theorem dX10_seen_40 : decode cX10_seen 40 = .ok (.aload_n 0, 1) := by decide +kernel
theorem dX10_seen_41 : decode cX10_seen 41 = .ok (.ldc 104, 2) := by decide +kernel
theorem dX10_seen_43 : decode cX10_seen 43 = .ok (.invokevirtual 86, 3) := by decide +kernel
theorem dX10_seen_46 : decode cX10_seen 46 = .ok (.goto 10, 3) := by decide +kernel
theorem dX10_seen_49 : decode cX10_seen 49 = .ok (.aload_n 0, 1) := by decide +kernel
theorem dX10_seen_50 : decode cX10_seen 50 = .ok (.iload_n 1, 1) := by decide +kernel
theorem dX10_seen_51 : decode cX10_seen 51 = .ok (.iload_n 2, 1) := by decide +kernel
theorem dX10_seen_52 : decode cX10_seen 52 = .ok (.iload_n 3, 1) := by decide +kernel
theorem dX10_seen_53 : decode cX10_seen 53 = .ok (.invokevirtual 105, 3) := by decide +kernel
theorem dX10_seen_56 : decode cX10_seen 56 = .ok (.ireturn, 1) := by decide +kernel
theorem dX10_latest_0 : decode cX10_latest 0 = .ok (.iconst (-1), 1) := by decide +kernel
theorem dX10_latest_1 : decode cX10_latest 1 = .ok (.istore_n 3, 1) := by decide +kernel
theorem dX10_latest_2 : decode cX10_latest 2 = .ok (.iconst 0, 1) := by decide +kernel
theorem dX10_latest_3 : decode cX10_latest 3 = .ok (.istore 4, 2) := by decide +kernel
theorem dX10_latest_5 : decode cX10_latest 5 = .ok (.iload 4, 2) := by decide +kernel
theorem dX10_latest_7 : decode cX10_latest 7 = .ok (.aload_n 0, 1) := by decide +kernel
theorem dX10_latest_8 : decode cX10_latest 8 = .ok (.getfield 7, 3) := by decide +kernel
theorem dX10_latest_11 : decode cX10_latest 11 = .ok (.bipush 8, 2) := by decide +kernel
theorem dX10_latest_13 : decode cX10_latest 13 = .ok (.iaload, 1) := by decide +kernel
theorem dX10_latest_14 : decode cX10_latest 14 = .ok (.if_icmp .ge 50, 3) := by decide +kernel
theorem dX10_latest_17 : decode cX10_latest 17 = .ok (.aload_n 0, 1) := by decide +kernel
theorem dX10_latest_18 : decode cX10_latest 18 = .ok (.getfield 7, 3) := by decide +kernel
theorem dX10_latest_21 : decode cX10_latest 21 = .ok (.bipush 9, 2) := by decide +kernel
theorem dX10_latest_23 : decode cX10_latest 23 = .ok (.iconst 3, 1) := by decide +kernel
theorem dX10_latest_24 : decode cX10_latest 24 = .ok (.iload 4, 2) := by decide +kernel
theorem dX10_latest_26 : decode cX10_latest 26 = .ok (.imul, 1) := by decide +kernel
theorem dX10_latest_27 : decode cX10_latest 27 = .ok (.iadd, 1) := by decide +kernel
theorem dX10_latest_28 : decode cX10_latest 28 = .ok (.iaload, 1) := by decide +kernel
theorem dX10_latest_29 : decode cX10_latest 29 = .ok (.iload_n 1, 1) := by decide +kernel
theorem dX10_latest_30 : decode cX10_latest 30 = .ok (.if_icmp .ne 26, 3) := by decide +kernel
theorem dX10_latest_33 : decode cX10_latest 33 = .ok (.aload_n 0, 1) := by decide +kernel
theorem dX10_latest_34 : decode cX10_latest 34 = .ok (.getfield 7, 3) := by decide +kernel
theorem dX10_latest_37 : decode cX10_latest 37 = .ok (.bipush 9, 2) := by decide +kernel
theorem dX10_latest_39 : decode cX10_latest 39 = .ok (.iconst 3, 1) := by decide +kernel
theorem dX10_latest_40 : decode cX10_latest 40 = .ok (.iload 4, 2) := by decide +kernel
theorem dX10_latest_42 : decode cX10_latest 42 = .ok (.imul, 1) := by decide +kernel
theorem dX10_latest_43 : decode cX10_latest 43 = .ok (.iadd, 1) := by decide +kernel
theorem dX10_latest_44 : decode cX10_latest 44 = .ok (.iconst 2, 1) := by decide +kernel
theorem dX10_latest_45 : decode cX10_latest 45 = .ok (.iadd, 1) := by decide +kernel
theorem dX10_latest_46 : decode cX10_latest 46 = .ok (.iaload, 1) := by decide +kernel
theorem dX10_latest_47 : decode cX10_latest 47 = .ok (.iload_n 2, 1) := by decide +kernel
theorem dX10_latest_48 : decode cX10_latest 48 = .ok (.if_icmp .ne 8, 3) := by decide +kernel
theorem dX10_latest_51 : decode cX10_latest 51 = .ok (.iload 4, 2) := by decide +kernel
theorem dX10_latest_53 : decode cX10_latest 53 = .ok (.goto 4, 3) := by decide +kernel
theorem dX10_latest_56 : decode cX10_latest 56 = .ok (.iload_n 3, 1) := by decide +kernel
theorem dX10_latest_57 : decode cX10_latest 57 = .ok (.istore_n 3, 1) := by decide +kernel
theorem dX10_latest_58 : decode cX10_latest 58 = .ok (.iinc 4 1, 3) := by decide +kernel
theorem dX10_latest_61 : decode cX10_latest 61 = .ok (.goto (-56), 3) := by decide +kernel
theorem dX10_latest_64 : decode cX10_latest 64 = .ok (.iload_n 3, 1) := by decide +kernel
theorem dX10_latest_65 : decode cX10_latest 65 = .ok (.ireturn, 1) := by decide +kernel
theorem dX10_seenOf_0 : decode cX10_seenOf 0 = .ok (.iload_n 1, 1) := by decide +kernel
theorem dX10_seenOf_1 : decode cX10_seenOf 1 = .ok (.i2l, 1) := by decide +kernel
theorem dX10_seenOf_2 : decode cX10_seenOf 2 = .ok (.lconst 0, 1) := by decide +kernel
theorem dX10_seenOf_3 : decode cX10_seenOf 3 = .ok (.aload_n 0, 1) := by decide +kernel
theorem dX10_seenOf_4 : decode cX10_seenOf 4 = .ok (.getfield 7, 3) := by decide +kernel
theorem dX10_seenOf_7 : decode cX10_seenOf 7 = .ok (.bipush 8, 2) := by decide +kernel
theorem dX10_seenOf_9 : decode cX10_seenOf 9 = .ok (.iaload, 1) := by decide +kernel
theorem dX10_seenOf_10 : decode cX10_seenOf 10 = .ok (.iconst 1, 1) := by decide +kernel
theorem dX10_seenOf_11 : decode cX10_seenOf 11 = .ok (.isub, 1) := by decide +kernel
theorem dX10_seenOf_12 : decode cX10_seenOf 12 = .ok (.i2l, 1) := by decide +kernel
theorem dX10_seenOf_13 : decode cX10_seenOf 13 = .ok (.invokestatic 71, 3) := by decide +kernel
theorem dX10_seenOf_16 : decode cX10_seenOf 16 = .ok (.ifCond .eq 15, 3) := by decide +kernel
theorem dX10_seenOf_19 : decode cX10_seenOf 19 = .ok (.iload_n 2, 1) := by decide +kernel
theorem dX10_seenOf_20 : decode cX10_seenOf 20 = .ok (.i2l, 1) := by decide +kernel
theorem dX10_seenOf_21 : decode cX10_seenOf 21 = .ok (.lconst 0, 1) := by decide +kernel
theorem dX10_seenOf_22 : decode cX10_seenOf 22 = .ok (.ldc2_w 109, 3) := by decide +kernel
theorem dX10_seenOf_25 : decode cX10_seenOf 25 = .ok (.invokestatic 71, 3) := by decide +kernel
theorem dX10_seenOf_28 : decode cX10_seenOf 28 = .ok (.ifCond .ne 10, 3) := by decide +kernel
theorem dX10_seenOf_31 : decode cX10_seenOf 31 = .ok (.aload_n 0, 1) := by decide +kernel
theorem dX10_seenOf_32 : decode cX10_seenOf 32 = .ok (.ldc 68, 2) := by decide +kernel
theorem dX10_seenOf_34 : decode cX10_seenOf 34 = .ok (.invokevirtual 86, 3) := by decide +kernel
theorem dX10_seenOf_37 : decode cX10_seenOf 37 = .ok (.ireturn, 1) := by decide +kernel
theorem dX10_seenOf_38 : decode cX10_seenOf 38 = .ok (.bipush 9, 2) := by decide +kernel
theorem dX10_seenOf_40 : decode cX10_seenOf 40 = .ok (.iconst 3, 1) := by decide +kernel
theorem dX10_seenOf_41 : decode cX10_seenOf 41 = .ok (.iload_n 1, 1) := by decide +kernel
theorem dX10_seenOf_42 : decode cX10_seenOf 42 = .ok (.imul, 1) := by decide +kernel
theorem dX10_seenOf_43 : decode cX10_seenOf 43 = .ok (.iadd, 1) := by decide +kernel
theorem dX10_seenOf_44 : decode cX10_seenOf 44 = .ok (.istore_n 3, 1) := by decide +kernel
theorem dX10_seenOf_45 : decode cX10_seenOf 45 = .ok (.iload_n 2, 1) := by decide +kernel
theorem dX10_seenOf_46 : decode cX10_seenOf 46 = .ok (.iconst 2, 1) := by decide +kernel
theorem dX10_seenOf_47 : decode cX10_seenOf 47 = .ok (.if_icmp .ge 14, 3) := by decide +kernel
theorem dX10_seenOf_50 : decode cX10_seenOf 50 = .ok (.aload_n 0, 1) := by decide +kernel
theorem dX10_seenOf_51 : decode cX10_seenOf 51 = .ok (.getfield 7, 3) := by decide +kernel
theorem dX10_seenOf_54 : decode cX10_seenOf 54 = .ok (.iload_n 3, 1) := by decide +kernel
theorem dX10_seenOf_55 : decode cX10_seenOf 55 = .ok (.iload_n 2, 1) := by decide +kernel
theorem dX10_seenOf_56 : decode cX10_seenOf 56 = .ok (.iadd, 1) := by decide +kernel
theorem dX10_seenOf_57 : decode cX10_seenOf 57 = .ok (.iaload, 1) := by decide +kernel
theorem dX10_seenOf_58 : decode cX10_seenOf 58 = .ok (.goto 68, 3) := by decide +kernel
theorem dX10_seenOf_61 : decode cX10_seenOf 61 = .ok (.iload_n 2, 1) := by decide +kernel
theorem dX10_seenOf_62 : decode cX10_seenOf 62 = .ok (.iconst 2, 1) := by decide +kernel
theorem dX10_seenOf_63 : decode cX10_seenOf 63 = .ok (.if_icmp .ne 17, 3) := by decide +kernel
theorem dX10_seenOf_66 : decode cX10_seenOf 66 = .ok (.aload_n 0, 1) := by decide +kernel
theorem dX10_seenOf_67 : decode cX10_seenOf 67 = .ok (.getfield 7, 3) := by decide +kernel
theorem dX10_seenOf_70 : decode cX10_seenOf 70 = .ok (.iload_n 3, 1) := by decide +kernel
theorem dX10_seenOf_71 : decode cX10_seenOf 71 = .ok (.iconst 2, 1) := by decide +kernel
theorem dX10_seenOf_72 : decode cX10_seenOf 72 = .ok (.iadd, 1) := by decide +kernel
theorem dX10_seenOf_73 : decode cX10_seenOf 73 = .ok (.iaload, 1) := by decide +kernel
theorem dX10_seenOf_74 : decode cX10_seenOf 74 = .ok (.bipush 100, 2) := by decide +kernel
theorem dX10_seenOf_76 : decode cX10_seenOf 76 = .ok (.idiv, 1) := by decide +kernel
theorem dX10_seenOf_77 : decode cX10_seenOf 77 = .ok (.goto 49, 3) := by decide +kernel
theorem dX10_seenOf_80 : decode cX10_seenOf 80 = .ok (.iload_n 2, 1) := by decide +kernel
theorem dX10_seenOf_81 : decode cX10_seenOf 81 = .ok (.iconst 3, 1) := by decide +kernel
theorem dX10_seenOf_82 : decode cX10_seenOf 82 = .ok (.if_icmp .ne 17, 3) := by decide +kernel
theorem dX10_seenOf_85 : decode cX10_seenOf 85 = .ok (.aload_n 0, 1) := by decide +kernel
theorem dX10_seenOf_86 : decode cX10_seenOf 86 = .ok (.getfield 7, 3) := by decide +kernel
theorem dX10_seenOf_89 : decode cX10_seenOf 89 = .ok (.iload_n 3, 1) := by decide +kernel
theorem dX10_seenOf_90 : decode cX10_seenOf 90 = .ok (.iconst 2, 1) := by decide +kernel
theorem dX10_seenOf_91 : decode cX10_seenOf 91 = .ok (.iadd, 1) := by decide +kernel
theorem dX10_seenOf_92 : decode cX10_seenOf 92 = .ok (.iaload, 1) := by decide +kernel
theorem dX10_seenOf_93 : decode cX10_seenOf 93 = .ok (.bipush 100, 2) := by decide +kernel
theorem dX10_seenOf_95 : decode cX10_seenOf 95 = .ok (.irem, 1) := by decide +kernel
theorem dX10_seenOf_96 : decode cX10_seenOf 96 = .ok (.goto 30, 3) := by decide +kernel
theorem dX10_seenOf_99 : decode cX10_seenOf 99 = .ok (.aload_n 0, 1) := by decide +kernel
theorem dX10_seenOf_100 : decode cX10_seenOf 100 = .ok (.aload_n 0, 1) := by decide +kernel
theorem dX10_seenOf_101 : decode cX10_seenOf 101 = .ok (.getfield 7, 3) := by decide +kernel
theorem dX10_seenOf_104 : decode cX10_seenOf 104 = .ok (.iload_n 3, 1) := by decide +kernel
theorem dX10_seenOf_105 : decode cX10_seenOf 105 = .ok (.iaload, 1) := by decide +kernel
theorem dX10_seenOf_106 : decode cX10_seenOf 106 = .ok (.aload_n 0, 1) := by decide +kernel
theorem dX10_seenOf_107 : decode cX10_seenOf 107 = .ok (.getfield 7, 3) := by decide +kernel
theorem dX10_seenOf_110 : decode cX10_seenOf 110 = .ok (.iload_n 3, 1) := by decide +kernel
theorem dX10_seenOf_111 : decode cX10_seenOf 111 = .ok (.iconst 2, 1) := by decide +kernel
theorem dX10_seenOf_112 : decode cX10_seenOf 112 = .ok (.iadd, 1) := by decide +kernel
theorem dX10_seenOf_113 : decode cX10_seenOf 113 = .ok (.iaload, 1) := by decide +kernel
theorem dX10_seenOf_114 : decode cX10_seenOf 114 = .ok (.invokevirtual 111, 3) := by decide +kernel
theorem dX10_seenOf_117 : decode cX10_seenOf 117 = .ok (.iload_n 1, 1) := by decide +kernel
theorem dX10_seenOf_118 : decode cX10_seenOf 118 = .ok (.if_icmp .ne 7, 3) := by decide +kernel
theorem dX10_seenOf_121 : decode cX10_seenOf 121 = .ok (.iconst 1, 1) := by decide +kernel
theorem dX10_seenOf_122 : decode cX10_seenOf 122 = .ok (.goto 4, 3) := by decide +kernel
theorem dX10_seenOf_125 : decode cX10_seenOf 125 = .ok (.iconst 0, 1) := by decide +kernel
theorem dX10_seenOf_126 : decode cX10_seenOf 126 = .ok (.ireturn, 1) := by decide +kernel
theorem dX10_where_0 : decode cX10_where 0 = .ok (.iload_n 1, 1) := by decide +kernel
theorem dX10_where_1 : decode cX10_where 1 = .ok (.invokestatic 98, 3) := by decide +kernel
theorem dX10_where_4 : decode cX10_where 4 = .ok (.ifCond .eq 10, 3) := by decide +kernel
theorem dX10_where_7 : decode cX10_where 7 = .ok (.iload_n 2, 1) := by decide +kernel
theorem dX10_where_8 : decode cX10_where 8 = .ok (.invokestatic 101, 3) := by decide +kernel
theorem dX10_where_11 : decode cX10_where 11 = .ok (.ifCond .ne 10, 3) := by decide +kernel
theorem dX10_where_14 : decode cX10_where 14 = .ok (.aload_n 0, 1) := by decide +kernel
theorem dX10_where_15 : decode cX10_where 15 = .ok (.ldc 68, 2) := by decide +kernel
theorem dX10_where_17 : decode cX10_where 17 = .ok (.invokevirtual 86, 3) := by decide +kernel
theorem dX10_where_20 : decode cX10_where 20 = .ok (.ireturn, 1) := by decide +kernel
theorem dX10_where_21 : decode cX10_where 21 = .ok (.aload_n 0, 1) := by decide +kernel
theorem dX10_where_22 : decode cX10_where 22 = .ok (.iload_n 1, 1) := by decide +kernel
theorem dX10_where_23 : decode cX10_where 23 = .ok (.iload_n 2, 1) := by decide +kernel
theorem dX10_where_24 : decode cX10_where 24 = .ok (.invokevirtual 111, 3) := by decide +kernel
theorem dX10_where_27 : decode cX10_where 27 = .ok (.istore_n 3, 1) := by decide +kernel
theorem dX10_where_28 : decode cX10_where 28 = .ok (.iload_n 3, 1) := by decide +kernel
theorem dX10_where_29 : decode cX10_where 29 = .ok (.ifCond .ge 12, 3) := by decide +kernel
theorem dX10_where_32 : decode cX10_where 32 = .ok (.aload_n 0, 1) := by decide +kernel
theorem dX10_where_33 : decode cX10_where 33 = .ok (.ldc 97, 2) := by decide +kernel
theorem dX10_where_35 : decode cX10_where 35 = .ok (.invokevirtual 86, 3) := by decide +kernel
theorem dX10_where_38 : decode cX10_where 38 = .ok (.goto 16, 3) := by decide +kernel
theorem dX10_where_41 : decode cX10_where 41 = .ok (.aload_n 0, 1) := by decide +kernel
theorem dX10_where_42 : decode cX10_where 42 = .ok (.getfield 7, 3) := by decide +kernel
theorem dX10_where_45 : decode cX10_where 45 = .ok (.bipush 9, 2) := by decide +kernel
theorem dX10_where_47 : decode cX10_where 47 = .ok (.iconst 3, 1) := by decide +kernel
theorem dX10_where_48 : decode cX10_where 48 = .ok (.iload_n 3, 1) := by decide +kernel
theorem dX10_where_49 : decode cX10_where 49 = .ok (.imul, 1) := by decide +kernel
theorem dX10_where_50 : decode cX10_where 50 = .ok (.iadd, 1) := by decide +kernel
theorem dX10_where_51 : decode cX10_where 51 = .ok (.iconst 1, 1) := by decide +kernel
theorem dX10_where_52 : decode cX10_where 52 = .ok (.iadd, 1) := by decide +kernel
theorem dX10_where_53 : decode cX10_where 53 = .ok (.iaload, 1) := by decide +kernel
theorem dX10_where_54 : decode cX10_where 54 = .ok (.ireturn, 1) := by decide +kernel
theorem dX10_looks_0 : decode cX10_looks 0 = .ok (.iconst 0, 1) := by decide +kernel
theorem dX10_looks_1 : decode cX10_looks 1 = .ok (.istore_n 3, 1) := by decide +kernel
theorem dX10_looks_2 : decode cX10_looks 2 = .ok (.iload_n 3, 1) := by decide +kernel
theorem dX10_looks_3 : decode cX10_looks 3 = .ok (.bipush 24, 2) := by decide +kernel
theorem dX10_looks_5 : decode cX10_looks 5 = .ok (.if_icmp .ge 51, 3) := by decide +kernel
theorem dX10_looks_8 : decode cX10_looks 8 = .ok (.aload_n 0, 1) := by decide +kernel
theorem dX10_looks_9 : decode cX10_looks 9 = .ok (.iload_n 1, 1) := by decide +kernel
theorem dX10_looks_10 : decode cX10_looks 10 = .ok (.bipush 100, 2) := by decide +kernel
theorem dX10_looks_12 : decode cX10_looks 12 = .ok (.iload_n 2, 1) := by decide +kernel
theorem dX10_looks_13 : decode cX10_looks 13 = .ok (.imul, 1) := by decide +kernel
theorem dX10_looks_14 : decode cX10_looks 14 = .ok (.iload_n 3, 1) := by decide +kernel
theorem dX10_looks_15 : decode cX10_looks 15 = .ok (.iadd, 1) := by decide +kernel
theorem dX10_looks_16 : decode cX10_looks 16 = .ok (.invokevirtual 111, 3) := by decide +kernel
theorem dX10_looks_19 : decode cX10_looks 19 = .ok (.istore 4, 2) := by decide +kernel
theorem dX10_looks_21 : decode cX10_looks 21 = .ok (.aload_n 0, 1) := by decide +kernel
theorem dX10_looks_22 : decode cX10_looks 22 = .ok (.getfield 22, 3) := by decide +kernel
theorem dX10_looks_25 : decode cX10_looks 25 = .ok (.iload_n 3, 1) := by decide +kernel
theorem dX10_looks_26 : decode cX10_looks 26 = .ok (.iload 4, 2) := by decide +kernel
theorem dX10_looks_28 : decode cX10_looks 28 = .ok (.ifCond .ge 7, 3) := by decide +kernel
theorem dX10_looks_31 : decode cX10_looks 31 = .ok (.iconst (-1), 1) := by decide +kernel
theorem dX10_looks_32 : decode cX10_looks 32 = .ok (.goto 17, 3) := by decide +kernel
theorem dX10_looks_35 : decode cX10_looks 35 = .ok (.aload_n 0, 1) := by decide +kernel
theorem dX10_looks_36 : decode cX10_looks 36 = .ok (.getfield 7, 3) := by decide +kernel
theorem dX10_looks_39 : decode cX10_looks 39 = .ok (.bipush 9, 2) := by decide +kernel
theorem dX10_looks_41 : decode cX10_looks 41 = .ok (.iconst 3, 1) := by decide +kernel
theorem dX10_looks_42 : decode cX10_looks 42 = .ok (.iload 4, 2) := by decide +kernel
theorem dX10_looks_44 : decode cX10_looks 44 = .ok (.imul, 1) := by decide +kernel
theorem dX10_looks_45 : decode cX10_looks 45 = .ok (.iadd, 1) := by decide +kernel
theorem dX10_looks_46 : decode cX10_looks 46 = .ok (.iconst 1, 1) := by decide +kernel
theorem dX10_looks_47 : decode cX10_looks 47 = .ok (.iadd, 1) := by decide +kernel
theorem dX10_looks_48 : decode cX10_looks 48 = .ok (.iaload, 1) := by decide +kernel
theorem dX10_looks_49 : decode cX10_looks 49 = .ok (.iastore, 1) := by decide +kernel
theorem dX10_looks_50 : decode cX10_looks 50 = .ok (.iinc 3 1, 3) := by decide +kernel
theorem dX10_looks_53 : decode cX10_looks 53 = .ok (.goto (-51), 3) := by decide +kernel
theorem dX10_looks_56 : decode cX10_looks 56 = .ok (.return_, 1) := by decide +kernel
theorem dX10_open_0 : decode cX10_open 0 = .ok (.aload_n 0, 1) := by decide +kernel
theorem dX10_open_1 : decode cX10_open 1 = .ok (.getfield 22, 3) := by decide +kernel
theorem dX10_open_4 : decode cX10_open 4 = .ok (.iload_n 1, 1) := by decide +kernel
theorem dX10_open_5 : decode cX10_open 5 = .ok (.iaload, 1) := by decide +kernel
theorem dX10_open_6 : decode cX10_open 6 = .ok (.ifCond .ge 9, 3) := by decide +kernel
theorem dX10_open_9 : decode cX10_open 9 = .ok (.sipush 255, 3) := by decide +kernel
theorem dX10_open_12 : decode cX10_open 12 = .ok (.goto 11, 3) := by decide +kernel
theorem dX10_open_15 : decode cX10_open 15 = .ok (.iconst 1, 1) := by decide +kernel
theorem dX10_open_16 : decode cX10_open 16 = .ok (.aload_n 0, 1) := by decide +kernel
theorem dX10_open_17 : decode cX10_open 17 = .ok (.getfield 22, 3) := by decide +kernel
theorem dX10_open_20 : decode cX10_open 20 = .ok (.iload_n 1, 1) := by decide +kernel
theorem dX10_open_21 : decode cX10_open 21 = .ok (.iaload, 1) := by decide +kernel
theorem dX10_open_22 : decode cX10_open 22 = .ok (.ishl, 1) := by decide +kernel
theorem dX10_open_23 : decode cX10_open 23 = .ok (.ireturn, 1) := by decide +kernel
theorem dX10_could_0 : decode cX10_could 0 = .ok (.iload_n 1, 1) := by decide +kernel
theorem dX10_could_1 : decode cX10_could 1 = .ok (.invokestatic 98, 3) := by decide +kernel
theorem dX10_could_4 : decode cX10_could 4 = .ok (.ifCond .eq 10, 3) := by decide +kernel
theorem dX10_could_7 : decode cX10_could 7 = .ok (.iload_n 2, 1) := by decide +kernel
theorem dX10_could_8 : decode cX10_could 8 = .ok (.invokestatic 101, 3) := by decide +kernel
theorem dX10_could_11 : decode cX10_could 11 = .ok (.ifCond .ne 10, 3) := by decide +kernel
theorem dX10_could_14 : decode cX10_could 14 = .ok (.aload_n 0, 1) := by decide +kernel
theorem dX10_could_15 : decode cX10_could 15 = .ok (.ldc 68, 2) := by decide +kernel
theorem dX10_could_17 : decode cX10_could 17 = .ok (.invokevirtual 86, 3) := by decide +kernel
theorem dX10_could_20 : decode cX10_could 20 = .ok (.ireturn, 1) := by decide +kernel
theorem dX10_could_21 : decode cX10_could 21 = .ok (.aload_n 0, 1) := by decide +kernel
theorem dX10_could_22 : decode cX10_could 22 = .ok (.iload_n 1, 1) := by decide +kernel
theorem dX10_could_23 : decode cX10_could 23 = .ok (.iload_n 2, 1) := by decide +kernel
theorem dX10_could_24 : decode cX10_could 24 = .ok (.bipush 100, 2) := by decide +kernel
theorem dX10_could_26 : decode cX10_could 26 = .ok (.idiv, 1) := by decide +kernel
theorem dX10_could_27 : decode cX10_could 27 = .ok (.invokevirtual 115, 3) := by decide +kernel
theorem dX10_could_30 : decode cX10_could 30 = .ok (.iload_n 2, 1) := by decide +kernel
theorem dX10_could_31 : decode cX10_could 31 = .ok (.bipush 100, 2) := by decide +kernel
theorem dX10_could_33 : decode cX10_could 33 = .ok (.irem, 1) := by decide +kernel
theorem dX10_could_34 : decode cX10_could 34 = .ok (.istore_n 3, 1) := by decide +kernel
theorem dX10_could_35 : decode cX10_could 35 = .ok (.aload_n 0, 1) := by decide +kernel
theorem dX10_could_36 : decode cX10_could 36 = .ok (.iconst 0, 1) := by decide +kernel
theorem dX10_could_37 : decode cX10_could 37 = .ok (.invokevirtual 119, 3) := by decide +kernel
theorem dX10_could_40 : decode cX10_could 40 = .ok (.istore 4, 2) := by decide +kernel
theorem dX10_could_42 : decode cX10_could 42 = .ok (.iconst 1, 1) := by decide +kernel
theorem dX10_could_43 : decode cX10_could 43 = .ok (.istore 5, 2) := by decide +kernel
theorem dX10_could_45 : decode cX10_could 45 = .ok (.iload 5, 2) := by decide +kernel
theorem dX10_could_47 : decode cX10_could 47 = .ok (.iload_n 3, 1) := by decide +kernel
theorem dX10_could_48 : decode cX10_could 48 = .ok (.if_icmp .gt 24, 3) := by decide +kernel
theorem dX10_could_51 : decode cX10_could 51 = .ok (.aload_n 0, 1) := by decide +kernel
theorem dX10_could_52 : decode cX10_could 52 = .ok (.iload 4, 2) := by decide +kernel
theorem dX10_could_54 : decode cX10_could 54 = .ok (.invokevirtual 94, 3) := by decide +kernel
theorem dX10_could_57 : decode cX10_could 57 = .ok (.aload_n 0, 1) := by decide +kernel
theorem dX10_could_58 : decode cX10_could 58 = .ok (.iload 5, 2) := by decide +kernel
theorem dX10_could_60 : decode cX10_could 60 = .ok (.invokevirtual 119, 3) := by decide +kernel
theorem dX10_could_63 : decode cX10_could 63 = .ok (.iand, 1) := by decide +kernel
theorem dX10_could_64 : decode cX10_could 64 = .ok (.istore 4, 2) := by decide +kernel
theorem dX10_could_66 : decode cX10_could 66 = .ok (.iinc 5 1, 3) := by decide +kernel
theorem dX10_could_69 : decode cX10_could 69 = .ok (.goto (-24), 3) := by decide +kernel
theorem dX10_could_72 : decode cX10_could 72 = .ok (.aload_n 0, 1) := by decide +kernel
theorem dX10_could_73 : decode cX10_could 73 = .ok (.bipush 23, 2) := by decide +kernel
theorem dX10_could_75 : decode cX10_could 75 = .ok (.invokevirtual 119, 3) := by decide +kernel
theorem dX10_could_78 : decode cX10_could 78 = .ok (.istore 5, 2) := by decide +kernel
theorem dX10_could_80 : decode cX10_could 80 = .ok (.bipush 22, 2) := by decide +kernel
theorem dX10_could_82 : decode cX10_could 82 = .ok (.istore 6, 2) := by decide +kernel
theorem dX10_could_84 : decode cX10_could 84 = .ok (.iload 6, 2) := by decide +kernel
theorem dX10_could_86 : decode cX10_could 86 = .ok (.iload_n 3, 1) := by decide +kernel
theorem dX10_could_87 : decode cX10_could 87 = .ok (.if_icmp .lt 24, 3) := by decide +kernel
theorem dX10_could_90 : decode cX10_could 90 = .ok (.aload_n 0, 1) := by decide +kernel
theorem dX10_could_91 : decode cX10_could 91 = .ok (.iload 5, 2) := by decide +kernel
theorem dX10_could_93 : decode cX10_could 93 = .ok (.invokevirtual 94, 3) := by decide +kernel
theorem dX10_could_96 : decode cX10_could 96 = .ok (.aload_n 0, 1) := by decide +kernel
theorem dX10_could_97 : decode cX10_could 97 = .ok (.iload 6, 2) := by decide +kernel
theorem dX10_could_99 : decode cX10_could 99 = .ok (.invokevirtual 119, 3) := by decide +kernel
theorem dX10_could_102 : decode cX10_could 102 = .ok (.iand, 1) := by decide +kernel
theorem dX10_could_103 : decode cX10_could 103 = .ok (.istore 5, 2) := by decide +kernel
theorem dX10_could_105 : decode cX10_could 105 = .ok (.iinc 6 (-1), 3) := by decide +kernel
theorem dX10_could_108 : decode cX10_could 108 = .ok (.goto (-24), 3) := by decide +kernel
theorem dX10_could_111 : decode cX10_could 111 = .ok (.iload 4, 2) := by decide +kernel
theorem dX10_could_113 : decode cX10_could 113 = .ok (.iload 5, 2) := by decide +kernel
theorem dX10_could_115 : decode cX10_could 115 = .ok (.iand, 1) := by decide +kernel
theorem dX10_could_116 : decode cX10_could 116 = .ok (.ireturn, 1) := by decide +kernel
theorem dX10_drift_0 : decode cX10_drift 0 = .ok (.iload_n 1, 1) := by decide +kernel
theorem dX10_drift_1 : decode cX10_drift 1 = .ok (.invokestatic 98, 3) := by decide +kernel
theorem dX10_drift_4 : decode cX10_drift 4 = .ok (.ifCond .eq 22, 3) := by decide +kernel
theorem dX10_drift_7 : decode cX10_drift 7 = .ok (.iload_n 2, 1) := by decide +kernel
theorem dX10_drift_8 : decode cX10_drift 8 = .ok (.invokestatic 122, 3) := by decide +kernel
theorem dX10_drift_11 : decode cX10_drift 11 = .ok (.ifCond .eq 15, 3) := by decide +kernel
theorem dX10_drift_14 : decode cX10_drift 14 = .ok (.iload_n 3, 1) := by decide +kernel
theorem dX10_drift_15 : decode cX10_drift 15 = .ok (.i2l, 1) := by decide +kernel
theorem dX10_drift_16 : decode cX10_drift 16 = .ok (.lconst 1, 1) := by decide +kernel
theorem dX10_drift_17 : decode cX10_drift 17 = .ok (.ldc2_w 125, 3) := by decide +kernel
theorem dX10_drift_20 : decode cX10_drift 20 = .ok (.invokestatic 71, 3) := by decide +kernel
theorem dX10_drift_23 : decode cX10_drift 23 = .ok (.ifCond .ne 10, 3) := by decide +kernel
theorem dX10_drift_26 : decode cX10_drift 26 = .ok (.aload_n 0, 1) := by decide +kernel
theorem dX10_drift_27 : decode cX10_drift 27 = .ok (.ldc 68, 2) := by decide +kernel
theorem dX10_drift_29 : decode cX10_drift 29 = .ok (.invokevirtual 86, 3) := by decide +kernel
theorem dX10_drift_32 : decode cX10_drift 32 = .ok (.ireturn, 1) := by decide +kernel
theorem dX10_drift_33 : decode cX10_drift 33 = .ok (.iconst 0, 1) := by decide +kernel
theorem dX10_drift_34 : decode cX10_drift 34 = .ok (.istore 4, 2) := by decide +kernel
theorem dX10_drift_36 : decode cX10_drift 36 = .ok (.iload 4, 2) := by decide +kernel
theorem dX10_drift_38 : decode cX10_drift 38 = .ok (.iload_n 3, 1) := by decide +kernel
theorem dX10_drift_39 : decode cX10_drift 39 = .ok (.if_icmp .ge 55, 3) := by decide +kernel
theorem dX10_drift_42 : decode cX10_drift 42 = .ok (.aload_n 0, 1) := by decide +kernel
theorem dX10_drift_43 : decode cX10_drift 43 = .ok (.getfield 7, 3) := by decide +kernel
theorem dX10_drift_46 : decode cX10_drift 46 = .ok (.bipush 8, 2) := by decide +kernel
theorem dX10_drift_48 : decode cX10_drift 48 = .ok (.iaload, 1) := by decide +kernel
theorem dX10_drift_49 : decode cX10_drift 49 = .ok (.bipush 60, 2) := by decide +kernel
theorem dX10_drift_51 : decode cX10_drift 51 = .ok (.if_icmp .ge 43, 3) := by decide +kernel
theorem dX10_drift_54 : decode cX10_drift 54 = .ok (.aload_n 0, 1) := by decide +kernel
theorem dX10_drift_55 : decode cX10_drift 55 = .ok (.invokevirtual 127, 3) := by decide +kernel
theorem dX10_drift_58 : decode cX10_drift 58 = .ok (.bipush 8, 2) := by decide +kernel
theorem dX10_drift_60 : decode cX10_drift 60 = .ok (.irem, 1) := by decide +kernel
theorem dX10_drift_61 : decode cX10_drift 61 = .ok (.istore 5, 2) := by decide +kernel
theorem dX10_drift_63 : decode cX10_drift 63 = .ok (.aload_n 0, 1) := by decide +kernel
theorem dX10_drift_64 : decode cX10_drift 64 = .ok (.invokevirtual 127, 3) := by decide +kernel
theorem dX10_drift_67 : decode cX10_drift 67 = .ok (.bipush 24, 2) := by decide +kernel
theorem dX10_drift_69 : decode cX10_drift 69 = .ok (.irem, 1) := by decide +kernel
theorem dX10_drift_70 : decode cX10_drift 70 = .ok (.istore 6, 2) := by decide +kernel
theorem dX10_drift_72 : decode cX10_drift 72 = .ok (.aload_n 0, 1) := by decide +kernel
theorem dX10_drift_73 : decode cX10_drift 73 = .ok (.iload_n 1, 1) := by decide +kernel
theorem dX10_drift_74 : decode cX10_drift 74 = .ok (.iload 5, 2) := by decide +kernel
theorem dX10_drift_76 : decode cX10_drift 76 = .ok (.bipush 100, 2) := by decide +kernel
theorem dX10_drift_78 : decode cX10_drift 78 = .ok (.iload_n 2, 1) := by decide +kernel
theorem dX10_drift_79 : decode cX10_drift 79 = .ok (.imul, 1) := by decide +kernel
theorem dX10_drift_80 : decode cX10_drift 80 = .ok (.iload 6, 2) := by decide +kernel
theorem dX10_drift_82 : decode cX10_drift 82 = .ok (.iadd, 1) := by decide +kernel
theorem dX10_drift_83 : decode cX10_drift 83 = .ok (.invokevirtual 105, 3) := by decide +kernel
theorem dX10_drift_86 : decode cX10_drift 86 = .ok (.istore 7, 2) := by decide +kernel
theorem dX10_drift_88 : decode cX10_drift 88 = .ok (.iinc 4 1, 3) := by decide +kernel
theorem dX10_drift_91 : decode cX10_drift 91 = .ok (.goto (-55), 3) := by decide +kernel
theorem dX10_drift_94 : decode cX10_drift 94 = .ok (.aload_n 0, 1) := by decide +kernel
theorem dX10_drift_95 : decode cX10_drift 95 = .ok (.getfield 7, 3) := by decide +kernel
theorem dX10_drift_98 : decode cX10_drift 98 = .ok (.bipush 8, 2) := by decide +kernel
theorem dX10_drift_100 : decode cX10_drift 100 = .ok (.iaload, 1) := by decide +kernel
theorem dX10_drift_101 : decode cX10_drift 101 = .ok (.ireturn, 1) := by decide +kernel
theorem dX10_termsOf_0 : decode cX10_termsOf 0 = .ok (.iconst 0, 1) := by decide +kernel
theorem dX10_termsOf_1 : decode cX10_termsOf 1 = .ok (.istore_n 2, 1) := by decide +kernel
theorem dX10_termsOf_2 : decode cX10_termsOf 2 = .ok (.iconst 0, 1) := by decide +kernel
theorem dX10_termsOf_3 : decode cX10_termsOf 3 = .ok (.istore_n 3, 1) := by decide +kernel
theorem dX10_termsOf_4 : decode cX10_termsOf 4 = .ok (.iload_n 3, 1) := by decide +kernel
theorem dX10_termsOf_5 : decode cX10_termsOf 5 = .ok (.aload_n 0, 1) := by decide +kernel
theorem dX10_termsOf_6 : decode cX10_termsOf 6 = .ok (.getfield 7, 3) := by decide +kernel
theorem dX10_termsOf_9 : decode cX10_termsOf 9 = .ok (.sipush 189, 3) := by decide +kernel
theorem dX10_termsOf_12 : decode cX10_termsOf 12 = .ok (.iaload, 1) := by decide +kernel
theorem dX10_termsOf_13 : decode cX10_termsOf 13 = .ok (.if_icmp .ge 27, 3) := by decide +kernel
theorem dX10_termsOf_16 : decode cX10_termsOf 16 = .ok (.iload_n 2, 1) := by decide +kernel
theorem dX10_termsOf_17 : decode cX10_termsOf 17 = .ok (.aload_n 0, 1) := by decide +kernel
theorem dX10_termsOf_18 : decode cX10_termsOf 18 = .ok (.iload_n 3, 1) := by decide +kernel
theorem dX10_termsOf_19 : decode cX10_termsOf 19 = .ok (.iconst 1, 1) := by decide +kernel
theorem dX10_termsOf_20 : decode cX10_termsOf 20 = .ok (.invokevirtual 131, 3) := by decide +kernel
theorem dX10_termsOf_23 : decode cX10_termsOf 23 = .ok (.iload_n 1, 1) := by decide +kernel
theorem dX10_termsOf_24 : decode cX10_termsOf 24 = .ok (.if_icmp .ne 7, 3) := by decide +kernel
theorem dX10_termsOf_27 : decode cX10_termsOf 27 = .ok (.iconst 1, 1) := by decide +kernel
theorem dX10_termsOf_28 : decode cX10_termsOf 28 = .ok (.goto 4, 3) := by decide +kernel
theorem dX10_termsOf_31 : decode cX10_termsOf 31 = .ok (.iconst 0, 1) := by decide +kernel
theorem dX10_termsOf_32 : decode cX10_termsOf 32 = .ok (.iadd, 1) := by decide +kernel
theorem dX10_termsOf_33 : decode cX10_termsOf 33 = .ok (.istore_n 2, 1) := by decide +kernel
theorem dX10_termsOf_34 : decode cX10_termsOf 34 = .ok (.iinc 3 1, 3) := by decide +kernel
theorem dX10_termsOf_37 : decode cX10_termsOf 37 = .ok (.goto (-33), 3) := by decide +kernel
theorem dX10_termsOf_40 : decode cX10_termsOf 40 = .ok (.iload_n 2, 1) := by decide +kernel
theorem dX10_termsOf_41 : decode cX10_termsOf 41 = .ok (.ireturn, 1) := by decide +kernel
theorem dX10_isRoomFor_0 : decode cX10_isRoomFor 0 = .ok (.aload_n 0, 1) := by decide +kernel
theorem dX10_isRoomFor_1 : decode cX10_isRoomFor 1 = .ok (.getfield 7, 3) := by decide +kernel
theorem dX10_isRoomFor_4 : decode cX10_isRoomFor 4 = .ok (.sipush 189, 3) := by decide +kernel
theorem dX10_isRoomFor_7 : decode cX10_isRoomFor 7 = .ok (.iaload, 1) := by decide +kernel
theorem dX10_isRoomFor_8 : decode cX10_isRoomFor 8 = .ok (.bipush 12, 2) := by decide +kernel
theorem dX10_isRoomFor_10 : decode cX10_isRoomFor 10 = .ok (.if_icmp .ge 16, 3) := by decide +kernel
theorem dX10_isRoomFor_13 : decode cX10_isRoomFor 13 = .ok (.aload_n 0, 1) := by decide +kernel
theorem dX10_isRoomFor_14 : decode cX10_isRoomFor 14 = .ok (.iload_n 1, 1) := by decide +kernel
theorem dX10_isRoomFor_15 : decode cX10_isRoomFor 15 = .ok (.invokevirtual 134, 3) := by decide +kernel
theorem dX10_isRoomFor_18 : decode cX10_isRoomFor 18 = .ok (.iconst 5, 1) := by decide +kernel
theorem dX10_isRoomFor_19 : decode cX10_isRoomFor 19 = .ok (.if_icmp .ge 7, 3) := by decide +kernel
theorem dX10_isRoomFor_22 : decode cX10_isRoomFor 22 = .ok (.iconst 1, 1) := by decide +kernel
theorem dX10_isRoomFor_23 : decode cX10_isRoomFor 23 = .ok (.goto 4, 3) := by decide +kernel
theorem dX10_isRoomFor_26 : decode cX10_isRoomFor 26 = .ok (.iconst 0, 1) := by decide +kernel
theorem dX10_isRoomFor_27 : decode cX10_isRoomFor 27 = .ok (.ireturn, 1) := by decide +kernel
theorem dX10_newTerm_0 : decode cX10_newTerm 0 = .ok (.sipush 190, 3) := by decide +kernel
theorem dX10_newTerm_3 : decode cX10_newTerm 3 = .ok (.bipush 7, 2) := by decide +kernel
theorem dX10_newTerm_5 : decode cX10_newTerm 5 = .ok (.aload_n 0, 1) := by decide +kernel
theorem dX10_newTerm_6 : decode cX10_newTerm 6 = .ok (.getfield 7, 3) := by decide +kernel
theorem dX10_newTerm_9 : decode cX10_newTerm 9 = .ok (.sipush 189, 3) := by decide +kernel
theorem dX10_newTerm_12 : decode cX10_newTerm 12 = .ok (.iaload, 1) := by decide +kernel
theorem dX10_newTerm_13 : decode cX10_newTerm 13 = .ok (.imul, 1) := by decide +kernel
theorem dX10_newTerm_14 : decode cX10_newTerm 14 = .ok (.iadd, 1) := by decide +kernel
theorem dX10_newTerm_15 : decode cX10_newTerm 15 = .ok (.istore 4, 2) := by decide +kernel
theorem dX10_newTerm_17 : decode cX10_newTerm 17 = .ok (.aload_n 0, 1) := by decide +kernel
theorem dX10_newTerm_18 : decode cX10_newTerm 18 = .ok (.getfield 7, 3) := by decide +kernel
theorem dX10_newTerm_21 : decode cX10_newTerm 21 = .ok (.iload 4, 2) := by decide +kernel
theorem dX10_newTerm_23 : decode cX10_newTerm 23 = .ok (.iconst 0, 1) := by decide +kernel
theorem dX10_newTerm_24 : decode cX10_newTerm 24 = .ok (.iadd, 1) := by decide +kernel
theorem dX10_newTerm_25 : decode cX10_newTerm 25 = .ok (.iload_n 1, 1) := by decide +kernel
theorem dX10_newTerm_26 : decode cX10_newTerm 26 = .ok (.iastore, 1) := by decide +kernel
theorem dX10_newTerm_27 : decode cX10_newTerm 27 = .ok (.aload_n 0, 1) := by decide +kernel
theorem dX10_newTerm_28 : decode cX10_newTerm 28 = .ok (.getfield 7, 3) := by decide +kernel
theorem dX10_newTerm_31 : decode cX10_newTerm 31 = .ok (.iload 4, 2) := by decide +kernel
theorem dX10_newTerm_33 : decode cX10_newTerm 33 = .ok (.iconst 1, 1) := by decide +kernel
theorem dX10_newTerm_34 : decode cX10_newTerm 34 = .ok (.iadd, 1) := by decide +kernel
theorem dX10_newTerm_35 : decode cX10_newTerm 35 = .ok (.iload_n 2, 1) := by decide +kernel
theorem dX10_newTerm_36 : decode cX10_newTerm 36 = .ok (.iastore, 1) := by decide +kernel
theorem dX10_newTerm_37 : decode cX10_newTerm 37 = .ok (.aload_n 0, 1) := by decide +kernel
theorem dX10_newTerm_38 : decode cX10_newTerm 38 = .ok (.getfield 7, 3) := by decide +kernel
theorem dX10_newTerm_41 : decode cX10_newTerm 41 = .ok (.iload 4, 2) := by decide +kernel
theorem dX10_newTerm_43 : decode cX10_newTerm 43 = .ok (.iconst 2, 1) := by decide +kernel
theorem dX10_newTerm_44 : decode cX10_newTerm 44 = .ok (.iadd, 1) := by decide +kernel
theorem dX10_newTerm_45 : decode cX10_newTerm 45 = .ok (.iload_n 3, 1) := by decide +kernel
theorem dX10_newTerm_46 : decode cX10_newTerm 46 = .ok (.iastore, 1) := by decide +kernel
theorem dX10_newTerm_47 : decode cX10_newTerm 47 = .ok (.aload_n 0, 1) := by decide +kernel
theorem dX10_newTerm_48 : decode cX10_newTerm 48 = .ok (.getfield 7, 3) := by decide +kernel
theorem dX10_newTerm_51 : decode cX10_newTerm 51 = .ok (.iload 4, 2) := by decide +kernel
theorem dX10_newTerm_53 : decode cX10_newTerm 53 = .ok (.iconst 3, 1) := by decide +kernel
theorem dX10_newTerm_54 : decode cX10_newTerm 54 = .ok (.iadd, 1) := by decide +kernel
theorem dX10_newTerm_55 : decode cX10_newTerm 55 = .ok (.iconst 0, 1) := by decide +kernel
theorem dX10_newTerm_56 : decode cX10_newTerm 56 = .ok (.iastore, 1) := by decide +kernel
theorem dX10_newTerm_57 : decode cX10_newTerm 57 = .ok (.aload_n 0, 1) := by decide +kernel
theorem dX10_newTerm_58 : decode cX10_newTerm 58 = .ok (.getfield 7, 3) := by decide +kernel
theorem dX10_newTerm_61 : decode cX10_newTerm 61 = .ok (.iload 4, 2) := by decide +kernel
theorem dX10_newTerm_63 : decode cX10_newTerm 63 = .ok (.iconst 3, 1) := by decide +kernel
theorem dX10_newTerm_64 : decode cX10_newTerm 64 = .ok (.iadd, 1) := by decide +kernel
theorem dX10_newTerm_65 : decode cX10_newTerm 65 = .ok (.iconst 1, 1) := by decide +kernel
theorem dX10_newTerm_66 : decode cX10_newTerm 66 = .ok (.iadd, 1) := by decide +kernel
theorem dX10_newTerm_67 : decode cX10_newTerm 67 = .ok (.bipush 23, 2) := by decide +kernel
theorem dX10_newTerm_69 : decode cX10_newTerm 69 = .ok (.iastore, 1) := by decide +kernel
theorem dX10_newTerm_70 : decode cX10_newTerm 70 = .ok (.aload_n 0, 1) := by decide +kernel
theorem dX10_newTerm_71 : decode cX10_newTerm 71 = .ok (.getfield 7, 3) := by decide +kernel
theorem dX10_newTerm_74 : decode cX10_newTerm 74 = .ok (.iload 4, 2) := by decide +kernel
theorem dX10_newTerm_76 : decode cX10_newTerm 76 = .ok (.iconst 5, 1) := by decide +kernel
theorem dX10_newTerm_77 : decode cX10_newTerm 77 = .ok (.iadd, 1) := by decide +kernel
theorem dX10_newTerm_78 : decode cX10_newTerm 78 = .ok (.iconst 0, 1) := by decide +kernel
theorem dX10_newTerm_79 : decode cX10_newTerm 79 = .ok (.iastore, 1) := by decide +kernel
theorem dX10_newTerm_80 : decode cX10_newTerm 80 = .ok (.aload_n 0, 1) := by decide +kernel
theorem dX10_newTerm_81 : decode cX10_newTerm 81 = .ok (.getfield 7, 3) := by decide +kernel
theorem dX10_newTerm_84 : decode cX10_newTerm 84 = .ok (.iload 4, 2) := by decide +kernel
theorem dX10_newTerm_86 : decode cX10_newTerm 86 = .ok (.iconst 5, 1) := by decide +kernel
theorem dX10_newTerm_87 : decode cX10_newTerm 87 = .ok (.iadd, 1) := by decide +kernel
theorem dX10_newTerm_88 : decode cX10_newTerm 88 = .ok (.iconst 1, 1) := by decide +kernel
theorem dX10_newTerm_89 : decode cX10_newTerm 89 = .ok (.iadd, 1) := by decide +kernel
theorem dX10_newTerm_90 : decode cX10_newTerm 90 = .ok (.bipush 29, 2) := by decide +kernel
theorem dX10_newTerm_92 : decode cX10_newTerm 92 = .ok (.iastore, 1) := by decide +kernel
theorem dX10_newTerm_93 : decode cX10_newTerm 93 = .ok (.aload_n 0, 1) := by decide +kernel
theorem dX10_newTerm_94 : decode cX10_newTerm 94 = .ok (.getfield 7, 3) := by decide +kernel
theorem dX10_newTerm_97 : decode cX10_newTerm 97 = .ok (.sipush 189, 3) := by decide +kernel
theorem dX10_newTerm_100 : decode cX10_newTerm 100 = .ok (.dup2, 1) := by decide +kernel
theorem dX10_newTerm_101 : decode cX10_newTerm 101 = .ok (.iaload, 1) := by decide +kernel
theorem dX10_newTerm_102 : decode cX10_newTerm 102 = .ok (.iconst 1, 1) := by decide +kernel
theorem dX10_newTerm_103 : decode cX10_newTerm 103 = .ok (.iadd, 1) := by decide +kernel
theorem dX10_newTerm_104 : decode cX10_newTerm 104 = .ok (.iastore, 1) := by decide +kernel
theorem dX10_newTerm_105 : decode cX10_newTerm 105 = .ok (.aload_n 0, 1) := by decide +kernel
theorem dX10_newTerm_106 : decode cX10_newTerm 106 = .ok (.getfield 7, 3) := by decide +kernel
theorem dX10_newTerm_109 : decode cX10_newTerm 109 = .ok (.sipush 189, 3) := by decide +kernel
theorem dX10_newTerm_112 : decode cX10_newTerm 112 = .ok (.iaload, 1) := by decide +kernel
theorem dX10_newTerm_113 : decode cX10_newTerm 113 = .ok (.iconst 1, 1) := by decide +kernel
theorem dX10_newTerm_114 : decode cX10_newTerm 114 = .ok (.isub, 1) := by decide +kernel
theorem dX10_newTerm_115 : decode cX10_newTerm 115 = .ok (.ireturn, 1) := by decide +kernel
theorem dX10_term_0 : decode cX10_term 0 = .ok (.iload_n 1, 1) := by decide +kernel
theorem dX10_term_1 : decode cX10_term 1 = .ok (.i2l, 1) := by decide +kernel
theorem dX10_term_2 : decode cX10_term 2 = .ok (.lconst 0, 1) := by decide +kernel
theorem dX10_term_3 : decode cX10_term 3 = .ok (.ldc2_w 137, 3) := by decide +kernel
theorem dX10_term_6 : decode cX10_term 6 = .ok (.invokestatic 71, 3) := by decide +kernel
theorem dX10_term_9 : decode cX10_term 9 = .ok (.ifCond .eq 17, 3) := by decide +kernel
theorem dX10_term_12 : decode cX10_term 12 = .ok (.iload_n 2, 1) := by decide +kernel
theorem dX10_term_13 : decode cX10_term 13 = .ok (.invokestatic 98, 3) := by decide +kernel
theorem dX10_term_16 : decode cX10_term 16 = .ok (.ifCond .eq 10, 3) := by decide +kernel
theorem dX10_term_19 : decode cX10_term 19 = .ok (.iload_n 3, 1) := by decide +kernel
theorem dX10_term_20 : decode cX10_term 20 = .ok (.invokestatic 82, 3) := by decide +kernel
theorem dX10_term_23 : decode cX10_term 23 = .ok (.ifCond .ne 10, 3) := by decide +kernel
theorem dX10_term_26 : decode cX10_term 26 = .ok (.aload_n 0, 1) := by decide +kernel
theorem dX10_term_27 : decode cX10_term 27 = .ok (.ldc 68, 2) := by decide +kernel
theorem dX10_term_29 : decode cX10_term 29 = .ok (.invokevirtual 86, 3) := by decide +kernel
theorem dX10_term_32 : decode cX10_term 32 = .ok (.ireturn, 1) := by decide +kernel
theorem dX10_term_33 : decode cX10_term 33 = .ok (.aload_n 0, 1) := by decide +kernel
theorem dX10_term_34 : decode cX10_term 34 = .ok (.iload_n 2, 1) := by decide +kernel
theorem dX10_term_35 : decode cX10_term 35 = .ok (.invokevirtual 139, 3) := by decide +kernel
theorem dX10_term_38 : decode cX10_term 38 = .ok (.ifCond .eq 13, 3) := by decide +kernel
theorem dX10_term_41 : decode cX10_term 41 = .ok (.aload_n 0, 1) := by decide +kernel
theorem dX10_term_42 : decode cX10_term 42 = .ok (.iload_n 1, 1) := by decide +kernel
theorem dX10_term_43 : decode cX10_term 43 = .ok (.iload_n 2, 1) := by decide +kernel
theorem dX10_term_44 : decode cX10_term 44 = .ok (.iload_n 3, 1) := by decide +kernel
theorem dX10_term_45 : decode cX10_term 45 = .ok (.invokevirtual 142, 3) := by decide +kernel
theorem dX10_term_48 : decode cX10_term 48 = .ok (.goto 9, 3) := by decide +kernel
theorem dX10_term_51 : decode cX10_term 51 = .ok (.aload_n 0, 1) := by decide +kernel
theorem dX10_term_52 : decode cX10_term 52 = .ok (.ldc 104, 2) := by decide +kernel
theorem dX10_term_54 : decode cX10_term 54 = .ok (.invokevirtual 86, 3) := by decide +kernel
theorem dX10_term_57 : decode cX10_term 57 = .ok (.ireturn, 1) := by decide +kernel
theorem dX10_asked_0 : decode cX10_asked 0 = .ok (.aload_n 0, 1) := by decide +kernel
theorem dX10_asked_1 : decode cX10_asked 1 = .ok (.iload_n 1, 1) := by decide +kernel
theorem dX10_asked_2 : decode cX10_asked 2 = .ok (.iconst 0, 1) := by decide +kernel
theorem dX10_asked_3 : decode cX10_asked 3 = .ok (.invokevirtual 131, 3) := by decide +kernel
theorem dX10_asked_6 : decode cX10_asked 6 = .ok (.istore_n 2, 1) := by decide +kernel
theorem dX10_asked_7 : decode cX10_asked 7 = .ok (.iload_n 2, 1) := by decide +kernel
theorem dX10_asked_8 : decode cX10_asked 8 = .ok (.iconst 2, 1) := by decide +kernel
theorem dX10_asked_9 : decode cX10_asked 9 = .ok (.if_icmp .ne 7, 3) := by decide +kernel
theorem dX10_asked_12 : decode cX10_asked 12 = .ok (.iconst 1, 1) := by decide +kernel
theorem dX10_asked_13 : decode cX10_asked 13 = .ok (.goto 23, 3) := by decide +kernel
theorem dX10_asked_16 : decode cX10_asked 16 = .ok (.iload_n 2, 1) := by decide +kernel
theorem dX10_asked_17 : decode cX10_asked 17 = .ok (.iconst 3, 1) := by decide +kernel
theorem dX10_asked_18 : decode cX10_asked 18 = .ok (.if_icmp .ne 7, 3) := by decide +kernel
theorem dX10_asked_21 : decode cX10_asked 21 = .ok (.iconst 2, 1) := by decide +kernel
theorem dX10_asked_22 : decode cX10_asked 22 = .ok (.goto 14, 3) := by decide +kernel
theorem dX10_asked_25 : decode cX10_asked 25 = .ok (.iload_n 2, 1) := by decide +kernel
theorem dX10_asked_26 : decode cX10_asked 26 = .ok (.bipush 6, 2) := by decide +kernel
theorem dX10_asked_28 : decode cX10_asked 28 = .ok (.if_icmp .ne 7, 3) := by decide +kernel
theorem dX10_asked_31 : decode cX10_asked 31 = .ok (.iconst 3, 1) := by decide +kernel
theorem dX10_asked_32 : decode cX10_asked 32 = .ok (.goto 4, 3) := by decide +kernel
theorem dX10_asked_35 : decode cX10_asked 35 = .ok (.iconst 0, 1) := by decide +kernel
theorem dX10_asked_36 : decode cX10_asked 36 = .ok (.ireturn, 1) := by decide +kernel
theorem dX10_termOf_0 : decode cX10_termOf 0 = .ok (.aload_n 0, 1) := by decide +kernel
theorem dX10_termOf_1 : decode cX10_termOf 1 = .ok (.iload_n 1, 1) := by decide +kernel
theorem dX10_termOf_2 : decode cX10_termOf 2 = .ok (.invokevirtual 145, 3) := by decide +kernel
theorem dX10_termOf_5 : decode cX10_termOf 5 = .ok (.ifCond .eq 15, 3) := by decide +kernel
theorem dX10_termOf_8 : decode cX10_termOf 8 = .ok (.iload_n 2, 1) := by decide +kernel
theorem dX10_termOf_9 : decode cX10_termOf 9 = .ok (.i2l, 1) := by decide +kernel
theorem dX10_termOf_10 : decode cX10_termOf 10 = .ok (.lconst 0, 1) := by decide +kernel
theorem dX10_termOf_11 : decode cX10_termOf 11 = .ok (.ldc2_w 75, 3) := by decide +kernel
theorem dX10_termOf_14 : decode cX10_termOf 14 = .ok (.invokestatic 71, 3) := by decide +kernel
theorem dX10_termOf_17 : decode cX10_termOf 17 = .ok (.ifCond .ne 10, 3) := by decide +kernel
theorem dX10_termOf_20 : decode cX10_termOf 20 = .ok (.aload_n 0, 1) := by decide +kernel
theorem dX10_termOf_21 : decode cX10_termOf 21 = .ok (.ldc 68, 2) := by decide +kernel
theorem dX10_termOf_23 : decode cX10_termOf 23 = .ok (.invokevirtual 86, 3) := by decide +kernel
theorem dX10_termOf_26 : decode cX10_termOf 26 = .ok (.ireturn, 1) := by decide +kernel
theorem dX10_termOf_27 : decode cX10_termOf 27 = .ok (.iload_n 2, 1) := by decide +kernel
theorem dX10_termOf_28 : decode cX10_termOf 28 = .ok (.bipush 7, 2) := by decide +kernel
theorem dX10_termOf_30 : decode cX10_termOf 30 = .ok (.if_icmp .ge 12, 3) := by decide +kernel
theorem dX10_termOf_33 : decode cX10_termOf 33 = .ok (.aload_n 0, 1) := by decide +kernel
theorem dX10_termOf_34 : decode cX10_termOf 34 = .ok (.iload_n 1, 1) := by decide +kernel
theorem dX10_termOf_35 : decode cX10_termOf 35 = .ok (.iload_n 2, 1) := by decide +kernel
theorem dX10_termOf_36 : decode cX10_termOf 36 = .ok (.invokevirtual 131, 3) := by decide +kernel
theorem dX10_termOf_39 : decode cX10_termOf 39 = .ok (.goto 8, 3) := by decide +kernel
