theorem dX11_init_0 : decode cX11_init 0 = .ok (.aload_n 0, 1) := by decide +kernel
theorem dX11_init_1 : decode cX11_init 1 = .ok (.invokespecial 1, 3) := by decide +kernel
theorem dX11_init_4 : decode cX11_init 4 = .ok (.aload_n 0, 1) := by decide +kernel
theorem dX11_init_5 : decode cX11_init 5 = .ok (.new 7, 3) := by decide +kernel
theorem dX11_init_8 : decode cX11_init 8 = .ok (.dup, 1) := by decide +kernel
theorem dX11_init_9 : decode cX11_init 9 = .ok (.invokespecial 9, 3) := by decide +kernel
theorem dX11_init_12 : decode cX11_init 12 = .ok (.putfield 10, 3) := by decide +kernel
theorem dX11_init_15 : decode cX11_init 15 = .ok (.aload_n 0, 1) := by decide +kernel
theorem dX11_init_16 : decode cX11_init 16 = .ok (.new 7, 3) := by decide +kernel
theorem dX11_init_19 : decode cX11_init 19 = .ok (.dup, 1) := by decide +kernel
theorem dX11_init_20 : decode cX11_init 20 = .ok (.invokespecial 9, 3) := by decide +kernel
theorem dX11_init_23 : decode cX11_init 23 = .ok (.putfield 16, 3) := by decide +kernel
theorem dX11_init_26 : decode cX11_init 26 = .ok (.aload_n 0, 1) := by decide +kernel
theorem dX11_init_27 : decode cX11_init 27 = .ok (.new 7, 3) := by decide +kernel
theorem dX11_init_30 : decode cX11_init 30 = .ok (.dup, 1) := by decide +kernel
theorem dX11_init_31 : decode cX11_init 31 = .ok (.invokespecial 9, 3) := by decide +kernel
theorem dX11_init_34 : decode cX11_init 34 = .ok (.putfield 19, 3) := by decide +kernel
theorem dX11_init_37 : decode cX11_init 37 = .ok (.aload_n 0, 1) := by decide +kernel
theorem dX11_init_38 : decode cX11_init 38 = .ok (.new 7, 3) := by decide +kernel
theorem dX11_init_41 : decode cX11_init 41 = .ok (.dup, 1) := by decide +kernel
theorem dX11_init_42 : decode cX11_init 42 = .ok (.invokespecial 9, 3) := by decide +kernel
theorem dX11_init_45 : decode cX11_init 45 = .ok (.putfield 22, 3) := by decide +kernel
theorem dX11_init_48 : decode cX11_init 48 = .ok (.aload_n 0, 1) := by decide +kernel
theorem dX11_init_49 : decode cX11_init 49 = .ok (.new 7, 3) := by decide +kernel
theorem dX11_init_52 : decode cX11_init 52 = .ok (.dup, 1) := by decide +kernel
theorem dX11_init_53 : decode cX11_init 53 = .ok (.invokespecial 9, 3) := by decide +kernel
theorem dX11_init_56 : decode cX11_init 56 = .ok (.putfield 25, 3) := by decide +kernel
theorem dX11_init_59 : decode cX11_init 59 = .ok (.aload_n 0, 1) := by decide +kernel
theorem dX11_init_60 : decode cX11_init 60 = .ok (.new 7, 3) := by decide +kernel
theorem dX11_init_63 : decode cX11_init 63 = .ok (.dup, 1) := by decide +kernel
theorem dX11_init_64 : decode cX11_init 64 = .ok (.invokespecial 9, 3) := by decide +kernel
theorem dX11_init_67 : decode cX11_init 67 = .ok (.putfield 28, 3) := by decide +kernel
theorem dX11_init_70 : decode cX11_init 70 = .ok (.aload_n 0, 1) := by decide +kernel
theorem dX11_init_71 : decode cX11_init 71 = .ok (.new 7, 3) := by decide +kernel
theorem dX11_init_74 : decode cX11_init 74 = .ok (.dup, 1) := by decide +kernel
theorem dX11_init_75 : decode cX11_init 75 = .ok (.invokespecial 9, 3) := by decide +kernel
theorem dX11_init_78 : decode cX11_init 78 = .ok (.putfield 31, 3) := by decide +kernel
theorem dX11_init_81 : decode cX11_init 81 = .ok (.aload_n 0, 1) := by decide +kernel
theorem dX11_init_82 : decode cX11_init 82 = .ok (.new 7, 3) := by decide +kernel
theorem dX11_init_85 : decode cX11_init 85 = .ok (.dup, 1) := by decide +kernel
theorem dX11_init_86 : decode cX11_init 86 = .ok (.invokespecial 9, 3) := by decide +kernel
theorem dX11_init_89 : decode cX11_init 89 = .ok (.putfield 34, 3) := by decide +kernel
theorem dX11_init_92 : decode cX11_init 92 = .ok (.aload_n 0, 1) := by decide +kernel
theorem dX11_init_93 : decode cX11_init 93 = .ok (.new 7, 3) := by decide +kernel
theorem dX11_init_96 : decode cX11_init 96 = .ok (.dup, 1) := by decide +kernel
theorem dX11_init_97 : decode cX11_init 97 = .ok (.invokespecial 9, 3) := by decide +kernel
theorem dX11_init_100 : decode cX11_init 100 = .ok (.putfield 37, 3) := by decide +kernel
theorem dX11_init_103 : decode cX11_init 103 = .ok (.aload_n 0, 1) := by decide +kernel
theorem dX11_init_104 : decode cX11_init 104 = .ok (.new 40, 3) := by decide +kernel
theorem dX11_init_107 : decode cX11_init 107 = .ok (.dup, 1) := by decide +kernel
theorem dX11_init_108 : decode cX11_init 108 = .ok (.invokespecial 42, 3) := by decide +kernel
theorem dX11_init_111 : decode cX11_init 111 = .ok (.putfield 43, 3) := by decide +kernel
theorem dX11_init_114 : decode cX11_init 114 = .ok (.aload_n 0, 1) := by decide +kernel
theorem dX11_init_115 : decode cX11_init 115 = .ok (.new 47, 3) := by decide +kernel
theorem dX11_init_118 : decode cX11_init 118 = .ok (.dup, 1) := by decide +kernel
theorem dX11_init_119 : decode cX11_init 119 = .ok (.invokespecial 49, 3) := by decide +kernel
theorem dX11_init_122 : decode cX11_init 122 = .ok (.putfield 50, 3) := by decide +kernel
theorem dX11_init_125 : decode cX11_init 125 = .ok (.aload_n 0, 1) := by decide +kernel
theorem dX11_init_126 : decode cX11_init 126 = .ok (.bipush 12, 2) := by decide +kernel
theorem dX11_init_128 : decode cX11_init 128 = .ok (.putfield 54, 3) := by decide +kernel
theorem dX11_init_131 : decode cX11_init 131 = .ok (.return_, 1) := by decide +kernel
theorem dX11_mast_0 : decode cX11_mast 0 = .ok (.iload_n 1, 1) := by decide +kernel
theorem dX11_mast_1 : decode cX11_mast 1 = .ok (.iload_n 2, 1) := by decide +kernel
theorem dX11_mast_2 : decode cX11_mast 2 = .ok (.invokestatic 58, 3) := by decide +kernel
theorem dX11_mast_5 : decode cX11_mast 5 = .ok (.ifCond .eq 46, 3) := by decide +kernel
theorem dX11_mast_8 : decode cX11_mast 8 = .ok (.iload_n 3, 1) := by decide +kernel
theorem dX11_mast_9 : decode cX11_mast 9 = .ok (.iconst 1, 1) := by decide +kernel
theorem dX11_mast_10 : decode cX11_mast 10 = .ok (.sipush 150, 3) := by decide +kernel
theorem dX11_mast_13 : decode cX11_mast 13 = .ok (.invokestatic 62, 3) := by decide +kernel
theorem dX11_mast_16 : decode cX11_mast 16 = .ok (.ifCond .eq 35, 3) := by decide +kernel
theorem dX11_mast_19 : decode cX11_mast 19 = .ok (.iload 4, 2) := by decide +kernel
theorem dX11_mast_21 : decode cX11_mast 21 = .ok (.iconst 0, 1) := by decide +kernel
theorem dX11_mast_22 : decode cX11_mast 22 = .ok (.bipush 9, 2) := by decide +kernel
theorem dX11_mast_24 : decode cX11_mast 24 = .ok (.invokestatic 62, 3) := by decide +kernel
theorem dX11_mast_27 : decode cX11_mast 27 = .ok (.ifCond .eq 24, 3) := by decide +kernel
theorem dX11_mast_30 : decode cX11_mast 30 = .ok (.iload 5, 2) := by decide +kernel
theorem dX11_mast_32 : decode cX11_mast 32 = .ok (.iconst 0, 1) := by decide +kernel
theorem dX11_mast_33 : decode cX11_mast 33 = .ok (.bipush 9, 2) := by decide +kernel
theorem dX11_mast_35 : decode cX11_mast 35 = .ok (.invokestatic 62, 3) := by decide +kernel
theorem dX11_mast_38 : decode cX11_mast 38 = .ok (.ifCond .eq 13, 3) := by decide +kernel
theorem dX11_mast_41 : decode cX11_mast 41 = .ok (.iload 6, 2) := by decide +kernel
theorem dX11_mast_43 : decode cX11_mast 43 = .ok (.iconst 0, 1) := by decide +kernel
theorem dX11_mast_44 : decode cX11_mast 44 = .ok (.iconst 5, 1) := by decide +kernel
theorem dX11_mast_45 : decode cX11_mast 45 = .ok (.invokestatic 62, 3) := by decide +kernel
theorem dX11_mast_48 : decode cX11_mast 48 = .ok (.ifCond .ne 13, 3) := by decide +kernel
theorem dX11_mast_51 : decode cX11_mast 51 = .ok (.new 66, 3) := by decide +kernel
theorem dX11_mast_54 : decode cX11_mast 54 = .ok (.dup, 1) := by decide +kernel
theorem dX11_mast_55 : decode cX11_mast 55 = .ok (.ldc 68, 2) := by decide +kernel
theorem dX11_mast_57 : decode cX11_mast 57 = .ok (.invokespecial 70, 3) := by decide +kernel
theorem dX11_mast_60 : decode cX11_mast 60 = .ok (.athrow, 1) := by decide +kernel
theorem dX11_mast_61 : decode cX11_mast 61 = .ok (.aload_n 0, 1) := by decide +kernel
theorem dX11_mast_62 : decode cX11_mast 62 = .ok (.getfield 10, 3) := by decide +kernel
theorem dX11_mast_65 : decode cX11_mast 65 = .ok (.invokevirtual 73, 3) := by decide +kernel
theorem dX11_mast_68 : decode cX11_mast 68 = .ok (.iconst 5, 1) := by decide +kernel
theorem dX11_mast_69 : decode cX11_mast 69 = .ok (.if_icmp .lt 13, 3) := by decide +kernel
theorem dX11_mast_72 : decode cX11_mast 72 = .ok (.new 77, 3) := by decide +kernel
theorem dX11_mast_75 : decode cX11_mast 75 = .ok (.dup, 1) := by decide +kernel
theorem dX11_mast_76 : decode cX11_mast 76 = .ok (.ldc 79, 2) := by decide +kernel
theorem dX11_mast_78 : decode cX11_mast 78 = .ok (.invokespecial 81, 3) := by decide +kernel
theorem dX11_mast_81 : decode cX11_mast 81 = .ok (.athrow, 1) := by decide +kernel
theorem dX11_mast_82 : decode cX11_mast 82 = .ok (.aload_n 0, 1) := by decide +kernel
theorem dX11_mast_83 : decode cX11_mast 83 = .ok (.getfield 10, 3) := by decide +kernel
theorem dX11_mast_86 : decode cX11_mast 86 = .ok (.new 82, 3) := by decide +kernel
theorem dX11_mast_89 : decode cX11_mast 89 = .ok (.dup, 1) := by decide +kernel
theorem dX11_mast_90 : decode cX11_mast 90 = .ok (.iload_n 1, 1) := by decide +kernel
theorem dX11_mast_91 : decode cX11_mast 91 = .ok (.iload_n 2, 1) := by decide +kernel
theorem dX11_mast_92 : decode cX11_mast 92 = .ok (.iload_n 3, 1) := by decide +kernel
theorem dX11_mast_93 : decode cX11_mast 93 = .ok (.iload 4, 2) := by decide +kernel
theorem dX11_mast_95 : decode cX11_mast 95 = .ok (.iload 5, 2) := by decide +kernel
theorem dX11_mast_97 : decode cX11_mast 97 = .ok (.iload 6, 2) := by decide +kernel
theorem dX11_mast_99 : decode cX11_mast 99 = .ok (.invokespecial 84, 3) := by decide +kernel
theorem dX11_mast_102 : decode cX11_mast 102 = .ok (.invokevirtual 87, 3) := by decide +kernel
theorem dX11_mast_105 : decode cX11_mast 105 = .ok (.pop, 1) := by decide +kernel
theorem dX11_mast_106 : decode cX11_mast 106 = .ok (.aload_n 0, 1) := by decide +kernel
theorem dX11_mast_107 : decode cX11_mast 107 = .ok (.getfield 10, 3) := by decide +kernel
theorem dX11_mast_110 : decode cX11_mast 110 = .ok (.invokevirtual 73, 3) := by decide +kernel
theorem dX11_mast_113 : decode cX11_mast 113 = .ok (.iconst 1, 1) := by decide +kernel
theorem dX11_mast_114 : decode cX11_mast 114 = .ok (.isub, 1) := by decide +kernel
theorem dX11_mast_115 : decode cX11_mast 115 = .ok (.ireturn, 1) := by decide +kernel
theorem dX11_station_0 : decode cX11_station 0 = .ok (.iload_n 1, 1) := by decide +kernel
theorem dX11_station_1 : decode cX11_station 1 = .ok (.iload_n 2, 1) := by decide +kernel
theorem dX11_station_2 : decode cX11_station 2 = .ok (.invokestatic 58, 3) := by decide +kernel
theorem dX11_station_5 : decode cX11_station 5 = .ok (.ifCond .ne 13, 3) := by decide +kernel
theorem dX11_station_8 : decode cX11_station 8 = .ok (.new 66, 3) := by decide +kernel
theorem dX11_station_11 : decode cX11_station 11 = .ok (.dup, 1) := by decide +kernel
theorem dX11_station_12 : decode cX11_station 12 = .ok (.ldc 107, 2) := by decide +kernel
theorem dX11_station_14 : decode cX11_station 14 = .ok (.invokespecial 70, 3) := by decide +kernel
theorem dX11_station_17 : decode cX11_station 17 = .ok (.athrow, 1) := by decide +kernel
theorem dX11_station_18 : decode cX11_station 18 = .ok (.aload_n 0, 1) := by decide +kernel
theorem dX11_station_19 : decode cX11_station 19 = .ok (.getfield 16, 3) := by decide +kernel
theorem dX11_station_22 : decode cX11_station 22 = .ok (.invokevirtual 73, 3) := by decide +kernel
theorem dX11_station_25 : decode cX11_station 25 = .ok (.iconst 4, 1) := by decide +kernel
theorem dX11_station_26 : decode cX11_station 26 = .ok (.if_icmp .lt 13, 3) := by decide +kernel
theorem dX11_station_29 : decode cX11_station 29 = .ok (.new 77, 3) := by decide +kernel
theorem dX11_station_32 : decode cX11_station 32 = .ok (.dup, 1) := by decide +kernel
theorem dX11_station_33 : decode cX11_station 33 = .ok (.ldc 109, 2) := by decide +kernel
theorem dX11_station_35 : decode cX11_station 35 = .ok (.invokespecial 81, 3) := by decide +kernel
theorem dX11_station_38 : decode cX11_station 38 = .ok (.athrow, 1) := by decide +kernel
theorem dX11_station_39 : decode cX11_station 39 = .ok (.aload_n 0, 1) := by decide +kernel
theorem dX11_station_40 : decode cX11_station 40 = .ok (.getfield 16, 3) := by decide +kernel
theorem dX11_station_43 : decode cX11_station 43 = .ok (.new 111, 3) := by decide +kernel
theorem dX11_station_46 : decode cX11_station 46 = .ok (.dup, 1) := by decide +kernel
theorem dX11_station_47 : decode cX11_station 47 = .ok (.iload_n 1, 1) := by decide +kernel
theorem dX11_station_48 : decode cX11_station 48 = .ok (.iload_n 2, 1) := by decide +kernel
theorem dX11_station_49 : decode cX11_station 49 = .ok (.invokespecial 113, 3) := by decide +kernel
theorem dX11_station_52 : decode cX11_station 52 = .ok (.invokevirtual 87, 3) := by decide +kernel
theorem dX11_station_55 : decode cX11_station 55 = .ok (.pop, 1) := by decide +kernel
theorem dX11_station_56 : decode cX11_station 56 = .ok (.aload_n 0, 1) := by decide +kernel
theorem dX11_station_57 : decode cX11_station 57 = .ok (.getfield 16, 3) := by decide +kernel
theorem dX11_station_60 : decode cX11_station 60 = .ok (.invokevirtual 73, 3) := by decide +kernel
theorem dX11_station_63 : decode cX11_station 63 = .ok (.iconst 1, 1) := by decide +kernel
theorem dX11_station_64 : decode cX11_station 64 = .ok (.isub, 1) := by decide +kernel
theorem dX11_station_65 : decode cX11_station 65 = .ok (.ireturn, 1) := by decide +kernel
theorem dX11_squadron_0 : decode cX11_squadron 0 = .ok (.iload_n 1, 1) := by decide +kernel
theorem dX11_squadron_1 : decode cX11_squadron 1 = .ok (.aload_n 0, 1) := by decide +kernel
theorem dX11_squadron_2 : decode cX11_squadron 2 = .ok (.getfield 16, 3) := by decide +kernel
theorem dX11_squadron_5 : decode cX11_squadron 5 = .ok (.invokevirtual 73, 3) := by decide +kernel
theorem dX11_squadron_8 : decode cX11_squadron 8 = .ok (.invokestatic 91, 3) := by decide +kernel
theorem dX11_squadron_11 : decode cX11_squadron 11 = .ok (.ifCond .ne 13, 3) := by decide +kernel
theorem dX11_squadron_14 : decode cX11_squadron 14 = .ok (.new 94, 3) := by decide +kernel
theorem dX11_squadron_17 : decode cX11_squadron 17 = .ok (.dup, 1) := by decide +kernel
theorem dX11_squadron_18 : decode cX11_squadron 18 = .ok (.ldc 116, 2) := by decide +kernel
theorem dX11_squadron_20 : decode cX11_squadron 20 = .ok (.invokespecial 98, 3) := by decide +kernel
theorem dX11_squadron_23 : decode cX11_squadron 23 = .ok (.athrow, 1) := by decide +kernel
theorem dX11_squadron_24 : decode cX11_squadron 24 = .ok (.iload_n 2, 1) := by decide +kernel
theorem dX11_squadron_25 : decode cX11_squadron 25 = .ok (.iconst 1, 1) := by decide +kernel
theorem dX11_squadron_26 : decode cX11_squadron 26 = .ok (.bipush 12, 2) := by decide +kernel
theorem dX11_squadron_28 : decode cX11_squadron 28 = .ok (.invokestatic 62, 3) := by decide +kernel
theorem dX11_squadron_31 : decode cX11_squadron 31 = .ok (.ifCond .eq 36, 3) := by decide +kernel
theorem dX11_squadron_34 : decode cX11_squadron 34 = .ok (.iload_n 3, 1) := by decide +kernel
theorem dX11_squadron_35 : decode cX11_squadron 35 = .ok (.iconst 5, 1) := by decide +kernel
theorem dX11_squadron_36 : decode cX11_squadron 36 = .ok (.bipush 20, 2) := by decide +kernel
theorem dX11_squadron_38 : decode cX11_squadron 38 = .ok (.invokestatic 62, 3) := by decide +kernel
theorem dX11_squadron_41 : decode cX11_squadron 41 = .ok (.ifCond .eq 26, 3) := by decide +kernel
theorem dX11_squadron_44 : decode cX11_squadron 44 = .ok (.iload 4, 2) := by decide +kernel
theorem dX11_squadron_46 : decode cX11_squadron 46 = .ok (.bipush 10, 2) := by decide +kernel
theorem dX11_squadron_48 : decode cX11_squadron 48 = .ok (.bipush 99, 2) := by decide +kernel
theorem dX11_squadron_50 : decode cX11_squadron 50 = .ok (.invokestatic 62, 3) := by decide +kernel
theorem dX11_squadron_53 : decode cX11_squadron 53 = .ok (.ifCond .eq 14, 3) := by decide +kernel
theorem dX11_squadron_56 : decode cX11_squadron 56 = .ok (.iload 5, 2) := by decide +kernel
theorem dX11_squadron_58 : decode cX11_squadron 58 = .ok (.iconst 1, 1) := by decide +kernel
theorem dX11_squadron_59 : decode cX11_squadron 59 = .ok (.bipush 15, 2) := by decide +kernel
theorem dX11_squadron_61 : decode cX11_squadron 61 = .ok (.invokestatic 62, 3) := by decide +kernel
theorem dX11_squadron_64 : decode cX11_squadron 64 = .ok (.ifCond .ne 13, 3) := by decide +kernel
theorem dX11_squadron_67 : decode cX11_squadron 67 = .ok (.new 66, 3) := by decide +kernel
theorem dX11_squadron_70 : decode cX11_squadron 70 = .ok (.dup, 1) := by decide +kernel
theorem dX11_squadron_71 : decode cX11_squadron 71 = .ok (.ldc 118, 2) := by decide +kernel
theorem dX11_squadron_73 : decode cX11_squadron 73 = .ok (.invokespecial 70, 3) := by decide +kernel
theorem dX11_squadron_76 : decode cX11_squadron 76 = .ok (.athrow, 1) := by decide +kernel
theorem dX11_squadron_77 : decode cX11_squadron 77 = .ok (.aload_n 0, 1) := by decide +kernel
theorem dX11_squadron_78 : decode cX11_squadron 78 = .ok (.getfield 19, 3) := by decide +kernel
theorem dX11_squadron_81 : decode cX11_squadron 81 = .ok (.invokevirtual 73, 3) := by decide +kernel
theorem dX11_squadron_84 : decode cX11_squadron 84 = .ok (.bipush 8, 2) := by decide +kernel
theorem dX11_squadron_86 : decode cX11_squadron 86 = .ok (.if_icmp .lt 13, 3) := by decide +kernel
theorem dX11_squadron_89 : decode cX11_squadron 89 = .ok (.new 77, 3) := by decide +kernel
theorem dX11_squadron_92 : decode cX11_squadron 92 = .ok (.dup, 1) := by decide +kernel
theorem dX11_squadron_93 : decode cX11_squadron 93 = .ok (.ldc 120, 2) := by decide +kernel
theorem dX11_squadron_95 : decode cX11_squadron 95 = .ok (.invokespecial 81, 3) := by decide +kernel
theorem dX11_squadron_98 : decode cX11_squadron 98 = .ok (.athrow, 1) := by decide +kernel
theorem dX11_squadron_99 : decode cX11_squadron 99 = .ok (.aload_n 0, 1) := by decide +kernel
theorem dX11_squadron_100 : decode cX11_squadron 100 = .ok (.getfield 19, 3) := by decide +kernel
theorem dX11_squadron_103 : decode cX11_squadron 103 = .ok (.new 122, 3) := by decide +kernel
theorem dX11_squadron_106 : decode cX11_squadron 106 = .ok (.dup, 1) := by decide +kernel
theorem dX11_squadron_107 : decode cX11_squadron 107 = .ok (.iload_n 1, 1) := by decide +kernel
theorem dX11_squadron_108 : decode cX11_squadron 108 = .ok (.aload_n 0, 1) := by decide +kernel
theorem dX11_squadron_109 : decode cX11_squadron 109 = .ok (.getfield 16, 3) := by decide +kernel
theorem dX11_squadron_112 : decode cX11_squadron 112 = .ok (.iload_n 1, 1) := by decide +kernel
theorem dX11_squadron_113 : decode cX11_squadron 113 = .ok (.invokevirtual 99, 3) := by decide +kernel
theorem dX11_squadron_116 : decode cX11_squadron 116 = .ok (.checkcast 111, 3) := by decide +kernel
theorem dX11_squadron_119 : decode cX11_squadron 119 = .ok (.iload_n 2, 1) := by decide +kernel
theorem dX11_squadron_120 : decode cX11_squadron 120 = .ok (.iload_n 3, 1) := by decide +kernel
theorem dX11_squadron_121 : decode cX11_squadron 121 = .ok (.iload 4, 2) := by decide +kernel
theorem dX11_squadron_123 : decode cX11_squadron 123 = .ok (.iload 5, 2) := by decide +kernel
theorem dX11_squadron_125 : decode cX11_squadron 125 = .ok (.invokespecial 124, 3) := by decide +kernel
theorem dX11_squadron_128 : decode cX11_squadron 128 = .ok (.invokevirtual 87, 3) := by decide +kernel
theorem dX11_squadron_131 : decode cX11_squadron 131 = .ok (.pop, 1) := by decide +kernel
theorem dX11_squadron_132 : decode cX11_squadron 132 = .ok (.aload_n 0, 1) := by decide +kernel
theorem dX11_squadron_133 : decode cX11_squadron 133 = .ok (.getfield 19, 3) := by decide +kernel
theorem dX11_squadron_136 : decode cX11_squadron 136 = .ok (.invokevirtual 73, 3) := by decide +kernel
theorem dX11_squadron_139 : decode cX11_squadron 139 = .ok (.iconst 1, 1) := by decide +kernel
theorem dX11_squadron_140 : decode cX11_squadron 140 = .ok (.isub, 1) := by decide +kernel
theorem dX11_squadron_141 : decode cX11_squadron 141 = .ok (.ireturn, 1) := by decide +kernel
theorem dX11_gun_0 : decode cX11_gun 0 = .ok (.iload_n 1, 1) := by decide +kernel
theorem dX11_gun_1 : decode cX11_gun 1 = .ok (.iload_n 2, 1) := by decide +kernel
theorem dX11_gun_2 : decode cX11_gun 2 = .ok (.invokestatic 58, 3) := by decide +kernel
theorem dX11_gun_5 : decode cX11_gun 5 = .ok (.ifCond .eq 13, 3) := by decide +kernel
theorem dX11_gun_8 : decode cX11_gun 8 = .ok (.iload_n 3, 1) := by decide +kernel
theorem dX11_gun_9 : decode cX11_gun 9 = .ok (.iconst 1, 1) := by decide +kernel
theorem dX11_gun_10 : decode cX11_gun 10 = .ok (.bipush 20, 2) := by decide +kernel
theorem dX11_gun_12 : decode cX11_gun 12 = .ok (.invokestatic 62, 3) := by decide +kernel
theorem dX11_gun_15 : decode cX11_gun 15 = .ok (.ifCond .ne 13, 3) := by decide +kernel
theorem dX11_gun_18 : decode cX11_gun 18 = .ok (.new 66, 3) := by decide +kernel
theorem dX11_gun_21 : decode cX11_gun 21 = .ok (.dup, 1) := by decide +kernel
theorem dX11_gun_22 : decode cX11_gun 22 = .ok (.ldc 127, 2) := by decide +kernel
theorem dX11_gun_24 : decode cX11_gun 24 = .ok (.invokespecial 70, 3) := by decide +kernel
theorem dX11_gun_27 : decode cX11_gun 27 = .ok (.athrow, 1) := by decide +kernel
theorem dX11_gun_28 : decode cX11_gun 28 = .ok (.aload_n 0, 1) := by decide +kernel
theorem dX11_gun_29 : decode cX11_gun 29 = .ok (.getfield 22, 3) := by decide +kernel
theorem dX11_gun_32 : decode cX11_gun 32 = .ok (.invokevirtual 73, 3) := by decide +kernel
theorem dX11_gun_35 : decode cX11_gun 35 = .ok (.bipush 6, 2) := by decide +kernel
theorem dX11_gun_37 : decode cX11_gun 37 = .ok (.if_icmp .lt 13, 3) := by decide +kernel
theorem dX11_gun_40 : decode cX11_gun 40 = .ok (.new 77, 3) := by decide +kernel
theorem dX11_gun_43 : decode cX11_gun 43 = .ok (.dup, 1) := by decide +kernel
theorem dX11_gun_44 : decode cX11_gun 44 = .ok (.ldc 129, 2) := by decide +kernel
theorem dX11_gun_46 : decode cX11_gun 46 = .ok (.invokespecial 81, 3) := by decide +kernel
theorem dX11_gun_49 : decode cX11_gun 49 = .ok (.athrow, 1) := by decide +kernel
theorem dX11_gun_50 : decode cX11_gun 50 = .ok (.aload_n 0, 1) := by decide +kernel
theorem dX11_gun_51 : decode cX11_gun 51 = .ok (.getfield 22, 3) := by decide +kernel
theorem dX11_gun_54 : decode cX11_gun 54 = .ok (.new 131, 3) := by decide +kernel
theorem dX11_gun_57 : decode cX11_gun 57 = .ok (.dup, 1) := by decide +kernel
theorem dX11_gun_58 : decode cX11_gun 58 = .ok (.iload_n 1, 1) := by decide +kernel
theorem dX11_gun_59 : decode cX11_gun 59 = .ok (.iload_n 2, 1) := by decide +kernel
theorem dX11_gun_60 : decode cX11_gun 60 = .ok (.iload_n 3, 1) := by decide +kernel
theorem dX11_gun_61 : decode cX11_gun 61 = .ok (.invokespecial 133, 3) := by decide +kernel
theorem dX11_gun_64 : decode cX11_gun 64 = .ok (.invokevirtual 87, 3) := by decide +kernel
theorem dX11_gun_67 : decode cX11_gun 67 = .ok (.pop, 1) := by decide +kernel
theorem dX11_gun_68 : decode cX11_gun 68 = .ok (.aload_n 0, 1) := by decide +kernel
theorem dX11_gun_69 : decode cX11_gun 69 = .ok (.getfield 22, 3) := by decide +kernel
theorem dX11_gun_72 : decode cX11_gun 72 = .ok (.invokevirtual 73, 3) := by decide +kernel
theorem dX11_gun_75 : decode cX11_gun 75 = .ok (.iconst 1, 1) := by decide +kernel
theorem dX11_gun_76 : decode cX11_gun 76 = .ok (.isub, 1) := by decide +kernel
theorem dX11_gun_77 : decode cX11_gun 77 = .ok (.ireturn, 1) := by decide +kernel
theorem dX11_town_0 : decode cX11_town 0 = .ok (.iload_n 1, 1) := by decide +kernel
theorem dX11_town_1 : decode cX11_town 1 = .ok (.iload_n 2, 1) := by decide +kernel
theorem dX11_town_2 : decode cX11_town 2 = .ok (.invokestatic 58, 3) := by decide +kernel
theorem dX11_town_5 : decode cX11_town 5 = .ok (.ifCond .eq 13, 3) := by decide +kernel
theorem dX11_town_8 : decode cX11_town 8 = .ok (.iload_n 3, 1) := by decide +kernel
theorem dX11_town_9 : decode cX11_town 9 = .ok (.iconst 1, 1) := by decide +kernel
theorem dX11_town_10 : decode cX11_town 10 = .ok (.bipush 99, 2) := by decide +kernel
theorem dX11_town_12 : decode cX11_town 12 = .ok (.invokestatic 62, 3) := by decide +kernel
theorem dX11_town_15 : decode cX11_town 15 = .ok (.ifCond .ne 13, 3) := by decide +kernel
theorem dX11_town_18 : decode cX11_town 18 = .ok (.new 66, 3) := by decide +kernel
theorem dX11_town_21 : decode cX11_town 21 = .ok (.dup, 1) := by decide +kernel
theorem dX11_town_22 : decode cX11_town 22 = .ok (.ldc 141, 2) := by decide +kernel
theorem dX11_town_24 : decode cX11_town 24 = .ok (.invokespecial 70, 3) := by decide +kernel
theorem dX11_town_27 : decode cX11_town 27 = .ok (.athrow, 1) := by decide +kernel
theorem dX11_town_28 : decode cX11_town 28 = .ok (.aload_n 0, 1) := by decide +kernel
theorem dX11_town_29 : decode cX11_town 29 = .ok (.getfield 25, 3) := by decide +kernel
theorem dX11_town_32 : decode cX11_town 32 = .ok (.invokevirtual 73, 3) := by decide +kernel
theorem dX11_town_35 : decode cX11_town 35 = .ok (.bipush 6, 2) := by decide +kernel
theorem dX11_town_37 : decode cX11_town 37 = .ok (.if_icmp .lt 13, 3) := by decide +kernel
theorem dX11_town_40 : decode cX11_town 40 = .ok (.new 77, 3) := by decide +kernel
theorem dX11_town_43 : decode cX11_town 43 = .ok (.dup, 1) := by decide +kernel
theorem dX11_town_44 : decode cX11_town 44 = .ok (.ldc 143, 2) := by decide +kernel
theorem dX11_town_46 : decode cX11_town 46 = .ok (.invokespecial 81, 3) := by decide +kernel
theorem dX11_town_49 : decode cX11_town 49 = .ok (.athrow, 1) := by decide +kernel
theorem dX11_town_50 : decode cX11_town 50 = .ok (.aload_n 0, 1) := by decide +kernel
theorem dX11_town_51 : decode cX11_town 51 = .ok (.getfield 25, 3) := by decide +kernel
theorem dX11_town_54 : decode cX11_town 54 = .ok (.new 145, 3) := by decide +kernel
theorem dX11_town_57 : decode cX11_town 57 = .ok (.dup, 1) := by decide +kernel
theorem dX11_town_58 : decode cX11_town 58 = .ok (.iload_n 1, 1) := by decide +kernel
theorem dX11_town_59 : decode cX11_town 59 = .ok (.iload_n 2, 1) := by decide +kernel
theorem dX11_town_60 : decode cX11_town 60 = .ok (.iload_n 3, 1) := by decide +kernel
theorem dX11_town_61 : decode cX11_town 61 = .ok (.invokespecial 147, 3) := by decide +kernel
theorem dX11_town_64 : decode cX11_town 64 = .ok (.invokevirtual 87, 3) := by decide +kernel
theorem dX11_town_67 : decode cX11_town 67 = .ok (.pop, 1) := by decide +kernel
theorem dX11_town_68 : decode cX11_town 68 = .ok (.aload_n 0, 1) := by decide +kernel
theorem dX11_town_69 : decode cX11_town 69 = .ok (.getfield 25, 3) := by decide +kernel
theorem dX11_town_72 : decode cX11_town 72 = .ok (.invokevirtual 73, 3) := by decide +kernel
theorem dX11_town_75 : decode cX11_town 75 = .ok (.iconst 1, 1) := by decide +kernel
theorem dX11_town_76 : decode cX11_town 76 = .ok (.isub, 1) := by decide +kernel
theorem dX11_town_77 : decode cX11_town 77 = .ok (.ireturn, 1) := by decide +kernel
theorem dX11_flight_0 : decode cX11_flight 0 = .ok (.iload_n 2, 1) := by decide +kernel
theorem dX11_flight_1 : decode cX11_flight 1 = .ok (.iload_n 3, 1) := by decide +kernel
theorem dX11_flight_2 : decode cX11_flight 2 = .ok (.invokestatic 58, 3) := by decide +kernel
theorem dX11_flight_5 : decode cX11_flight 5 = .ok (.ifCond .eq 35, 3) := by decide +kernel
theorem dX11_flight_8 : decode cX11_flight 8 = .ok (.iload 4, 2) := by decide +kernel
theorem dX11_flight_10 : decode cX11_flight 10 = .ok (.iload 5, 2) := by decide +kernel
theorem dX11_flight_12 : decode cX11_flight 12 = .ok (.invokestatic 150, 3) := by decide +kernel
theorem dX11_flight_15 : decode cX11_flight 15 = .ok (.ifCond .eq 25, 3) := by decide +kernel
theorem dX11_flight_18 : decode cX11_flight 18 = .ok (.iload 6, 2) := by decide +kernel
theorem dX11_flight_20 : decode cX11_flight 20 = .ok (.iconst 1, 1) := by decide +kernel
theorem dX11_flight_21 : decode cX11_flight 21 = .ok (.bipush 9, 2) := by decide +kernel
theorem dX11_flight_23 : decode cX11_flight 23 = .ok (.invokestatic 62, 3) := by decide +kernel
theorem dX11_flight_26 : decode cX11_flight 26 = .ok (.ifCond .eq 14, 3) := by decide +kernel
theorem dX11_flight_29 : decode cX11_flight 29 = .ok (.iload 7, 2) := by decide +kernel
theorem dX11_flight_31 : decode cX11_flight 31 = .ok (.iconst 1, 1) := by decide +kernel
theorem dX11_flight_32 : decode cX11_flight 32 = .ok (.bipush 99, 2) := by decide +kernel
theorem dX11_flight_34 : decode cX11_flight 34 = .ok (.invokestatic 62, 3) := by decide +kernel
theorem dX11_flight_37 : decode cX11_flight 37 = .ok (.ifCond .ne 13, 3) := by decide +kernel
theorem dX11_flight_40 : decode cX11_flight 40 = .ok (.new 66, 3) := by decide +kernel
theorem dX11_flight_43 : decode cX11_flight 43 = .ok (.dup, 1) := by decide +kernel
theorem dX11_flight_44 : decode cX11_flight 44 = .ok (.ldc 153, 2) := by decide +kernel
theorem dX11_flight_46 : decode cX11_flight 46 = .ok (.invokespecial 70, 3) := by decide +kernel
theorem dX11_flight_49 : decode cX11_flight 49 = .ok (.athrow, 1) := by decide +kernel
theorem dX11_flight_50 : decode cX11_flight 50 = .ok (.aload_n 0, 1) := by decide +kernel
theorem dX11_flight_51 : decode cX11_flight 51 = .ok (.getfield 28, 3) := by decide +kernel
theorem dX11_flight_54 : decode cX11_flight 54 = .ok (.invokevirtual 73, 3) := by decide +kernel
theorem dX11_flight_57 : decode cX11_flight 57 = .ok (.bipush 12, 2) := by decide +kernel
theorem dX11_flight_59 : decode cX11_flight 59 = .ok (.if_icmp .lt 13, 3) := by decide +kernel
theorem dX11_flight_62 : decode cX11_flight 62 = .ok (.new 77, 3) := by decide +kernel
theorem dX11_flight_65 : decode cX11_flight 65 = .ok (.dup, 1) := by decide +kernel
theorem dX11_flight_66 : decode cX11_flight 66 = .ok (.ldc 155, 2) := by decide +kernel
theorem dX11_flight_68 : decode cX11_flight 68 = .ok (.invokespecial 81, 3) := by decide +kernel
theorem dX11_flight_71 : decode cX11_flight 71 = .ok (.athrow, 1) := by decide +kernel
theorem dX11_flight_72 : decode cX11_flight 72 = .ok (.aload_n 0, 1) := by decide +kernel
theorem dX11_flight_73 : decode cX11_flight 73 = .ok (.getfield 28, 3) := by decide +kernel
theorem dX11_flight_76 : decode cX11_flight 76 = .ok (.new 157, 3) := by decide +kernel
theorem dX11_flight_79 : decode cX11_flight 79 = .ok (.dup, 1) := by decide +kernel
theorem dX11_flight_80 : decode cX11_flight 80 = .ok (.iload_n 1, 1) := by decide +kernel
theorem dX11_flight_81 : decode cX11_flight 81 = .ok (.iload_n 2, 1) := by decide +kernel
theorem dX11_flight_82 : decode cX11_flight 82 = .ok (.iload_n 3, 1) := by decide +kernel
theorem dX11_flight_83 : decode cX11_flight 83 = .ok (.iload 4, 2) := by decide +kernel
theorem dX11_flight_85 : decode cX11_flight 85 = .ok (.iload 5, 2) := by decide +kernel
theorem dX11_flight_87 : decode cX11_flight 87 = .ok (.iload 6, 2) := by decide +kernel
theorem dX11_flight_89 : decode cX11_flight 89 = .ok (.iload 7, 2) := by decide +kernel
theorem dX11_flight_91 : decode cX11_flight 91 = .ok (.invokespecial 159, 3) := by decide +kernel
theorem dX11_flight_94 : decode cX11_flight 94 = .ok (.invokevirtual 87, 3) := by decide +kernel
theorem dX11_flight_97 : decode cX11_flight 97 = .ok (.pop, 1) := by decide +kernel
theorem dX11_flight_98 : decode cX11_flight 98 = .ok (.aload_n 0, 1) := by decide +kernel
theorem dX11_flight_99 : decode cX11_flight 99 = .ok (.getfield 28, 3) := by decide +kernel
theorem dX11_flight_102 : decode cX11_flight 102 = .ok (.invokevirtual 73, 3) := by decide +kernel
theorem dX11_flight_105 : decode cX11_flight 105 = .ok (.iconst 1, 1) := by decide +kernel
theorem dX11_flight_106 : decode cX11_flight 106 = .ok (.isub, 1) := by decide +kernel
theorem dX11_flight_107 : decode cX11_flight 107 = .ok (.ireturn, 1) := by decide +kernel
theorem dX11_scramble_0 : decode cX11_scramble 0 = .ok (.iload_n 1, 1) := by decide +kernel
theorem dX11_scramble_1 : decode cX11_scramble 1 = .ok (.aload_n 0, 1) := by decide +kernel
theorem dX11_scramble_2 : decode cX11_scramble 2 = .ok (.getfield 19, 3) := by decide +kernel
theorem dX11_scramble_5 : decode cX11_scramble 5 = .ok (.invokevirtual 73, 3) := by decide +kernel
theorem dX11_scramble_8 : decode cX11_scramble 8 = .ok (.invokestatic 91, 3) := by decide +kernel
theorem dX11_scramble_11 : decode cX11_scramble 11 = .ok (.ifCond .eq 17, 3) := by decide +kernel
theorem dX11_scramble_14 : decode cX11_scramble 14 = .ok (.iload_n 2, 1) := by decide +kernel
theorem dX11_scramble_15 : decode cX11_scramble 15 = .ok (.aload_n 0, 1) := by decide +kernel
theorem dX11_scramble_16 : decode cX11_scramble 16 = .ok (.getfield 34, 3) := by decide +kernel
theorem dX11_scramble_19 : decode cX11_scramble 19 = .ok (.invokevirtual 73, 3) := by decide +kernel
theorem dX11_scramble_22 : decode cX11_scramble 22 = .ok (.invokestatic 91, 3) := by decide +kernel
theorem dX11_scramble_25 : decode cX11_scramble 25 = .ok (.ifCond .ne 13, 3) := by decide +kernel
theorem dX11_scramble_28 : decode cX11_scramble 28 = .ok (.new 94, 3) := by decide +kernel
theorem dX11_scramble_31 : decode cX11_scramble 31 = .ok (.dup, 1) := by decide +kernel
theorem dX11_scramble_32 : decode cX11_scramble 32 = .ok (.ldc 189, 2) := by decide +kernel
theorem dX11_scramble_34 : decode cX11_scramble 34 = .ok (.invokespecial 98, 3) := by decide +kernel
theorem dX11_scramble_37 : decode cX11_scramble 37 = .ok (.athrow, 1) := by decide +kernel
theorem dX11_scramble_38 : decode cX11_scramble 38 = .ok (.aload_n 0, 1) := by decide +kernel
theorem dX11_scramble_39 : decode cX11_scramble 39 = .ok (.getfield 19, 3) := by decide +kernel
theorem dX11_scramble_42 : decode cX11_scramble 42 = .ok (.iload_n 1, 1) := by decide +kernel
theorem dX11_scramble_43 : decode cX11_scramble 43 = .ok (.invokevirtual 99, 3) := by decide +kernel
theorem dX11_scramble_46 : decode cX11_scramble 46 = .ok (.checkcast 122, 3) := by decide +kernel
theorem dX11_scramble_49 : decode cX11_scramble 49 = .ok (.astore_n 3, 1) := by decide +kernel
theorem dX11_scramble_50 : decode cX11_scramble 50 = .ok (.aload_n 0, 1) := by decide +kernel
theorem dX11_scramble_51 : decode cX11_scramble 51 = .ok (.getfield 34, 3) := by decide +kernel
theorem dX11_scramble_54 : decode cX11_scramble 54 = .ok (.iload_n 2, 1) := by decide +kernel
theorem dX11_scramble_55 : decode cX11_scramble 55 = .ok (.invokevirtual 99, 3) := by decide +kernel
theorem dX11_scramble_58 : decode cX11_scramble 58 = .ok (.checkcast 191, 3) := by decide +kernel
theorem dX11_scramble_61 : decode cX11_scramble 61 = .ok (.astore 4, 2) := by decide +kernel
theorem dX11_scramble_63 : decode cX11_scramble 63 = .ok (.aload_n 3, 1) := by decide +kernel
theorem dX11_scramble_64 : decode cX11_scramble 64 = .ok (.invokevirtual 193, 3) := by decide +kernel
theorem dX11_scramble_67 : decode cX11_scramble 67 = .ok (.ifCond .eq 19, 3) := by decide +kernel
theorem dX11_scramble_70 : decode cX11_scramble 70 = .ok (.aload 4, 2) := by decide +kernel
theorem dX11_scramble_72 : decode cX11_scramble 72 = .ok (.getfield 197, 3) := by decide +kernel
theorem dX11_scramble_75 : decode cX11_scramble 75 = .ok (.ifCond .eq 11, 3) := by decide +kernel
theorem dX11_scramble_78 : decode cX11_scramble 78 = .ok (.aload_n 0, 1) := by decide +kernel
theorem dX11_scramble_79 : decode cX11_scramble 79 = .ok (.invokevirtual 200, 3) := by decide +kernel
theorem dX11_scramble_82 : decode cX11_scramble 82 = .ok (.iconst 3, 1) := by decide +kernel
theorem dX11_scramble_83 : decode cX11_scramble 83 = .ok (.if_icmp .lt 13, 3) := by decide +kernel
theorem dX11_scramble_86 : decode cX11_scramble 86 = .ok (.new 77, 3) := by decide +kernel
theorem dX11_scramble_89 : decode cX11_scramble 89 = .ok (.dup, 1) := by decide +kernel
theorem dX11_scramble_90 : decode cX11_scramble 90 = .ok (.ldc 203, 2) := by decide +kernel
theorem dX11_scramble_92 : decode cX11_scramble 92 = .ok (.invokespecial 81, 3) := by decide +kernel
theorem dX11_scramble_95 : decode cX11_scramble 95 = .ok (.athrow, 1) := by decide +kernel
theorem dX11_scramble_96 : decode cX11_scramble 96 = .ok (.aload_n 3, 1) := by decide +kernel
theorem dX11_scramble_97 : decode cX11_scramble 97 = .ok (.aload 4, 2) := by decide +kernel
theorem dX11_scramble_99 : decode cX11_scramble 99 = .ok (.aload_n 0, 1) := by decide +kernel
theorem dX11_scramble_100 : decode cX11_scramble 100 = .ok (.getfield 205, 3) := by decide +kernel
theorem dX11_scramble_103 : decode cX11_scramble 103 = .ok (.aload_n 3, 1) := by decide +kernel
theorem dX11_scramble_104 : decode cX11_scramble 104 = .ok (.getfield 208, 3) := by decide +kernel
theorem dX11_scramble_107 : decode cX11_scramble 107 = .ok (.iadd, 1) := by decide +kernel
theorem dX11_scramble_108 : decode cX11_scramble 108 = .ok (.invokevirtual 211, 3) := by decide +kernel
theorem dX11_scramble_111 : decode cX11_scramble 111 = .ok (.aload_n 3, 1) := by decide +kernel
theorem dX11_scramble_112 : decode cX11_scramble 112 = .ok (.getfield 215, 3) := by decide +kernel
theorem dX11_scramble_115 : decode cX11_scramble 115 = .ok (.ireturn, 1) := by decide +kernel
theorem dX11_lead_0 : decode cX11_lead 0 = .ok (.iload_n 1, 1) := by decide +kernel
theorem dX11_lead_1 : decode cX11_lead 1 = .ok (.aload_n 0, 1) := by decide +kernel
theorem dX11_lead_2 : decode cX11_lead 2 = .ok (.getfield 19, 3) := by decide +kernel
theorem dX11_lead_5 : decode cX11_lead 5 = .ok (.invokevirtual 73, 3) := by decide +kernel
theorem dX11_lead_8 : decode cX11_lead 8 = .ok (.invokestatic 91, 3) := by decide +kernel
theorem dX11_lead_11 : decode cX11_lead 11 = .ok (.ifCond .eq 17, 3) := by decide +kernel
theorem dX11_lead_14 : decode cX11_lead 14 = .ok (.iload_n 2, 1) := by decide +kernel
theorem dX11_lead_15 : decode cX11_lead 15 = .ok (.aload_n 0, 1) := by decide +kernel
theorem dX11_lead_16 : decode cX11_lead 16 = .ok (.getfield 34, 3) := by decide +kernel
theorem dX11_lead_19 : decode cX11_lead 19 = .ok (.invokevirtual 73, 3) := by decide +kernel
theorem dX11_lead_22 : decode cX11_lead 22 = .ok (.invokestatic 91, 3) := by decide +kernel
theorem dX11_lead_25 : decode cX11_lead 25 = .ok (.ifCond .ne 13, 3) := by decide +kernel
theorem dX11_lead_28 : decode cX11_lead 28 = .ok (.new 94, 3) := by decide +kernel
theorem dX11_lead_31 : decode cX11_lead 31 = .ok (.dup, 1) := by decide +kernel
theorem dX11_lead_32 : decode cX11_lead 32 = .ok (.ldc 189, 2) := by decide +kernel
theorem dX11_lead_34 : decode cX11_lead 34 = .ok (.invokespecial 98, 3) := by decide +kernel
theorem dX11_lead_37 : decode cX11_lead 37 = .ok (.athrow, 1) := by decide +kernel
theorem dX11_lead_38 : decode cX11_lead 38 = .ok (.aload_n 0, 1) := by decide +kernel
theorem dX11_lead_39 : decode cX11_lead 39 = .ok (.getfield 19, 3) := by decide +kernel
theorem dX11_lead_42 : decode cX11_lead 42 = .ok (.iload_n 1, 1) := by decide +kernel
theorem dX11_lead_43 : decode cX11_lead 43 = .ok (.invokevirtual 99, 3) := by decide +kernel
theorem dX11_lead_46 : decode cX11_lead 46 = .ok (.checkcast 122, 3) := by decide +kernel
theorem dX11_lead_49 : decode cX11_lead 49 = .ok (.astore_n 3, 1) := by decide +kernel
theorem dX11_lead_50 : decode cX11_lead 50 = .ok (.aload_n 0, 1) := by decide +kernel
theorem dX11_lead_51 : decode cX11_lead 51 = .ok (.getfield 34, 3) := by decide +kernel
theorem dX11_lead_54 : decode cX11_lead 54 = .ok (.iload_n 2, 1) := by decide +kernel
theorem dX11_lead_55 : decode cX11_lead 55 = .ok (.invokevirtual 99, 3) := by decide +kernel
theorem dX11_lead_58 : decode cX11_lead 58 = .ok (.checkcast 191, 3) := by decide +kernel
theorem dX11_lead_61 : decode cX11_lead 61 = .ok (.astore 4, 2) := by decide +kernel
theorem dX11_lead_63 : decode cX11_lead 63 = .ok (.aload_n 3, 1) := by decide +kernel
theorem dX11_lead_64 : decode cX11_lead 64 = .ok (.invokevirtual 218, 3) := by decide +kernel
theorem dX11_lead_67 : decode cX11_lead 67 = .ok (.ifCond .eq 11, 3) := by decide +kernel
theorem dX11_lead_70 : decode cX11_lead 70 = .ok (.aload 4, 2) := by decide +kernel
theorem dX11_lead_72 : decode cX11_lead 72 = .ok (.getfield 197, 3) := by decide +kernel
theorem dX11_lead_75 : decode cX11_lead 75 = .ok (.ifCond .ne 13, 3) := by decide +kernel
theorem dX11_lead_78 : decode cX11_lead 78 = .ok (.new 77, 3) := by decide +kernel
theorem dX11_lead_81 : decode cX11_lead 81 = .ok (.dup, 1) := by decide +kernel
theorem dX11_lead_82 : decode cX11_lead 82 = .ok (.ldc 221, 2) := by decide +kernel
theorem dX11_lead_84 : decode cX11_lead 84 = .ok (.invokespecial 81, 3) := by decide +kernel
theorem dX11_lead_87 : decode cX11_lead 87 = .ok (.athrow, 1) := by decide +kernel
theorem dX11_lead_88 : decode cX11_lead 88 = .ok (.aload_n 3, 1) := by decide +kernel
theorem dX11_lead_89 : decode cX11_lead 89 = .ok (.invokevirtual 223, 3) := by decide +kernel
theorem dX11_lead_92 : decode cX11_lead 92 = .ok (.istore 5, 2) := by decide +kernel
theorem dX11_lead_94 : decode cX11_lead 94 = .ok (.aload_n 3, 1) := by decide +kernel
theorem dX11_lead_95 : decode cX11_lead 95 = .ok (.aload 4, 2) := by decide +kernel
theorem dX11_lead_97 : decode cX11_lead 97 = .ok (.putfield 226, 3) := by decide +kernel
theorem dX11_lead_100 : decode cX11_lead 100 = .ok (.iload 5, 2) := by decide +kernel
theorem dX11_lead_102 : decode cX11_lead 102 = .ok (.ireturn, 1) := by decide +kernel
theorem dX11_back_0 : decode cX11_back 0 = .ok (.iload_n 1, 1) := by decide +kernel
theorem dX11_back_1 : decode cX11_back 1 = .ok (.aload_n 0, 1) := by decide +kernel
theorem dX11_back_2 : decode cX11_back 2 = .ok (.getfield 19, 3) := by decide +kernel
theorem dX11_back_5 : decode cX11_back 5 = .ok (.invokevirtual 73, 3) := by decide +kernel
theorem dX11_back_8 : decode cX11_back 8 = .ok (.invokestatic 91, 3) := by decide +kernel
theorem dX11_back_11 : decode cX11_back 11 = .ok (.ifCond .ne 13, 3) := by decide +kernel
theorem dX11_back_14 : decode cX11_back 14 = .ok (.new 94, 3) := by decide +kernel
theorem dX11_back_17 : decode cX11_back 17 = .ok (.dup, 1) := by decide +kernel
theorem dX11_back_18 : decode cX11_back 18 = .ok (.ldc 230, 2) := by decide +kernel
theorem dX11_back_20 : decode cX11_back 20 = .ok (.invokespecial 98, 3) := by decide +kernel
theorem dX11_back_23 : decode cX11_back 23 = .ok (.athrow, 1) := by decide +kernel
theorem dX11_back_24 : decode cX11_back 24 = .ok (.aload_n 0, 1) := by decide +kernel
theorem dX11_back_25 : decode cX11_back 25 = .ok (.getfield 19, 3) := by decide +kernel
theorem dX11_back_28 : decode cX11_back 28 = .ok (.iload_n 1, 1) := by decide +kernel
theorem dX11_back_29 : decode cX11_back 29 = .ok (.invokevirtual 99, 3) := by decide +kernel
theorem dX11_back_32 : decode cX11_back 32 = .ok (.checkcast 122, 3) := by decide +kernel
theorem dX11_back_35 : decode cX11_back 35 = .ok (.astore_n 2, 1) := by decide +kernel
theorem dX11_back_36 : decode cX11_back 36 = .ok (.aload_n 2, 1) := by decide +kernel
theorem dX11_back_37 : decode cX11_back 37 = .ok (.invokevirtual 218, 3) := by decide +kernel
theorem dX11_back_40 : decode cX11_back 40 = .ok (.ifCond .ne 13, 3) := by decide +kernel
theorem dX11_back_43 : decode cX11_back 43 = .ok (.new 77, 3) := by decide +kernel
theorem dX11_back_46 : decode cX11_back 46 = .ok (.dup, 1) := by decide +kernel
theorem dX11_back_47 : decode cX11_back 47 = .ok (.ldc 232, 2) := by decide +kernel
theorem dX11_back_49 : decode cX11_back 49 = .ok (.invokespecial 81, 3) := by decide +kernel
theorem dX11_back_52 : decode cX11_back 52 = .ok (.athrow, 1) := by decide +kernel
theorem dX11_back_53 : decode cX11_back 53 = .ok (.aload_n 2, 1) := by decide +kernel
theorem dX11_back_54 : decode cX11_back 54 = .ok (.getfield 234, 3) := by decide +kernel
theorem dX11_back_57 : decode cX11_back 57 = .ok (.iconst 1, 1) := by decide +kernel
theorem dX11_back_58 : decode cX11_back 58 = .ok (.if_icmp .ne 12, 3) := by decide +kernel
theorem dX11_back_61 : decode cX11_back 61 = .ok (.aload_n 2, 1) := by decide +kernel
theorem dX11_back_62 : decode cX11_back 62 = .ok (.iconst 0, 1) := by decide +kernel
theorem dX11_back_63 : decode cX11_back 63 = .ok (.iconst (-1), 1) := by decide +kernel
theorem dX11_back_64 : decode cX11_back 64 = .ok (.invokevirtual 237, 3) := by decide +kernel
theorem dX11_back_67 : decode cX11_back 67 = .ok (.goto 7, 3) := by decide +kernel
theorem dX11_back_70 : decode cX11_back 70 = .ok (.aload_n 2, 1) := by decide +kernel
theorem dX11_back_71 : decode cX11_back 71 = .ok (.invokevirtual 240, 3) := by decide +kernel
theorem dX11_back_74 : decode cX11_back 74 = .ok (.aload_n 2, 1) := by decide +kernel
theorem dX11_back_75 : decode cX11_back 75 = .ok (.getfield 234, 3) := by decide +kernel
theorem dX11_back_78 : decode cX11_back 78 = .ok (.ireturn, 1) := by decide +kernel
theorem dX11_reinforce_0 : decode cX11_reinforce 0 = .ok (.iload_n 1, 1) := by decide +kernel
theorem dX11_reinforce_1 : decode cX11_reinforce 1 = .ok (.aload_n 0, 1) := by decide +kernel
theorem dX11_reinforce_2 : decode cX11_reinforce 2 = .ok (.getfield 19, 3) := by decide +kernel
theorem dX11_reinforce_5 : decode cX11_reinforce 5 = .ok (.invokevirtual 73, 3) := by decide +kernel
theorem dX11_reinforce_8 : decode cX11_reinforce 8 = .ok (.invokestatic 91, 3) := by decide +kernel
theorem dX11_reinforce_11 : decode cX11_reinforce 11 = .ok (.ifCond .ne 13, 3) := by decide +kernel
theorem dX11_reinforce_14 : decode cX11_reinforce 14 = .ok (.new 94, 3) := by decide +kernel
theorem dX11_reinforce_17 : decode cX11_reinforce 17 = .ok (.dup, 1) := by decide +kernel
theorem dX11_reinforce_18 : decode cX11_reinforce 18 = .ok (.ldc 230, 2) := by decide +kernel
theorem dX11_reinforce_20 : decode cX11_reinforce 20 = .ok (.invokespecial 98, 3) := by decide +kernel
theorem dX11_reinforce_23 : decode cX11_reinforce 23 = .ok (.athrow, 1) := by decide +kernel
theorem dX11_reinforce_24 : decode cX11_reinforce 24 = .ok (.iload_n 2, 1) := by decide +kernel
theorem dX11_reinforce_25 : decode cX11_reinforce 25 = .ok (.iconst 1, 1) := by decide +kernel
theorem dX11_reinforce_26 : decode cX11_reinforce 26 = .ok (.bipush 12, 2) := by decide +kernel
theorem dX11_reinforce_28 : decode cX11_reinforce 28 = .ok (.invokestatic 62, 3) := by decide +kernel
theorem dX11_reinforce_31 : decode cX11_reinforce 31 = .ok (.ifCond .ne 13, 3) := by decide +kernel
theorem dX11_reinforce_34 : decode cX11_reinforce 34 = .ok (.new 66, 3) := by decide +kernel
theorem dX11_reinforce_37 : decode cX11_reinforce 37 = .ok (.dup, 1) := by decide +kernel
theorem dX11_reinforce_38 : decode cX11_reinforce 38 = .ok (.ldc 243, 2) := by decide +kernel
theorem dX11_reinforce_40 : decode cX11_reinforce 40 = .ok (.invokespecial 70, 3) := by decide +kernel
theorem dX11_reinforce_43 : decode cX11_reinforce 43 = .ok (.athrow, 1) := by decide +kernel
theorem dX11_reinforce_44 : decode cX11_reinforce 44 = .ok (.aload_n 0, 1) := by decide +kernel
theorem dX11_reinforce_45 : decode cX11_reinforce 45 = .ok (.getfield 19, 3) := by decide +kernel
theorem dX11_reinforce_48 : decode cX11_reinforce 48 = .ok (.iload_n 1, 1) := by decide +kernel
theorem dX11_reinforce_49 : decode cX11_reinforce 49 = .ok (.invokevirtual 99, 3) := by decide +kernel
theorem dX11_reinforce_52 : decode cX11_reinforce 52 = .ok (.checkcast 122, 3) := by decide +kernel
theorem dX11_reinforce_55 : decode cX11_reinforce 55 = .ok (.astore_n 3, 1) := by decide +kernel
theorem dX11_reinforce_56 : decode cX11_reinforce 56 = .ok (.aload_n 3, 1) := by decide +kernel
theorem dX11_reinforce_57 : decode cX11_reinforce 57 = .ok (.getfield 234, 3) := by decide +kernel
theorem dX11_reinforce_60 : decode cX11_reinforce 60 = .ok (.ifCond .eq 13, 3) := by decide +kernel
theorem dX11_reinforce_63 : decode cX11_reinforce 63 = .ok (.new 77, 3) := by decide +kernel
theorem dX11_reinforce_66 : decode cX11_reinforce 66 = .ok (.dup, 1) := by decide +kernel
theorem dX11_reinforce_67 : decode cX11_reinforce 67 = .ok (.ldc 245, 2) := by decide +kernel
theorem dX11_reinforce_69 : decode cX11_reinforce 69 = .ok (.invokespecial 81, 3) := by decide +kernel
theorem dX11_reinforce_72 : decode cX11_reinforce 72 = .ok (.athrow, 1) := by decide +kernel
theorem dX11_reinforce_73 : decode cX11_reinforce 73 = .ok (.aload_n 3, 1) := by decide +kernel
theorem dX11_reinforce_74 : decode cX11_reinforce 74 = .ok (.bipush 12, 2) := by decide +kernel
theorem dX11_reinforce_76 : decode cX11_reinforce 76 = .ok (.aload_n 3, 1) := by decide +kernel
theorem dX11_reinforce_77 : decode cX11_reinforce 77 = .ok (.getfield 247, 3) := by decide +kernel
theorem dX11_reinforce_80 : decode cX11_reinforce 80 = .ok (.iload_n 2, 1) := by decide +kernel
theorem dX11_reinforce_81 : decode cX11_reinforce 81 = .ok (.iadd, 1) := by decide +kernel
theorem dX11_reinforce_82 : decode cX11_reinforce 82 = .ok (.invokestatic 250, 3) := by decide +kernel
theorem dX11_reinforce_85 : decode cX11_reinforce 85 = .ok (.putfield 247, 3) := by decide +kernel
theorem dX11_reinforce_88 : decode cX11_reinforce 88 = .ok (.aload_n 3, 1) := by decide +kernel
theorem dX11_reinforce_89 : decode cX11_reinforce 89 = .ok (.getfield 247, 3) := by decide +kernel
theorem dX11_reinforce_92 : decode cX11_reinforce 92 = .ok (.ireturn, 1) := by decide +kernel
theorem dX11_pass_0 : decode cX11_pass 0 = .ok (.iload_n 1, 1) := by decide +kernel
theorem dX11_pass_1 : decode cX11_pass 1 = .ok (.iconst 1, 1) := by decide +kernel
theorem dX11_pass_2 : decode cX11_pass 2 = .ok (.bipush 60, 2) := by decide +kernel
theorem dX11_pass_4 : decode cX11_pass 4 = .ok (.invokestatic 62, 3) := by decide +kernel
theorem dX11_pass_7 : decode cX11_pass 7 = .ok (.ifCond .ne 14, 3) := by decide +kernel
theorem dX11_pass_10 : decode cX11_pass 10 = .ok (.new 66, 3) := by decide +kernel
theorem dX11_pass_13 : decode cX11_pass 13 = .ok (.dup, 1) := by decide +kernel
theorem dX11_pass_14 : decode cX11_pass 14 = .ok (.ldc_w 256, 3) := by decide +kernel
theorem dX11_pass_17 : decode cX11_pass 17 = .ok (.invokespecial 70, 3) := by decide +kernel
theorem dX11_pass_20 : decode cX11_pass 20 = .ok (.athrow, 1) := by decide +kernel
theorem dX11_pass_21 : decode cX11_pass 21 = .ok (.aload_n 0, 1) := by decide +kernel
theorem dX11_pass_22 : decode cX11_pass 22 = .ok (.getfield 205, 3) := by decide +kernel
theorem dX11_pass_25 : decode cX11_pass 25 = .ok (.iload_n 1, 1) := by decide +kernel
theorem dX11_pass_26 : decode cX11_pass 26 = .ok (.iadd, 1) := by decide +kernel
theorem dX11_pass_27 : decode cX11_pass 27 = .ok (.sipush 1000, 3) := by decide +kernel
theorem dX11_pass_30 : decode cX11_pass 30 = .ok (.if_icmp .le 14, 3) := by decide +kernel
theorem dX11_pass_33 : decode cX11_pass 33 = .ok (.new 77, 3) := by decide +kernel
theorem dX11_pass_36 : decode cX11_pass 36 = .ok (.dup, 1) := by decide +kernel
theorem dX11_pass_37 : decode cX11_pass 37 = .ok (.ldc_w 258, 3) := by decide +kernel
theorem dX11_pass_40 : decode cX11_pass 40 = .ok (.invokespecial 81, 3) := by decide +kernel
theorem dX11_pass_43 : decode cX11_pass 43 = .ok (.athrow, 1) := by decide +kernel
theorem dX11_pass_44 : decode cX11_pass 44 = .ok (.iconst 0, 1) := by decide +kernel
theorem dX11_pass_45 : decode cX11_pass 45 = .ok (.istore_n 2, 1) := by decide +kernel
theorem dX11_pass_46 : decode cX11_pass 46 = .ok (.iload_n 2, 1) := by decide +kernel
theorem dX11_pass_47 : decode cX11_pass 47 = .ok (.iload_n 1, 1) := by decide +kernel
theorem dX11_pass_48 : decode cX11_pass 48 = .ok (.if_icmp .ge 13, 3) := by decide +kernel
theorem dX11_pass_51 : decode cX11_pass 51 = .ok (.aload_n 0, 1) := by decide +kernel
theorem dX11_pass_52 : decode cX11_pass 52 = .ok (.invokevirtual 260, 3) := by decide +kernel
theorem dX11_pass_55 : decode cX11_pass 55 = .ok (.iinc 2 1, 3) := by decide +kernel
theorem dX11_pass_58 : decode cX11_pass 58 = .ok (.goto (-12), 3) := by decide +kernel
theorem dX11_pass_61 : decode cX11_pass 61 = .ok (.aload_n 0, 1) := by decide +kernel
theorem dX11_pass_62 : decode cX11_pass 62 = .ok (.getfield 205, 3) := by decide +kernel
theorem dX11_pass_65 : decode cX11_pass 65 = .ok (.ireturn, 1) := by decide +kernel
theorem dX11_call_0 : decode cX11_call 0 = .ok (.aload_n 0, 1) := by decide +kernel
theorem dX11_call_1 : decode cX11_call 1 = .ok (.getfield 50, 3) := by decide +kernel
theorem dX11_call_4 : decode cX11_call 4 = .ok (.dup, 1) := by decide +kernel
theorem dX11_call_5 : decode cX11_call 5 = .ok (.getfield 263, 3) := by decide +kernel
theorem dX11_call_8 : decode cX11_call 8 = .ok (.iconst 1, 1) := by decide +kernel
theorem dX11_call_9 : decode cX11_call 9 = .ok (.iadd, 1) := by decide +kernel
theorem dX11_call_10 : decode cX11_call 10 = .ok (.putfield 263, 3) := by decide +kernel
theorem dX11_call_13 : decode cX11_call 13 = .ok (.aload_n 0, 1) := by decide +kernel
theorem dX11_call_14 : decode cX11_call 14 = .ok (.getfield 50, 3) := by decide +kernel
theorem dX11_call_17 : decode cX11_call 17 = .ok (.getfield 263, 3) := by decide +kernel
theorem dX11_call_20 : decode cX11_call 20 = .ok (.ireturn, 1) := by decide +kernel
theorem dX11_ofFlight_0 : decode cX11_ofFlight 0 = .ok (.iload_n 1, 1) := by decide +kernel
theorem dX11_ofFlight_1 : decode cX11_ofFlight 1 = .ok (.aload_n 0, 1) := by decide +kernel
theorem dX11_ofFlight_2 : decode cX11_ofFlight 2 = .ok (.getfield 28, 3) := by decide +kernel
theorem dX11_ofFlight_5 : decode cX11_ofFlight 5 = .ok (.invokevirtual 73, 3) := by decide +kernel
theorem dX11_ofFlight_8 : decode cX11_ofFlight 8 = .ok (.invokestatic 91, 3) := by decide +kernel
theorem dX11_ofFlight_11 : decode cX11_ofFlight 11 = .ok (.ifCond .ne 13, 3) := by decide +kernel
theorem dX11_ofFlight_14 : decode cX11_ofFlight 14 = .ok (.new 94, 3) := by decide +kernel
theorem dX11_ofFlight_17 : decode cX11_ofFlight 17 = .ok (.dup, 1) := by decide +kernel
theorem dX11_ofFlight_18 : decode cX11_ofFlight 18 = .ok (.ldc 162, 2) := by decide +kernel
theorem dX11_ofFlight_20 : decode cX11_ofFlight 20 = .ok (.invokespecial 98, 3) := by decide +kernel
theorem dX11_ofFlight_23 : decode cX11_ofFlight 23 = .ok (.athrow, 1) := by decide +kernel
theorem dX11_ofFlight_24 : decode cX11_ofFlight 24 = .ok (.iload_n 2, 1) := by decide +kernel
theorem dX11_ofFlight_25 : decode cX11_ofFlight 25 = .ok (.iconst 0, 1) := by decide +kernel
theorem dX11_ofFlight_26 : decode cX11_ofFlight 26 = .ok (.bipush 7, 2) := by decide +kernel
theorem dX11_ofFlight_28 : decode cX11_ofFlight 28 = .ok (.invokestatic 62, 3) := by decide +kernel
theorem dX11_ofFlight_31 : decode cX11_ofFlight 31 = .ok (.ifCond .ne 14, 3) := by decide +kernel
theorem dX11_ofFlight_34 : decode cX11_ofFlight 34 = .ok (.new 66, 3) := by decide +kernel
theorem dX11_ofFlight_37 : decode cX11_ofFlight 37 = .ok (.dup, 1) := by decide +kernel
theorem dX11_ofFlight_38 : decode cX11_ofFlight 38 = .ok (.ldc_w 266, 3) := by decide +kernel
theorem dX11_ofFlight_41 : decode cX11_ofFlight 41 = .ok (.invokespecial 70, 3) := by decide +kernel
theorem dX11_ofFlight_44 : decode cX11_ofFlight 44 = .ok (.athrow, 1) := by decide +kernel
theorem dX11_ofFlight_45 : decode cX11_ofFlight 45 = .ok (.aload_n 0, 1) := by decide +kernel
theorem dX11_ofFlight_46 : decode cX11_ofFlight 46 = .ok (.getfield 28, 3) := by decide +kernel
theorem dX11_ofFlight_49 : decode cX11_ofFlight 49 = .ok (.iload_n 1, 1) := by decide +kernel
theorem dX11_ofFlight_50 : decode cX11_ofFlight 50 = .ok (.invokevirtual 99, 3) := by decide +kernel
theorem dX11_ofFlight_53 : decode cX11_ofFlight 53 = .ok (.checkcast 157, 3) := by decide +kernel
theorem dX11_ofFlight_56 : decode cX11_ofFlight 56 = .ok (.iload_n 2, 1) := by decide +kernel
theorem dX11_ofFlight_57 : decode cX11_ofFlight 57 = .ok (.invokevirtual 268, 3) := by decide +kernel
theorem dX11_ofFlight_60 : decode cX11_ofFlight 60 = .ok (.ireturn, 1) := by decide +kernel
theorem dX11_ofMast_0 : decode cX11_ofMast 0 = .ok (.iload_n 1, 1) := by decide +kernel
theorem dX11_ofMast_1 : decode cX11_ofMast 1 = .ok (.aload_n 0, 1) := by decide +kernel
theorem dX11_ofMast_2 : decode cX11_ofMast 2 = .ok (.getfield 10, 3) := by decide +kernel
theorem dX11_ofMast_5 : decode cX11_ofMast 5 = .ok (.invokevirtual 73, 3) := by decide +kernel
theorem dX11_ofMast_8 : decode cX11_ofMast 8 = .ok (.invokestatic 91, 3) := by decide +kernel
theorem dX11_ofMast_11 : decode cX11_ofMast 11 = .ok (.ifCond .ne 13, 3) := by decide +kernel
theorem dX11_ofMast_14 : decode cX11_ofMast 14 = .ok (.new 94, 3) := by decide +kernel
theorem dX11_ofMast_17 : decode cX11_ofMast 17 = .ok (.dup, 1) := by decide +kernel
theorem dX11_ofMast_18 : decode cX11_ofMast 18 = .ok (.ldc 96, 2) := by decide +kernel
theorem dX11_ofMast_20 : decode cX11_ofMast 20 = .ok (.invokespecial 98, 3) := by decide +kernel
theorem dX11_ofMast_23 : decode cX11_ofMast 23 = .ok (.athrow, 1) := by decide +kernel
theorem dX11_ofMast_24 : decode cX11_ofMast 24 = .ok (.iload_n 2, 1) := by decide +kernel
theorem dX11_ofMast_25 : decode cX11_ofMast 25 = .ok (.iconst 0, 1) := by decide +kernel
theorem dX11_ofMast_26 : decode cX11_ofMast 26 = .ok (.bipush 9, 2) := by decide +kernel
theorem dX11_ofMast_28 : decode cX11_ofMast 28 = .ok (.invokestatic 62, 3) := by decide +kernel
theorem dX11_ofMast_31 : decode cX11_ofMast 31 = .ok (.ifCond .ne 14, 3) := by decide +kernel
theorem dX11_ofMast_34 : decode cX11_ofMast 34 = .ok (.new 66, 3) := by decide +kernel
theorem dX11_ofMast_37 : decode cX11_ofMast 37 = .ok (.dup, 1) := by decide +kernel
theorem dX11_ofMast_38 : decode cX11_ofMast 38 = .ok (.ldc_w 278, 3) := by decide +kernel
theorem dX11_ofMast_41 : decode cX11_ofMast 41 = .ok (.invokespecial 70, 3) := by decide +kernel
theorem dX11_ofMast_44 : decode cX11_ofMast 44 = .ok (.athrow, 1) := by decide +kernel
theorem dX11_ofMast_45 : decode cX11_ofMast 45 = .ok (.aload_n 0, 1) := by decide +kernel
theorem dX11_ofMast_46 : decode cX11_ofMast 46 = .ok (.getfield 10, 3) := by decide +kernel
theorem dX11_ofMast_49 : decode cX11_ofMast 49 = .ok (.iload_n 1, 1) := by decide +kernel
theorem dX11_ofMast_50 : decode cX11_ofMast 50 = .ok (.invokevirtual 99, 3) := by decide +kernel
theorem dX11_ofMast_53 : decode cX11_ofMast 53 = .ok (.checkcast 82, 3) := by decide +kernel
theorem dX11_ofMast_56 : decode cX11_ofMast 56 = .ok (.iload_n 2, 1) := by decide +kernel
theorem dX11_ofMast_57 : decode cX11_ofMast 57 = .ok (.invokevirtual 280, 3) := by decide +kernel
theorem dX11_ofMast_60 : decode cX11_ofMast 60 = .ok (.ireturn, 1) := by decide +kernel
theorem dX11_ofSquadron_0 : decode cX11_ofSquadron 0 = .ok (.iload_n 1, 1) := by decide +kernel
theorem dX11_ofSquadron_1 : decode cX11_ofSquadron 1 = .ok (.aload_n 0, 1) := by decide +kernel
theorem dX11_ofSquadron_2 : decode cX11_ofSquadron 2 = .ok (.getfield 19, 3) := by decide +kernel
theorem dX11_ofSquadron_5 : decode cX11_ofSquadron 5 = .ok (.invokevirtual 73, 3) := by decide +kernel
theorem dX11_ofSquadron_8 : decode cX11_ofSquadron 8 = .ok (.invokestatic 91, 3) := by decide +kernel
theorem dX11_ofSquadron_11 : decode cX11_ofSquadron 11 = .ok (.ifCond .ne 13, 3) := by decide +kernel
theorem dX11_ofSquadron_14 : decode cX11_ofSquadron 14 = .ok (.new 94, 3) := by decide +kernel
theorem dX11_ofSquadron_17 : decode cX11_ofSquadron 17 = .ok (.dup, 1) := by decide +kernel
theorem dX11_ofSquadron_18 : decode cX11_ofSquadron 18 = .ok (.ldc 230, 2) := by decide +kernel
theorem dX11_ofSquadron_20 : decode cX11_ofSquadron 20 = .ok (.invokespecial 98, 3) := by decide +kernel
theorem dX11_ofSquadron_23 : decode cX11_ofSquadron 23 = .ok (.athrow, 1) := by decide +kernel
theorem dX11_ofSquadron_24 : decode cX11_ofSquadron 24 = .ok (.iload_n 2, 1) := by decide +kernel
theorem dX11_ofSquadron_25 : decode cX11_ofSquadron 25 = .ok (.iconst 0, 1) := by decide +kernel
theorem dX11_ofSquadron_26 : decode cX11_ofSquadron 26 = .ok (.bipush 9, 2) := by decide +kernel
theorem dX11_ofSquadron_28 : decode cX11_ofSquadron 28 = .ok (.invokestatic 62, 3) := by decide +kernel
theorem dX11_ofSquadron_31 : decode cX11_ofSquadron 31 = .ok (.ifCond .ne 14, 3) := by decide +kernel
theorem dX11_ofSquadron_34 : decode cX11_ofSquadron 34 = .ok (.new 66, 3) := by decide +kernel
theorem dX11_ofSquadron_37 : decode cX11_ofSquadron 37 = .ok (.dup, 1) := by decide +kernel
theorem dX11_ofSquadron_38 : decode cX11_ofSquadron 38 = .ok (.ldc_w 281, 3) := by decide +kernel
theorem dX11_ofSquadron_41 : decode cX11_ofSquadron 41 = .ok (.invokespecial 70, 3) := by decide +kernel
theorem dX11_ofSquadron_44 : decode cX11_ofSquadron 44 = .ok (.athrow, 1) := by decide +kernel
theorem dX11_ofSquadron_45 : decode cX11_ofSquadron 45 = .ok (.aload_n 0, 1) := by decide +kernel
theorem dX11_ofSquadron_46 : decode cX11_ofSquadron 46 = .ok (.getfield 19, 3) := by decide +kernel
theorem dX11_ofSquadron_49 : decode cX11_ofSquadron 49 = .ok (.iload_n 1, 1) := by decide +kernel
theorem dX11_ofSquadron_50 : decode cX11_ofSquadron 50 = .ok (.invokevirtual 99, 3) := by decide +kernel
theorem dX11_ofSquadron_53 : decode cX11_ofSquadron 53 = .ok (.checkcast 122, 3) := by decide +kernel
theorem dX11_ofSquadron_56 : decode cX11_ofSquadron 56 = .ok (.iload_n 2, 1) := by decide +kernel
theorem dX11_ofSquadron_57 : decode cX11_ofSquadron 57 = .ok (.invokevirtual 283, 3) := by decide +kernel
theorem dX11_ofSquadron_60 : decode cX11_ofSquadron 60 = .ok (.ireturn, 1) := by decide +kernel
theorem dX11_room_0 : decode cX11_room 0 = .ok (.iload_n 1, 1) := by decide +kernel
theorem dX11_room_1 : decode cX11_room 1 = .ok (.iconst 0, 1) := by decide +kernel
theorem dX11_room_2 : decode cX11_room 2 = .ok (.bipush 20, 2) := by decide +kernel
theorem dX11_room_4 : decode cX11_room 4 = .ok (.invokestatic 62, 3) := by decide +kernel
theorem dX11_room_7 : decode cX11_room 7 = .ok (.ifCond .ne 14, 3) := by decide +kernel
theorem dX11_room_10 : decode cX11_room 10 = .ok (.new 66, 3) := by decide +kernel
theorem dX11_room_13 : decode cX11_room 13 = .ok (.dup, 1) := by decide +kernel
theorem dX11_room_14 : decode cX11_room 14 = .ok (.ldc_w 284, 3) := by decide +kernel
theorem dX11_room_17 : decode cX11_room 17 = .ok (.invokespecial 70, 3) := by decide +kernel
theorem dX11_room_20 : decode cX11_room 20 = .ok (.athrow, 1) := by decide +kernel
theorem dX11_room_21 : decode cX11_room 21 = .ok (.aload_n 0, 1) := by decide +kernel
theorem dX11_room_22 : decode cX11_room 22 = .ok (.iload_n 1, 1) := by decide +kernel
theorem dX11_room_23 : decode cX11_room 23 = .ok (.invokevirtual 286, 3) := by decide +kernel
theorem dX11_room_26 : decode cX11_room 26 = .ok (.ireturn, 1) := by decide +kernel
theorem dX11_ofTrack_0 : decode cX11_ofTrack 0 = .ok (.iload_n 1, 1) := by decide +kernel
theorem dX11_ofTrack_1 : decode cX11_ofTrack 1 = .ok (.aload_n 0, 1) := by decide +kernel
theorem dX11_ofTrack_2 : decode cX11_ofTrack 2 = .ok (.getfield 34, 3) := by decide +kernel
theorem dX11_ofTrack_5 : decode cX11_ofTrack 5 = .ok (.invokevirtual 73, 3) := by decide +kernel
theorem dX11_ofTrack_8 : decode cX11_ofTrack 8 = .ok (.invokestatic 91, 3) := by decide +kernel
theorem dX11_ofTrack_11 : decode cX11_ofTrack 11 = .ok (.ifCond .ne 14, 3) := by decide +kernel
theorem dX11_ofTrack_14 : decode cX11_ofTrack 14 = .ok (.new 94, 3) := by decide +kernel
theorem dX11_ofTrack_17 : decode cX11_ofTrack 17 = .ok (.dup, 1) := by decide +kernel
theorem dX11_ofTrack_18 : decode cX11_ofTrack 18 = .ok (.ldc_w 289, 3) := by decide +kernel
theorem dX11_ofTrack_21 : decode cX11_ofTrack 21 = .ok (.invokespecial 98, 3) := by decide +kernel
theorem dX11_ofTrack_24 : decode cX11_ofTrack 24 = .ok (.athrow, 1) := by decide +kernel
theorem dX11_ofTrack_25 : decode cX11_ofTrack 25 = .ok (.iload_n 2, 1) := by decide +kernel
theorem dX11_ofTrack_26 : decode cX11_ofTrack 26 = .ok (.iconst 0, 1) := by decide +kernel
theorem dX11_ofTrack_27 : decode cX11_ofTrack 27 = .ok (.bipush 10, 2) := by decide +kernel
theorem dX11_ofTrack_29 : decode cX11_ofTrack 29 = .ok (.invokestatic 62, 3) := by decide +kernel
theorem dX11_ofTrack_32 : decode cX11_ofTrack 32 = .ok (.ifCond .ne 14, 3) := by decide +kernel
theorem dX11_ofTrack_35 : decode cX11_ofTrack 35 = .ok (.new 66, 3) := by decide +kernel
theorem dX11_ofTrack_38 : decode cX11_ofTrack 38 = .ok (.dup, 1) := by decide +kernel
theorem dX11_ofTrack_39 : decode cX11_ofTrack 39 = .ok (.ldc_w 291, 3) := by decide +kernel
theorem dX11_ofTrack_42 : decode cX11_ofTrack 42 = .ok (.invokespecial 70, 3) := by decide +kernel
theorem dX11_ofTrack_45 : decode cX11_ofTrack 45 = .ok (.athrow, 1) := by decide +kernel
theorem dX11_ofTrack_46 : decode cX11_ofTrack 46 = .ok (.aload_n 0, 1) := by decide +kernel
theorem dX11_ofTrack_47 : decode cX11_ofTrack 47 = .ok (.aload_n 0, 1) := by decide +kernel
theorem dX11_ofTrack_48 : decode cX11_ofTrack 48 = .ok (.getfield 34, 3) := by decide +kernel
theorem dX11_ofTrack_51 : decode cX11_ofTrack 51 = .ok (.iload_n 1, 1) := by decide +kernel
theorem dX11_ofTrack_52 : decode cX11_ofTrack 52 = .ok (.invokevirtual 99, 3) := by decide +kernel
theorem dX11_ofTrack_55 : decode cX11_ofTrack 55 = .ok (.checkcast 191, 3) := by decide +kernel
theorem dX11_ofTrack_58 : decode cX11_ofTrack 58 = .ok (.iload_n 2, 1) := by decide +kernel
theorem dX11_ofTrack_59 : decode cX11_ofTrack 59 = .ok (.invokevirtual 293, 3) := by decide +kernel
theorem dX11_ofTrack_62 : decode cX11_ofTrack 62 = .ok (.ireturn, 1) := by decide +kernel
theorem dX11_seen_0 : decode cX11_seen 0 = .ok (.aload_n 0, 1) := by decide +kernel
theorem dX11_seen_1 : decode cX11_seen 1 = .ok (.invokevirtual 336, 3) := by decide +kernel
theorem dX11_seen_4 : decode cX11_seen 4 = .ok (.dreturn, 1) := by decide +kernel
theorem dX11_best_0 : decode cX11_best 0 = .ok (.iload_n 1, 1) := by decide +kernel
theorem dX11_best_1 : decode cX11_best 1 = .ok (.aload_n 0, 1) := by decide +kernel
theorem dX11_best_2 : decode cX11_best 2 = .ok (.getfield 34, 3) := by decide +kernel
theorem dX11_best_5 : decode cX11_best 5 = .ok (.invokevirtual 73, 3) := by decide +kernel
theorem dX11_best_8 : decode cX11_best 8 = .ok (.invokestatic 91, 3) := by decide +kernel
theorem dX11_best_11 : decode cX11_best 11 = .ok (.ifCond .ne 14, 3) := by decide +kernel
theorem dX11_best_14 : decode cX11_best 14 = .ok (.new 94, 3) := by decide +kernel
theorem dX11_best_17 : decode cX11_best 17 = .ok (.dup, 1) := by decide +kernel
theorem dX11_best_18 : decode cX11_best 18 = .ok (.ldc_w 289, 3) := by decide +kernel
theorem dX11_best_21 : decode cX11_best 21 = .ok (.invokespecial 98, 3) := by decide +kernel
theorem dX11_best_24 : decode cX11_best 24 = .ok (.athrow, 1) := by decide +kernel
theorem dX11_best_25 : decode cX11_best 25 = .ok (.aload_n 0, 1) := by decide +kernel
theorem dX11_best_26 : decode cX11_best 26 = .ok (.aload_n 0, 1) := by decide +kernel
theorem dX11_best_27 : decode cX11_best 27 = .ok (.getfield 34, 3) := by decide +kernel
theorem dX11_best_30 : decode cX11_best 30 = .ok (.iload_n 1, 1) := by decide +kernel
theorem dX11_best_31 : decode cX11_best 31 = .ok (.invokevirtual 99, 3) := by decide +kernel
theorem dX11_best_34 : decode cX11_best 34 = .ok (.checkcast 191, 3) := by decide +kernel
theorem dX11_best_37 : decode cX11_best 37 = .ok (.invokevirtual 346, 3) := by decide +kernel
theorem dX11_best_40 : decode cX11_best 40 = .ok (.ireturn, 1) := by decide +kernel
theorem dX11_wouldSound_0 : decode cX11_wouldSound 0 = .ok (.iload_n 1, 1) := by decide +kernel
theorem dX11_wouldSound_1 : decode cX11_wouldSound 1 = .ok (.aload_n 0, 1) := by decide +kernel
theorem dX11_wouldSound_2 : decode cX11_wouldSound 2 = .ok (.getfield 25, 3) := by decide +kernel
theorem dX11_wouldSound_5 : decode cX11_wouldSound 5 = .ok (.invokevirtual 73, 3) := by decide +kernel
theorem dX11_wouldSound_8 : decode cX11_wouldSound 8 = .ok (.invokestatic 91, 3) := by decide +kernel
theorem dX11_wouldSound_11 : decode cX11_wouldSound 11 = .ok (.ifCond .ne 14, 3) := by decide +kernel
theorem dX11_wouldSound_14 : decode cX11_wouldSound 14 = .ok (.new 94, 3) := by decide +kernel
theorem dX11_wouldSound_17 : decode cX11_wouldSound 17 = .ok (.dup, 1) := by decide +kernel
theorem dX11_wouldSound_18 : decode cX11_wouldSound 18 = .ok (.ldc_w 310, 3) := by decide +kernel
theorem dX11_wouldSound_21 : decode cX11_wouldSound 21 = .ok (.invokespecial 98, 3) := by decide +kernel
theorem dX11_wouldSound_24 : decode cX11_wouldSound 24 = .ok (.athrow, 1) := by decide +kernel
theorem dX11_wouldSound_25 : decode cX11_wouldSound 25 = .ok (.aload_n 0, 1) := by decide +kernel
theorem dX11_wouldSound_26 : decode cX11_wouldSound 26 = .ok (.aload_n 0, 1) := by decide +kernel
theorem dX11_wouldSound_27 : decode cX11_wouldSound 27 = .ok (.getfield 25, 3) := by decide +kernel
theorem dX11_wouldSound_30 : decode cX11_wouldSound 30 = .ok (.iload_n 1, 1) := by decide +kernel
theorem dX11_wouldSound_31 : decode cX11_wouldSound 31 = .ok (.invokevirtual 99, 3) := by decide +kernel
theorem dX11_wouldSound_34 : decode cX11_wouldSound 34 = .ok (.checkcast 145, 3) := by decide +kernel
theorem dX11_wouldSound_37 : decode cX11_wouldSound 37 = .ok (.invokevirtual 357, 3) := by decide +kernel
theorem dX11_wouldSound_40 : decode cX11_wouldSound 40 = .ok (.ireturn, 1) := by decide +kernel
theorem dX11_isSound_0 : decode cX11_isSound 0 = .ok (.aload_n 0, 1) := by decide +kernel
theorem dX11_isSound_1 : decode cX11_isSound 1 = .ok (.invokevirtual 361, 3) := by decide +kernel
theorem dX11_isSound_4 : decode cX11_isSound 4 = .ok (.ifCond .eq 35, 3) := by decide +kernel
theorem dX11_isSound_7 : decode cX11_isSound 7 = .ok (.aload_n 0, 1) := by decide +kernel
theorem dX11_isSound_8 : decode cX11_isSound 8 = .ok (.invokevirtual 364, 3) := by decide +kernel
theorem dX11_isSound_11 : decode cX11_isSound 11 = .ok (.ifCond .eq 28, 3) := by decide +kernel
theorem dX11_isSound_14 : decode cX11_isSound 14 = .ok (.aload_n 0, 1) := by decide +kernel
theorem dX11_isSound_15 : decode cX11_isSound 15 = .ok (.getfield 50, 3) := by decide +kernel
theorem dX11_isSound_18 : decode cX11_isSound 18 = .ok (.getfield 367, 3) := by decide +kernel
theorem dX11_isSound_21 : decode cX11_isSound 21 = .ok (.aload_n 0, 1) := by decide +kernel
theorem dX11_isSound_22 : decode cX11_isSound 22 = .ok (.invokevirtual 370, 3) := by decide +kernel
theorem dX11_isSound_25 : decode cX11_isSound 25 = .ok (.if_icmp .lt 14, 3) := by decide +kernel
theorem dX11_isSound_28 : decode cX11_isSound 28 = .ok (.aload_n 0, 1) := by decide +kernel
theorem dX11_isSound_29 : decode cX11_isSound 29 = .ok (.invokevirtual 373, 3) := by decide +kernel
theorem dX11_isSound_32 : decode cX11_isSound 32 = .ok (.ifCond .eq 7, 3) := by decide +kernel
theorem dX11_isSound_35 : decode cX11_isSound 35 = .ok (.iconst 1, 1) := by decide +kernel
theorem dX11_isSound_36 : decode cX11_isSound 36 = .ok (.goto 4, 3) := by decide +kernel
theorem dX11_isSound_39 : decode cX11_isSound 39 = .ok (.iconst 0, 1) := by decide +kernel
theorem dX11_isSound_40 : decode cX11_isSound 40 = .ok (.ireturn, 1) := by decide +kernel
theorem dX11_digest_0 : decode cX11_digest 0 = .ok (.ldc2_w 376, 3) := by decide +kernel
theorem dX11_digest_3 : decode cX11_digest 3 = .ok (.lstore_n 1, 1) := by decide +kernel
theorem dX11_digest_4 : decode cX11_digest 4 = .ok (.iconst 0, 1) := by decide +kernel
theorem dX11_digest_5 : decode cX11_digest 5 = .ok (.istore_n 3, 1) := by decide +kernel
theorem dX11_digest_6 : decode cX11_digest 6 = .ok (.iload_n 3, 1) := by decide +kernel
theorem dX11_digest_7 : decode cX11_digest 7 = .ok (.bipush 20, 2) := by decide +kernel
theorem dX11_digest_9 : decode cX11_digest 9 = .ok (.if_icmp .gt 22, 3) := by decide +kernel
theorem dX11_digest_12 : decode cX11_digest 12 = .ok (.lload_n 1, 1) := by decide +kernel
theorem dX11_digest_13 : decode cX11_digest 13 = .ok (.ldc2_w 378, 3) := by decide +kernel
theorem dX11_digest_16 : decode cX11_digest 16 = .ok (.lmul, 1) := by decide +kernel
theorem dX11_digest_17 : decode cX11_digest 17 = .ok (.aload_n 0, 1) := by decide +kernel
theorem dX11_digest_18 : decode cX11_digest 18 = .ok (.iload_n 3, 1) := by decide +kernel
theorem dX11_digest_19 : decode cX11_digest 19 = .ok (.invokevirtual 286, 3) := by decide +kernel
theorem dX11_digest_22 : decode cX11_digest 22 = .ok (.i2l, 1) := by decide +kernel
theorem dX11_digest_23 : decode cX11_digest 23 = .ok (.ladd, 1) := by decide +kernel
theorem dX11_digest_24 : decode cX11_digest 24 = .ok (.lstore_n 1, 1) := by decide +kernel
theorem dX11_digest_25 : decode cX11_digest 25 = .ok (.iinc 3 1, 3) := by decide +kernel
theorem dX11_digest_28 : decode cX11_digest 28 = .ok (.goto (-22), 3) := by decide +kernel
theorem dX11_digest_31 : decode cX11_digest 31 = .ok (.aload_n 0, 1) := by decide +kernel
theorem dX11_digest_32 : decode cX11_digest 32 = .ok (.lload_n 1, 1) := by decide +kernel
theorem dX11_digest_33 : decode cX11_digest 33 = .ok (.invokevirtual 380, 3) := by decide +kernel
theorem dX11_digest_36 : decode cX11_digest 36 = .ok (.lstore_n 1, 1) := by decide +kernel
theorem dX11_digest_37 : decode cX11_digest 37 = .ok (.aload_n 0, 1) := by decide +kernel
theorem dX11_digest_38 : decode cX11_digest 38 = .ok (.lload_n 1, 1) := by decide +kernel
theorem dX11_digest_39 : decode cX11_digest 39 = .ok (.invokevirtual 384, 3) := by decide +kernel
theorem dX11_digest_42 : decode cX11_digest 42 = .ok (.lstore_n 1, 1) := by decide +kernel
theorem dX11_digest_43 : decode cX11_digest 43 = .ok (.iconst 0, 1) := by decide +kernel
theorem dX11_digest_44 : decode cX11_digest 44 = .ok (.istore_n 3, 1) := by decide +kernel
theorem dX11_digest_45 : decode cX11_digest 45 = .ok (.iload_n 3, 1) := by decide +kernel
theorem dX11_digest_46 : decode cX11_digest 46 = .ok (.aload_n 0, 1) := by decide +kernel
theorem dX11_digest_47 : decode cX11_digest 47 = .ok (.getfield 19, 3) := by decide +kernel
theorem dX11_digest_50 : decode cX11_digest 50 = .ok (.invokevirtual 73, 3) := by decide +kernel
theorem dX11_digest_53 : decode cX11_digest 53 = .ok (.if_icmp .ge 49, 3) := by decide +kernel
theorem dX11_digest_56 : decode cX11_digest 56 = .ok (.iconst 1, 1) := by decide +kernel
theorem dX11_digest_57 : decode cX11_digest 57 = .ok (.istore 4, 2) := by decide +kernel
theorem dX11_digest_59 : decode cX11_digest 59 = .ok (.iload 4, 2) := by decide +kernel
theorem dX11_digest_61 : decode cX11_digest 61 = .ok (.bipush 9, 2) := by decide +kernel
theorem dX11_digest_63 : decode cX11_digest 63 = .ok (.if_icmp .gt 33, 3) := by decide +kernel
theorem dX11_digest_66 : decode cX11_digest 66 = .ok (.lload_n 1, 1) := by decide +kernel
theorem dX11_digest_67 : decode cX11_digest 67 = .ok (.ldc2_w 378, 3) := by decide +kernel
theorem dX11_digest_70 : decode cX11_digest 70 = .ok (.lmul, 1) := by decide +kernel
theorem dX11_digest_71 : decode cX11_digest 71 = .ok (.aload_n 0, 1) := by decide +kernel
theorem dX11_digest_72 : decode cX11_digest 72 = .ok (.getfield 19, 3) := by decide +kernel
theorem dX11_digest_75 : decode cX11_digest 75 = .ok (.iload_n 3, 1) := by decide +kernel
theorem dX11_digest_76 : decode cX11_digest 76 = .ok (.invokevirtual 99, 3) := by decide +kernel
theorem dX11_digest_79 : decode cX11_digest 79 = .ok (.checkcast 122, 3) := by decide +kernel
theorem dX11_digest_82 : decode cX11_digest 82 = .ok (.iload 4, 2) := by decide +kernel
theorem dX11_digest_84 : decode cX11_digest 84 = .ok (.invokevirtual 283, 3) := by decide +kernel
theorem dX11_digest_87 : decode cX11_digest 87 = .ok (.i2l, 1) := by decide +kernel
theorem dX11_digest_88 : decode cX11_digest 88 = .ok (.ladd, 1) := by decide +kernel
theorem dX11_digest_89 : decode cX11_digest 89 = .ok (.lstore_n 1, 1) := by decide +kernel
theorem dX11_digest_90 : decode cX11_digest 90 = .ok (.iinc 4 1, 3) := by decide +kernel
theorem dX11_digest_93 : decode cX11_digest 93 = .ok (.goto (-34), 3) := by decide +kernel
theorem dX11_digest_96 : decode cX11_digest 96 = .ok (.iinc 3 1, 3) := by decide +kernel
theorem dX11_digest_99 : decode cX11_digest 99 = .ok (.goto (-54), 3) := by decide +kernel
theorem dX11_digest_102 : decode cX11_digest 102 = .ok (.iconst 0, 1) := by decide +kernel
theorem dX11_digest_103 : decode cX11_digest 103 = .ok (.istore_n 3, 1) := by decide +kernel
theorem dX11_digest_104 : decode cX11_digest 104 = .ok (.iload_n 3, 1) := by decide +kernel
theorem dX11_digest_105 : decode cX11_digest 105 = .ok (.aload_n 0, 1) := by decide +kernel
theorem dX11_digest_106 : decode cX11_digest 106 = .ok (.getfield 34, 3) := by decide +kernel
theorem dX11_digest_109 : decode cX11_digest 109 = .ok (.invokevirtual 73, 3) := by decide +kernel
theorem dX11_digest_112 : decode cX11_digest 112 = .ok (.if_icmp .ge 32, 3) := by decide +kernel
theorem dX11_digest_115 : decode cX11_digest 115 = .ok (.lload_n 1, 1) := by decide +kernel
theorem dX11_digest_116 : decode cX11_digest 116 = .ok (.ldc2_w 378, 3) := by decide +kernel
theorem dX11_digest_119 : decode cX11_digest 119 = .ok (.lmul, 1) := by decide +kernel
theorem dX11_digest_120 : decode cX11_digest 120 = .ok (.aload_n 0, 1) := by decide +kernel
theorem dX11_digest_121 : decode cX11_digest 121 = .ok (.aload_n 0, 1) := by decide +kernel
theorem dX11_digest_122 : decode cX11_digest 122 = .ok (.getfield 34, 3) := by decide +kernel
theorem dX11_digest_125 : decode cX11_digest 125 = .ok (.iload_n 3, 1) := by decide +kernel
theorem dX11_digest_126 : decode cX11_digest 126 = .ok (.invokevirtual 99, 3) := by decide +kernel
theorem dX11_digest_129 : decode cX11_digest 129 = .ok (.checkcast 191, 3) := by decide +kernel
theorem dX11_digest_132 : decode cX11_digest 132 = .ok (.invokevirtual 346, 3) := by decide +kernel
theorem dX11_digest_135 : decode cX11_digest 135 = .ok (.i2l, 1) := by decide +kernel
theorem dX11_digest_136 : decode cX11_digest 136 = .ok (.ladd, 1) := by decide +kernel
theorem dX11_digest_137 : decode cX11_digest 137 = .ok (.lstore_n 1, 1) := by decide +kernel
theorem dX11_digest_138 : decode cX11_digest 138 = .ok (.iinc 3 1, 3) := by decide +kernel
theorem dX11_digest_141 : decode cX11_digest 141 = .ok (.goto (-37), 3) := by decide +kernel
theorem dX11_digest_144 : decode cX11_digest 144 = .ok (.iconst 0, 1) := by decide +kernel
theorem dX11_digest_145 : decode cX11_digest 145 = .ok (.istore_n 3, 1) := by decide +kernel
theorem dX11_digest_146 : decode cX11_digest 146 = .ok (.iload_n 3, 1) := by decide +kernel
theorem dX11_digest_147 : decode cX11_digest 147 = .ok (.aload_n 0, 1) := by decide +kernel
theorem dX11_digest_148 : decode cX11_digest 148 = .ok (.getfield 25, 3) := by decide +kernel
theorem dX11_digest_151 : decode cX11_digest 151 = .ok (.invokevirtual 73, 3) := by decide +kernel
theorem dX11_digest_154 : decode cX11_digest 154 = .ok (.if_icmp .ge 61, 3) := by decide +kernel
theorem dX11_digest_157 : decode cX11_digest 157 = .ok (.aload_n 0, 1) := by decide +kernel
theorem dX11_digest_158 : decode cX11_digest 158 = .ok (.getfield 25, 3) := by decide +kernel
theorem dX11_digest_161 : decode cX11_digest 161 = .ok (.iload_n 3, 1) := by decide +kernel
theorem dX11_digest_162 : decode cX11_digest 162 = .ok (.invokevirtual 99, 3) := by decide +kernel
theorem dX11_digest_165 : decode cX11_digest 165 = .ok (.checkcast 145, 3) := by decide +kernel
theorem dX11_digest_168 : decode cX11_digest 168 = .ok (.astore 4, 2) := by decide +kernel
theorem dX11_digest_170 : decode cX11_digest 170 = .ok (.lload_n 1, 1) := by decide +kernel
theorem dX11_digest_171 : decode cX11_digest 171 = .ok (.ldc2_w 378, 3) := by decide +kernel
theorem dX11_digest_174 : decode cX11_digest 174 = .ok (.lmul, 1) := by decide +kernel
theorem dX11_digest_175 : decode cX11_digest 175 = .ok (.aload_n 0, 1) := by decide +kernel
theorem dX11_digest_176 : decode cX11_digest 176 = .ok (.aload 4, 2) := by decide +kernel
theorem dX11_digest_178 : decode cX11_digest 178 = .ok (.bipush 8, 2) := by decide +kernel
theorem dX11_digest_180 : decode cX11_digest 180 = .ok (.invokevirtual 312, 3) := by decide +kernel
theorem dX11_digest_183 : decode cX11_digest 183 = .ok (.iconst (-1), 1) := by decide +kernel
theorem dX11_digest_184 : decode cX11_digest 184 = .ok (.if_icmp .eq 7, 3) := by decide +kernel
theorem dX11_digest_187 : decode cX11_digest 187 = .ok (.iconst 1, 1) := by decide +kernel
theorem dX11_digest_188 : decode cX11_digest 188 = .ok (.goto 4, 3) := by decide +kernel
theorem dX11_digest_191 : decode cX11_digest 191 = .ok (.iconst 0, 1) := by decide +kernel
theorem dX11_digest_192 : decode cX11_digest 192 = .ok (.i2l, 1) := by decide +kernel
theorem dX11_digest_193 : decode cX11_digest 193 = .ok (.ladd, 1) := by decide +kernel
theorem dX11_digest_194 : decode cX11_digest 194 = .ok (.lstore_n 1, 1) := by decide +kernel
theorem dX11_digest_195 : decode cX11_digest 195 = .ok (.lload_n 1, 1) := by decide +kernel
theorem dX11_digest_196 : decode cX11_digest 196 = .ok (.ldc2_w 378, 3) := by decide +kernel
theorem dX11_digest_199 : decode cX11_digest 199 = .ok (.lmul, 1) := by decide +kernel
theorem dX11_digest_200 : decode cX11_digest 200 = .ok (.aload_n 0, 1) := by decide +kernel
theorem dX11_digest_201 : decode cX11_digest 201 = .ok (.aload 4, 2) := by decide +kernel
theorem dX11_digest_203 : decode cX11_digest 203 = .ok (.invokevirtual 357, 3) := by decide +kernel
theorem dX11_digest_206 : decode cX11_digest 206 = .ok (.i2l, 1) := by decide +kernel
theorem dX11_digest_207 : decode cX11_digest 207 = .ok (.ladd, 1) := by decide +kernel
theorem dX11_digest_208 : decode cX11_digest 208 = .ok (.lstore_n 1, 1) := by decide +kernel
theorem dX11_digest_209 : decode cX11_digest 209 = .ok (.iinc 3 1, 3) := by decide +kernel
theorem dX11_digest_212 : decode cX11_digest 212 = .ok (.goto (-66), 3) := by decide +kernel
theorem dX11_digest_215 : decode cX11_digest 215 = .ok (.lload_n 1, 1) := by decide +kernel
theorem dX11_digest_216 : decode cX11_digest 216 = .ok (.ldc2_w 378, 3) := by decide +kernel
theorem dX11_digest_219 : decode cX11_digest 219 = .ok (.lmul, 1) := by decide +kernel
theorem dX11_digest_220 : decode cX11_digest 220 = .ok (.ldc2_w 387, 3) := by decide +kernel
theorem dX11_digest_223 : decode cX11_digest 223 = .ok (.aload_n 0, 1) := by decide +kernel
theorem dX11_digest_224 : decode cX11_digest 224 = .ok (.invokevirtual 336, 3) := by decide +kernel
theorem dX11_digest_227 : decode cX11_digest 227 = .ok (.dmul, 1) := by decide +kernel
theorem dX11_digest_228 : decode cX11_digest 228 = .ok (.d2l, 1) := by decide +kernel
theorem dX11_digest_229 : decode cX11_digest 229 = .ok (.ladd, 1) := by decide +kernel
theorem dX11_digest_230 : decode cX11_digest 230 = .ok (.lstore_n 1, 1) := by decide +kernel
theorem dX11_digest_231 : decode cX11_digest 231 = .ok (.lload_n 1, 1) := by decide +kernel
theorem dX11_digest_232 : decode cX11_digest 232 = .ok (.ldc2_w 378, 3) := by decide +kernel
theorem dX11_digest_235 : decode cX11_digest 235 = .ok (.lmul, 1) := by decide +kernel
theorem dX11_digest_236 : decode cX11_digest 236 = .ok (.aload_n 0, 1) := by decide +kernel
theorem dX11_digest_237 : decode cX11_digest 237 = .ok (.invokevirtual 389, 3) := by decide +kernel
theorem dX11_digest_240 : decode cX11_digest 240 = .ok (.ifCond .eq 7, 3) := by decide +kernel
theorem dX11_digest_243 : decode cX11_digest 243 = .ok (.iconst 1, 1) := by decide +kernel
theorem dX11_digest_244 : decode cX11_digest 244 = .ok (.goto 4, 3) := by decide +kernel
theorem dX11_digest_247 : decode cX11_digest 247 = .ok (.iconst 0, 1) := by decide +kernel
theorem dX11_digest_248 : decode cX11_digest 248 = .ok (.i2l, 1) := by decide +kernel
theorem dX11_digest_249 : decode cX11_digest 249 = .ok (.ladd, 1) := by decide +kernel
theorem dX11_digest_250 : decode cX11_digest 250 = .ok (.lreturn, 1) := by decide +kernel
theorem dX11_digestSky_0 : decode cX11_digestSky 0 = .ok (.lload_n 1, 1) := by decide +kernel
theorem dX11_digestSky_1 : decode cX11_digestSky 1 = .ok (.lstore_n 3, 1) := by decide +kernel
theorem dX11_digestSky_2 : decode cX11_digestSky 2 = .ok (.iconst 0, 1) := by decide +kernel
theorem dX11_digestSky_3 : decode cX11_digestSky 3 = .ok (.istore 5, 2) := by decide +kernel
theorem dX11_digestSky_5 : decode cX11_digestSky 5 = .ok (.iload 5, 2) := by decide +kernel
theorem dX11_digestSky_7 : decode cX11_digestSky 7 = .ok (.aload_n 0, 1) := by decide +kernel
theorem dX11_digestSky_8 : decode cX11_digestSky 8 = .ok (.getfield 28, 3) := by decide +kernel
theorem dX11_digestSky_11 : decode cX11_digestSky 11 = .ok (.invokevirtual 73, 3) := by decide +kernel
theorem dX11_digestSky_14 : decode cX11_digestSky 14 = .ok (.if_icmp .ge 80, 3) := by decide +kernel
theorem dX11_digestSky_17 : decode cX11_digestSky 17 = .ok (.aload_n 0, 1) := by decide +kernel
theorem dX11_digestSky_18 : decode cX11_digestSky 18 = .ok (.getfield 28, 3) := by decide +kernel
theorem dX11_digestSky_21 : decode cX11_digestSky 21 = .ok (.iload 5, 2) := by decide +kernel
theorem dX11_digestSky_23 : decode cX11_digestSky 23 = .ok (.invokevirtual 99, 3) := by decide +kernel
theorem dX11_digestSky_26 : decode cX11_digestSky 26 = .ok (.checkcast 157, 3) := by decide +kernel
theorem dX11_digestSky_29 : decode cX11_digestSky 29 = .ok (.astore 6, 2) := by decide +kernel
theorem dX11_digestSky_31 : decode cX11_digestSky 31 = .ok (.lload_n 3, 1) := by decide +kernel
theorem dX11_digestSky_32 : decode cX11_digestSky 32 = .ok (.ldc2_w 378, 3) := by decide +kernel
theorem dX11_digestSky_35 : decode cX11_digestSky 35 = .ok (.lmul, 1) := by decide +kernel
theorem dX11_digestSky_36 : decode cX11_digestSky 36 = .ok (.aload 6, 2) := by decide +kernel
theorem dX11_digestSky_38 : decode cX11_digestSky 38 = .ok (.iconst 0, 1) := by decide +kernel
theorem dX11_digestSky_39 : decode cX11_digestSky 39 = .ok (.invokevirtual 268, 3) := by decide +kernel
theorem dX11_digestSky_42 : decode cX11_digestSky 42 = .ok (.i2l, 1) := by decide +kernel
theorem dX11_digestSky_43 : decode cX11_digestSky 43 = .ok (.ladd, 1) := by decide +kernel
theorem dX11_digestSky_44 : decode cX11_digestSky 44 = .ok (.lstore_n 3, 1) := by decide +kernel
theorem dX11_digestSky_45 : decode cX11_digestSky 45 = .ok (.lload_n 3, 1) := by decide +kernel
theorem dX11_digestSky_46 : decode cX11_digestSky 46 = .ok (.ldc2_w 378, 3) := by decide +kernel
theorem dX11_digestSky_49 : decode cX11_digestSky 49 = .ok (.lmul, 1) := by decide +kernel
theorem dX11_digestSky_50 : decode cX11_digestSky 50 = .ok (.aload 6, 2) := by decide +kernel
theorem dX11_digestSky_52 : decode cX11_digestSky 52 = .ok (.iconst 1, 1) := by decide +kernel
theorem dX11_digestSky_53 : decode cX11_digestSky 53 = .ok (.invokevirtual 268, 3) := by decide +kernel
theorem dX11_digestSky_56 : decode cX11_digestSky 56 = .ok (.i2l, 1) := by decide +kernel
theorem dX11_digestSky_57 : decode cX11_digestSky 57 = .ok (.ladd, 1) := by decide +kernel
theorem dX11_digestSky_58 : decode cX11_digestSky 58 = .ok (.lstore_n 3, 1) := by decide +kernel
theorem dX11_digestSky_59 : decode cX11_digestSky 59 = .ok (.lload_n 3, 1) := by decide +kernel
theorem dX11_digestSky_60 : decode cX11_digestSky 60 = .ok (.ldc2_w 378, 3) := by decide +kernel
theorem dX11_digestSky_63 : decode cX11_digestSky 63 = .ok (.lmul, 1) := by decide +kernel
theorem dX11_digestSky_64 : decode cX11_digestSky 64 = .ok (.aload 6, 2) := by decide +kernel
theorem dX11_digestSky_66 : decode cX11_digestSky 66 = .ok (.iconst 5, 1) := by decide +kernel
theorem dX11_digestSky_67 : decode cX11_digestSky 67 = .ok (.invokevirtual 268, 3) := by decide +kernel
theorem dX11_digestSky_70 : decode cX11_digestSky 70 = .ok (.i2l, 1) := by decide +kernel
theorem dX11_digestSky_71 : decode cX11_digestSky 71 = .ok (.ladd, 1) := by decide +kernel
theorem dX11_digestSky_72 : decode cX11_digestSky 72 = .ok (.lstore_n 3, 1) := by decide +kernel
theorem dX11_digestSky_73 : decode cX11_digestSky 73 = .ok (.lload_n 3, 1) := by decide +kernel
theorem dX11_digestSky_74 : decode cX11_digestSky 74 = .ok (.ldc2_w 378, 3) := by decide +kernel
theorem dX11_digestSky_77 : decode cX11_digestSky 77 = .ok (.lmul, 1) := by decide +kernel
theorem dX11_digestSky_78 : decode cX11_digestSky 78 = .ok (.aload 6, 2) := by decide +kernel
theorem dX11_digestSky_80 : decode cX11_digestSky 80 = .ok (.bipush 6, 2) := by decide +kernel
theorem dX11_digestSky_82 : decode cX11_digestSky 82 = .ok (.invokevirtual 268, 3) := by decide +kernel
theorem dX11_digestSky_85 : decode cX11_digestSky 85 = .ok (.i2l, 1) := by decide +kernel
theorem dX11_digestSky_86 : decode cX11_digestSky 86 = .ok (.ladd, 1) := by decide +kernel
theorem dX11_digestSky_87 : decode cX11_digestSky 87 = .ok (.lstore_n 3, 1) := by decide +kernel
theorem dX11_digestSky_88 : decode cX11_digestSky 88 = .ok (.iinc 5 1, 3) := by decide +kernel
theorem dX11_digestSky_91 : decode cX11_digestSky 91 = .ok (.goto (-86), 3) := by decide +kernel
theorem dX11_digestSky_94 : decode cX11_digestSky 94 = .ok (.iconst 0, 1) := by decide +kernel
theorem dX11_digestSky_95 : decode cX11_digestSky 95 = .ok (.istore 5, 2) := by decide +kernel
theorem dX11_digestSky_97 : decode cX11_digestSky 97 = .ok (.iload 5, 2) := by decide +kernel
theorem dX11_digestSky_99 : decode cX11_digestSky 99 = .ok (.aload_n 0, 1) := by decide +kernel
theorem dX11_digestSky_100 : decode cX11_digestSky 100 = .ok (.getfield 10, 3) := by decide +kernel
theorem dX11_digestSky_103 : decode cX11_digestSky 103 = .ok (.invokevirtual 73, 3) := by decide +kernel
theorem dX11_digestSky_106 : decode cX11_digestSky 106 = .ok (.if_icmp .ge 51, 3) := by decide +kernel
theorem dX11_digestSky_109 : decode cX11_digestSky 109 = .ok (.bipush 6, 2) := by decide +kernel
theorem dX11_digestSky_111 : decode cX11_digestSky 111 = .ok (.istore 6, 2) := by decide +kernel
theorem dX11_digestSky_113 : decode cX11_digestSky 113 = .ok (.iload 6, 2) := by decide +kernel
theorem dX11_digestSky_115 : decode cX11_digestSky 115 = .ok (.bipush 9, 2) := by decide +kernel
theorem dX11_digestSky_117 : decode cX11_digestSky 117 = .ok (.if_icmp .gt 34, 3) := by decide +kernel
theorem dX11_digestSky_120 : decode cX11_digestSky 120 = .ok (.lload_n 3, 1) := by decide +kernel
theorem dX11_digestSky_121 : decode cX11_digestSky 121 = .ok (.ldc2_w 378, 3) := by decide +kernel
theorem dX11_digestSky_124 : decode cX11_digestSky 124 = .ok (.lmul, 1) := by decide +kernel
theorem dX11_digestSky_125 : decode cX11_digestSky 125 = .ok (.aload_n 0, 1) := by decide +kernel
theorem dX11_digestSky_126 : decode cX11_digestSky 126 = .ok (.getfield 10, 3) := by decide +kernel
theorem dX11_digestSky_129 : decode cX11_digestSky 129 = .ok (.iload 5, 2) := by decide +kernel
theorem dX11_digestSky_131 : decode cX11_digestSky 131 = .ok (.invokevirtual 99, 3) := by decide +kernel
theorem dX11_digestSky_134 : decode cX11_digestSky 134 = .ok (.checkcast 82, 3) := by decide +kernel
theorem dX11_digestSky_137 : decode cX11_digestSky 137 = .ok (.iload 6, 2) := by decide +kernel
theorem dX11_digestSky_139 : decode cX11_digestSky 139 = .ok (.invokevirtual 280, 3) := by decide +kernel
theorem dX11_digestSky_142 : decode cX11_digestSky 142 = .ok (.i2l, 1) := by decide +kernel
theorem dX11_digestSky_143 : decode cX11_digestSky 143 = .ok (.ladd, 1) := by decide +kernel
theorem dX11_digestSky_144 : decode cX11_digestSky 144 = .ok (.lstore_n 3, 1) := by decide +kernel
theorem dX11_digestSky_145 : decode cX11_digestSky 145 = .ok (.iinc 6 1, 3) := by decide +kernel
theorem dX11_digestSky_148 : decode cX11_digestSky 148 = .ok (.goto (-35), 3) := by decide +kernel
theorem dX11_digestSky_151 : decode cX11_digestSky 151 = .ok (.iinc 5 1, 3) := by decide +kernel
theorem dX11_digestSky_154 : decode cX11_digestSky 154 = .ok (.goto (-57), 3) := by decide +kernel
theorem dX11_digestSky_157 : decode cX11_digestSky 157 = .ok (.lload_n 3, 1) := by decide +kernel
theorem dX11_digestSky_158 : decode cX11_digestSky 158 = .ok (.lreturn, 1) := by decide +kernel
theorem dX11_digestTracks_0 : decode cX11_digestTracks 0 = .ok (.lload_n 1, 1) := by decide +kernel
theorem dX11_digestTracks_1 : decode cX11_digestTracks 1 = .ok (.lstore_n 3, 1) := by decide +kernel
theorem dX11_digestTracks_2 : decode cX11_digestTracks 2 = .ok (.iconst 0, 1) := by decide +kernel
theorem dX11_digestTracks_3 : decode cX11_digestTracks 3 = .ok (.istore 5, 2) := by decide +kernel
theorem dX11_digestTracks_5 : decode cX11_digestTracks 5 = .ok (.iload 5, 2) := by decide +kernel
theorem dX11_digestTracks_7 : decode cX11_digestTracks 7 = .ok (.aload_n 0, 1) := by decide +kernel
theorem dX11_digestTracks_8 : decode cX11_digestTracks 8 = .ok (.getfield 34, 3) := by decide +kernel
theorem dX11_digestTracks_11 : decode cX11_digestTracks 11 = .ok (.invokevirtual 73, 3) := by decide +kernel
theorem dX11_digestTracks_14 : decode cX11_digestTracks 14 = .ok (.if_icmp .ge 75, 3) := by decide +kernel
theorem dX11_digestTracks_17 : decode cX11_digestTracks 17 = .ok (.iconst 0, 1) := by decide +kernel
theorem dX11_digestTracks_18 : decode cX11_digestTracks 18 = .ok (.istore 6, 2) := by decide +kernel
theorem dX11_digestTracks_20 : decode cX11_digestTracks 20 = .ok (.iload 6, 2) := by decide +kernel
theorem dX11_digestTracks_22 : decode cX11_digestTracks 22 = .ok (.bipush 10, 2) := by decide +kernel
theorem dX11_digestTracks_24 : decode cX11_digestTracks 24 = .ok (.if_icmp .gt 35, 3) := by decide +kernel
theorem dX11_digestTracks_27 : decode cX11_digestTracks 27 = .ok (.lload_n 3, 1) := by decide +kernel
theorem dX11_digestTracks_28 : decode cX11_digestTracks 28 = .ok (.ldc2_w 378, 3) := by decide +kernel
theorem dX11_digestTracks_31 : decode cX11_digestTracks 31 = .ok (.lmul, 1) := by decide +kernel
theorem dX11_digestTracks_32 : decode cX11_digestTracks 32 = .ok (.aload_n 0, 1) := by decide +kernel
theorem dX11_digestTracks_33 : decode cX11_digestTracks 33 = .ok (.aload_n 0, 1) := by decide +kernel
theorem dX11_digestTracks_34 : decode cX11_digestTracks 34 = .ok (.getfield 34, 3) := by decide +kernel
theorem dX11_digestTracks_37 : decode cX11_digestTracks 37 = .ok (.iload 5, 2) := by decide +kernel
theorem dX11_digestTracks_39 : decode cX11_digestTracks 39 = .ok (.invokevirtual 99, 3) := by decide +kernel
theorem dX11_digestTracks_42 : decode cX11_digestTracks 42 = .ok (.checkcast 191, 3) := by decide +kernel
theorem dX11_digestTracks_45 : decode cX11_digestTracks 45 = .ok (.iload 6, 2) := by decide +kernel
theorem dX11_digestTracks_47 : decode cX11_digestTracks 47 = .ok (.invokevirtual 293, 3) := by decide +kernel
theorem dX11_digestTracks_50 : decode cX11_digestTracks 50 = .ok (.i2l, 1) := by decide +kernel
theorem dX11_digestTracks_51 : decode cX11_digestTracks 51 = .ok (.ladd, 1) := by decide +kernel
theorem dX11_digestTracks_52 : decode cX11_digestTracks 52 = .ok (.lstore_n 3, 1) := by decide +kernel
theorem dX11_digestTracks_53 : decode cX11_digestTracks 53 = .ok (.iinc 6 1, 3) := by decide +kernel
theorem dX11_digestTracks_56 : decode cX11_digestTracks 56 = .ok (.goto (-36), 3) := by decide +kernel
theorem dX11_digestTracks_59 : decode cX11_digestTracks 59 = .ok (.lload_n 3, 1) := by decide +kernel
theorem dX11_digestTracks_60 : decode cX11_digestTracks 60 = .ok (.ldc2_w 378, 3) := by decide +kernel
theorem dX11_digestTracks_63 : decode cX11_digestTracks 63 = .ok (.lmul, 1) := by decide +kernel
theorem dX11_digestTracks_64 : decode cX11_digestTracks 64 = .ok (.aload_n 0, 1) := by decide +kernel
theorem dX11_digestTracks_65 : decode cX11_digestTracks 65 = .ok (.aload_n 0, 1) := by decide +kernel
theorem dX11_digestTracks_66 : decode cX11_digestTracks 66 = .ok (.getfield 34, 3) := by decide +kernel
theorem dX11_digestTracks_69 : decode cX11_digestTracks 69 = .ok (.iload 5, 2) := by decide +kernel
theorem dX11_digestTracks_71 : decode cX11_digestTracks 71 = .ok (.invokevirtual 99, 3) := by decide +kernel
theorem dX11_digestTracks_74 : decode cX11_digestTracks 74 = .ok (.checkcast 191, 3) := by decide +kernel
theorem dX11_digestTracks_77 : decode cX11_digestTracks 77 = .ok (.invokevirtual 306, 3) := by decide +kernel
theorem dX11_digestTracks_80 : decode cX11_digestTracks 80 = .ok (.i2l, 1) := by decide +kernel
theorem dX11_digestTracks_81 : decode cX11_digestTracks 81 = .ok (.ladd, 1) := by decide +kernel
theorem dX11_digestTracks_82 : decode cX11_digestTracks 82 = .ok (.lstore_n 3, 1) := by decide +kernel
theorem dX11_digestTracks_83 : decode cX11_digestTracks 83 = .ok (.iinc 5 1, 3) := by decide +kernel
theorem dX11_digestTracks_86 : decode cX11_digestTracks 86 = .ok (.goto (-81), 3) := by decide +kernel
theorem dX11_digestTracks_89 : decode cX11_digestTracks 89 = .ok (.lload_n 3, 1) := by decide +kernel
theorem dX11_digestTracks_90 : decode cX11_digestTracks 90 = .ok (.lreturn, 1) := by decide +kernel
theorem dX11_passOne_0 : decode cX11_passOne 0 = .ok (.aload_n 0, 1) := by decide +kernel
theorem dX11_passOne_1 : decode cX11_passOne 1 = .ok (.dup, 1) := by decide +kernel
theorem dX11_passOne_2 : decode cX11_passOne 2 = .ok (.getfield 205, 3) := by decide +kernel
theorem dX11_passOne_5 : decode cX11_passOne 5 = .ok (.iconst 1, 1) := by decide +kernel
theorem dX11_passOne_6 : decode cX11_passOne 6 = .ok (.iadd, 1) := by decide +kernel
theorem dX11_passOne_7 : decode cX11_passOne 7 = .ok (.putfield 205, 3) := by decide +kernel
theorem dX11_passOne_10 : decode cX11_passOne 10 = .ok (.iconst 0, 1) := by decide +kernel
theorem dX11_passOne_11 : decode cX11_passOne 11 = .ok (.istore_n 1, 1) := by decide +kernel
theorem dX11_passOne_12 : decode cX11_passOne 12 = .ok (.iload_n 1, 1) := by decide +kernel
theorem dX11_passOne_13 : decode cX11_passOne 13 = .ok (.aload_n 0, 1) := by decide +kernel
theorem dX11_passOne_14 : decode cX11_passOne 14 = .ok (.getfield 28, 3) := by decide +kernel
theorem dX11_passOne_17 : decode cX11_passOne 17 = .ok (.invokevirtual 73, 3) := by decide +kernel
theorem dX11_passOne_20 : decode cX11_passOne 20 = .ok (.if_icmp .ge 23, 3) := by decide +kernel
theorem dX11_passOne_23 : decode cX11_passOne 23 = .ok (.aload_n 0, 1) := by decide +kernel
theorem dX11_passOne_24 : decode cX11_passOne 24 = .ok (.getfield 28, 3) := by decide +kernel
theorem dX11_passOne_27 : decode cX11_passOne 27 = .ok (.iload_n 1, 1) := by decide +kernel
theorem dX11_passOne_28 : decode cX11_passOne 28 = .ok (.invokevirtual 99, 3) := by decide +kernel
theorem dX11_passOne_31 : decode cX11_passOne 31 = .ok (.checkcast 157, 3) := by decide +kernel
theorem dX11_passOne_34 : decode cX11_passOne 34 = .ok (.invokevirtual 392, 3) := by decide +kernel
theorem dX11_passOne_37 : decode cX11_passOne 37 = .ok (.iinc 1 1, 3) := by decide +kernel
theorem dX11_passOne_40 : decode cX11_passOne 40 = .ok (.goto (-28), 3) := by decide +kernel
theorem dX11_passOne_43 : decode cX11_passOne 43 = .ok (.aload_n 0, 1) := by decide +kernel
theorem dX11_passOne_44 : decode cX11_passOne 44 = .ok (.invokevirtual 395, 3) := by decide +kernel
theorem dX11_passOne_47 : decode cX11_passOne 47 = .ok (.aload_n 0, 1) := by decide +kernel
theorem dX11_passOne_48 : decode cX11_passOne 48 = .ok (.invokevirtual 398, 3) := by decide +kernel
theorem dX11_passOne_51 : decode cX11_passOne 51 = .ok (.iconst 0, 1) := by decide +kernel
theorem dX11_passOne_52 : decode cX11_passOne 52 = .ok (.istore_n 1, 1) := by decide +kernel
theorem dX11_passOne_53 : decode cX11_passOne 53 = .ok (.iload_n 1, 1) := by decide +kernel
theorem dX11_passOne_54 : decode cX11_passOne 54 = .ok (.aload_n 0, 1) := by decide +kernel
theorem dX11_passOne_55 : decode cX11_passOne 55 = .ok (.getfield 19, 3) := by decide +kernel
theorem dX11_passOne_58 : decode cX11_passOne 58 = .ok (.invokevirtual 73, 3) := by decide +kernel
theorem dX11_passOne_61 : decode cX11_passOne 61 = .ok (.if_icmp .ge 24, 3) := by decide +kernel
theorem dX11_passOne_64 : decode cX11_passOne 64 = .ok (.aload_n 0, 1) := by decide +kernel
theorem dX11_passOne_65 : decode cX11_passOne 65 = .ok (.aload_n 0, 1) := by decide +kernel
theorem dX11_passOne_66 : decode cX11_passOne 66 = .ok (.getfield 19, 3) := by decide +kernel
theorem dX11_passOne_69 : decode cX11_passOne 69 = .ok (.iload_n 1, 1) := by decide +kernel
theorem dX11_passOne_70 : decode cX11_passOne 70 = .ok (.invokevirtual 99, 3) := by decide +kernel
theorem dX11_passOne_73 : decode cX11_passOne 73 = .ok (.checkcast 122, 3) := by decide +kernel
theorem dX11_passOne_76 : decode cX11_passOne 76 = .ok (.invokevirtual 401, 3) := by decide +kernel
theorem dX11_passOne_79 : decode cX11_passOne 79 = .ok (.iinc 1 1, 3) := by decide +kernel
theorem dX11_passOne_82 : decode cX11_passOne 82 = .ok (.goto (-29), 3) := by decide +kernel
theorem dX11_passOne_85 : decode cX11_passOne 85 = .ok (.iconst 0, 1) := by decide +kernel
theorem dX11_passOne_86 : decode cX11_passOne 86 = .ok (.istore_n 1, 1) := by decide +kernel
theorem dX11_passOne_87 : decode cX11_passOne 87 = .ok (.iload_n 1, 1) := by decide +kernel
theorem dX11_passOne_88 : decode cX11_passOne 88 = .ok (.aload_n 0, 1) := by decide +kernel
theorem dX11_passOne_89 : decode cX11_passOne 89 = .ok (.getfield 19, 3) := by decide +kernel
theorem dX11_passOne_92 : decode cX11_passOne 92 = .ok (.invokevirtual 73, 3) := by decide +kernel
theorem dX11_passOne_95 : decode cX11_passOne 95 = .ok (.if_icmp .ge 24, 3) := by decide +kernel
theorem dX11_passOne_98 : decode cX11_passOne 98 = .ok (.aload_n 0, 1) := by decide +kernel
theorem dX11_passOne_99 : decode cX11_passOne 99 = .ok (.aload_n 0, 1) := by decide +kernel
theorem dX11_passOne_100 : decode cX11_passOne 100 = .ok (.getfield 19, 3) := by decide +kernel
theorem dX11_passOne_103 : decode cX11_passOne 103 = .ok (.iload_n 1, 1) := by decide +kernel
theorem dX11_passOne_104 : decode cX11_passOne 104 = .ok (.invokevirtual 99, 3) := by decide +kernel
theorem dX11_passOne_107 : decode cX11_passOne 107 = .ok (.checkcast 122, 3) := by decide +kernel
theorem dX11_passOne_110 : decode cX11_passOne 110 = .ok (.invokevirtual 405, 3) := by decide +kernel
theorem dX11_passOne_113 : decode cX11_passOne 113 = .ok (.iinc 1 1, 3) := by decide +kernel
theorem dX11_passOne_116 : decode cX11_passOne 116 = .ok (.goto (-29), 3) := by decide +kernel
theorem dX11_passOne_119 : decode cX11_passOne 119 = .ok (.iconst 0, 1) := by decide +kernel
theorem dX11_passOne_120 : decode cX11_passOne 120 = .ok (.istore_n 1, 1) := by decide +kernel
theorem dX11_passOne_121 : decode cX11_passOne 121 = .ok (.iload_n 1, 1) := by decide +kernel
theorem dX11_passOne_122 : decode cX11_passOne 122 = .ok (.aload_n 0, 1) := by decide +kernel
theorem dX11_passOne_123 : decode cX11_passOne 123 = .ok (.getfield 22, 3) := by decide +kernel
theorem dX11_passOne_126 : decode cX11_passOne 126 = .ok (.invokevirtual 73, 3) := by decide +kernel
theorem dX11_passOne_129 : decode cX11_passOne 129 = .ok (.if_icmp .ge 24, 3) := by decide +kernel
theorem dX11_passOne_132 : decode cX11_passOne 132 = .ok (.aload_n 0, 1) := by decide +kernel
theorem dX11_passOne_133 : decode cX11_passOne 133 = .ok (.aload_n 0, 1) := by decide +kernel
theorem dX11_passOne_134 : decode cX11_passOne 134 = .ok (.getfield 22, 3) := by decide +kernel
theorem dX11_passOne_137 : decode cX11_passOne 137 = .ok (.iload_n 1, 1) := by decide +kernel
theorem dX11_passOne_138 : decode cX11_passOne 138 = .ok (.invokevirtual 99, 3) := by decide +kernel
theorem dX11_passOne_141 : decode cX11_passOne 141 = .ok (.checkcast 131, 3) := by decide +kernel
theorem dX11_passOne_144 : decode cX11_passOne 144 = .ok (.invokevirtual 408, 3) := by decide +kernel
theorem dX11_passOne_147 : decode cX11_passOne 147 = .ok (.iinc 1 1, 3) := by decide +kernel
theorem dX11_passOne_150 : decode cX11_passOne 150 = .ok (.goto (-29), 3) := by decide +kernel
theorem dX11_passOne_153 : decode cX11_passOne 153 = .ok (.aload_n 0, 1) := by decide +kernel
theorem dX11_passOne_154 : decode cX11_passOne 154 = .ok (.invokevirtual 412, 3) := by decide +kernel
theorem dX11_passOne_157 : decode cX11_passOne 157 = .ok (.iconst 0, 1) := by decide +kernel
theorem dX11_passOne_158 : decode cX11_passOne 158 = .ok (.istore_n 1, 1) := by decide +kernel
theorem dX11_passOne_159 : decode cX11_passOne 159 = .ok (.iload_n 1, 1) := by decide +kernel
theorem dX11_passOne_160 : decode cX11_passOne 160 = .ok (.aload_n 0, 1) := by decide +kernel
theorem dX11_passOne_161 : decode cX11_passOne 161 = .ok (.getfield 25, 3) := by decide +kernel
theorem dX11_passOne_164 : decode cX11_passOne 164 = .ok (.invokevirtual 73, 3) := by decide +kernel
theorem dX11_passOne_167 : decode cX11_passOne 167 = .ok (.if_icmp .ge 24, 3) := by decide +kernel
theorem dX11_passOne_170 : decode cX11_passOne 170 = .ok (.aload_n 0, 1) := by decide +kernel
theorem dX11_passOne_171 : decode cX11_passOne 171 = .ok (.aload_n 0, 1) := by decide +kernel
theorem dX11_passOne_172 : decode cX11_passOne 172 = .ok (.getfield 25, 3) := by decide +kernel
theorem dX11_passOne_175 : decode cX11_passOne 175 = .ok (.iload_n 1, 1) := by decide +kernel
theorem dX11_passOne_176 : decode cX11_passOne 176 = .ok (.invokevirtual 99, 3) := by decide +kernel
theorem dX11_passOne_179 : decode cX11_passOne 179 = .ok (.checkcast 145, 3) := by decide +kernel
theorem dX11_passOne_182 : decode cX11_passOne 182 = .ok (.invokevirtual 415, 3) := by decide +kernel
theorem dX11_passOne_185 : decode cX11_passOne 185 = .ok (.iinc 1 1, 3) := by decide +kernel
theorem dX11_passOne_188 : decode cX11_passOne 188 = .ok (.goto (-29), 3) := by decide +kernel
theorem dX11_passOne_191 : decode cX11_passOne 191 = .ok (.return_, 1) := by decide +kernel
theorem dX11_makePlots_0 : decode cX11_makePlots 0 = .ok (.iconst 0, 1) := by decide +kernel
theorem dX11_makePlots_1 : decode cX11_makePlots 1 = .ok (.istore_n 1, 1) := by decide +kernel
theorem dX11_makePlots_2 : decode cX11_makePlots 2 = .ok (.iload_n 1, 1) := by decide +kernel
theorem dX11_makePlots_3 : decode cX11_makePlots 3 = .ok (.aload_n 0, 1) := by decide +kernel
theorem dX11_makePlots_4 : decode cX11_makePlots 4 = .ok (.getfield 10, 3) := by decide +kernel
theorem dX11_makePlots_7 : decode cX11_makePlots 7 = .ok (.invokevirtual 73, 3) := by decide +kernel
theorem dX11_makePlots_10 : decode cX11_makePlots 10 = .ok (.if_icmp .ge 69, 3) := by decide +kernel
theorem dX11_makePlots_13 : decode cX11_makePlots 13 = .ok (.aload_n 0, 1) := by decide +kernel
theorem dX11_makePlots_14 : decode cX11_makePlots 14 = .ok (.getfield 10, 3) := by decide +kernel
theorem dX11_makePlots_17 : decode cX11_makePlots 17 = .ok (.iload_n 1, 1) := by decide +kernel
theorem dX11_makePlots_18 : decode cX11_makePlots 18 = .ok (.invokevirtual 99, 3) := by decide +kernel
theorem dX11_makePlots_21 : decode cX11_makePlots 21 = .ok (.checkcast 82, 3) := by decide +kernel
theorem dX11_makePlots_24 : decode cX11_makePlots 24 = .ok (.astore_n 2, 1) := by decide +kernel
theorem dX11_makePlots_25 : decode cX11_makePlots 25 = .ok (.iconst 0, 1) := by decide +kernel
theorem dX11_makePlots_26 : decode cX11_makePlots 26 = .ok (.istore_n 3, 1) := by decide +kernel
theorem dX11_makePlots_27 : decode cX11_makePlots 27 = .ok (.iload_n 3, 1) := by decide +kernel
theorem dX11_makePlots_28 : decode cX11_makePlots 28 = .ok (.aload_n 0, 1) := by decide +kernel
theorem dX11_makePlots_29 : decode cX11_makePlots 29 = .ok (.getfield 28, 3) := by decide +kernel
theorem dX11_makePlots_32 : decode cX11_makePlots 32 = .ok (.invokevirtual 73, 3) := by decide +kernel
theorem dX11_makePlots_35 : decode cX11_makePlots 35 = .ok (.if_icmp .ge 38, 3) := by decide +kernel
theorem dX11_makePlots_38 : decode cX11_makePlots 38 = .ok (.aload_n 0, 1) := by decide +kernel
theorem dX11_makePlots_39 : decode cX11_makePlots 39 = .ok (.getfield 28, 3) := by decide +kernel
theorem dX11_makePlots_42 : decode cX11_makePlots 42 = .ok (.iload_n 3, 1) := by decide +kernel
theorem dX11_makePlots_43 : decode cX11_makePlots 43 = .ok (.invokevirtual 99, 3) := by decide +kernel
theorem dX11_makePlots_46 : decode cX11_makePlots 46 = .ok (.checkcast 157, 3) := by decide +kernel
theorem dX11_makePlots_49 : decode cX11_makePlots 49 = .ok (.astore 4, 2) := by decide +kernel
theorem dX11_makePlots_51 : decode cX11_makePlots 51 = .ok (.aload_n 2, 1) := by decide +kernel
theorem dX11_makePlots_52 : decode cX11_makePlots 52 = .ok (.aload 4, 2) := by decide +kernel
theorem dX11_makePlots_54 : decode cX11_makePlots 54 = .ok (.invokevirtual 274, 3) := by decide +kernel
theorem dX11_makePlots_57 : decode cX11_makePlots 57 = .ok (.ifCond .eq 10, 3) := by decide +kernel
theorem dX11_makePlots_60 : decode cX11_makePlots 60 = .ok (.aload_n 0, 1) := by decide +kernel
theorem dX11_makePlots_61 : decode cX11_makePlots 61 = .ok (.aload_n 2, 1) := by decide +kernel
theorem dX11_makePlots_62 : decode cX11_makePlots 62 = .ok (.aload 4, 2) := by decide +kernel
theorem dX11_makePlots_64 : decode cX11_makePlots 64 = .ok (.invokevirtual 419, 3) := by decide +kernel
theorem dX11_makePlots_67 : decode cX11_makePlots 67 = .ok (.iinc 3 1, 3) := by decide +kernel
theorem dX11_makePlots_70 : decode cX11_makePlots 70 = .ok (.goto (-43), 3) := by decide +kernel
theorem dX11_makePlots_73 : decode cX11_makePlots 73 = .ok (.iinc 1 1, 3) := by decide +kernel
theorem dX11_makePlots_76 : decode cX11_makePlots 76 = .ok (.goto (-74), 3) := by decide +kernel
theorem dX11_makePlots_79 : decode cX11_makePlots 79 = .ok (.return_, 1) := by decide +kernel
theorem dX11_makePlot_0 : decode cX11_makePlot 0 = .ok (.aload_n 2, 1) := by decide +kernel
theorem dX11_makePlot_1 : decode cX11_makePlot 1 = .ok (.getfield 423, 3) := by decide +kernel
theorem dX11_makePlot_4 : decode cX11_makePlot 4 = .ok (.aload_n 0, 1) := by decide +kernel
theorem dX11_makePlot_5 : decode cX11_makePlot 5 = .ok (.getfield 43, 3) := by decide +kernel
theorem dX11_makePlot_8 : decode cX11_makePlot 8 = .ok (.aload_n 1, 1) := by decide +kernel
theorem dX11_makePlot_9 : decode cX11_makePlot 9 = .ok (.getfield 426, 3) := by decide +kernel
theorem dX11_makePlot_12 : decode cX11_makePlot 12 = .ok (.invokevirtual 429, 3) := by decide +kernel
theorem dX11_makePlot_15 : decode cX11_makePlot 15 = .ok (.iadd, 1) := by decide +kernel
theorem dX11_makePlot_16 : decode cX11_makePlot 16 = .ok (.invokestatic 432, 3) := by decide +kernel
theorem dX11_makePlot_19 : decode cX11_makePlot 19 = .ok (.istore_n 3, 1) := by decide +kernel
theorem dX11_makePlot_20 : decode cX11_makePlot 20 = .ok (.aload_n 2, 1) := by decide +kernel
theorem dX11_makePlot_21 : decode cX11_makePlot 21 = .ok (.getfield 435, 3) := by decide +kernel
theorem dX11_makePlot_24 : decode cX11_makePlot 24 = .ok (.aload_n 0, 1) := by decide +kernel
theorem dX11_makePlot_25 : decode cX11_makePlot 25 = .ok (.getfield 43, 3) := by decide +kernel
theorem dX11_makePlot_28 : decode cX11_makePlot 28 = .ok (.aload_n 1, 1) := by decide +kernel
theorem dX11_makePlot_29 : decode cX11_makePlot 29 = .ok (.getfield 426, 3) := by decide +kernel
theorem dX11_makePlot_32 : decode cX11_makePlot 32 = .ok (.invokevirtual 429, 3) := by decide +kernel
theorem dX11_makePlot_35 : decode cX11_makePlot 35 = .ok (.iadd, 1) := by decide +kernel
theorem dX11_makePlot_36 : decode cX11_makePlot 36 = .ok (.invokestatic 432, 3) := by decide +kernel
theorem dX11_makePlot_39 : decode cX11_makePlot 39 = .ok (.istore 4, 2) := by decide +kernel
theorem dX11_makePlot_41 : decode cX11_makePlot 41 = .ok (.aload_n 0, 1) := by decide +kernel
theorem dX11_makePlot_42 : decode cX11_makePlot 42 = .ok (.getfield 438, 3) := by decide +kernel
theorem dX11_makePlot_45 : decode cX11_makePlot 45 = .ok (.aload_n 0, 1) := by decide +kernel
theorem dX11_makePlot_46 : decode cX11_makePlot 46 = .ok (.getfield 37, 3) := by decide +kernel
theorem dX11_makePlot_49 : decode cX11_makePlot 49 = .ok (.invokevirtual 73, 3) := by decide +kernel
theorem dX11_makePlot_52 : decode cX11_makePlot 52 = .ok (.if_icmp .lt 19, 3) := by decide +kernel
theorem dX11_makePlot_55 : decode cX11_makePlot 55 = .ok (.aload_n 0, 1) := by decide +kernel
theorem dX11_makePlot_56 : decode cX11_makePlot 56 = .ok (.getfield 37, 3) := by decide +kernel
theorem dX11_makePlot_59 : decode cX11_makePlot 59 = .ok (.new 441, 3) := by decide +kernel
theorem dX11_makePlot_62 : decode cX11_makePlot 62 = .ok (.dup, 1) := by decide +kernel
theorem dX11_makePlot_63 : decode cX11_makePlot 63 = .ok (.aload_n 1, 1) := by decide +kernel
theorem dX11_makePlot_64 : decode cX11_makePlot 64 = .ok (.invokespecial 443, 3) := by decide +kernel
theorem dX11_makePlot_67 : decode cX11_makePlot 67 = .ok (.invokevirtual 87, 3) := by decide +kernel
theorem dX11_makePlot_70 : decode cX11_makePlot 70 = .ok (.pop, 1) := by decide +kernel
theorem dX11_makePlot_71 : decode cX11_makePlot 71 = .ok (.aload_n 0, 1) := by decide +kernel
theorem dX11_makePlot_72 : decode cX11_makePlot 72 = .ok (.getfield 37, 3) := by decide +kernel
theorem dX11_makePlot_75 : decode cX11_makePlot 75 = .ok (.aload_n 0, 1) := by decide +kernel
theorem dX11_makePlot_76 : decode cX11_makePlot 76 = .ok (.getfield 438, 3) := by decide +kernel
theorem dX11_makePlot_79 : decode cX11_makePlot 79 = .ok (.invokevirtual 99, 3) := by decide +kernel
theorem dX11_makePlot_82 : decode cX11_makePlot 82 = .ok (.checkcast 441, 3) := by decide +kernel
theorem dX11_makePlot_85 : decode cX11_makePlot 85 = .ok (.astore 5, 2) := by decide +kernel
theorem dX11_makePlot_87 : decode cX11_makePlot 87 = .ok (.aload 5, 2) := by decide +kernel
theorem dX11_makePlot_89 : decode cX11_makePlot 89 = .ok (.aload_n 1, 1) := by decide +kernel
theorem dX11_makePlot_90 : decode cX11_makePlot 90 = .ok (.iload_n 3, 1) := by decide +kernel
theorem dX11_makePlot_91 : decode cX11_makePlot 91 = .ok (.iload 4, 2) := by decide +kernel
theorem dX11_makePlot_93 : decode cX11_makePlot 93 = .ok (.aload_n 2, 1) := by decide +kernel
theorem dX11_makePlot_94 : decode cX11_makePlot 94 = .ok (.invokevirtual 446, 3) := by decide +kernel
theorem dX11_makePlot_97 : decode cX11_makePlot 97 = .ok (.aload_n 0, 1) := by decide +kernel
theorem dX11_makePlot_98 : decode cX11_makePlot 98 = .ok (.getfield 205, 3) := by decide +kernel
theorem dX11_makePlot_101 : decode cX11_makePlot 101 = .ok (.invokevirtual 449, 3) := by decide +kernel
theorem dX11_makePlot_104 : decode cX11_makePlot 104 = .ok (.aload_n 0, 1) := by decide +kernel
theorem dX11_makePlot_105 : decode cX11_makePlot 105 = .ok (.dup, 1) := by decide +kernel
theorem dX11_makePlot_106 : decode cX11_makePlot 106 = .ok (.getfield 438, 3) := by decide +kernel
theorem dX11_makePlot_109 : decode cX11_makePlot 109 = .ok (.iconst 1, 1) := by decide +kernel
theorem dX11_makePlot_110 : decode cX11_makePlot 110 = .ok (.iadd, 1) := by decide +kernel
theorem dX11_makePlot_111 : decode cX11_makePlot 111 = .ok (.putfield 438, 3) := by decide +kernel
theorem dX11_makePlot_114 : decode cX11_makePlot 114 = .ok (.aload_n 1, 1) := by decide +kernel
theorem dX11_makePlot_115 : decode cX11_makePlot 115 = .ok (.dup, 1) := by decide +kernel
theorem dX11_makePlot_116 : decode cX11_makePlot 116 = .ok (.getfield 453, 3) := by decide +kernel
theorem dX11_makePlot_119 : decode cX11_makePlot 119 = .ok (.iconst 1, 1) := by decide +kernel
theorem dX11_makePlot_120 : decode cX11_makePlot 120 = .ok (.iadd, 1) := by decide +kernel
theorem dX11_makePlot_121 : decode cX11_makePlot 121 = .ok (.putfield 453, 3) := by decide +kernel
theorem dX11_makePlot_124 : decode cX11_makePlot 124 = .ok (.return_, 1) := by decide +kernel
theorem dX11_bringPlots_0 : decode cX11_bringPlots 0 = .ok (.iconst 0, 1) := by decide +kernel
theorem dX11_bringPlots_1 : decode cX11_bringPlots 1 = .ok (.istore_n 1, 1) := by decide +kernel
theorem dX11_bringPlots_2 : decode cX11_bringPlots 2 = .ok (.iconst 0, 1) := by decide +kernel
theorem dX11_bringPlots_3 : decode cX11_bringPlots 3 = .ok (.istore_n 2, 1) := by decide +kernel
theorem dX11_bringPlots_4 : decode cX11_bringPlots 4 = .ok (.iload_n 2, 1) := by decide +kernel
theorem dX11_bringPlots_5 : decode cX11_bringPlots 5 = .ok (.aload_n 0, 1) := by decide +kernel
theorem dX11_bringPlots_6 : decode cX11_bringPlots 6 = .ok (.getfield 438, 3) := by decide +kernel
theorem dX11_bringPlots_9 : decode cX11_bringPlots 9 = .ok (.if_icmp .ge 84, 3) := by decide +kernel
theorem dX11_bringPlots_12 : decode cX11_bringPlots 12 = .ok (.iload_n 2, 1) := by decide +kernel
theorem dX11_bringPlots_13 : decode cX11_bringPlots 13 = .ok (.aload_n 0, 1) := by decide +kernel
theorem dX11_bringPlots_14 : decode cX11_bringPlots 14 = .ok (.getfield 37, 3) := by decide +kernel
theorem dX11_bringPlots_17 : decode cX11_bringPlots 17 = .ok (.invokevirtual 73, 3) := by decide +kernel
theorem dX11_bringPlots_20 : decode cX11_bringPlots 20 = .ok (.if_icmp .ge 73, 3) := by decide +kernel
theorem dX11_bringPlots_23 : decode cX11_bringPlots 23 = .ok (.aload_n 0, 1) := by decide +kernel
theorem dX11_bringPlots_24 : decode cX11_bringPlots 24 = .ok (.getfield 37, 3) := by decide +kernel
theorem dX11_bringPlots_27 : decode cX11_bringPlots 27 = .ok (.iload_n 2, 1) := by decide +kernel
theorem dX11_bringPlots_28 : decode cX11_bringPlots 28 = .ok (.invokevirtual 99, 3) := by decide +kernel
theorem dX11_bringPlots_31 : decode cX11_bringPlots 31 = .ok (.checkcast 441, 3) := by decide +kernel
theorem dX11_bringPlots_34 : decode cX11_bringPlots 34 = .ok (.astore_n 3, 1) := by decide +kernel
theorem dX11_bringPlots_35 : decode cX11_bringPlots 35 = .ok (.aload_n 3, 1) := by decide +kernel
theorem dX11_bringPlots_36 : decode cX11_bringPlots 36 = .ok (.getfield 456, 3) := by decide +kernel
theorem dX11_bringPlots_39 : decode cX11_bringPlots 39 = .ok (.aload_n 0, 1) := by decide +kernel
theorem dX11_bringPlots_40 : decode cX11_bringPlots 40 = .ok (.getfield 205, 3) := by decide +kernel
theorem dX11_bringPlots_43 : decode cX11_bringPlots 43 = .ok (.if_icmp .gt 11, 3) := by decide +kernel
theorem dX11_bringPlots_46 : decode cX11_bringPlots 46 = .ok (.aload_n 0, 1) := by decide +kernel
theorem dX11_bringPlots_47 : decode cX11_bringPlots 47 = .ok (.aload_n 3, 1) := by decide +kernel
theorem dX11_bringPlots_48 : decode cX11_bringPlots 48 = .ok (.invokevirtual 457, 3) := by decide +kernel
theorem dX11_bringPlots_51 : decode cX11_bringPlots 51 = .ok (.goto 36, 3) := by decide +kernel
theorem dX11_bringPlots_54 : decode cX11_bringPlots 54 = .ok (.aload_n 0, 1) := by decide +kernel
theorem dX11_bringPlots_55 : decode cX11_bringPlots 55 = .ok (.getfield 37, 3) := by decide +kernel
theorem dX11_bringPlots_58 : decode cX11_bringPlots 58 = .ok (.iload_n 2, 1) := by decide +kernel
theorem dX11_bringPlots_59 : decode cX11_bringPlots 59 = .ok (.aload_n 0, 1) := by decide +kernel
theorem dX11_bringPlots_60 : decode cX11_bringPlots 60 = .ok (.getfield 37, 3) := by decide +kernel
theorem dX11_bringPlots_63 : decode cX11_bringPlots 63 = .ok (.iload_n 1, 1) := by decide +kernel
theorem dX11_bringPlots_64 : decode cX11_bringPlots 64 = .ok (.invokevirtual 99, 3) := by decide +kernel
theorem dX11_bringPlots_67 : decode cX11_bringPlots 67 = .ok (.checkcast 441, 3) := by decide +kernel
theorem dX11_bringPlots_70 : decode cX11_bringPlots 70 = .ok (.invokevirtual 461, 3) := by decide +kernel
theorem dX11_bringPlots_73 : decode cX11_bringPlots 73 = .ok (.pop, 1) := by decide +kernel
theorem dX11_bringPlots_74 : decode cX11_bringPlots 74 = .ok (.aload_n 0, 1) := by decide +kernel
theorem dX11_bringPlots_75 : decode cX11_bringPlots 75 = .ok (.getfield 37, 3) := by decide +kernel
theorem dX11_bringPlots_78 : decode cX11_bringPlots 78 = .ok (.iload_n 1, 1) := by decide +kernel
theorem dX11_bringPlots_79 : decode cX11_bringPlots 79 = .ok (.aload_n 3, 1) := by decide +kernel
theorem dX11_bringPlots_80 : decode cX11_bringPlots 80 = .ok (.invokevirtual 461, 3) := by decide +kernel
theorem dX11_bringPlots_83 : decode cX11_bringPlots 83 = .ok (.pop, 1) := by decide +kernel
theorem dX11_bringPlots_84 : decode cX11_bringPlots 84 = .ok (.iinc 1 1, 3) := by decide +kernel
theorem dX11_bringPlots_87 : decode cX11_bringPlots 87 = .ok (.iinc 2 1, 3) := by decide +kernel
theorem dX11_bringPlots_90 : decode cX11_bringPlots 90 = .ok (.goto (-86), 3) := by decide +kernel
theorem dX11_bringPlots_93 : decode cX11_bringPlots 93 = .ok (.aload_n 0, 1) := by decide +kernel
theorem dX11_bringPlots_94 : decode cX11_bringPlots 94 = .ok (.iload_n 1, 1) := by decide +kernel
theorem dX11_bringPlots_95 : decode cX11_bringPlots 95 = .ok (.putfield 438, 3) := by decide +kernel
theorem dX11_bringPlots_98 : decode cX11_bringPlots 98 = .ok (.return_, 1) := by decide +kernel
theorem dX11_bringPlot_0 : decode cX11_bringPlot 0 = .ok (.aload_n 1, 1) := by decide +kernel
theorem dX11_bringPlot_1 : decode cX11_bringPlot 1 = .ok (.getfield 465, 3) := by decide +kernel
theorem dX11_bringPlot_4 : decode cX11_bringPlot 4 = .ok (.getfield 103, 3) := by decide +kernel
theorem dX11_bringPlot_7 : decode cX11_bringPlot 7 = .ok (.ifCond .eq 17, 3) := by decide +kernel
theorem dX11_bringPlot_10 : decode cX11_bringPlot 10 = .ok (.aload_n 1, 1) := by decide +kernel
theorem dX11_bringPlot_11 : decode cX11_bringPlot 11 = .ok (.getfield 465, 3) := by decide +kernel
theorem dX11_bringPlot_14 : decode cX11_bringPlot 14 = .ok (.dup, 1) := by decide +kernel
theorem dX11_bringPlot_15 : decode cX11_bringPlot 15 = .ok (.getfield 469, 3) := by decide +kernel
theorem dX11_bringPlot_18 : decode cX11_bringPlot 18 = .ok (.iconst 1, 1) := by decide +kernel
theorem dX11_bringPlot_19 : decode cX11_bringPlot 19 = .ok (.iadd, 1) := by decide +kernel
theorem dX11_bringPlot_20 : decode cX11_bringPlot 20 = .ok (.putfield 469, 3) := by decide +kernel
theorem dX11_bringPlot_23 : decode cX11_bringPlot 23 = .ok (.return_, 1) := by decide +kernel
theorem dX11_bringPlot_24 : decode cX11_bringPlot 24 = .ok (.aload_n 1, 1) := by decide +kernel
theorem dX11_bringPlot_25 : decode cX11_bringPlot 25 = .ok (.getfield 465, 3) := by decide +kernel
theorem dX11_bringPlot_28 : decode cX11_bringPlot 28 = .ok (.dup, 1) := by decide +kernel
theorem dX11_bringPlot_29 : decode cX11_bringPlot 29 = .ok (.getfield 472, 3) := by decide +kernel
theorem dX11_bringPlot_32 : decode cX11_bringPlot 32 = .ok (.iconst 1, 1) := by decide +kernel
theorem dX11_bringPlot_33 : decode cX11_bringPlot 33 = .ok (.iadd, 1) := by decide +kernel
theorem dX11_bringPlot_34 : decode cX11_bringPlot 34 = .ok (.putfield 472, 3) := by decide +kernel
theorem dX11_bringPlot_37 : decode cX11_bringPlot 37 = .ok (.aload_n 0, 1) := by decide +kernel
theorem dX11_bringPlot_38 : decode cX11_bringPlot 38 = .ok (.aload_n 1, 1) := by decide +kernel
theorem dX11_bringPlot_39 : decode cX11_bringPlot 39 = .ok (.invokevirtual 475, 3) := by decide +kernel
theorem dX11_bringPlot_42 : decode cX11_bringPlot 42 = .ok (.astore_n 2, 1) := by decide +kernel
theorem dX11_bringPlot_43 : decode cX11_bringPlot 43 = .ok (.aload_n 2, 1) := by decide +kernel
theorem dX11_bringPlot_44 : decode cX11_bringPlot 44 = .ok (.ifnull 11, 3) := by decide +kernel
theorem dX11_bringPlot_47 : decode cX11_bringPlot 47 = .ok (.aload_n 2, 1) := by decide +kernel
theorem dX11_bringPlot_48 : decode cX11_bringPlot 48 = .ok (.aload_n 1, 1) := by decide +kernel
theorem dX11_bringPlot_49 : decode cX11_bringPlot 49 = .ok (.invokevirtual 479, 3) := by decide +kernel
theorem dX11_bringPlot_52 : decode cX11_bringPlot 52 = .ok (.goto 54, 3) := by decide +kernel
theorem dX11_bringPlot_55 : decode cX11_bringPlot 55 = .ok (.aload_n 0, 1) := by decide +kernel
theorem dX11_bringPlot_56 : decode cX11_bringPlot 56 = .ok (.getfield 34, 3) := by decide +kernel
theorem dX11_bringPlot_59 : decode cX11_bringPlot 59 = .ok (.invokevirtual 73, 3) := by decide +kernel
theorem dX11_bringPlot_62 : decode cX11_bringPlot 62 = .ok (.bipush 16, 2) := by decide +kernel
theorem dX11_bringPlot_64 : decode cX11_bringPlot 64 = .ok (.if_icmp .ge 29, 3) := by decide +kernel
theorem dX11_bringPlot_67 : decode cX11_bringPlot 67 = .ok (.aload_n 0, 1) := by decide +kernel
theorem dX11_bringPlot_68 : decode cX11_bringPlot 68 = .ok (.getfield 34, 3) := by decide +kernel
theorem dX11_bringPlot_71 : decode cX11_bringPlot 71 = .ok (.new 191, 3) := by decide +kernel
theorem dX11_bringPlot_74 : decode cX11_bringPlot 74 = .ok (.dup, 1) := by decide +kernel
theorem dX11_bringPlot_75 : decode cX11_bringPlot 75 = .ok (.aload_n 0, 1) := by decide +kernel
theorem dX11_bringPlot_76 : decode cX11_bringPlot 76 = .ok (.getfield 34, 3) := by decide +kernel
theorem dX11_bringPlot_79 : decode cX11_bringPlot 79 = .ok (.invokevirtual 73, 3) := by decide +kernel
theorem dX11_bringPlot_82 : decode cX11_bringPlot 82 = .ok (.aload_n 1, 1) := by decide +kernel
theorem dX11_bringPlot_83 : decode cX11_bringPlot 83 = .ok (.invokespecial 482, 3) := by decide +kernel
theorem dX11_bringPlot_86 : decode cX11_bringPlot 86 = .ok (.invokevirtual 87, 3) := by decide +kernel
theorem dX11_bringPlot_89 : decode cX11_bringPlot 89 = .ok (.pop, 1) := by decide +kernel
theorem dX11_bringPlot_90 : decode cX11_bringPlot 90 = .ok (.goto 16, 3) := by decide +kernel
theorem dX11_bringPlot_93 : decode cX11_bringPlot 93 = .ok (.aload_n 0, 1) := by decide +kernel
theorem dX11_bringPlot_94 : decode cX11_bringPlot 94 = .ok (.getfield 50, 3) := by decide +kernel
theorem dX11_bringPlot_97 : decode cX11_bringPlot 97 = .ok (.dup, 1) := by decide +kernel
theorem dX11_bringPlot_98 : decode cX11_bringPlot 98 = .ok (.getfield 485, 3) := by decide +kernel
theorem dX11_bringPlot_101 : decode cX11_bringPlot 101 = .ok (.iconst 1, 1) := by decide +kernel
theorem dX11_bringPlot_102 : decode cX11_bringPlot 102 = .ok (.iadd, 1) := by decide +kernel
theorem dX11_bringPlot_103 : decode cX11_bringPlot 103 = .ok (.putfield 485, 3) := by decide +kernel
theorem dX11_bringPlot_106 : decode cX11_bringPlot 106 = .ok (.return_, 1) := by decide +kernel
theorem dX11_trackFor_0 : decode cX11_trackFor 0 = .ok (.aconst_null, 1) := by decide +kernel
theorem dX11_trackFor_1 : decode cX11_trackFor 1 = .ok (.astore_n 2, 1) := by decide +kernel
theorem dX11_trackFor_2 : decode cX11_trackFor 2 = .ok (.iconst 0, 1) := by decide +kernel
theorem dX11_trackFor_3 : decode cX11_trackFor 3 = .ok (.istore_n 3, 1) := by decide +kernel
theorem dX11_trackFor_4 : decode cX11_trackFor 4 = .ok (.iconst 0, 1) := by decide +kernel
theorem dX11_trackFor_5 : decode cX11_trackFor 5 = .ok (.istore 4, 2) := by decide +kernel
theorem dX11_trackFor_7 : decode cX11_trackFor 7 = .ok (.iload 4, 2) := by decide +kernel
theorem dX11_trackFor_9 : decode cX11_trackFor 9 = .ok (.aload_n 0, 1) := by decide +kernel
theorem dX11_trackFor_10 : decode cX11_trackFor 10 = .ok (.getfield 34, 3) := by decide +kernel
theorem dX11_trackFor_13 : decode cX11_trackFor 13 = .ok (.invokevirtual 73, 3) := by decide +kernel
theorem dX11_trackFor_16 : decode cX11_trackFor 16 = .ok (.if_icmp .ge 83, 3) := by decide +kernel
theorem dX11_trackFor_19 : decode cX11_trackFor 19 = .ok (.aload_n 0, 1) := by decide +kernel
theorem dX11_trackFor_20 : decode cX11_trackFor 20 = .ok (.getfield 34, 3) := by decide +kernel
theorem dX11_trackFor_23 : decode cX11_trackFor 23 = .ok (.iload 4, 2) := by decide +kernel
theorem dX11_trackFor_25 : decode cX11_trackFor 25 = .ok (.invokevirtual 99, 3) := by decide +kernel
theorem dX11_trackFor_28 : decode cX11_trackFor 28 = .ok (.checkcast 191, 3) := by decide +kernel
theorem dX11_trackFor_31 : decode cX11_trackFor 31 = .ok (.astore 5, 2) := by decide +kernel
theorem dX11_trackFor_33 : decode cX11_trackFor 33 = .ok (.aload 5, 2) := by decide +kernel
theorem dX11_trackFor_35 : decode cX11_trackFor 35 = .ok (.getfield 197, 3) := by decide +kernel
theorem dX11_trackFor_38 : decode cX11_trackFor 38 = .ok (.ifCond .eq 55, 3) := by decide +kernel
theorem dX11_trackFor_41 : decode cX11_trackFor 41 = .ok (.aload 5, 2) := by decide +kernel
theorem dX11_trackFor_43 : decode cX11_trackFor 43 = .ok (.getfield 297, 3) := by decide +kernel
theorem dX11_trackFor_46 : decode cX11_trackFor 46 = .ok (.aload_n 1, 1) := by decide +kernel
theorem dX11_trackFor_47 : decode cX11_trackFor 47 = .ok (.getfield 488, 3) := by decide +kernel
theorem dX11_trackFor_50 : decode cX11_trackFor 50 = .ok (.if_icmp .gt 43, 3) := by decide +kernel
theorem dX11_trackFor_53 : decode cX11_trackFor 53 = .ok (.aload_n 1, 1) := by decide +kernel
theorem dX11_trackFor_54 : decode cX11_trackFor 54 = .ok (.aload 5, 2) := by decide +kernel
theorem dX11_trackFor_56 : decode cX11_trackFor 56 = .ok (.aload_n 1, 1) := by decide +kernel
theorem dX11_trackFor_57 : decode cX11_trackFor 57 = .ok (.getfield 488, 3) := by decide +kernel
theorem dX11_trackFor_60 : decode cX11_trackFor 60 = .ok (.invokevirtual 303, 3) := by decide +kernel
theorem dX11_trackFor_63 : decode cX11_trackFor 63 = .ok (.aload 5, 2) := by decide +kernel
theorem dX11_trackFor_65 : decode cX11_trackFor 65 = .ok (.aload_n 1, 1) := by decide +kernel
theorem dX11_trackFor_66 : decode cX11_trackFor 66 = .ok (.getfield 488, 3) := by decide +kernel
theorem dX11_trackFor_69 : decode cX11_trackFor 69 = .ok (.invokevirtual 300, 3) := by decide +kernel
theorem dX11_trackFor_72 : decode cX11_trackFor 72 = .ok (.invokevirtual 491, 3) := by decide +kernel
theorem dX11_trackFor_75 : decode cX11_trackFor 75 = .ok (.istore 6, 2) := by decide +kernel
theorem dX11_trackFor_77 : decode cX11_trackFor 77 = .ok (.aload_n 2, 1) := by decide +kernel
theorem dX11_trackFor_78 : decode cX11_trackFor 78 = .ok (.ifnull 9, 3) := by decide +kernel
theorem dX11_trackFor_81 : decode cX11_trackFor 81 = .ok (.iload 6, 2) := by decide +kernel
theorem dX11_trackFor_83 : decode cX11_trackFor 83 = .ok (.iload_n 3, 1) := by decide +kernel
theorem dX11_trackFor_84 : decode cX11_trackFor 84 = .ok (.if_icmp .ge 9, 3) := by decide +kernel
theorem dX11_trackFor_87 : decode cX11_trackFor 87 = .ok (.aload 5, 2) := by decide +kernel
theorem dX11_trackFor_89 : decode cX11_trackFor 89 = .ok (.astore_n 2, 1) := by decide +kernel
theorem dX11_trackFor_90 : decode cX11_trackFor 90 = .ok (.iload 6, 2) := by decide +kernel
theorem dX11_trackFor_92 : decode cX11_trackFor 92 = .ok (.istore_n 3, 1) := by decide +kernel
theorem dX11_trackFor_93 : decode cX11_trackFor 93 = .ok (.iinc 4 1, 3) := by decide +kernel
theorem dX11_trackFor_96 : decode cX11_trackFor 96 = .ok (.goto (-89), 3) := by decide +kernel
theorem dX11_trackFor_99 : decode cX11_trackFor 99 = .ok (.iload_n 3, 1) := by decide +kernel
theorem dX11_trackFor_100 : decode cX11_trackFor 100 = .ok (.aload_n 0, 1) := by decide +kernel
theorem dX11_trackFor_101 : decode cX11_trackFor 101 = .ok (.getfield 54, 3) := by decide +kernel
theorem dX11_trackFor_104 : decode cX11_trackFor 104 = .ok (.aload_n 0, 1) := by decide +kernel
theorem dX11_trackFor_105 : decode cX11_trackFor 105 = .ok (.getfield 54, 3) := by decide +kernel
theorem dX11_trackFor_108 : decode cX11_trackFor 108 = .ok (.imul, 1) := by decide +kernel
theorem dX11_trackFor_109 : decode cX11_trackFor 109 = .ok (.if_icmp .gt 7, 3) := by decide +kernel
theorem dX11_trackFor_112 : decode cX11_trackFor 112 = .ok (.aload_n 2, 1) := by decide +kernel
theorem dX11_trackFor_113 : decode cX11_trackFor 113 = .ok (.goto 4, 3) := by decide +kernel
theorem dX11_trackFor_116 : decode cX11_trackFor 116 = .ok (.aconst_null, 1) := by decide +kernel
theorem dX11_trackFor_117 : decode cX11_trackFor 117 = .ok (.areturn, 1) := by decide +kernel
theorem dX11_takeTurn_0 : decode cX11_takeTurn 0 = .ok (.aload_n 1, 1) := by decide +kernel
theorem dX11_takeTurn_1 : decode cX11_takeTurn 1 = .ok (.getfield 234, 3) := by decide +kernel
theorem dX11_takeTurn_4 : decode cX11_takeTurn 4 = .ok (.tableswitch 78 1 4 #[32, 50, 50, 58], 32) := by decide +kernel
theorem dX11_takeTurn_36 : decode cX11_takeTurn 36 = .ok (.aload_n 1, 1) := by decide +kernel
theorem dX11_takeTurn_37 : decode cX11_takeTurn 37 = .ok (.getfield 215, 3) := by decide +kernel
theorem dX11_takeTurn_40 : decode cX11_takeTurn 40 = .ok (.aload_n 0, 1) := by decide +kernel
theorem dX11_takeTurn_41 : decode cX11_takeTurn 41 = .ok (.getfield 205, 3) := by decide +kernel
theorem dX11_takeTurn_44 : decode cX11_takeTurn 44 = .ok (.if_icmp .gt 38, 3) := by decide +kernel
theorem dX11_takeTurn_47 : decode cX11_takeTurn 47 = .ok (.aload_n 1, 1) := by decide +kernel
theorem dX11_takeTurn_48 : decode cX11_takeTurn 48 = .ok (.invokevirtual 494, 3) := by decide +kernel
theorem dX11_takeTurn_51 : decode cX11_takeTurn 51 = .ok (.goto 31, 3) := by decide +kernel
theorem dX11_takeTurn_54 : decode cX11_takeTurn 54 = .ok (.aload_n 0, 1) := by decide +kernel
theorem dX11_takeTurn_55 : decode cX11_takeTurn 55 = .ok (.aload_n 1, 1) := by decide +kernel
theorem dX11_takeTurn_56 : decode cX11_takeTurn 56 = .ok (.invokevirtual 497, 3) := by decide +kernel
theorem dX11_takeTurn_59 : decode cX11_takeTurn 59 = .ok (.goto 23, 3) := by decide +kernel
theorem dX11_takeTurn_62 : decode cX11_takeTurn 62 = .ok (.aload_n 1, 1) := by decide +kernel
theorem dX11_takeTurn_63 : decode cX11_takeTurn 63 = .ok (.getfield 215, 3) := by decide +kernel
theorem dX11_takeTurn_66 : decode cX11_takeTurn 66 = .ok (.aload_n 0, 1) := by decide +kernel
theorem dX11_takeTurn_67 : decode cX11_takeTurn 67 = .ok (.getfield 205, 3) := by decide +kernel
theorem dX11_takeTurn_70 : decode cX11_takeTurn 70 = .ok (.if_icmp .gt 12, 3) := by decide +kernel
theorem dX11_takeTurn_73 : decode cX11_takeTurn 73 = .ok (.aload_n 1, 1) := by decide +kernel
theorem dX11_takeTurn_74 : decode cX11_takeTurn 74 = .ok (.iconst 0, 1) := by decide +kernel
theorem dX11_takeTurn_75 : decode cX11_takeTurn 75 = .ok (.iconst (-1), 1) := by decide +kernel
theorem dX11_takeTurn_76 : decode cX11_takeTurn 76 = .ok (.invokevirtual 237, 3) := by decide +kernel
theorem dX11_takeTurn_79 : decode cX11_takeTurn 79 = .ok (.goto 3, 3) := by decide +kernel
theorem dX11_takeTurn_82 : decode cX11_takeTurn 82 = .ok (.return_, 1) := by decide +kernel
theorem dX11_fly_0 : decode cX11_fly 0 = .ok (.aload_n 1, 1) := by decide +kernel
theorem dX11_fly_1 : decode cX11_fly 1 = .ok (.getfield 226, 3) := by decide +kernel
theorem dX11_fly_4 : decode cX11_fly 4 = .ok (.astore_n 2, 1) := by decide +kernel
theorem dX11_fly_5 : decode cX11_fly 5 = .ok (.aload_n 2, 1) := by decide +kernel
theorem dX11_fly_6 : decode cX11_fly 6 = .ok (.ifnull 44, 3) := by decide +kernel
theorem dX11_fly_9 : decode cX11_fly 9 = .ok (.aload_n 2, 1) := by decide +kernel
theorem dX11_fly_10 : decode cX11_fly 10 = .ok (.getfield 197, 3) := by decide +kernel
theorem dX11_fly_13 : decode cX11_fly 13 = .ok (.ifCond .eq 37, 3) := by decide +kernel
theorem dX11_fly_16 : decode cX11_fly 16 = .ok (.aload_n 1, 1) := by decide +kernel
theorem dX11_fly_17 : decode cX11_fly 17 = .ok (.getfield 500, 3) := by decide +kernel
theorem dX11_fly_20 : decode cX11_fly 20 = .ok (.aload_n 1, 1) := by decide +kernel
theorem dX11_fly_21 : decode cX11_fly 21 = .ok (.invokevirtual 503, 3) := by decide +kernel
theorem dX11_fly_24 : decode cX11_fly 24 = .ok (.if_icmp .le 26, 3) := by decide +kernel
theorem dX11_fly_27 : decode cX11_fly 27 = .ok (.aload_n 1, 1) := by decide +kernel
theorem dX11_fly_28 : decode cX11_fly 28 = .ok (.aload_n 2, 1) := by decide +kernel
theorem dX11_fly_29 : decode cX11_fly 29 = .ok (.aload_n 0, 1) := by decide +kernel
theorem dX11_fly_30 : decode cX11_fly 30 = .ok (.getfield 205, 3) := by decide +kernel
theorem dX11_fly_33 : decode cX11_fly 33 = .ok (.invokevirtual 303, 3) := by decide +kernel
theorem dX11_fly_36 : decode cX11_fly 36 = .ok (.aload_n 2, 1) := by decide +kernel
theorem dX11_fly_37 : decode cX11_fly 37 = .ok (.aload_n 0, 1) := by decide +kernel
theorem dX11_fly_38 : decode cX11_fly 38 = .ok (.getfield 205, 3) := by decide +kernel
theorem dX11_fly_41 : decode cX11_fly 41 = .ok (.invokevirtual 300, 3) := by decide +kernel
theorem dX11_fly_44 : decode cX11_fly 44 = .ok (.invokevirtual 506, 3) := by decide +kernel
theorem dX11_fly_47 : decode cX11_fly 47 = .ok (.goto 25, 3) := by decide +kernel
theorem dX11_fly_50 : decode cX11_fly 50 = .ok (.aload_n 1, 1) := by decide +kernel
theorem dX11_fly_51 : decode cX11_fly 51 = .ok (.invokevirtual 240, 3) := by decide +kernel
theorem dX11_fly_54 : decode cX11_fly 54 = .ok (.aload_n 1, 1) := by decide +kernel
theorem dX11_fly_55 : decode cX11_fly 55 = .ok (.aload_n 1, 1) := by decide +kernel
theorem dX11_fly_56 : decode cX11_fly 56 = .ok (.getfield 509, 3) := by decide +kernel
theorem dX11_fly_59 : decode cX11_fly 59 = .ok (.getfield 513, 3) := by decide +kernel
theorem dX11_fly_62 : decode cX11_fly 62 = .ok (.aload_n 1, 1) := by decide +kernel
theorem dX11_fly_63 : decode cX11_fly 63 = .ok (.getfield 509, 3) := by decide +kernel
theorem dX11_fly_66 : decode cX11_fly 66 = .ok (.getfield 514, 3) := by decide +kernel
theorem dX11_fly_69 : decode cX11_fly 69 = .ok (.invokevirtual 506, 3) := by decide +kernel
theorem dX11_fly_72 : decode cX11_fly 72 = .ok (.aload_n 1, 1) := by decide +kernel
theorem dX11_fly_73 : decode cX11_fly 73 = .ok (.dup, 1) := by decide +kernel
theorem dX11_fly_74 : decode cX11_fly 74 = .ok (.getfield 500, 3) := by decide +kernel
theorem dX11_fly_77 : decode cX11_fly 77 = .ok (.iconst 1, 1) := by decide +kernel
theorem dX11_fly_78 : decode cX11_fly 78 = .ok (.isub, 1) := by decide +kernel
theorem dX11_fly_79 : decode cX11_fly 79 = .ok (.putfield 500, 3) := by decide +kernel
theorem dX11_fly_82 : decode cX11_fly 82 = .ok (.aload_n 1, 1) := by decide +kernel
theorem dX11_fly_83 : decode cX11_fly 83 = .ok (.getfield 234, 3) := by decide +kernel
theorem dX11_fly_86 : decode cX11_fly 86 = .ok (.iconst 3, 1) := by decide +kernel
theorem dX11_fly_87 : decode cX11_fly 87 = .ok (.if_icmp .ne 25, 3) := by decide +kernel
theorem dX11_fly_90 : decode cX11_fly 90 = .ok (.aload_n 1, 1) := by decide +kernel
theorem dX11_fly_91 : decode cX11_fly 91 = .ok (.invokevirtual 515, 3) := by decide +kernel
theorem dX11_fly_94 : decode cX11_fly 94 = .ok (.ifCond .eq 18, 3) := by decide +kernel
theorem dX11_fly_97 : decode cX11_fly 97 = .ok (.aload_n 1, 1) := by decide +kernel
theorem dX11_fly_98 : decode cX11_fly 98 = .ok (.iconst 4, 1) := by decide +kernel
theorem dX11_fly_99 : decode cX11_fly 99 = .ok (.aload_n 0, 1) := by decide +kernel
theorem dX11_fly_100 : decode cX11_fly 100 = .ok (.getfield 205, 3) := by decide +kernel
theorem dX11_fly_103 : decode cX11_fly 103 = .ok (.bipush 12, 2) := by decide +kernel
theorem dX11_fly_105 : decode cX11_fly 105 = .ok (.iadd, 1) := by decide +kernel
theorem dX11_fly_106 : decode cX11_fly 106 = .ok (.invokevirtual 237, 3) := by decide +kernel
theorem dX11_fly_109 : decode cX11_fly 109 = .ok (.goto 19, 3) := by decide +kernel
theorem dX11_fly_112 : decode cX11_fly 112 = .ok (.aload_n 1, 1) := by decide +kernel
theorem dX11_fly_113 : decode cX11_fly 113 = .ok (.getfield 500, 3) := by decide +kernel
theorem dX11_fly_116 : decode cX11_fly 116 = .ok (.ifCond .gt 12, 3) := by decide +kernel
theorem dX11_fly_119 : decode cX11_fly 119 = .ok (.aload_n 0, 1) := by decide +kernel
theorem dX11_fly_120 : decode cX11_fly 120 = .ok (.aload_n 1, 1) := by decide +kernel
theorem dX11_fly_121 : decode cX11_fly 121 = .ok (.aload_n 1, 1) := by decide +kernel
theorem dX11_fly_122 : decode cX11_fly 122 = .ok (.getfield 247, 3) := by decide +kernel
theorem dX11_fly_125 : decode cX11_fly 125 = .ok (.invokevirtual 518, 3) := by decide +kernel
theorem dX11_fly_128 : decode cX11_fly 128 = .ok (.return_, 1) := by decide +kernel
theorem dX11_loseMachines_0 : decode cX11_loseMachines 0 = .ok (.aload_n 1, 1) := by decide +kernel
theorem dX11_loseMachines_1 : decode cX11_loseMachines 1 = .ok (.dup, 1) := by decide +kernel
theorem dX11_loseMachines_2 : decode cX11_loseMachines 2 = .ok (.getfield 247, 3) := by decide +kernel
theorem dX11_loseMachines_5 : decode cX11_loseMachines 5 = .ok (.iload_n 2, 1) := by decide +kernel
theorem dX11_loseMachines_6 : decode cX11_loseMachines 6 = .ok (.isub, 1) := by decide +kernel
theorem dX11_loseMachines_7 : decode cX11_loseMachines 7 = .ok (.putfield 247, 3) := by decide +kernel
theorem dX11_loseMachines_10 : decode cX11_loseMachines 10 = .ok (.aload_n 0, 1) := by decide +kernel
theorem dX11_loseMachines_11 : decode cX11_loseMachines 11 = .ok (.getfield 50, 3) := by decide +kernel
theorem dX11_loseMachines_14 : decode cX11_loseMachines 14 = .ok (.dup, 1) := by decide +kernel
theorem dX11_loseMachines_15 : decode cX11_loseMachines 15 = .ok (.getfield 522, 3) := by decide +kernel
theorem dX11_loseMachines_18 : decode cX11_loseMachines 18 = .ok (.iload_n 2, 1) := by decide +kernel
theorem dX11_loseMachines_19 : decode cX11_loseMachines 19 = .ok (.iadd, 1) := by decide +kernel
theorem dX11_loseMachines_20 : decode cX11_loseMachines 20 = .ok (.putfield 522, 3) := by decide +kernel
theorem dX11_loseMachines_23 : decode cX11_loseMachines 23 = .ok (.aload_n 1, 1) := by decide +kernel
theorem dX11_loseMachines_24 : decode cX11_loseMachines 24 = .ok (.getfield 247, 3) := by decide +kernel
theorem dX11_loseMachines_27 : decode cX11_loseMachines 27 = .ok (.ifCond .gt 9, 3) := by decide +kernel
theorem dX11_loseMachines_30 : decode cX11_loseMachines 30 = .ok (.aload_n 1, 1) := by decide +kernel
theorem dX11_loseMachines_31 : decode cX11_loseMachines 31 = .ok (.iconst 0, 1) := by decide +kernel
theorem dX11_loseMachines_32 : decode cX11_loseMachines 32 = .ok (.iconst (-1), 1) := by decide +kernel
theorem dX11_loseMachines_33 : decode cX11_loseMachines 33 = .ok (.invokevirtual 237, 3) := by decide +kernel
theorem dX11_loseMachines_36 : decode cX11_loseMachines 36 = .ok (.return_, 1) := by decide +kernel
theorem dX11_fightWith_0 : decode cX11_fightWith 0 = .ok (.aload_n 1, 1) := by decide +kernel
theorem dX11_fightWith_1 : decode cX11_fightWith 1 = .ok (.getfield 234, 3) := by decide +kernel
theorem dX11_fightWith_4 : decode cX11_fightWith 4 = .ok (.iconst 2, 1) := by decide +kernel
theorem dX11_fightWith_5 : decode cX11_fightWith 5 = .ok (.if_icmp .ne 11, 3) := by decide +kernel
theorem dX11_fightWith_8 : decode cX11_fightWith 8 = .ok (.aload_n 0, 1) := by decide +kernel
theorem dX11_fightWith_9 : decode cX11_fightWith 9 = .ok (.aload_n 1, 1) := by decide +kernel
theorem dX11_fightWith_10 : decode cX11_fightWith 10 = .ok (.invokevirtual 525, 3) := by decide +kernel
theorem dX11_fightWith_13 : decode cX11_fightWith 13 = .ok (.goto 4, 3) := by decide +kernel
theorem dX11_fightWith_16 : decode cX11_fightWith 16 = .ok (.aconst_null, 1) := by decide +kernel
theorem dX11_fightWith_17 : decode cX11_fightWith 17 = .ok (.astore_n 2, 1) := by decide +kernel
theorem dX11_fightWith_18 : decode cX11_fightWith 18 = .ok (.aload_n 2, 1) := by decide +kernel
theorem dX11_fightWith_19 : decode cX11_fightWith 19 = .ok (.ifnonnull 4, 3) := by decide +kernel
theorem dX11_fightWith_22 : decode cX11_fightWith 22 = .ok (.return_, 1) := by decide +kernel
theorem dX11_fightWith_23 : decode cX11_fightWith 23 = .ok (.aload_n 1, 1) := by decide +kernel
theorem dX11_fightWith_24 : decode cX11_fightWith 24 = .ok (.aload_n 2, 1) := by decide +kernel
theorem dX11_fightWith_25 : decode cX11_fightWith 25 = .ok (.aload_n 0, 1) := by decide +kernel
theorem dX11_fightWith_26 : decode cX11_fightWith 26 = .ok (.getfield 43, 3) := by decide +kernel
theorem dX11_fightWith_29 : decode cX11_fightWith 29 = .ok (.invokevirtual 529, 3) := by decide +kernel
theorem dX11_fightWith_32 : decode cX11_fightWith 32 = .ok (.invokestatic 353, 3) := by decide +kernel
theorem dX11_fightWith_35 : decode cX11_fightWith 35 = .ok (.istore_n 3, 1) := by decide +kernel
theorem dX11_fightWith_36 : decode cX11_fightWith 36 = .ok (.aload_n 2, 1) := by decide +kernel
theorem dX11_fightWith_37 : decode cX11_fightWith 37 = .ok (.iload_n 3, 1) := by decide +kernel
theorem dX11_fightWith_38 : decode cX11_fightWith 38 = .ok (.invokevirtual 532, 3) := by decide +kernel
theorem dX11_fightWith_41 : decode cX11_fightWith 41 = .ok (.aload_n 1, 1) := by decide +kernel
theorem dX11_fightWith_42 : decode cX11_fightWith 42 = .ok (.dup, 1) := by decide +kernel
theorem dX11_fightWith_43 : decode cX11_fightWith 43 = .ok (.getfield 536, 3) := by decide +kernel
theorem dX11_fightWith_46 : decode cX11_fightWith 46 = .ok (.iload_n 3, 1) := by decide +kernel
theorem dX11_fightWith_47 : decode cX11_fightWith 47 = .ok (.iadd, 1) := by decide +kernel
theorem dX11_fightWith_48 : decode cX11_fightWith 48 = .ok (.putfield 536, 3) := by decide +kernel
theorem dX11_fightWith_51 : decode cX11_fightWith 51 = .ok (.aload_n 0, 1) := by decide +kernel
theorem dX11_fightWith_52 : decode cX11_fightWith 52 = .ok (.getfield 50, 3) := by decide +kernel
theorem dX11_fightWith_55 : decode cX11_fightWith 55 = .ok (.dup, 1) := by decide +kernel
theorem dX11_fightWith_56 : decode cX11_fightWith 56 = .ok (.getfield 539, 3) := by decide +kernel
theorem dX11_fightWith_59 : decode cX11_fightWith 59 = .ok (.iconst 1, 1) := by decide +kernel
theorem dX11_fightWith_60 : decode cX11_fightWith 60 = .ok (.iadd, 1) := by decide +kernel
theorem dX11_fightWith_61 : decode cX11_fightWith 61 = .ok (.putfield 539, 3) := by decide +kernel
theorem dX11_fightWith_64 : decode cX11_fightWith 64 = .ok (.aload_n 0, 1) := by decide +kernel
theorem dX11_fightWith_65 : decode cX11_fightWith 65 = .ok (.getfield 50, 3) := by decide +kernel
theorem dX11_fightWith_68 : decode cX11_fightWith 68 = .ok (.dup, 1) := by decide +kernel
theorem dX11_fightWith_69 : decode cX11_fightWith 69 = .ok (.getfield 367, 3) := by decide +kernel
theorem dX11_fightWith_72 : decode cX11_fightWith 72 = .ok (.iload_n 3, 1) := by decide +kernel
theorem dX11_fightWith_73 : decode cX11_fightWith 73 = .ok (.iload_n 3, 1) := by decide +kernel
theorem dX11_fightWith_74 : decode cX11_fightWith 74 = .ok (.iconst 2, 1) := by decide +kernel
theorem dX11_fightWith_75 : decode cX11_fightWith 75 = .ok (.idiv, 1) := by decide +kernel
theorem dX11_fightWith_76 : decode cX11_fightWith 76 = .ok (.iadd, 1) := by decide +kernel
theorem dX11_fightWith_77 : decode cX11_fightWith 77 = .ok (.iadd, 1) := by decide +kernel
theorem dX11_fightWith_78 : decode cX11_fightWith 78 = .ok (.putfield 367, 3) := by decide +kernel
theorem dX11_fightWith_81 : decode cX11_fightWith 81 = .ok (.aload_n 2, 1) := by decide +kernel
theorem dX11_fightWith_82 : decode cX11_fightWith 82 = .ok (.getfield 542, 3) := by decide +kernel
theorem dX11_fightWith_85 : decode cX11_fightWith 85 = .ok (.ifCond .le 37, 3) := by decide +kernel
theorem dX11_fightWith_88 : decode cX11_fightWith 88 = .ok (.aload_n 2, 1) := by decide +kernel
theorem dX11_fightWith_89 : decode cX11_fightWith 89 = .ok (.getfield 542, 3) := by decide +kernel
theorem dX11_fightWith_92 : decode cX11_fightWith 92 = .ok (.aload_n 0, 1) := by decide +kernel
theorem dX11_fightWith_93 : decode cX11_fightWith 93 = .ok (.getfield 43, 3) := by decide +kernel
theorem dX11_fightWith_96 : decode cX11_fightWith 96 = .ok (.invokevirtual 529, 3) := by decide +kernel
theorem dX11_fightWith_99 : decode cX11_fightWith 99 = .ok (.bipush 6, 2) := by decide +kernel
theorem dX11_fightWith_101 : decode cX11_fightWith 101 = .ok (.irem, 1) := by decide +kernel
theorem dX11_fightWith_102 : decode cX11_fightWith 102 = .ok (.imul, 1) := by decide +kernel
theorem dX11_fightWith_103 : decode cX11_fightWith 103 = .ok (.bipush 40, 2) := by decide +kernel
theorem dX11_fightWith_105 : decode cX11_fightWith 105 = .ok (.idiv, 1) := by decide +kernel
theorem dX11_fightWith_106 : decode cX11_fightWith 106 = .ok (.istore 4, 2) := by decide +kernel
theorem dX11_fightWith_108 : decode cX11_fightWith 108 = .ok (.aload_n 0, 1) := by decide +kernel
theorem dX11_fightWith_109 : decode cX11_fightWith 109 = .ok (.aload_n 1, 1) := by decide +kernel
theorem dX11_fightWith_110 : decode cX11_fightWith 110 = .ok (.aload_n 1, 1) := by decide +kernel
theorem dX11_fightWith_111 : decode cX11_fightWith 111 = .ok (.getfield 247, 3) := by decide +kernel
theorem dX11_fightWith_114 : decode cX11_fightWith 114 = .ok (.iload 4, 2) := by decide +kernel
theorem dX11_fightWith_116 : decode cX11_fightWith 116 = .ok (.invokestatic 250, 3) := by decide +kernel
theorem dX11_fightWith_119 : decode cX11_fightWith 119 = .ok (.invokevirtual 518, 3) := by decide +kernel
theorem dX11_fightWith_122 : decode cX11_fightWith 122 = .ok (.return_, 1) := by decide +kernel
theorem dX11_foeNear_0 : decode cX11_foeNear 0 = .ok (.aconst_null, 1) := by decide +kernel
theorem dX11_foeNear_1 : decode cX11_foeNear 1 = .ok (.astore_n 2, 1) := by decide +kernel
theorem dX11_foeNear_2 : decode cX11_foeNear 2 = .ok (.iconst 0, 1) := by decide +kernel
theorem dX11_foeNear_3 : decode cX11_foeNear 3 = .ok (.istore_n 3, 1) := by decide +kernel
theorem dX11_foeNear_4 : decode cX11_foeNear 4 = .ok (.iconst 0, 1) := by decide +kernel
theorem dX11_foeNear_5 : decode cX11_foeNear 5 = .ok (.istore 4, 2) := by decide +kernel
theorem dX11_foeNear_7 : decode cX11_foeNear 7 = .ok (.iload 4, 2) := by decide +kernel
theorem dX11_foeNear_9 : decode cX11_foeNear 9 = .ok (.aload_n 0, 1) := by decide +kernel
theorem dX11_foeNear_10 : decode cX11_foeNear 10 = .ok (.getfield 28, 3) := by decide +kernel
theorem dX11_foeNear_13 : decode cX11_foeNear 13 = .ok (.invokevirtual 73, 3) := by decide +kernel
theorem dX11_foeNear_16 : decode cX11_foeNear 16 = .ok (.if_icmp .ge 70, 3) := by decide +kernel
theorem dX11_foeNear_19 : decode cX11_foeNear 19 = .ok (.aload_n 0, 1) := by decide +kernel
theorem dX11_foeNear_20 : decode cX11_foeNear 20 = .ok (.getfield 28, 3) := by decide +kernel
theorem dX11_foeNear_23 : decode cX11_foeNear 23 = .ok (.iload 4, 2) := by decide +kernel
theorem dX11_foeNear_25 : decode cX11_foeNear 25 = .ok (.invokevirtual 99, 3) := by decide +kernel
theorem dX11_foeNear_28 : decode cX11_foeNear 28 = .ok (.checkcast 157, 3) := by decide +kernel
theorem dX11_foeNear_31 : decode cX11_foeNear 31 = .ok (.astore 5, 2) := by decide +kernel
theorem dX11_foeNear_33 : decode cX11_foeNear 33 = .ok (.aload 5, 2) := by decide +kernel
theorem dX11_foeNear_35 : decode cX11_foeNear 35 = .ok (.getfield 166, 3) := by decide +kernel
theorem dX11_foeNear_38 : decode cX11_foeNear 38 = .ok (.ifCond .eq 42, 3) := by decide +kernel
theorem dX11_foeNear_41 : decode cX11_foeNear 41 = .ok (.aload 5, 2) := by decide +kernel
theorem dX11_foeNear_43 : decode cX11_foeNear 43 = .ok (.getfield 545, 3) := by decide +kernel
theorem dX11_foeNear_46 : decode cX11_foeNear 46 = .ok (.ifCond .eq 34, 3) := by decide +kernel
theorem dX11_foeNear_49 : decode cX11_foeNear 49 = .ok (.aload 5, 2) := by decide +kernel
theorem dX11_foeNear_51 : decode cX11_foeNear 51 = .ok (.aload_n 1, 1) := by decide +kernel
theorem dX11_foeNear_52 : decode cX11_foeNear 52 = .ok (.getfield 548, 3) := by decide +kernel
theorem dX11_foeNear_55 : decode cX11_foeNear 55 = .ok (.aload_n 1, 1) := by decide +kernel
theorem dX11_foeNear_56 : decode cX11_foeNear 56 = .ok (.getfield 549, 3) := by decide +kernel
theorem dX11_foeNear_59 : decode cX11_foeNear 59 = .ok (.invokevirtual 550, 3) := by decide +kernel
theorem dX11_foeNear_62 : decode cX11_foeNear 62 = .ok (.istore 6, 2) := by decide +kernel
theorem dX11_foeNear_64 : decode cX11_foeNear 64 = .ok (.aload_n 2, 1) := by decide +kernel
theorem dX11_foeNear_65 : decode cX11_foeNear 65 = .ok (.ifnull 9, 3) := by decide +kernel
theorem dX11_foeNear_68 : decode cX11_foeNear 68 = .ok (.iload 6, 2) := by decide +kernel
theorem dX11_foeNear_70 : decode cX11_foeNear 70 = .ok (.iload_n 3, 1) := by decide +kernel
theorem dX11_foeNear_71 : decode cX11_foeNear 71 = .ok (.if_icmp .ge 9, 3) := by decide +kernel
theorem dX11_foeNear_74 : decode cX11_foeNear 74 = .ok (.aload 5, 2) := by decide +kernel
theorem dX11_foeNear_76 : decode cX11_foeNear 76 = .ok (.astore_n 2, 1) := by decide +kernel
theorem dX11_foeNear_77 : decode cX11_foeNear 77 = .ok (.iload 6, 2) := by decide +kernel
theorem dX11_foeNear_79 : decode cX11_foeNear 79 = .ok (.istore_n 3, 1) := by decide +kernel
theorem dX11_foeNear_80 : decode cX11_foeNear 80 = .ok (.iinc 4 1, 3) := by decide +kernel
theorem dX11_foeNear_83 : decode cX11_foeNear 83 = .ok (.goto (-76), 3) := by decide +kernel
theorem dX11_foeNear_86 : decode cX11_foeNear 86 = .ok (.iload_n 3, 1) := by decide +kernel
theorem dX11_foeNear_87 : decode cX11_foeNear 87 = .ok (.bipush 36, 2) := by decide +kernel
theorem dX11_foeNear_89 : decode cX11_foeNear 89 = .ok (.if_icmp .gt 7, 3) := by decide +kernel
theorem dX11_foeNear_92 : decode cX11_foeNear 92 = .ok (.aload_n 2, 1) := by decide +kernel
theorem dX11_foeNear_93 : decode cX11_foeNear 93 = .ok (.goto 4, 3) := by decide +kernel
theorem dX11_foeNear_96 : decode cX11_foeNear 96 = .ok (.aconst_null, 1) := by decide +kernel
theorem dX11_foeNear_97 : decode cX11_foeNear 97 = .ok (.areturn, 1) := by decide +kernel
theorem dX11_winOf_0 : decode cX11_winOf 0 = .ok (.aload_n 1, 1) := by decide +kernel
theorem dX11_winOf_1 : decode cX11_winOf 1 = .ok (.getfield 542, 3) := by decide +kernel
theorem dX11_winOf_4 : decode cX11_winOf 4 = .ok (.aload_n 0, 1) := by decide +kernel
theorem dX11_winOf_5 : decode cX11_winOf 5 = .ok (.getfield 247, 3) := by decide +kernel
theorem dX11_winOf_8 : decode cX11_winOf 8 = .ok (.iconst 2, 1) := by decide +kernel
theorem dX11_winOf_9 : decode cX11_winOf 9 = .ok (.iload_n 2, 1) := by decide +kernel
theorem dX11_winOf_10 : decode cX11_winOf 10 = .ok (.bipush 6, 2) := by decide +kernel
theorem dX11_winOf_12 : decode cX11_winOf 12 = .ok (.irem, 1) := by decide +kernel
theorem dX11_winOf_13 : decode cX11_winOf 13 = .ok (.iadd, 1) := by decide +kernel
theorem dX11_winOf_14 : decode cX11_winOf 14 = .ok (.imul, 1) := by decide +kernel
theorem dX11_winOf_15 : decode cX11_winOf 15 = .ok (.bipush 8, 2) := by decide +kernel
theorem dX11_winOf_17 : decode cX11_winOf 17 = .ok (.idiv, 1) := by decide +kernel
theorem dX11_winOf_18 : decode cX11_winOf 18 = .ok (.invokestatic 250, 3) := by decide +kernel
theorem dX11_winOf_21 : decode cX11_winOf 21 = .ok (.ireturn, 1) := by decide +kernel
theorem dX11_fireGun_0 : decode cX11_fireGun 0 = .ok (.aload_n 1, 1) := by decide +kernel
theorem dX11_fireGun_1 : decode cX11_fireGun 1 = .ok (.getfield 138, 3) := by decide +kernel
theorem dX11_fireGun_4 : decode cX11_fireGun 4 = .ok (.ifCond .ne 22, 3) := by decide +kernel
theorem dX11_fireGun_7 : decode cX11_fireGun 7 = .ok (.aload_n 0, 1) := by decide +kernel
theorem dX11_fireGun_8 : decode cX11_fireGun 8 = .ok (.aload_n 1, 1) := by decide +kernel
theorem dX11_fireGun_9 : decode cX11_fireGun 9 = .ok (.getfield 551, 3) := by decide +kernel
theorem dX11_fireGun_12 : decode cX11_fireGun 12 = .ok (.aload_n 1, 1) := by decide +kernel
theorem dX11_fireGun_13 : decode cX11_fireGun 13 = .ok (.getfield 554, 3) := by decide +kernel
theorem dX11_fireGun_16 : decode cX11_fireGun 16 = .ok (.aload_n 1, 1) := by decide +kernel
theorem dX11_fireGun_17 : decode cX11_fireGun 17 = .ok (.getfield 555, 3) := by decide +kernel
theorem dX11_fireGun_20 : decode cX11_fireGun 20 = .ok (.invokevirtual 556, 3) := by decide +kernel
theorem dX11_fireGun_23 : decode cX11_fireGun 23 = .ok (.ifCond .eq 4, 3) := by decide +kernel
theorem dX11_fireGun_26 : decode cX11_fireGun 26 = .ok (.return_, 1) := by decide +kernel
theorem dX11_fireGun_27 : decode cX11_fireGun 27 = .ok (.iconst 0, 1) := by decide +kernel
theorem dX11_fireGun_28 : decode cX11_fireGun 28 = .ok (.istore_n 2, 1) := by decide +kernel
theorem dX11_fireGun_29 : decode cX11_fireGun 29 = .ok (.iload_n 2, 1) := by decide +kernel
theorem dX11_fireGun_30 : decode cX11_fireGun 30 = .ok (.aload_n 0, 1) := by decide +kernel
theorem dX11_fireGun_31 : decode cX11_fireGun 31 = .ok (.getfield 28, 3) := by decide +kernel
theorem dX11_fireGun_34 : decode cX11_fireGun 34 = .ok (.invokevirtual 73, 3) := by decide +kernel
theorem dX11_fireGun_37 : decode cX11_fireGun 37 = .ok (.if_icmp .ge 84, 3) := by decide +kernel
theorem dX11_fireGun_40 : decode cX11_fireGun 40 = .ok (.aload_n 0, 1) := by decide +kernel
theorem dX11_fireGun_41 : decode cX11_fireGun 41 = .ok (.getfield 28, 3) := by decide +kernel
theorem dX11_fireGun_44 : decode cX11_fireGun 44 = .ok (.iload_n 2, 1) := by decide +kernel
theorem dX11_fireGun_45 : decode cX11_fireGun 45 = .ok (.invokevirtual 99, 3) := by decide +kernel
theorem dX11_fireGun_48 : decode cX11_fireGun 48 = .ok (.checkcast 157, 3) := by decide +kernel
theorem dX11_fireGun_51 : decode cX11_fireGun 51 = .ok (.astore_n 3, 1) := by decide +kernel
theorem dX11_fireGun_52 : decode cX11_fireGun 52 = .ok (.aload_n 3, 1) := by decide +kernel
theorem dX11_fireGun_53 : decode cX11_fireGun 53 = .ok (.getfield 166, 3) := by decide +kernel
theorem dX11_fireGun_56 : decode cX11_fireGun 56 = .ok (.ifCond .eq 59, 3) := by decide +kernel
theorem dX11_fireGun_59 : decode cX11_fireGun 59 = .ok (.aload_n 3, 1) := by decide +kernel
theorem dX11_fireGun_60 : decode cX11_fireGun 60 = .ok (.aload_n 1, 1) := by decide +kernel
theorem dX11_fireGun_61 : decode cX11_fireGun 61 = .ok (.getfield 551, 3) := by decide +kernel
theorem dX11_fireGun_64 : decode cX11_fireGun 64 = .ok (.aload_n 1, 1) := by decide +kernel
theorem dX11_fireGun_65 : decode cX11_fireGun 65 = .ok (.getfield 554, 3) := by decide +kernel
theorem dX11_fireGun_68 : decode cX11_fireGun 68 = .ok (.aload_n 1, 1) := by decide +kernel
theorem dX11_fireGun_69 : decode cX11_fireGun 69 = .ok (.getfield 555, 3) := by decide +kernel
theorem dX11_fireGun_72 : decode cX11_fireGun 72 = .ok (.invokevirtual 559, 3) := by decide +kernel
theorem dX11_fireGun_75 : decode cX11_fireGun 75 = .ok (.ifCond .eq 40, 3) := by decide +kernel
theorem dX11_fireGun_78 : decode cX11_fireGun 78 = .ok (.aload_n 0, 1) := by decide +kernel
theorem dX11_fireGun_79 : decode cX11_fireGun 79 = .ok (.getfield 43, 3) := by decide +kernel
theorem dX11_fireGun_82 : decode cX11_fireGun 82 = .ok (.invokevirtual 529, 3) := by decide +kernel
theorem dX11_fireGun_85 : decode cX11_fireGun 85 = .ok (.iconst 5, 1) := by decide +kernel
theorem dX11_fireGun_86 : decode cX11_fireGun 86 = .ok (.irem, 1) := by decide +kernel
theorem dX11_fireGun_87 : decode cX11_fireGun 87 = .ok (.ifCond .ne 28, 3) := by decide +kernel
theorem dX11_fireGun_90 : decode cX11_fireGun 90 = .ok (.aload_n 3, 1) := by decide +kernel
theorem dX11_fireGun_91 : decode cX11_fireGun 91 = .ok (.iconst 1, 1) := by decide +kernel
theorem dX11_fireGun_92 : decode cX11_fireGun 92 = .ok (.invokevirtual 532, 3) := by decide +kernel
theorem dX11_fireGun_95 : decode cX11_fireGun 95 = .ok (.aload_n 3, 1) := by decide +kernel
theorem dX11_fireGun_96 : decode cX11_fireGun 96 = .ok (.getfield 545, 3) := by decide +kernel
theorem dX11_fireGun_99 : decode cX11_fireGun 99 = .ok (.ifCond .ne 16, 3) := by decide +kernel
theorem dX11_fireGun_102 : decode cX11_fireGun 102 = .ok (.aload_n 0, 1) := by decide +kernel
theorem dX11_fireGun_103 : decode cX11_fireGun 103 = .ok (.getfield 50, 3) := by decide +kernel
theorem dX11_fireGun_106 : decode cX11_fireGun 106 = .ok (.dup, 1) := by decide +kernel
theorem dX11_fireGun_107 : decode cX11_fireGun 107 = .ok (.getfield 562, 3) := by decide +kernel
theorem dX11_fireGun_110 : decode cX11_fireGun 110 = .ok (.iconst 1, 1) := by decide +kernel
theorem dX11_fireGun_111 : decode cX11_fireGun 111 = .ok (.iadd, 1) := by decide +kernel
theorem dX11_fireGun_112 : decode cX11_fireGun 112 = .ok (.putfield 562, 3) := by decide +kernel
theorem dX11_fireGun_115 : decode cX11_fireGun 115 = .ok (.iinc 2 1, 3) := by decide +kernel
theorem dX11_fireGun_118 : decode cX11_fireGun 118 = .ok (.goto (-89), 3) := by decide +kernel
theorem dX11_fireGun_121 : decode cX11_fireGun 121 = .ok (.return_, 1) := by decide +kernel
theorem dX11_loseTracks_0 : decode cX11_loseTracks 0 = .ok (.iconst 0, 1) := by decide +kernel
theorem dX11_loseTracks_1 : decode cX11_loseTracks 1 = .ok (.istore_n 1, 1) := by decide +kernel
theorem dX11_loseTracks_2 : decode cX11_loseTracks 2 = .ok (.iload_n 1, 1) := by decide +kernel
theorem dX11_loseTracks_3 : decode cX11_loseTracks 3 = .ok (.aload_n 0, 1) := by decide +kernel
theorem dX11_loseTracks_4 : decode cX11_loseTracks 4 = .ok (.getfield 34, 3) := by decide +kernel
theorem dX11_loseTracks_7 : decode cX11_loseTracks 7 = .ok (.invokevirtual 73, 3) := by decide +kernel
theorem dX11_loseTracks_10 : decode cX11_loseTracks 10 = .ok (.if_icmp .ge 40, 3) := by decide +kernel
theorem dX11_loseTracks_13 : decode cX11_loseTracks 13 = .ok (.aload_n 0, 1) := by decide +kernel
theorem dX11_loseTracks_14 : decode cX11_loseTracks 14 = .ok (.getfield 34, 3) := by decide +kernel
theorem dX11_loseTracks_17 : decode cX11_loseTracks 17 = .ok (.iload_n 1, 1) := by decide +kernel
theorem dX11_loseTracks_18 : decode cX11_loseTracks 18 = .ok (.invokevirtual 99, 3) := by decide +kernel
theorem dX11_loseTracks_21 : decode cX11_loseTracks 21 = .ok (.checkcast 191, 3) := by decide +kernel
theorem dX11_loseTracks_24 : decode cX11_loseTracks 24 = .ok (.astore_n 2, 1) := by decide +kernel
theorem dX11_loseTracks_25 : decode cX11_loseTracks 25 = .ok (.aload_n 0, 1) := by decide +kernel
theorem dX11_loseTracks_26 : decode cX11_loseTracks 26 = .ok (.getfield 205, 3) := by decide +kernel
theorem dX11_loseTracks_29 : decode cX11_loseTracks 29 = .ok (.aload_n 2, 1) := by decide +kernel
theorem dX11_loseTracks_30 : decode cX11_loseTracks 30 = .ok (.getfield 297, 3) := by decide +kernel
theorem dX11_loseTracks_33 : decode cX11_loseTracks 33 = .ok (.isub, 1) := by decide +kernel
theorem dX11_loseTracks_34 : decode cX11_loseTracks 34 = .ok (.bipush 6, 2) := by decide +kernel
theorem dX11_loseTracks_36 : decode cX11_loseTracks 36 = .ok (.if_icmp .le 8, 3) := by decide +kernel
theorem dX11_loseTracks_39 : decode cX11_loseTracks 39 = .ok (.aload_n 2, 1) := by decide +kernel
theorem dX11_loseTracks_40 : decode cX11_loseTracks 40 = .ok (.iconst 0, 1) := by decide +kernel
theorem dX11_loseTracks_41 : decode cX11_loseTracks 41 = .ok (.putfield 197, 3) := by decide +kernel
theorem dX11_loseTracks_44 : decode cX11_loseTracks 44 = .ok (.iinc 1 1, 3) := by decide +kernel
theorem dX11_loseTracks_47 : decode cX11_loseTracks 47 = .ok (.goto (-45), 3) := by decide +kernel
theorem dX11_loseTracks_50 : decode cX11_loseTracks 50 = .ok (.return_, 1) := by decide +kernel
theorem dX11_countTown_0 : decode cX11_countTown 0 = .ok (.aload_n 0, 1) := by decide +kernel
theorem dX11_countTown_1 : decode cX11_countTown 1 = .ok (.aload_n 1, 1) := by decide +kernel
theorem dX11_countTown_2 : decode cX11_countTown 2 = .ok (.bipush 8, 2) := by decide +kernel
theorem dX11_countTown_4 : decode cX11_countTown 4 = .ok (.invokevirtual 312, 3) := by decide +kernel
theorem dX11_countTown_7 : decode cX11_countTown 7 = .ok (.iconst (-1), 1) := by decide +kernel
theorem dX11_countTown_8 : decode cX11_countTown 8 = .ok (.if_icmp .eq 20, 3) := by decide +kernel
theorem dX11_countTown_11 : decode cX11_countTown 11 = .ok (.aload_n 0, 1) := by decide +kernel
theorem dX11_countTown_12 : decode cX11_countTown 12 = .ok (.getfield 50, 3) := by decide +kernel
theorem dX11_countTown_15 : decode cX11_countTown 15 = .ok (.dup, 1) := by decide +kernel
theorem dX11_countTown_16 : decode cX11_countTown 16 = .ok (.getfield 565, 3) := by decide +kernel
theorem dX11_countTown_19 : decode cX11_countTown 19 = .ok (.aload_n 1, 1) := by decide +kernel
theorem dX11_countTown_20 : decode cX11_countTown 20 = .ok (.getfield 568, 3) := by decide +kernel
theorem dX11_countTown_23 : decode cX11_countTown 23 = .ok (.iadd, 1) := by decide +kernel
theorem dX11_countTown_24 : decode cX11_countTown 24 = .ok (.putfield 565, 3) := by decide +kernel
theorem dX11_countTown_27 : decode cX11_countTown 27 = .ok (.return_, 1) := by decide +kernel
theorem dX11_countTown_28 : decode cX11_countTown 28 = .ok (.iconst 0, 1) := by decide +kernel
theorem dX11_countTown_29 : decode cX11_countTown 29 = .ok (.istore_n 2, 1) := by decide +kernel
theorem dX11_countTown_30 : decode cX11_countTown 30 = .ok (.iload_n 2, 1) := by decide +kernel
theorem dX11_countTown_31 : decode cX11_countTown 31 = .ok (.aload_n 0, 1) := by decide +kernel
theorem dX11_countTown_32 : decode cX11_countTown 32 = .ok (.getfield 28, 3) := by decide +kernel
theorem dX11_countTown_35 : decode cX11_countTown 35 = .ok (.invokevirtual 73, 3) := by decide +kernel
theorem dX11_countTown_38 : decode cX11_countTown 38 = .ok (.if_icmp .ge 67, 3) := by decide +kernel
theorem dX11_countTown_41 : decode cX11_countTown 41 = .ok (.aload_n 0, 1) := by decide +kernel
theorem dX11_countTown_42 : decode cX11_countTown 42 = .ok (.getfield 28, 3) := by decide +kernel
theorem dX11_countTown_45 : decode cX11_countTown 45 = .ok (.iload_n 2, 1) := by decide +kernel
theorem dX11_countTown_46 : decode cX11_countTown 46 = .ok (.invokevirtual 99, 3) := by decide +kernel
theorem dX11_countTown_49 : decode cX11_countTown 49 = .ok (.checkcast 157, 3) := by decide +kernel
theorem dX11_countTown_52 : decode cX11_countTown 52 = .ok (.astore_n 3, 1) := by decide +kernel
theorem dX11_countTown_53 : decode cX11_countTown 53 = .ok (.aload_n 3, 1) := by decide +kernel
theorem dX11_countTown_54 : decode cX11_countTown 54 = .ok (.getfield 166, 3) := by decide +kernel
theorem dX11_countTown_57 : decode cX11_countTown 57 = .ok (.ifCond .eq 42, 3) := by decide +kernel
theorem dX11_countTown_60 : decode cX11_countTown 60 = .ok (.aload_n 3, 1) := by decide +kernel
theorem dX11_countTown_61 : decode cX11_countTown 61 = .ok (.getfield 545, 3) := by decide +kernel
theorem dX11_countTown_64 : decode cX11_countTown 64 = .ok (.ifCond .eq 35, 3) := by decide +kernel
theorem dX11_countTown_67 : decode cX11_countTown 67 = .ok (.aload_n 3, 1) := by decide +kernel
theorem dX11_countTown_68 : decode cX11_countTown 68 = .ok (.iconst 5, 1) := by decide +kernel
theorem dX11_countTown_69 : decode cX11_countTown 69 = .ok (.aload_n 1, 1) := by decide +kernel
theorem dX11_countTown_70 : decode cX11_countTown 70 = .ok (.getfield 571, 3) := by decide +kernel
theorem dX11_countTown_73 : decode cX11_countTown 73 = .ok (.aload_n 1, 1) := by decide +kernel
theorem dX11_countTown_74 : decode cX11_countTown 74 = .ok (.getfield 572, 3) := by decide +kernel
theorem dX11_countTown_77 : decode cX11_countTown 77 = .ok (.invokevirtual 559, 3) := by decide +kernel
theorem dX11_countTown_80 : decode cX11_countTown 80 = .ok (.ifCond .eq 19, 3) := by decide +kernel
theorem dX11_countTown_83 : decode cX11_countTown 83 = .ok (.aload_n 0, 1) := by decide +kernel
theorem dX11_countTown_84 : decode cX11_countTown 84 = .ok (.getfield 50, 3) := by decide +kernel
theorem dX11_countTown_87 : decode cX11_countTown 87 = .ok (.dup, 1) := by decide +kernel
theorem dX11_countTown_88 : decode cX11_countTown 88 = .ok (.getfield 573, 3) := by decide +kernel
theorem dX11_countTown_91 : decode cX11_countTown 91 = .ok (.aload_n 3, 1) := by decide +kernel
theorem dX11_countTown_92 : decode cX11_countTown 92 = .ok (.getfield 542, 3) := by decide +kernel
theorem dX11_countTown_95 : decode cX11_countTown 95 = .ok (.iadd, 1) := by decide +kernel
theorem dX11_countTown_96 : decode cX11_countTown 96 = .ok (.putfield 573, 3) := by decide +kernel
theorem dX11_countTown_99 : decode cX11_countTown 99 = .ok (.iinc 2 1, 3) := by decide +kernel
theorem dX11_countTown_102 : decode cX11_countTown 102 = .ok (.goto (-72), 3) := by decide +kernel
theorem dX11_countTown_105 : decode cX11_countTown 105 = .ok (.return_, 1) := by decide +kernel
theorem dX11_kindOf_0 : decode cX11_kindOf 0 = .ok (.iconst 0, 1) := by decide +kernel
theorem dX11_kindOf_1 : decode cX11_kindOf 1 = .ok (.istore_n 2, 1) := by decide +kernel
theorem dX11_kindOf_2 : decode cX11_kindOf 2 = .ok (.iload_n 2, 1) := by decide +kernel
theorem dX11_kindOf_3 : decode cX11_kindOf 3 = .ok (.aload_n 0, 1) := by decide +kernel
theorem dX11_kindOf_4 : decode cX11_kindOf 4 = .ok (.getfield 31, 3) := by decide +kernel
theorem dX11_kindOf_7 : decode cX11_kindOf 7 = .ok (.invokevirtual 73, 3) := by decide +kernel
theorem dX11_kindOf_10 : decode cX11_kindOf 10 = .ok (.if_icmp .ge 29, 3) := by decide +kernel
theorem dX11_kindOf_13 : decode cX11_kindOf 13 = .ok (.aload_n 0, 1) := by decide +kernel
theorem dX11_kindOf_14 : decode cX11_kindOf 14 = .ok (.getfield 31, 3) := by decide +kernel
theorem dX11_kindOf_17 : decode cX11_kindOf 17 = .ok (.iload_n 2, 1) := by decide +kernel
theorem dX11_kindOf_18 : decode cX11_kindOf 18 = .ok (.invokevirtual 99, 3) := by decide +kernel
theorem dX11_kindOf_21 : decode cX11_kindOf 21 = .ok (.checkcast 184, 3) := by decide +kernel
theorem dX11_kindOf_24 : decode cX11_kindOf 24 = .ok (.aload_n 1, 1) := by decide +kernel
theorem dX11_kindOf_25 : decode cX11_kindOf 25 = .ok (.invokevirtual 576, 3) := by decide +kernel
theorem dX11_kindOf_28 : decode cX11_kindOf 28 = .ok (.ifCond .eq 5, 3) := by decide +kernel
theorem dX11_kindOf_31 : decode cX11_kindOf 31 = .ok (.iconst 0, 1) := by decide +kernel
theorem dX11_kindOf_32 : decode cX11_kindOf 32 = .ok (.ireturn, 1) := by decide +kernel
theorem dX11_kindOf_33 : decode cX11_kindOf 33 = .ok (.iinc 2 1, 3) := by decide +kernel
theorem dX11_kindOf_36 : decode cX11_kindOf 36 = .ok (.goto (-34), 3) := by decide +kernel
theorem dX11_kindOf_39 : decode cX11_kindOf 39 = .ok (.aload_n 0, 1) := by decide +kernel
theorem dX11_kindOf_40 : decode cX11_kindOf 40 = .ok (.bipush 8, 2) := by decide +kernel
theorem dX11_kindOf_42 : decode cX11_kindOf 42 = .ok (.aload_n 1, 1) := by decide +kernel
theorem dX11_kindOf_43 : decode cX11_kindOf 43 = .ok (.getfield 580, 3) := by decide +kernel
theorem dX11_kindOf_46 : decode cX11_kindOf 46 = .ok (.aload_n 1, 1) := by decide +kernel
theorem dX11_kindOf_47 : decode cX11_kindOf 47 = .ok (.getfield 581, 3) := by decide +kernel
theorem dX11_kindOf_50 : decode cX11_kindOf 50 = .ok (.invokevirtual 556, 3) := by decide +kernel
theorem dX11_kindOf_53 : decode cX11_kindOf 53 = .ok (.ifCond .eq 5, 3) := by decide +kernel
theorem dX11_kindOf_56 : decode cX11_kindOf 56 = .ok (.iconst 0, 1) := by decide +kernel
theorem dX11_kindOf_57 : decode cX11_kindOf 57 = .ok (.ireturn, 1) := by decide +kernel
theorem dX11_kindOf_58 : decode cX11_kindOf 58 = .ok (.aload_n 1, 1) := by decide +kernel
theorem dX11_kindOf_59 : decode cX11_kindOf 59 = .ok (.getfield 582, 3) := by decide +kernel
theorem dX11_kindOf_62 : decode cX11_kindOf 62 = .ok (.iconst 2, 1) := by decide +kernel
theorem dX11_kindOf_63 : decode cX11_kindOf 63 = .ok (.if_icmp .gt 7, 3) := by decide +kernel
theorem dX11_kindOf_66 : decode cX11_kindOf 66 = .ok (.iconst 1, 1) := by decide +kernel
theorem dX11_kindOf_67 : decode cX11_kindOf 67 = .ok (.goto 4, 3) := by decide +kernel
theorem dX11_kindOf_70 : decode cX11_kindOf 70 = .ok (.iconst 2, 1) := by decide +kernel
theorem dX11_kindOf_71 : decode cX11_kindOf 71 = .ok (.ireturn, 1) := by decide +kernel
theorem dX11_isSquadronWithin_0 : decode cX11_isSquadronWithin 0 = .ok (.iconst 0, 1) := by decide +kernel
theorem dX11_isSquadronWithin_1 : decode cX11_isSquadronWithin 1 = .ok (.istore 4, 2) := by decide +kernel
theorem dX11_isSquadronWithin_3 : decode cX11_isSquadronWithin 3 = .ok (.iload 4, 2) := by decide +kernel
theorem dX11_isSquadronWithin_5 : decode cX11_isSquadronWithin 5 = .ok (.aload_n 0, 1) := by decide +kernel
theorem dX11_isSquadronWithin_6 : decode cX11_isSquadronWithin 6 = .ok (.getfield 19, 3) := by decide +kernel
theorem dX11_isSquadronWithin_9 : decode cX11_isSquadronWithin 9 = .ok (.invokevirtual 73, 3) := by decide +kernel
theorem dX11_isSquadronWithin_12 : decode cX11_isSquadronWithin 12 = .ok (.if_icmp .ge 44, 3) := by decide +kernel
theorem dX11_isSquadronWithin_15 : decode cX11_isSquadronWithin 15 = .ok (.aload_n 0, 1) := by decide +kernel
theorem dX11_isSquadronWithin_16 : decode cX11_isSquadronWithin 16 = .ok (.getfield 19, 3) := by decide +kernel
theorem dX11_isSquadronWithin_19 : decode cX11_isSquadronWithin 19 = .ok (.iload 4, 2) := by decide +kernel
theorem dX11_isSquadronWithin_21 : decode cX11_isSquadronWithin 21 = .ok (.invokevirtual 99, 3) := by decide +kernel
theorem dX11_isSquadronWithin_24 : decode cX11_isSquadronWithin 24 = .ok (.checkcast 122, 3) := by decide +kernel
theorem dX11_isSquadronWithin_27 : decode cX11_isSquadronWithin 27 = .ok (.astore 5, 2) := by decide +kernel
theorem dX11_isSquadronWithin_29 : decode cX11_isSquadronWithin 29 = .ok (.aload 5, 2) := by decide +kernel
theorem dX11_isSquadronWithin_31 : decode cX11_isSquadronWithin 31 = .ok (.invokevirtual 340, 3) := by decide +kernel
theorem dX11_isSquadronWithin_34 : decode cX11_isSquadronWithin 34 = .ok (.ifCond .eq 16, 3) := by decide +kernel
theorem dX11_isSquadronWithin_37 : decode cX11_isSquadronWithin 37 = .ok (.aload 5, 2) := by decide +kernel
theorem dX11_isSquadronWithin_39 : decode cX11_isSquadronWithin 39 = .ok (.iload_n 1, 1) := by decide +kernel
theorem dX11_isSquadronWithin_40 : decode cX11_isSquadronWithin 40 = .ok (.iload_n 2, 1) := by decide +kernel
theorem dX11_isSquadronWithin_41 : decode cX11_isSquadronWithin 41 = .ok (.iload_n 3, 1) := by decide +kernel
theorem dX11_isSquadronWithin_42 : decode cX11_isSquadronWithin 42 = .ok (.invokevirtual 585, 3) := by decide +kernel
theorem dX11_isSquadronWithin_45 : decode cX11_isSquadronWithin 45 = .ok (.ifCond .eq 5, 3) := by decide +kernel
theorem dX11_isSquadronWithin_48 : decode cX11_isSquadronWithin 48 = .ok (.iconst 1, 1) := by decide +kernel
theorem dX11_isSquadronWithin_49 : decode cX11_isSquadronWithin 49 = .ok (.ireturn, 1) := by decide +kernel
theorem dX11_isSquadronWithin_50 : decode cX11_isSquadronWithin 50 = .ok (.iinc 4 1, 3) := by decide +kernel
theorem dX11_isSquadronWithin_53 : decode cX11_isSquadronWithin 53 = .ok (.goto (-50), 3) := by decide +kernel
theorem dX11_isSquadronWithin_56 : decode cX11_isSquadronWithin 56 = .ok (.iconst 0, 1) := by decide +kernel
theorem dX11_isSquadronWithin_57 : decode cX11_isSquadronWithin 57 = .ok (.ireturn, 1) := by decide +kernel
theorem dX11_minutesToSiren_0 : decode cX11_minutesToSiren 0 = .ok (.aload_n 0, 1) := by decide +kernel
theorem dX11_minutesToSiren_1 : decode cX11_minutesToSiren 1 = .ok (.aload_n 1, 1) := by decide +kernel
theorem dX11_minutesToSiren_2 : decode cX11_minutesToSiren 2 = .ok (.bipush 38, 2) := by decide +kernel
theorem dX11_minutesToSiren_4 : decode cX11_minutesToSiren 4 = .ok (.invokevirtual 312, 3) := by decide +kernel
theorem dX11_minutesToSiren_7 : decode cX11_minutesToSiren 7 = .ok (.istore_n 2, 1) := by decide +kernel
theorem dX11_minutesToSiren_8 : decode cX11_minutesToSiren 8 = .ok (.iload_n 2, 1) := by decide +kernel
theorem dX11_minutesToSiren_9 : decode cX11_minutesToSiren 9 = .ok (.iconst (-1), 1) := by decide +kernel
theorem dX11_minutesToSiren_10 : decode cX11_minutesToSiren 10 = .ok (.if_icmp .ne 7, 3) := by decide +kernel
theorem dX11_minutesToSiren_13 : decode cX11_minutesToSiren 13 = .ok (.iconst (-1), 1) := by decide +kernel
theorem dX11_minutesToSiren_14 : decode cX11_minutesToSiren 14 = .ok (.goto 11, 3) := by decide +kernel
theorem dX11_minutesToSiren_17 : decode cX11_minutesToSiren 17 = .ok (.iconst 0, 1) := by decide +kernel
theorem dX11_minutesToSiren_18 : decode cX11_minutesToSiren 18 = .ok (.iload_n 2, 1) := by decide +kernel
theorem dX11_minutesToSiren_19 : decode cX11_minutesToSiren 19 = .ok (.bipush 8, 2) := by decide +kernel
theorem dX11_minutesToSiren_21 : decode cX11_minutesToSiren 21 = .ok (.isub, 1) := by decide +kernel
theorem dX11_minutesToSiren_22 : decode cX11_minutesToSiren 22 = .ok (.invokestatic 586, 3) := by decide +kernel
theorem dX11_minutesToSiren_25 : decode cX11_minutesToSiren 25 = .ok (.ireturn, 1) := by decide +kernel
theorem dX11_minutesToThreat_0 : decode cX11_minutesToThreat 0 = .ok (.iconst (-1), 1) := by decide +kernel
theorem dX11_minutesToThreat_1 : decode cX11_minutesToThreat 1 = .ok (.istore_n 3, 1) := by decide +kernel
theorem dX11_minutesToThreat_2 : decode cX11_minutesToThreat 2 = .ok (.iconst 0, 1) := by decide +kernel
theorem dX11_minutesToThreat_3 : decode cX11_minutesToThreat 3 = .ok (.istore 4, 2) := by decide +kernel
theorem dX11_minutesToThreat_5 : decode cX11_minutesToThreat 5 = .ok (.iload 4, 2) := by decide +kernel
theorem dX11_minutesToThreat_7 : decode cX11_minutesToThreat 7 = .ok (.aload_n 0, 1) := by decide +kernel
theorem dX11_minutesToThreat_8 : decode cX11_minutesToThreat 8 = .ok (.getfield 34, 3) := by decide +kernel
theorem dX11_minutesToThreat_11 : decode cX11_minutesToThreat 11 = .ok (.invokevirtual 73, 3) := by decide +kernel
theorem dX11_minutesToThreat_14 : decode cX11_minutesToThreat 14 = .ok (.if_icmp .ge 71, 3) := by decide +kernel
theorem dX11_minutesToThreat_17 : decode cX11_minutesToThreat 17 = .ok (.aload_n 0, 1) := by decide +kernel
theorem dX11_minutesToThreat_18 : decode cX11_minutesToThreat 18 = .ok (.getfield 34, 3) := by decide +kernel
theorem dX11_minutesToThreat_21 : decode cX11_minutesToThreat 21 = .ok (.iload 4, 2) := by decide +kernel
theorem dX11_minutesToThreat_23 : decode cX11_minutesToThreat 23 = .ok (.invokevirtual 99, 3) := by decide +kernel
theorem dX11_minutesToThreat_26 : decode cX11_minutesToThreat 26 = .ok (.checkcast 191, 3) := by decide +kernel
theorem dX11_minutesToThreat_29 : decode cX11_minutesToThreat 29 = .ok (.astore 5, 2) := by decide +kernel
theorem dX11_minutesToThreat_31 : decode cX11_minutesToThreat 31 = .ok (.aload 5, 2) := by decide +kernel
theorem dX11_minutesToThreat_33 : decode cX11_minutesToThreat 33 = .ok (.getfield 197, 3) := by decide +kernel
theorem dX11_minutesToThreat_36 : decode cX11_minutesToThreat 36 = .ok (.ifCond .eq 43, 3) := by decide +kernel
theorem dX11_minutesToThreat_39 : decode cX11_minutesToThreat 39 = .ok (.aload_n 0, 1) := by decide +kernel
theorem dX11_minutesToThreat_40 : decode cX11_minutesToThreat 40 = .ok (.aload 5, 2) := by decide +kernel
theorem dX11_minutesToThreat_42 : decode cX11_minutesToThreat 42 = .ok (.invokevirtual 589, 3) := by decide +kernel
theorem dX11_minutesToThreat_45 : decode cX11_minutesToThreat 45 = .ok (.iconst 2, 1) := by decide +kernel
theorem dX11_minutesToThreat_46 : decode cX11_minutesToThreat 46 = .ok (.if_icmp .ne 33, 3) := by decide +kernel
theorem dX11_minutesToThreat_49 : decode cX11_minutesToThreat 49 = .ok (.aload_n 0, 1) := by decide +kernel
theorem dX11_minutesToThreat_50 : decode cX11_minutesToThreat 50 = .ok (.aload_n 1, 1) := by decide +kernel
theorem dX11_minutesToThreat_51 : decode cX11_minutesToThreat 51 = .ok (.aload 5, 2) := by decide +kernel
theorem dX11_minutesToThreat_53 : decode cX11_minutesToThreat 53 = .ok (.iload_n 2, 1) := by decide +kernel
theorem dX11_minutesToThreat_54 : decode cX11_minutesToThreat 54 = .ok (.invokevirtual 592, 3) := by decide +kernel
theorem dX11_minutesToThreat_57 : decode cX11_minutesToThreat 57 = .ok (.istore 6, 2) := by decide +kernel
theorem dX11_minutesToThreat_59 : decode cX11_minutesToThreat 59 = .ok (.iload 6, 2) := by decide +kernel
theorem dX11_minutesToThreat_61 : decode cX11_minutesToThreat 61 = .ok (.iconst (-1), 1) := by decide +kernel
theorem dX11_minutesToThreat_62 : decode cX11_minutesToThreat 62 = .ok (.if_icmp .eq 17, 3) := by decide +kernel
theorem dX11_minutesToThreat_65 : decode cX11_minutesToThreat 65 = .ok (.iload_n 3, 1) := by decide +kernel
theorem dX11_minutesToThreat_66 : decode cX11_minutesToThreat 66 = .ok (.iconst (-1), 1) := by decide +kernel
theorem dX11_minutesToThreat_67 : decode cX11_minutesToThreat 67 = .ok (.if_icmp .eq 9, 3) := by decide +kernel
theorem dX11_minutesToThreat_70 : decode cX11_minutesToThreat 70 = .ok (.iload 6, 2) := by decide +kernel
theorem dX11_minutesToThreat_72 : decode cX11_minutesToThreat 72 = .ok (.iload_n 3, 1) := by decide +kernel
theorem dX11_minutesToThreat_73 : decode cX11_minutesToThreat 73 = .ok (.if_icmp .ge 6, 3) := by decide +kernel
theorem dX11_minutesToThreat_76 : decode cX11_minutesToThreat 76 = .ok (.iload 6, 2) := by decide +kernel
theorem dX11_minutesToThreat_78 : decode cX11_minutesToThreat 78 = .ok (.istore_n 3, 1) := by decide +kernel
theorem dX11_minutesToThreat_79 : decode cX11_minutesToThreat 79 = .ok (.iinc 4 1, 3) := by decide +kernel
theorem dX11_minutesToThreat_82 : decode cX11_minutesToThreat 82 = .ok (.goto (-77), 3) := by decide +kernel
theorem dX11_minutesToThreat_85 : decode cX11_minutesToThreat 85 = .ok (.iload_n 3, 1) := by decide +kernel
theorem dX11_minutesToThreat_86 : decode cX11_minutesToThreat 86 = .ok (.ireturn, 1) := by decide +kernel
theorem dX11_minutesToNear_0 : decode cX11_minutesToNear 0 = .ok (.iconst 0, 1) := by decide +kernel
theorem dX11_minutesToNear_1 : decode cX11_minutesToNear 1 = .ok (.istore 4, 2) := by decide +kernel
theorem dX11_minutesToNear_3 : decode cX11_minutesToNear 3 = .ok (.iload 4, 2) := by decide +kernel
theorem dX11_minutesToNear_5 : decode cX11_minutesToNear 5 = .ok (.iload_n 3, 1) := by decide +kernel
theorem dX11_minutesToNear_6 : decode cX11_minutesToNear 6 = .ok (.if_icmp .gt 43, 3) := by decide +kernel
theorem dX11_minutesToNear_9 : decode cX11_minutesToNear 9 = .ok (.aload_n 1, 1) := by decide +kernel
theorem dX11_minutesToNear_10 : decode cX11_minutesToNear 10 = .ok (.bipush 10, 2) := by decide +kernel
theorem dX11_minutesToNear_12 : decode cX11_minutesToNear 12 = .ok (.aload_n 2, 1) := by decide +kernel
theorem dX11_minutesToNear_13 : decode cX11_minutesToNear 13 = .ok (.aload_n 0, 1) := by decide +kernel
theorem dX11_minutesToNear_14 : decode cX11_minutesToNear 14 = .ok (.getfield 205, 3) := by decide +kernel
theorem dX11_minutesToNear_17 : decode cX11_minutesToNear 17 = .ok (.iload 4, 2) := by decide +kernel
theorem dX11_minutesToNear_19 : decode cX11_minutesToNear 19 = .ok (.iadd, 1) := by decide +kernel
theorem dX11_minutesToNear_20 : decode cX11_minutesToNear 20 = .ok (.invokevirtual 303, 3) := by decide +kernel
theorem dX11_minutesToNear_23 : decode cX11_minutesToNear 23 = .ok (.aload_n 2, 1) := by decide +kernel
theorem dX11_minutesToNear_24 : decode cX11_minutesToNear 24 = .ok (.aload_n 0, 1) := by decide +kernel
theorem dX11_minutesToNear_25 : decode cX11_minutesToNear 25 = .ok (.getfield 205, 3) := by decide +kernel
theorem dX11_minutesToNear_28 : decode cX11_minutesToNear 28 = .ok (.iload 4, 2) := by decide +kernel
theorem dX11_minutesToNear_30 : decode cX11_minutesToNear 30 = .ok (.iadd, 1) := by decide +kernel
theorem dX11_minutesToNear_31 : decode cX11_minutesToNear 31 = .ok (.invokevirtual 300, 3) := by decide +kernel
theorem dX11_minutesToNear_34 : decode cX11_minutesToNear 34 = .ok (.invokevirtual 596, 3) := by decide +kernel
theorem dX11_minutesToNear_37 : decode cX11_minutesToNear 37 = .ok (.ifCond .eq 6, 3) := by decide +kernel
theorem dX11_minutesToNear_40 : decode cX11_minutesToNear 40 = .ok (.iload 4, 2) := by decide +kernel
theorem dX11_minutesToNear_42 : decode cX11_minutesToNear 42 = .ok (.ireturn, 1) := by decide +kernel
theorem dX11_minutesToNear_43 : decode cX11_minutesToNear 43 = .ok (.iinc 4 1, 3) := by decide +kernel
theorem dX11_minutesToNear_46 : decode cX11_minutesToNear 46 = .ok (.goto (-43), 3) := by decide +kernel
theorem dX11_minutesToNear_49 : decode cX11_minutesToNear 49 = .ok (.iconst (-1), 1) := by decide +kernel
theorem dX11_minutesToNear_50 : decode cX11_minutesToNear 50 = .ok (.ireturn, 1) := by decide +kernel
theorem dX11_tellRoom_0 : decode cX11_tellRoom 0 = .ok (.iload_n 1, 1) := by decide +kernel
theorem dX11_tellRoom_1 : decode cX11_tellRoom 1 = .ok (.tableswitch 226 0 19 #[95, 100, 106, 112, 117, 125, 130, 136, 142, 147, 155, 160, 165, 173, 178, 186, 194, 202, 210, 218], 95) := by decide +kernel
theorem dX11_tellRoom_96 : decode cX11_tellRoom 96 = .ok (.aload_n 0, 1) := by decide +kernel
theorem dX11_tellRoom_97 : decode cX11_tellRoom 97 = .ok (.getfield 205, 3) := by decide +kernel
theorem dX11_tellRoom_100 : decode cX11_tellRoom 100 = .ok (.ireturn, 1) := by decide +kernel
theorem dX11_tellRoom_101 : decode cX11_tellRoom 101 = .ok (.aload_n 0, 1) := by decide +kernel
theorem dX11_tellRoom_102 : decode cX11_tellRoom 102 = .ok (.iconst 0, 1) := by decide +kernel
theorem dX11_tellRoom_103 : decode cX11_tellRoom 103 = .ok (.invokevirtual 597, 3) := by decide +kernel
theorem dX11_tellRoom_106 : decode cX11_tellRoom 106 = .ok (.ireturn, 1) := by decide +kernel
theorem dX11_tellRoom_107 : decode cX11_tellRoom 107 = .ok (.aload_n 0, 1) := by decide +kernel
theorem dX11_tellRoom_108 : decode cX11_tellRoom 108 = .ok (.iconst 1, 1) := by decide +kernel
theorem dX11_tellRoom_109 : decode cX11_tellRoom 109 = .ok (.invokevirtual 597, 3) := by decide +kernel
theorem dX11_tellRoom_112 : decode cX11_tellRoom 112 = .ok (.ireturn, 1) := by decide +kernel
theorem dX11_tellRoom_113 : decode cX11_tellRoom 113 = .ok (.aload_n 0, 1) := by decide +kernel
theorem dX11_tellRoom_114 : decode cX11_tellRoom 114 = .ok (.invokevirtual 601, 3) := by decide +kernel
theorem dX11_tellRoom_117 : decode cX11_tellRoom 117 = .ok (.ireturn, 1) := by decide +kernel
theorem dX11_tellRoom_118 : decode cX11_tellRoom 118 = .ok (.aload_n 0, 1) := by decide +kernel
theorem dX11_tellRoom_119 : decode cX11_tellRoom 119 = .ok (.getfield 34, 3) := by decide +kernel
theorem dX11_tellRoom_122 : decode cX11_tellRoom 122 = .ok (.invokevirtual 73, 3) := by decide +kernel
theorem dX11_tellRoom_125 : decode cX11_tellRoom 125 = .ok (.ireturn, 1) := by decide +kernel
theorem dX11_tellRoom_126 : decode cX11_tellRoom 126 = .ok (.aload_n 0, 1) := by decide +kernel
theorem dX11_tellRoom_127 : decode cX11_tellRoom 127 = .ok (.invokevirtual 604, 3) := by decide +kernel
theorem dX11_tellRoom_130 : decode cX11_tellRoom 130 = .ok (.ireturn, 1) := by decide +kernel
theorem dX11_tellRoom_131 : decode cX11_tellRoom 131 = .ok (.aload_n 0, 1) := by decide +kernel
theorem dX11_tellRoom_132 : decode cX11_tellRoom 132 = .ok (.iconst 0, 1) := by decide +kernel
theorem dX11_tellRoom_133 : decode cX11_tellRoom 133 = .ok (.invokevirtual 607, 3) := by decide +kernel
theorem dX11_tellRoom_136 : decode cX11_tellRoom 136 = .ok (.ireturn, 1) := by decide +kernel
theorem dX11_tellRoom_137 : decode cX11_tellRoom 137 = .ok (.aload_n 0, 1) := by decide +kernel
theorem dX11_tellRoom_138 : decode cX11_tellRoom 138 = .ok (.iconst 2, 1) := by decide +kernel
theorem dX11_tellRoom_139 : decode cX11_tellRoom 139 = .ok (.invokevirtual 607, 3) := by decide +kernel
theorem dX11_tellRoom_142 : decode cX11_tellRoom 142 = .ok (.ireturn, 1) := by decide +kernel
theorem dX11_tellRoom_143 : decode cX11_tellRoom 143 = .ok (.aload_n 0, 1) := by decide +kernel
theorem dX11_tellRoom_144 : decode cX11_tellRoom 144 = .ok (.getfield 438, 3) := by decide +kernel
theorem dX11_tellRoom_147 : decode cX11_tellRoom 147 = .ok (.ireturn, 1) := by decide +kernel
theorem dX11_tellRoom_148 : decode cX11_tellRoom 148 = .ok (.aload_n 0, 1) := by decide +kernel
theorem dX11_tellRoom_149 : decode cX11_tellRoom 149 = .ok (.getfield 50, 3) := by decide +kernel
theorem dX11_tellRoom_152 : decode cX11_tellRoom 152 = .ok (.getfield 485, 3) := by decide +kernel
theorem dX11_tellRoom_155 : decode cX11_tellRoom 155 = .ok (.ireturn, 1) := by decide +kernel
theorem dX11_tellRoom_156 : decode cX11_tellRoom 156 = .ok (.aload_n 0, 1) := by decide +kernel
theorem dX11_tellRoom_157 : decode cX11_tellRoom 157 = .ok (.invokevirtual 610, 3) := by decide +kernel
theorem dX11_tellRoom_160 : decode cX11_tellRoom 160 = .ok (.ireturn, 1) := by decide +kernel
theorem dX11_tellRoom_161 : decode cX11_tellRoom 161 = .ok (.aload_n 0, 1) := by decide +kernel
theorem dX11_tellRoom_162 : decode cX11_tellRoom 162 = .ok (.invokevirtual 200, 3) := by decide +kernel
theorem dX11_tellRoom_165 : decode cX11_tellRoom 165 = .ok (.ireturn, 1) := by decide +kernel
theorem dX11_tellRoom_166 : decode cX11_tellRoom 166 = .ok (.aload_n 0, 1) := by decide +kernel
theorem dX11_tellRoom_167 : decode cX11_tellRoom 167 = .ok (.getfield 50, 3) := by decide +kernel
theorem dX11_tellRoom_170 : decode cX11_tellRoom 170 = .ok (.getfield 539, 3) := by decide +kernel
theorem dX11_tellRoom_173 : decode cX11_tellRoom 173 = .ok (.ireturn, 1) := by decide +kernel
theorem dX11_tellRoom_174 : decode cX11_tellRoom 174 = .ok (.aload_n 0, 1) := by decide +kernel
theorem dX11_tellRoom_175 : decode cX11_tellRoom 175 = .ok (.invokevirtual 370, 3) := by decide +kernel
theorem dX11_tellRoom_178 : decode cX11_tellRoom 178 = .ok (.ireturn, 1) := by decide +kernel
theorem dX11_tellRoom_179 : decode cX11_tellRoom 179 = .ok (.aload_n 0, 1) := by decide +kernel
theorem dX11_tellRoom_180 : decode cX11_tellRoom 180 = .ok (.getfield 50, 3) := by decide +kernel
theorem dX11_tellRoom_183 : decode cX11_tellRoom 183 = .ok (.getfield 367, 3) := by decide +kernel
theorem dX11_tellRoom_186 : decode cX11_tellRoom 186 = .ok (.ireturn, 1) := by decide +kernel
theorem dX11_tellRoom_187 : decode cX11_tellRoom 187 = .ok (.aload_n 0, 1) := by decide +kernel
theorem dX11_tellRoom_188 : decode cX11_tellRoom 188 = .ok (.getfield 50, 3) := by decide +kernel
theorem dX11_tellRoom_191 : decode cX11_tellRoom 191 = .ok (.getfield 522, 3) := by decide +kernel
theorem dX11_tellRoom_194 : decode cX11_tellRoom 194 = .ok (.ireturn, 1) := by decide +kernel
theorem dX11_tellRoom_195 : decode cX11_tellRoom 195 = .ok (.aload_n 0, 1) := by decide +kernel
theorem dX11_tellRoom_196 : decode cX11_tellRoom 196 = .ok (.getfield 50, 3) := by decide +kernel
theorem dX11_tellRoom_199 : decode cX11_tellRoom 199 = .ok (.getfield 562, 3) := by decide +kernel
theorem dX11_tellRoom_202 : decode cX11_tellRoom 202 = .ok (.ireturn, 1) := by decide +kernel
theorem dX11_tellRoom_203 : decode cX11_tellRoom 203 = .ok (.aload_n 0, 1) := by decide +kernel
theorem dX11_tellRoom_204 : decode cX11_tellRoom 204 = .ok (.getfield 50, 3) := by decide +kernel
theorem dX11_tellRoom_207 : decode cX11_tellRoom 207 = .ok (.getfield 565, 3) := by decide +kernel
theorem dX11_tellRoom_210 : decode cX11_tellRoom 210 = .ok (.ireturn, 1) := by decide +kernel
theorem dX11_tellRoom_211 : decode cX11_tellRoom 211 = .ok (.aload_n 0, 1) := by decide +kernel
theorem dX11_tellRoom_212 : decode cX11_tellRoom 212 = .ok (.getfield 50, 3) := by decide +kernel
theorem dX11_tellRoom_215 : decode cX11_tellRoom 215 = .ok (.getfield 573, 3) := by decide +kernel
theorem dX11_tellRoom_218 : decode cX11_tellRoom 218 = .ok (.ireturn, 1) := by decide +kernel
theorem dX11_tellRoom_219 : decode cX11_tellRoom 219 = .ok (.aload_n 0, 1) := by decide +kernel
theorem dX11_tellRoom_220 : decode cX11_tellRoom 220 = .ok (.getfield 43, 3) := by decide +kernel
theorem dX11_tellRoom_223 : decode cX11_tellRoom 223 = .ok (.getfield 613, 3) := by decide +kernel
theorem dX11_tellRoom_226 : decode cX11_tellRoom 226 = .ok (.ireturn, 1) := by decide +kernel
theorem dX11_tellRoom_227 : decode cX11_tellRoom 227 = .ok (.aload_n 0, 1) := by decide +kernel
theorem dX11_tellRoom_228 : decode cX11_tellRoom 228 = .ok (.getfield 50, 3) := by decide +kernel
theorem dX11_tellRoom_231 : decode cX11_tellRoom 231 = .ok (.getfield 263, 3) := by decide +kernel
theorem dX11_tellRoom_234 : decode cX11_tellRoom 234 = .ok (.ireturn, 1) := by decide +kernel
theorem dX11_tellTrack_0 : decode cX11_tellTrack 0 = .ok (.iload_n 2, 1) := by decide +kernel
theorem dX11_tellTrack_1 : decode cX11_tellTrack 1 = .ok (.tableswitch 49 8 10 #[27, 33, 43], 27) := by decide +kernel
theorem dX11_tellTrack_28 : decode cX11_tellTrack 28 = .ok (.aload_n 0, 1) := by decide +kernel
theorem dX11_tellTrack_29 : decode cX11_tellTrack 29 = .ok (.aload_n 1, 1) := by decide +kernel
theorem dX11_tellTrack_30 : decode cX11_tellTrack 30 = .ok (.invokevirtual 589, 3) := by decide +kernel
theorem dX11_tellTrack_33 : decode cX11_tellTrack 33 = .ok (.ireturn, 1) := by decide +kernel
theorem dX11_tellTrack_34 : decode cX11_tellTrack 34 = .ok (.aload_n 0, 1) := by decide +kernel
theorem dX11_tellTrack_35 : decode cX11_tellTrack 35 = .ok (.getfield 205, 3) := by decide +kernel
theorem dX11_tellTrack_38 : decode cX11_tellTrack 38 = .ok (.aload_n 1, 1) := by decide +kernel
theorem dX11_tellTrack_39 : decode cX11_tellTrack 39 = .ok (.getfield 297, 3) := by decide +kernel
theorem dX11_tellTrack_42 : decode cX11_tellTrack 42 = .ok (.isub, 1) := by decide +kernel
theorem dX11_tellTrack_43 : decode cX11_tellTrack 43 = .ok (.ireturn, 1) := by decide +kernel
theorem dX11_tellTrack_44 : decode cX11_tellTrack 44 = .ok (.aload_n 0, 1) := by decide +kernel
theorem dX11_tellTrack_45 : decode cX11_tellTrack 45 = .ok (.aload_n 1, 1) := by decide +kernel
theorem dX11_tellTrack_46 : decode cX11_tellTrack 46 = .ok (.invokevirtual 616, 3) := by decide +kernel
theorem dX11_tellTrack_49 : decode cX11_tellTrack 49 = .ok (.ireturn, 1) := by decide +kernel
theorem dX11_tellTrack_50 : decode cX11_tellTrack 50 = .ok (.aload_n 1, 1) := by decide +kernel
theorem dX11_tellTrack_51 : decode cX11_tellTrack 51 = .ok (.iload_n 2, 1) := by decide +kernel
theorem dX11_tellTrack_52 : decode cX11_tellTrack 52 = .ok (.invokevirtual 619, 3) := by decide +kernel
theorem dX11_tellTrack_55 : decode cX11_tellTrack 55 = .ok (.ireturn, 1) := by decide +kernel
theorem dX11_countUp_0 : decode cX11_countUp 0 = .ok (.iconst 0, 1) := by decide +kernel
theorem dX11_countUp_1 : decode cX11_countUp 1 = .ok (.istore_n 2, 1) := by decide +kernel
theorem dX11_countUp_2 : decode cX11_countUp 2 = .ok (.iconst 0, 1) := by decide +kernel
theorem dX11_countUp_3 : decode cX11_countUp 3 = .ok (.istore_n 3, 1) := by decide +kernel
theorem dX11_countUp_4 : decode cX11_countUp 4 = .ok (.iload_n 3, 1) := by decide +kernel
theorem dX11_countUp_5 : decode cX11_countUp 5 = .ok (.aload_n 0, 1) := by decide +kernel
theorem dX11_countUp_6 : decode cX11_countUp 6 = .ok (.getfield 28, 3) := by decide +kernel
theorem dX11_countUp_9 : decode cX11_countUp 9 = .ok (.invokevirtual 73, 3) := by decide +kernel
theorem dX11_countUp_12 : decode cX11_countUp 12 = .ok (.if_icmp .ge 45, 3) := by decide +kernel
theorem dX11_countUp_15 : decode cX11_countUp 15 = .ok (.aload_n 0, 1) := by decide +kernel
theorem dX11_countUp_16 : decode cX11_countUp 16 = .ok (.getfield 28, 3) := by decide +kernel
theorem dX11_countUp_19 : decode cX11_countUp 19 = .ok (.iload_n 3, 1) := by decide +kernel
theorem dX11_countUp_20 : decode cX11_countUp 20 = .ok (.invokevirtual 99, 3) := by decide +kernel
theorem dX11_countUp_23 : decode cX11_countUp 23 = .ok (.checkcast 157, 3) := by decide +kernel
theorem dX11_countUp_26 : decode cX11_countUp 26 = .ok (.astore 4, 2) := by decide +kernel
theorem dX11_countUp_28 : decode cX11_countUp 28 = .ok (.aload 4, 2) := by decide +kernel
theorem dX11_countUp_30 : decode cX11_countUp 30 = .ok (.getfield 166, 3) := by decide +kernel
theorem dX11_countUp_33 : decode cX11_countUp 33 = .ok (.ifCond .eq 18, 3) := by decide +kernel
theorem dX11_countUp_36 : decode cX11_countUp 36 = .ok (.aload 4, 2) := by decide +kernel
theorem dX11_countUp_38 : decode cX11_countUp 38 = .ok (.getfield 545, 3) := by decide +kernel
theorem dX11_countUp_41 : decode cX11_countUp 41 = .ok (.ifCond .ne 7, 3) := by decide +kernel
theorem dX11_countUp_44 : decode cX11_countUp 44 = .ok (.iload_n 1, 1) := by decide +kernel
theorem dX11_countUp_45 : decode cX11_countUp 45 = .ok (.ifCond .ne 6, 3) := by decide +kernel
theorem dX11_countUp_48 : decode cX11_countUp 48 = .ok (.iinc 2 1, 3) := by decide +kernel
theorem dX11_countUp_51 : decode cX11_countUp 51 = .ok (.iinc 3 1, 3) := by decide +kernel
theorem dX11_countUp_54 : decode cX11_countUp 54 = .ok (.goto (-50), 3) := by decide +kernel
theorem dX11_countUp_57 : decode cX11_countUp 57 = .ok (.iload_n 2, 1) := by decide +kernel
theorem dX11_countUp_58 : decode cX11_countUp 58 = .ok (.ireturn, 1) := by decide +kernel
theorem dX11_countFoeMachines_0 : decode cX11_countFoeMachines 0 = .ok (.iconst 0, 1) := by decide +kernel
theorem dX11_countFoeMachines_1 : decode cX11_countFoeMachines 1 = .ok (.istore_n 1, 1) := by decide +kernel
theorem dX11_countFoeMachines_2 : decode cX11_countFoeMachines 2 = .ok (.iconst 0, 1) := by decide +kernel
theorem dX11_countFoeMachines_3 : decode cX11_countFoeMachines 3 = .ok (.istore_n 2, 1) := by decide +kernel
theorem dX11_countFoeMachines_4 : decode cX11_countFoeMachines 4 = .ok (.iload_n 2, 1) := by decide +kernel
theorem dX11_countFoeMachines_5 : decode cX11_countFoeMachines 5 = .ok (.aload_n 0, 1) := by decide +kernel
theorem dX11_countFoeMachines_6 : decode cX11_countFoeMachines 6 = .ok (.getfield 28, 3) := by decide +kernel
theorem dX11_countFoeMachines_9 : decode cX11_countFoeMachines 9 = .ok (.invokevirtual 73, 3) := by decide +kernel
theorem dX11_countFoeMachines_12 : decode cX11_countFoeMachines 12 = .ok (.if_icmp .ge 42, 3) := by decide +kernel
theorem dX11_countFoeMachines_15 : decode cX11_countFoeMachines 15 = .ok (.aload_n 0, 1) := by decide +kernel
theorem dX11_countFoeMachines_16 : decode cX11_countFoeMachines 16 = .ok (.getfield 28, 3) := by decide +kernel
theorem dX11_countFoeMachines_19 : decode cX11_countFoeMachines 19 = .ok (.iload_n 2, 1) := by decide +kernel
theorem dX11_countFoeMachines_20 : decode cX11_countFoeMachines 20 = .ok (.invokevirtual 99, 3) := by decide +kernel
theorem dX11_countFoeMachines_23 : decode cX11_countFoeMachines 23 = .ok (.checkcast 157, 3) := by decide +kernel
theorem dX11_countFoeMachines_26 : decode cX11_countFoeMachines 26 = .ok (.astore_n 3, 1) := by decide +kernel
theorem dX11_countFoeMachines_27 : decode cX11_countFoeMachines 27 = .ok (.aload_n 3, 1) := by decide +kernel
theorem dX11_countFoeMachines_28 : decode cX11_countFoeMachines 28 = .ok (.getfield 166, 3) := by decide +kernel
theorem dX11_countFoeMachines_31 : decode cX11_countFoeMachines 31 = .ok (.ifCond .eq 17, 3) := by decide +kernel
theorem dX11_countFoeMachines_34 : decode cX11_countFoeMachines 34 = .ok (.aload_n 3, 1) := by decide +kernel
theorem dX11_countFoeMachines_35 : decode cX11_countFoeMachines 35 = .ok (.getfield 545, 3) := by decide +kernel
theorem dX11_countFoeMachines_38 : decode cX11_countFoeMachines 38 = .ok (.ifCond .eq 10, 3) := by decide +kernel
theorem dX11_countFoeMachines_41 : decode cX11_countFoeMachines 41 = .ok (.iload_n 1, 1) := by decide +kernel
theorem dX11_countFoeMachines_42 : decode cX11_countFoeMachines 42 = .ok (.aload_n 3, 1) := by decide +kernel
theorem dX11_countFoeMachines_43 : decode cX11_countFoeMachines 43 = .ok (.getfield 542, 3) := by decide +kernel
theorem dX11_countFoeMachines_46 : decode cX11_countFoeMachines 46 = .ok (.iadd, 1) := by decide +kernel
theorem dX11_countFoeMachines_47 : decode cX11_countFoeMachines 47 = .ok (.istore_n 1, 1) := by decide +kernel
theorem dX11_countFoeMachines_48 : decode cX11_countFoeMachines 48 = .ok (.iinc 2 1, 3) := by decide +kernel
theorem dX11_countFoeMachines_51 : decode cX11_countFoeMachines 51 = .ok (.goto (-47), 3) := by decide +kernel
theorem dX11_countFoeMachines_54 : decode cX11_countFoeMachines 54 = .ok (.iload_n 1, 1) := by decide +kernel
theorem dX11_countFoeMachines_55 : decode cX11_countFoeMachines 55 = .ok (.ireturn, 1) := by decide +kernel
theorem dX11_countLive_0 : decode cX11_countLive 0 = .ok (.iconst 0, 1) := by decide +kernel
theorem dX11_countLive_1 : decode cX11_countLive 1 = .ok (.istore_n 1, 1) := by decide +kernel
theorem dX11_countLive_2 : decode cX11_countLive 2 = .ok (.iconst 0, 1) := by decide +kernel
theorem dX11_countLive_3 : decode cX11_countLive 3 = .ok (.istore_n 2, 1) := by decide +kernel
theorem dX11_countLive_4 : decode cX11_countLive 4 = .ok (.iload_n 2, 1) := by decide +kernel
theorem dX11_countLive_5 : decode cX11_countLive 5 = .ok (.aload_n 0, 1) := by decide +kernel
theorem dX11_countLive_6 : decode cX11_countLive 6 = .ok (.getfield 34, 3) := by decide +kernel
theorem dX11_countLive_9 : decode cX11_countLive 9 = .ok (.invokevirtual 73, 3) := by decide +kernel
theorem dX11_countLive_12 : decode cX11_countLive 12 = .ok (.if_icmp .ge 29, 3) := by decide +kernel
theorem dX11_countLive_15 : decode cX11_countLive 15 = .ok (.aload_n 0, 1) := by decide +kernel
theorem dX11_countLive_16 : decode cX11_countLive 16 = .ok (.getfield 34, 3) := by decide +kernel
theorem dX11_countLive_19 : decode cX11_countLive 19 = .ok (.iload_n 2, 1) := by decide +kernel
theorem dX11_countLive_20 : decode cX11_countLive 20 = .ok (.invokevirtual 99, 3) := by decide +kernel
theorem dX11_countLive_23 : decode cX11_countLive 23 = .ok (.checkcast 191, 3) := by decide +kernel
theorem dX11_countLive_26 : decode cX11_countLive 26 = .ok (.getfield 197, 3) := by decide +kernel
theorem dX11_countLive_29 : decode cX11_countLive 29 = .ok (.ifCond .eq 6, 3) := by decide +kernel
theorem dX11_countLive_32 : decode cX11_countLive 32 = .ok (.iinc 1 1, 3) := by decide +kernel
theorem dX11_countLive_35 : decode cX11_countLive 35 = .ok (.iinc 2 1, 3) := by decide +kernel
theorem dX11_countLive_38 : decode cX11_countLive 38 = .ok (.goto (-34), 3) := by decide +kernel
theorem dX11_countLive_41 : decode cX11_countLive 41 = .ok (.iload_n 1, 1) := by decide +kernel
theorem dX11_countLive_42 : decode cX11_countLive 42 = .ok (.ireturn, 1) := by decide +kernel
theorem dX11_countLiveOfKind_0 : decode cX11_countLiveOfKind 0 = .ok (.iconst 0, 1) := by decide +kernel
theorem dX11_countLiveOfKind_1 : decode cX11_countLiveOfKind 1 = .ok (.istore_n 2, 1) := by decide +kernel
theorem dX11_countLiveOfKind_2 : decode cX11_countLiveOfKind 2 = .ok (.iconst 0, 1) := by decide +kernel
theorem dX11_countLiveOfKind_3 : decode cX11_countLiveOfKind 3 = .ok (.istore_n 3, 1) := by decide +kernel
theorem dX11_countLiveOfKind_4 : decode cX11_countLiveOfKind 4 = .ok (.iload_n 3, 1) := by decide +kernel
theorem dX11_countLiveOfKind_5 : decode cX11_countLiveOfKind 5 = .ok (.aload_n 0, 1) := by decide +kernel
theorem dX11_countLiveOfKind_6 : decode cX11_countLiveOfKind 6 = .ok (.getfield 34, 3) := by decide +kernel
theorem dX11_countLiveOfKind_9 : decode cX11_countLiveOfKind 9 = .ok (.invokevirtual 73, 3) := by decide +kernel
theorem dX11_countLiveOfKind_12 : decode cX11_countLiveOfKind 12 = .ok (.if_icmp .ge 43, 3) := by decide +kernel
theorem dX11_countLiveOfKind_15 : decode cX11_countLiveOfKind 15 = .ok (.aload_n 0, 1) := by decide +kernel
theorem dX11_countLiveOfKind_16 : decode cX11_countLiveOfKind 16 = .ok (.getfield 34, 3) := by decide +kernel
theorem dX11_countLiveOfKind_19 : decode cX11_countLiveOfKind 19 = .ok (.iload_n 3, 1) := by decide +kernel
theorem dX11_countLiveOfKind_20 : decode cX11_countLiveOfKind 20 = .ok (.invokevirtual 99, 3) := by decide +kernel
theorem dX11_countLiveOfKind_23 : decode cX11_countLiveOfKind 23 = .ok (.checkcast 191, 3) := by decide +kernel
theorem dX11_countLiveOfKind_26 : decode cX11_countLiveOfKind 26 = .ok (.astore 4, 2) := by decide +kernel
theorem dX11_countLiveOfKind_28 : decode cX11_countLiveOfKind 28 = .ok (.aload 4, 2) := by decide +kernel
theorem dX11_countLiveOfKind_30 : decode cX11_countLiveOfKind 30 = .ok (.getfield 197, 3) := by decide +kernel
theorem dX11_countLiveOfKind_33 : decode cX11_countLiveOfKind 33 = .ok (.ifCond .eq 16, 3) := by decide +kernel
theorem dX11_countLiveOfKind_36 : decode cX11_countLiveOfKind 36 = .ok (.aload_n 0, 1) := by decide +kernel
theorem dX11_countLiveOfKind_37 : decode cX11_countLiveOfKind 37 = .ok (.aload 4, 2) := by decide +kernel
theorem dX11_countLiveOfKind_39 : decode cX11_countLiveOfKind 39 = .ok (.invokevirtual 589, 3) := by decide +kernel
theorem dX11_countLiveOfKind_42 : decode cX11_countLiveOfKind 42 = .ok (.iload_n 1, 1) := by decide +kernel
theorem dX11_countLiveOfKind_43 : decode cX11_countLiveOfKind 43 = .ok (.if_icmp .ne 6, 3) := by decide +kernel
theorem dX11_countLiveOfKind_46 : decode cX11_countLiveOfKind 46 = .ok (.iinc 2 1, 3) := by decide +kernel
theorem dX11_countLiveOfKind_49 : decode cX11_countLiveOfKind 49 = .ok (.iinc 3 1, 3) := by decide +kernel
theorem dX11_countLiveOfKind_52 : decode cX11_countLiveOfKind 52 = .ok (.goto (-48), 3) := by decide +kernel
theorem dX11_countLiveOfKind_55 : decode cX11_countLiveOfKind 55 = .ok (.iload_n 2, 1) := by decide +kernel
theorem dX11_countLiveOfKind_56 : decode cX11_countLiveOfKind 56 = .ok (.ireturn, 1) := by decide +kernel
theorem dX11_countInAir_0 : decode cX11_countInAir 0 = .ok (.iconst 0, 1) := by decide +kernel
theorem dX11_countInAir_1 : decode cX11_countInAir 1 = .ok (.istore_n 1, 1) := by decide +kernel
theorem dX11_countInAir_2 : decode cX11_countInAir 2 = .ok (.iconst 0, 1) := by decide +kernel
theorem dX11_countInAir_3 : decode cX11_countInAir 3 = .ok (.istore_n 2, 1) := by decide +kernel
theorem dX11_countInAir_4 : decode cX11_countInAir 4 = .ok (.iload_n 2, 1) := by decide +kernel
theorem dX11_countInAir_5 : decode cX11_countInAir 5 = .ok (.aload_n 0, 1) := by decide +kernel
theorem dX11_countInAir_6 : decode cX11_countInAir 6 = .ok (.getfield 19, 3) := by decide +kernel
theorem dX11_countInAir_9 : decode cX11_countInAir 9 = .ok (.invokevirtual 73, 3) := by decide +kernel
theorem dX11_countInAir_12 : decode cX11_countInAir 12 = .ok (.if_icmp .ge 29, 3) := by decide +kernel
theorem dX11_countInAir_15 : decode cX11_countInAir 15 = .ok (.aload_n 0, 1) := by decide +kernel
theorem dX11_countInAir_16 : decode cX11_countInAir 16 = .ok (.getfield 19, 3) := by decide +kernel
theorem dX11_countInAir_19 : decode cX11_countInAir 19 = .ok (.iload_n 2, 1) := by decide +kernel
theorem dX11_countInAir_20 : decode cX11_countInAir 20 = .ok (.invokevirtual 99, 3) := by decide +kernel
theorem dX11_countInAir_23 : decode cX11_countInAir 23 = .ok (.checkcast 122, 3) := by decide +kernel
theorem dX11_countInAir_26 : decode cX11_countInAir 26 = .ok (.invokevirtual 340, 3) := by decide +kernel
theorem dX11_countInAir_29 : decode cX11_countInAir 29 = .ok (.ifCond .eq 6, 3) := by decide +kernel
theorem dX11_countInAir_32 : decode cX11_countInAir 32 = .ok (.iinc 1 1, 3) := by decide +kernel
theorem dX11_countInAir_35 : decode cX11_countInAir 35 = .ok (.iinc 2 1, 3) := by decide +kernel
theorem dX11_countInAir_38 : decode cX11_countInAir 38 = .ok (.goto (-34), 3) := by decide +kernel
theorem dX11_countInAir_41 : decode cX11_countInAir 41 = .ok (.iload_n 1, 1) := by decide +kernel
theorem dX11_countInAir_42 : decode cX11_countInAir 42 = .ok (.ireturn, 1) := by decide +kernel
theorem dX11_countTalks_0 : decode cX11_countTalks 0 = .ok (.iconst 0, 1) := by decide +kernel
theorem dX11_countTalks_1 : decode cX11_countTalks 1 = .ok (.istore_n 1, 1) := by decide +kernel
theorem dX11_countTalks_2 : decode cX11_countTalks 2 = .ok (.iconst 0, 1) := by decide +kernel
theorem dX11_countTalks_3 : decode cX11_countTalks 3 = .ok (.istore_n 2, 1) := by decide +kernel
theorem dX11_countTalks_4 : decode cX11_countTalks 4 = .ok (.iload_n 2, 1) := by decide +kernel
theorem dX11_countTalks_5 : decode cX11_countTalks 5 = .ok (.aload_n 0, 1) := by decide +kernel
theorem dX11_countTalks_6 : decode cX11_countTalks 6 = .ok (.getfield 19, 3) := by decide +kernel
theorem dX11_countTalks_9 : decode cX11_countTalks 9 = .ok (.invokevirtual 73, 3) := by decide +kernel
theorem dX11_countTalks_12 : decode cX11_countTalks 12 = .ok (.if_icmp .ge 29, 3) := by decide +kernel
theorem dX11_countTalks_15 : decode cX11_countTalks 15 = .ok (.aload_n 0, 1) := by decide +kernel
theorem dX11_countTalks_16 : decode cX11_countTalks 16 = .ok (.getfield 19, 3) := by decide +kernel
theorem dX11_countTalks_19 : decode cX11_countTalks 19 = .ok (.iload_n 2, 1) := by decide +kernel
theorem dX11_countTalks_20 : decode cX11_countTalks 20 = .ok (.invokevirtual 99, 3) := by decide +kernel
theorem dX11_countTalks_23 : decode cX11_countTalks 23 = .ok (.checkcast 122, 3) := by decide +kernel
theorem dX11_countTalks_26 : decode cX11_countTalks 26 = .ok (.invokevirtual 218, 3) := by decide +kernel
theorem dX11_countTalks_29 : decode cX11_countTalks 29 = .ok (.ifCond .eq 6, 3) := by decide +kernel
theorem dX11_countTalks_32 : decode cX11_countTalks 32 = .ok (.iinc 1 1, 3) := by decide +kernel
theorem dX11_countTalks_35 : decode cX11_countTalks 35 = .ok (.iinc 2 1, 3) := by decide +kernel
theorem dX11_countTalks_38 : decode cX11_countTalks 38 = .ok (.goto (-34), 3) := by decide +kernel
theorem dX11_countTalks_41 : decode cX11_countTalks 41 = .ok (.iload_n 1, 1) := by decide +kernel
theorem dX11_countTalks_42 : decode cX11_countTalks 42 = .ok (.ireturn, 1) := by decide +kernel
theorem dX11_countSentTo_0 : decode cX11_countSentTo 0 = .ok (.iconst 0, 1) := by decide +kernel
theorem dX11_countSentTo_1 : decode cX11_countSentTo 1 = .ok (.istore_n 2, 1) := by decide +kernel
theorem dX11_countSentTo_2 : decode cX11_countSentTo 2 = .ok (.iconst 0, 1) := by decide +kernel
theorem dX11_countSentTo_3 : decode cX11_countSentTo 3 = .ok (.istore_n 3, 1) := by decide +kernel
theorem dX11_countSentTo_4 : decode cX11_countSentTo 4 = .ok (.iload_n 3, 1) := by decide +kernel
theorem dX11_countSentTo_5 : decode cX11_countSentTo 5 = .ok (.aload_n 0, 1) := by decide +kernel
theorem dX11_countSentTo_6 : decode cX11_countSentTo 6 = .ok (.getfield 19, 3) := by decide +kernel
theorem dX11_countSentTo_9 : decode cX11_countSentTo 9 = .ok (.invokevirtual 73, 3) := by decide +kernel
theorem dX11_countSentTo_12 : decode cX11_countSentTo 12 = .ok (.if_icmp .ge 45, 3) := by decide +kernel
theorem dX11_countSentTo_15 : decode cX11_countSentTo 15 = .ok (.aload_n 0, 1) := by decide +kernel
theorem dX11_countSentTo_16 : decode cX11_countSentTo 16 = .ok (.getfield 19, 3) := by decide +kernel
theorem dX11_countSentTo_19 : decode cX11_countSentTo 19 = .ok (.iload_n 3, 1) := by decide +kernel
theorem dX11_countSentTo_20 : decode cX11_countSentTo 20 = .ok (.invokevirtual 99, 3) := by decide +kernel
theorem dX11_countSentTo_23 : decode cX11_countSentTo 23 = .ok (.checkcast 122, 3) := by decide +kernel
theorem dX11_countSentTo_26 : decode cX11_countSentTo 26 = .ok (.astore 4, 2) := by decide +kernel
theorem dX11_countSentTo_28 : decode cX11_countSentTo 28 = .ok (.aload 4, 2) := by decide +kernel
theorem dX11_countSentTo_30 : decode cX11_countSentTo 30 = .ok (.invokevirtual 218, 3) := by decide +kernel
theorem dX11_countSentTo_33 : decode cX11_countSentTo 33 = .ok (.ifCond .eq 18, 3) := by decide +kernel
theorem dX11_countSentTo_36 : decode cX11_countSentTo 36 = .ok (.aload 4, 2) := by decide +kernel
theorem dX11_countSentTo_38 : decode cX11_countSentTo 38 = .ok (.invokevirtual 223, 3) := by decide +kernel
theorem dX11_countSentTo_41 : decode cX11_countSentTo 41 = .ok (.aload_n 1, 1) := by decide +kernel
theorem dX11_countSentTo_42 : decode cX11_countSentTo 42 = .ok (.getfield 620, 3) := by decide +kernel
theorem dX11_countSentTo_45 : decode cX11_countSentTo 45 = .ok (.if_icmp .ne 6, 3) := by decide +kernel
theorem dX11_countSentTo_48 : decode cX11_countSentTo 48 = .ok (.iinc 2 1, 3) := by decide +kernel
theorem dX11_countSentTo_51 : decode cX11_countSentTo 51 = .ok (.iinc 3 1, 3) := by decide +kernel
theorem dX11_countSentTo_54 : decode cX11_countSentTo 54 = .ok (.goto (-50), 3) := by decide +kernel
theorem dX11_countSentTo_57 : decode cX11_countSentTo 57 = .ok (.iload_n 2, 1) := by decide +kernel
theorem dX11_countSentTo_58 : decode cX11_countSentTo 58 = .ok (.ireturn, 1) := by decide +kernel
theorem dX11_countWon_0 : decode cX11_countWon 0 = .ok (.iconst 0, 1) := by decide +kernel
theorem dX11_countWon_1 : decode cX11_countWon 1 = .ok (.istore_n 1, 1) := by decide +kernel
theorem dX11_countWon_2 : decode cX11_countWon 2 = .ok (.iconst 0, 1) := by decide +kernel
theorem dX11_countWon_3 : decode cX11_countWon 3 = .ok (.istore_n 2, 1) := by decide +kernel
theorem dX11_countWon_4 : decode cX11_countWon 4 = .ok (.iload_n 2, 1) := by decide +kernel
theorem dX11_countWon_5 : decode cX11_countWon 5 = .ok (.aload_n 0, 1) := by decide +kernel
theorem dX11_countWon_6 : decode cX11_countWon 6 = .ok (.getfield 19, 3) := by decide +kernel
theorem dX11_countWon_9 : decode cX11_countWon 9 = .ok (.invokevirtual 73, 3) := by decide +kernel
theorem dX11_countWon_12 : decode cX11_countWon 12 = .ok (.if_icmp .ge 26, 3) := by decide +kernel
theorem dX11_countWon_15 : decode cX11_countWon 15 = .ok (.iload_n 1, 1) := by decide +kernel
theorem dX11_countWon_16 : decode cX11_countWon 16 = .ok (.aload_n 0, 1) := by decide +kernel
theorem dX11_countWon_17 : decode cX11_countWon 17 = .ok (.getfield 19, 3) := by decide +kernel
theorem dX11_countWon_20 : decode cX11_countWon 20 = .ok (.iload_n 2, 1) := by decide +kernel
theorem dX11_countWon_21 : decode cX11_countWon 21 = .ok (.invokevirtual 99, 3) := by decide +kernel
theorem dX11_countWon_24 : decode cX11_countWon 24 = .ok (.checkcast 122, 3) := by decide +kernel
theorem dX11_countWon_27 : decode cX11_countWon 27 = .ok (.getfield 536, 3) := by decide +kernel
theorem dX11_countWon_30 : decode cX11_countWon 30 = .ok (.iadd, 1) := by decide +kernel
theorem dX11_countWon_31 : decode cX11_countWon 31 = .ok (.istore_n 1, 1) := by decide +kernel
theorem dX11_countWon_32 : decode cX11_countWon 32 = .ok (.iinc 2 1, 3) := by decide +kernel
theorem dX11_countWon_35 : decode cX11_countWon 35 = .ok (.goto (-31), 3) := by decide +kernel
theorem dX11_countWon_38 : decode cX11_countWon 38 = .ok (.iload_n 1, 1) := by decide +kernel
theorem dX11_countWon_39 : decode cX11_countWon 39 = .ok (.ireturn, 1) := by decide +kernel
theorem dX11_flightBehind_0 : decode cX11_flightBehind 0 = .ok (.iconst (-1), 1) := by decide +kernel
theorem dX11_flightBehind_1 : decode cX11_flightBehind 1 = .ok (.istore_n 2, 1) := by decide +kernel
theorem dX11_flightBehind_2 : decode cX11_flightBehind 2 = .ok (.iconst 0, 1) := by decide +kernel
theorem dX11_flightBehind_3 : decode cX11_flightBehind 3 = .ok (.istore_n 3, 1) := by decide +kernel
theorem dX11_flightBehind_4 : decode cX11_flightBehind 4 = .ok (.iconst 0, 1) := by decide +kernel
theorem dX11_flightBehind_5 : decode cX11_flightBehind 5 = .ok (.istore 4, 2) := by decide +kernel
theorem dX11_flightBehind_7 : decode cX11_flightBehind 7 = .ok (.iload 4, 2) := by decide +kernel
theorem dX11_flightBehind_9 : decode cX11_flightBehind 9 = .ok (.aload_n 0, 1) := by decide +kernel
theorem dX11_flightBehind_10 : decode cX11_flightBehind 10 = .ok (.getfield 28, 3) := by decide +kernel
theorem dX11_flightBehind_13 : decode cX11_flightBehind 13 = .ok (.invokevirtual 73, 3) := by decide +kernel
theorem dX11_flightBehind_16 : decode cX11_flightBehind 16 = .ok (.if_icmp .ge 71, 3) := by decide +kernel
theorem dX11_flightBehind_19 : decode cX11_flightBehind 19 = .ok (.aload_n 0, 1) := by decide +kernel
theorem dX11_flightBehind_20 : decode cX11_flightBehind 20 = .ok (.getfield 28, 3) := by decide +kernel
theorem dX11_flightBehind_23 : decode cX11_flightBehind 23 = .ok (.iload 4, 2) := by decide +kernel
theorem dX11_flightBehind_25 : decode cX11_flightBehind 25 = .ok (.invokevirtual 99, 3) := by decide +kernel
theorem dX11_flightBehind_28 : decode cX11_flightBehind 28 = .ok (.checkcast 157, 3) := by decide +kernel
theorem dX11_flightBehind_31 : decode cX11_flightBehind 31 = .ok (.astore 5, 2) := by decide +kernel
theorem dX11_flightBehind_33 : decode cX11_flightBehind 33 = .ok (.aload 5, 2) := by decide +kernel
theorem dX11_flightBehind_35 : decode cX11_flightBehind 35 = .ok (.getfield 166, 3) := by decide +kernel
theorem dX11_flightBehind_38 : decode cX11_flightBehind 38 = .ok (.ifCond .eq 43, 3) := by decide +kernel
theorem dX11_flightBehind_41 : decode cX11_flightBehind 41 = .ok (.aload 5, 2) := by decide +kernel
theorem dX11_flightBehind_43 : decode cX11_flightBehind 43 = .ok (.aload_n 1, 1) := by decide +kernel
theorem dX11_flightBehind_44 : decode cX11_flightBehind 44 = .ok (.aload_n 0, 1) := by decide +kernel
theorem dX11_flightBehind_45 : decode cX11_flightBehind 45 = .ok (.getfield 205, 3) := by decide +kernel
theorem dX11_flightBehind_48 : decode cX11_flightBehind 48 = .ok (.invokevirtual 303, 3) := by decide +kernel
theorem dX11_flightBehind_51 : decode cX11_flightBehind 51 = .ok (.aload_n 1, 1) := by decide +kernel
theorem dX11_flightBehind_52 : decode cX11_flightBehind 52 = .ok (.aload_n 0, 1) := by decide +kernel
theorem dX11_flightBehind_53 : decode cX11_flightBehind 53 = .ok (.getfield 205, 3) := by decide +kernel
theorem dX11_flightBehind_56 : decode cX11_flightBehind 56 = .ok (.invokevirtual 300, 3) := by decide +kernel
theorem dX11_flightBehind_59 : decode cX11_flightBehind 59 = .ok (.invokevirtual 550, 3) := by decide +kernel
theorem dX11_flightBehind_62 : decode cX11_flightBehind 62 = .ok (.istore 6, 2) := by decide +kernel
theorem dX11_flightBehind_64 : decode cX11_flightBehind 64 = .ok (.iload_n 2, 1) := by decide +kernel
theorem dX11_flightBehind_65 : decode cX11_flightBehind 65 = .ok (.iconst (-1), 1) := by decide +kernel
theorem dX11_flightBehind_66 : decode cX11_flightBehind 66 = .ok (.if_icmp .eq 9, 3) := by decide +kernel
theorem dX11_flightBehind_69 : decode cX11_flightBehind 69 = .ok (.iload 6, 2) := by decide +kernel
theorem dX11_flightBehind_71 : decode cX11_flightBehind 71 = .ok (.iload_n 3, 1) := by decide +kernel
theorem dX11_flightBehind_72 : decode cX11_flightBehind 72 = .ok (.if_icmp .ge 9, 3) := by decide +kernel
theorem dX11_flightBehind_75 : decode cX11_flightBehind 75 = .ok (.iload 4, 2) := by decide +kernel
theorem dX11_flightBehind_77 : decode cX11_flightBehind 77 = .ok (.istore_n 2, 1) := by decide +kernel
theorem dX11_flightBehind_78 : decode cX11_flightBehind 78 = .ok (.iload 6, 2) := by decide +kernel
theorem dX11_flightBehind_80 : decode cX11_flightBehind 80 = .ok (.istore_n 3, 1) := by decide +kernel
theorem dX11_flightBehind_81 : decode cX11_flightBehind 81 = .ok (.iinc 4 1, 3) := by decide +kernel
theorem dX11_flightBehind_84 : decode cX11_flightBehind 84 = .ok (.goto (-77), 3) := by decide +kernel
theorem dX11_flightBehind_87 : decode cX11_flightBehind 87 = .ok (.iload_n 2, 1) := by decide +kernel
theorem dX11_flightBehind_88 : decode cX11_flightBehind 88 = .ok (.ireturn, 1) := by decide +kernel
theorem dX11_partSeen_0 : decode cX11_partSeen 0 = .ok (.aload_n 0, 1) := by decide +kernel
theorem dX11_partSeen_1 : decode cX11_partSeen 1 = .ok (.iconst 0, 1) := by decide +kernel
theorem dX11_partSeen_2 : decode cX11_partSeen 2 = .ok (.invokevirtual 597, 3) := by decide +kernel
theorem dX11_partSeen_5 : decode cX11_partSeen 5 = .ok (.istore_n 1, 1) := by decide +kernel
theorem dX11_partSeen_6 : decode cX11_partSeen 6 = .ok (.iload_n 1, 1) := by decide +kernel
theorem dX11_partSeen_7 : decode cX11_partSeen 7 = .ok (.ifCond .ne 5, 3) := by decide +kernel
theorem dX11_partSeen_10 : decode cX11_partSeen 10 = .ok (.dconst 1, 1) := by decide +kernel
theorem dX11_partSeen_11 : decode cX11_partSeen 11 = .ok (.dreturn, 1) := by decide +kernel
theorem dX11_partSeen_12 : decode cX11_partSeen 12 = .ok (.iconst 0, 1) := by decide +kernel
theorem dX11_partSeen_13 : decode cX11_partSeen 13 = .ok (.istore_n 2, 1) := by decide +kernel
theorem dX11_partSeen_14 : decode cX11_partSeen 14 = .ok (.iconst 0, 1) := by decide +kernel
theorem dX11_partSeen_15 : decode cX11_partSeen 15 = .ok (.istore_n 3, 1) := by decide +kernel
theorem dX11_partSeen_16 : decode cX11_partSeen 16 = .ok (.iload_n 3, 1) := by decide +kernel
theorem dX11_partSeen_17 : decode cX11_partSeen 17 = .ok (.aload_n 0, 1) := by decide +kernel
theorem dX11_partSeen_18 : decode cX11_partSeen 18 = .ok (.getfield 28, 3) := by decide +kernel
theorem dX11_partSeen_21 : decode cX11_partSeen 21 = .ok (.invokevirtual 73, 3) := by decide +kernel
theorem dX11_partSeen_24 : decode cX11_partSeen 24 = .ok (.if_icmp .ge 42, 3) := by decide +kernel
theorem dX11_partSeen_27 : decode cX11_partSeen 27 = .ok (.aload_n 0, 1) := by decide +kernel
theorem dX11_partSeen_28 : decode cX11_partSeen 28 = .ok (.getfield 28, 3) := by decide +kernel
theorem dX11_partSeen_31 : decode cX11_partSeen 31 = .ok (.iload_n 3, 1) := by decide +kernel
theorem dX11_partSeen_32 : decode cX11_partSeen 32 = .ok (.invokevirtual 99, 3) := by decide +kernel
theorem dX11_partSeen_35 : decode cX11_partSeen 35 = .ok (.checkcast 157, 3) := by decide +kernel
theorem dX11_partSeen_38 : decode cX11_partSeen 38 = .ok (.astore 4, 2) := by decide +kernel
theorem dX11_partSeen_40 : decode cX11_partSeen 40 = .ok (.aload 4, 2) := by decide +kernel
theorem dX11_partSeen_42 : decode cX11_partSeen 42 = .ok (.getfield 166, 3) := by decide +kernel
theorem dX11_partSeen_45 : decode cX11_partSeen 45 = .ok (.ifCond .eq 15, 3) := by decide +kernel
theorem dX11_partSeen_48 : decode cX11_partSeen 48 = .ok (.aload_n 0, 1) := by decide +kernel
theorem dX11_partSeen_49 : decode cX11_partSeen 49 = .ok (.aload 4, 2) := by decide +kernel
theorem dX11_partSeen_51 : decode cX11_partSeen 51 = .ok (.invokevirtual 623, 3) := by decide +kernel
theorem dX11_partSeen_54 : decode cX11_partSeen 54 = .ok (.ifCond .eq 6, 3) := by decide +kernel
theorem dX11_partSeen_57 : decode cX11_partSeen 57 = .ok (.iinc 2 1, 3) := by decide +kernel
theorem dX11_partSeen_60 : decode cX11_partSeen 60 = .ok (.iinc 3 1, 3) := by decide +kernel
theorem dX11_partSeen_63 : decode cX11_partSeen 63 = .ok (.goto (-47), 3) := by decide +kernel
theorem dX11_partSeen_66 : decode cX11_partSeen 66 = .ok (.iload_n 2, 1) := by decide +kernel
theorem dX11_partSeen_67 : decode cX11_partSeen 67 = .ok (.i2d, 1) := by decide +kernel
theorem dX11_partSeen_68 : decode cX11_partSeen 68 = .ok (.iload_n 1, 1) := by decide +kernel
theorem dX11_partSeen_69 : decode cX11_partSeen 69 = .ok (.i2d, 1) := by decide +kernel
theorem dX11_partSeen_70 : decode cX11_partSeen 70 = .ok (.ddiv, 1) := by decide +kernel
theorem dX11_partSeen_71 : decode cX11_partSeen 71 = .ok (.dreturn, 1) := by decide +kernel
theorem dX11_isOnTable_0 : decode cX11_isOnTable 0 = .ok (.iconst 0, 1) := by decide +kernel
theorem dX11_isOnTable_1 : decode cX11_isOnTable 1 = .ok (.istore_n 2, 1) := by decide +kernel
theorem dX11_isOnTable_2 : decode cX11_isOnTable 2 = .ok (.iload_n 2, 1) := by decide +kernel
theorem dX11_isOnTable_3 : decode cX11_isOnTable 3 = .ok (.aload_n 0, 1) := by decide +kernel
theorem dX11_isOnTable_4 : decode cX11_isOnTable 4 = .ok (.getfield 34, 3) := by decide +kernel
theorem dX11_isOnTable_7 : decode cX11_isOnTable 7 = .ok (.invokevirtual 73, 3) := by decide +kernel
theorem dX11_isOnTable_10 : decode cX11_isOnTable 10 = .ok (.if_icmp .ge 55, 3) := by decide +kernel
theorem dX11_isOnTable_13 : decode cX11_isOnTable 13 = .ok (.aload_n 0, 1) := by decide +kernel
theorem dX11_isOnTable_14 : decode cX11_isOnTable 14 = .ok (.getfield 34, 3) := by decide +kernel
theorem dX11_isOnTable_17 : decode cX11_isOnTable 17 = .ok (.iload_n 2, 1) := by decide +kernel
theorem dX11_isOnTable_18 : decode cX11_isOnTable 18 = .ok (.invokevirtual 99, 3) := by decide +kernel
theorem dX11_isOnTable_21 : decode cX11_isOnTable 21 = .ok (.checkcast 191, 3) := by decide +kernel
theorem dX11_isOnTable_24 : decode cX11_isOnTable 24 = .ok (.astore_n 3, 1) := by decide +kernel
theorem dX11_isOnTable_25 : decode cX11_isOnTable 25 = .ok (.aload_n 3, 1) := by decide +kernel
theorem dX11_isOnTable_26 : decode cX11_isOnTable 26 = .ok (.getfield 197, 3) := by decide +kernel
theorem dX11_isOnTable_29 : decode cX11_isOnTable 29 = .ok (.ifCond .eq 30, 3) := by decide +kernel
theorem dX11_isOnTable_32 : decode cX11_isOnTable 32 = .ok (.aload_n 1, 1) := by decide +kernel
theorem dX11_isOnTable_33 : decode cX11_isOnTable 33 = .ok (.bipush 20, 2) := by decide +kernel
theorem dX11_isOnTable_35 : decode cX11_isOnTable 35 = .ok (.aload_n 3, 1) := by decide +kernel
theorem dX11_isOnTable_36 : decode cX11_isOnTable 36 = .ok (.aload_n 0, 1) := by decide +kernel
theorem dX11_isOnTable_37 : decode cX11_isOnTable 37 = .ok (.getfield 205, 3) := by decide +kernel
theorem dX11_isOnTable_40 : decode cX11_isOnTable 40 = .ok (.invokevirtual 303, 3) := by decide +kernel
theorem dX11_isOnTable_43 : decode cX11_isOnTable 43 = .ok (.aload_n 3, 1) := by decide +kernel
theorem dX11_isOnTable_44 : decode cX11_isOnTable 44 = .ok (.aload_n 0, 1) := by decide +kernel
theorem dX11_isOnTable_45 : decode cX11_isOnTable 45 = .ok (.getfield 205, 3) := by decide +kernel
theorem dX11_isOnTable_48 : decode cX11_isOnTable 48 = .ok (.invokevirtual 300, 3) := by decide +kernel
theorem dX11_isOnTable_51 : decode cX11_isOnTable 51 = .ok (.invokevirtual 559, 3) := by decide +kernel
theorem dX11_isOnTable_54 : decode cX11_isOnTable 54 = .ok (.ifCond .eq 5, 3) := by decide +kernel
theorem dX11_isOnTable_57 : decode cX11_isOnTable 57 = .ok (.iconst 1, 1) := by decide +kernel
theorem dX11_isOnTable_58 : decode cX11_isOnTable 58 = .ok (.ireturn, 1) := by decide +kernel
theorem dX11_isOnTable_59 : decode cX11_isOnTable 59 = .ok (.iinc 2 1, 3) := by decide +kernel
theorem dX11_isOnTable_62 : decode cX11_isOnTable 62 = .ok (.goto (-60), 3) := by decide +kernel
theorem dX11_isOnTable_65 : decode cX11_isOnTable 65 = .ok (.iconst 0, 1) := by decide +kernel
theorem dX11_isOnTable_66 : decode cX11_isOnTable 66 = .ok (.ireturn, 1) := by decide +kernel
theorem dX11_soonestSquadron_0 : decode cX11_soonestSquadron 0 = .ok (.iconst (-1), 1) := by decide +kernel
theorem dX11_soonestSquadron_1 : decode cX11_soonestSquadron 1 = .ok (.istore_n 2, 1) := by decide +kernel
theorem dX11_soonestSquadron_2 : decode cX11_soonestSquadron 2 = .ok (.iconst 0, 1) := by decide +kernel
theorem dX11_soonestSquadron_3 : decode cX11_soonestSquadron 3 = .ok (.istore_n 3, 1) := by decide +kernel
theorem dX11_soonestSquadron_4 : decode cX11_soonestSquadron 4 = .ok (.iconst 0, 1) := by decide +kernel
theorem dX11_soonestSquadron_5 : decode cX11_soonestSquadron 5 = .ok (.istore 4, 2) := by decide +kernel
theorem dX11_soonestSquadron_7 : decode cX11_soonestSquadron 7 = .ok (.iconst 0, 1) := by decide +kernel
theorem dX11_soonestSquadron_8 : decode cX11_soonestSquadron 8 = .ok (.istore 5, 2) := by decide +kernel
theorem dX11_soonestSquadron_10 : decode cX11_soonestSquadron 10 = .ok (.iload 5, 2) := by decide +kernel
theorem dX11_soonestSquadron_12 : decode cX11_soonestSquadron 12 = .ok (.aload_n 0, 1) := by decide +kernel
theorem dX11_soonestSquadron_13 : decode cX11_soonestSquadron 13 = .ok (.getfield 19, 3) := by decide +kernel
theorem dX11_soonestSquadron_16 : decode cX11_soonestSquadron 16 = .ok (.invokevirtual 73, 3) := by decide +kernel
theorem dX11_soonestSquadron_19 : decode cX11_soonestSquadron 19 = .ok (.if_icmp .ge 126, 3) := by decide +kernel
theorem dX11_soonestSquadron_22 : decode cX11_soonestSquadron 22 = .ok (.aload_n 0, 1) := by decide +kernel
theorem dX11_soonestSquadron_23 : decode cX11_soonestSquadron 23 = .ok (.getfield 19, 3) := by decide +kernel
theorem dX11_soonestSquadron_26 : decode cX11_soonestSquadron 26 = .ok (.iload 5, 2) := by decide +kernel
theorem dX11_soonestSquadron_28 : decode cX11_soonestSquadron 28 = .ok (.invokevirtual 99, 3) := by decide +kernel
theorem dX11_soonestSquadron_31 : decode cX11_soonestSquadron 31 = .ok (.checkcast 122, 3) := by decide +kernel
theorem dX11_soonestSquadron_34 : decode cX11_soonestSquadron 34 = .ok (.astore 6, 2) := by decide +kernel
theorem dX11_soonestSquadron_36 : decode cX11_soonestSquadron 36 = .ok (.aload 6, 2) := by decide +kernel
theorem dX11_soonestSquadron_38 : decode cX11_soonestSquadron 38 = .ok (.invokevirtual 193, 3) := by decide +kernel
theorem dX11_soonestSquadron_41 : decode cX11_soonestSquadron 41 = .ok (.ifCond .eq 22, 3) := by decide +kernel
theorem dX11_soonestSquadron_44 : decode cX11_soonestSquadron 44 = .ok (.aload 6, 2) := by decide +kernel
theorem dX11_soonestSquadron_46 : decode cX11_soonestSquadron 46 = .ok (.aload_n 1, 1) := by decide +kernel
theorem dX11_soonestSquadron_47 : decode cX11_soonestSquadron 47 = .ok (.aload_n 0, 1) := by decide +kernel
theorem dX11_soonestSquadron_48 : decode cX11_soonestSquadron 48 = .ok (.getfield 205, 3) := by decide +kernel
theorem dX11_soonestSquadron_51 : decode cX11_soonestSquadron 51 = .ok (.aload 6, 2) := by decide +kernel
theorem dX11_soonestSquadron_53 : decode cX11_soonestSquadron 53 = .ok (.getfield 208, 3) := by decide +kernel
theorem dX11_soonestSquadron_56 : decode cX11_soonestSquadron 56 = .ok (.iadd, 1) := by decide +kernel
theorem dX11_soonestSquadron_57 : decode cX11_soonestSquadron 57 = .ok (.invokevirtual 343, 3) := by decide +kernel
theorem dX11_soonestSquadron_60 : decode cX11_soonestSquadron 60 = .ok (.goto 4, 3) := by decide +kernel
theorem dX11_soonestSquadron_63 : decode cX11_soonestSquadron 63 = .ok (.iconst (-1), 1) := by decide +kernel
theorem dX11_soonestSquadron_64 : decode cX11_soonestSquadron 64 = .ok (.istore 7, 2) := by decide +kernel
theorem dX11_soonestSquadron_66 : decode cX11_soonestSquadron 66 = .ok (.iload 7, 2) := by decide +kernel
theorem dX11_soonestSquadron_68 : decode cX11_soonestSquadron 68 = .ok (.iconst (-1), 1) := by decide +kernel
theorem dX11_soonestSquadron_69 : decode cX11_soonestSquadron 69 = .ok (.if_icmp .eq 70, 3) := by decide +kernel
theorem dX11_soonestSquadron_72 : decode cX11_soonestSquadron 72 = .ok (.iconst 2, 1) := by decide +kernel
theorem dX11_soonestSquadron_73 : decode cX11_soonestSquadron 73 = .ok (.iload 7, 2) := by decide +kernel
theorem dX11_soonestSquadron_75 : decode cX11_soonestSquadron 75 = .ok (.imul, 1) := by decide +kernel
theorem dX11_soonestSquadron_76 : decode cX11_soonestSquadron 76 = .ok (.aload 6, 2) := by decide +kernel
theorem dX11_soonestSquadron_78 : decode cX11_soonestSquadron 78 = .ok (.getfield 626, 3) := by decide +kernel
theorem dX11_soonestSquadron_81 : decode cX11_soonestSquadron 81 = .ok (.iconst 3, 1) := by decide +kernel
theorem dX11_soonestSquadron_82 : decode cX11_soonestSquadron 82 = .ok (.isub, 1) := by decide +kernel
theorem dX11_soonestSquadron_83 : decode cX11_soonestSquadron 83 = .ok (.if_icmp .le 6, 3) := by decide +kernel
theorem dX11_soonestSquadron_86 : decode cX11_soonestSquadron 86 = .ok (.goto 53, 3) := by decide +kernel
theorem dX11_soonestSquadron_89 : decode cX11_soonestSquadron 89 = .ok (.aload 6, 2) := by decide +kernel
theorem dX11_soonestSquadron_91 : decode cX11_soonestSquadron 91 = .ok (.getfield 208, 3) := by decide +kernel
theorem dX11_soonestSquadron_94 : decode cX11_soonestSquadron 94 = .ok (.iload 7, 2) := by decide +kernel
theorem dX11_soonestSquadron_96 : decode cX11_soonestSquadron 96 = .ok (.iadd, 1) := by decide +kernel
theorem dX11_soonestSquadron_97 : decode cX11_soonestSquadron 97 = .ok (.istore 8, 2) := by decide +kernel
theorem dX11_soonestSquadron_99 : decode cX11_soonestSquadron 99 = .ok (.iload_n 2, 1) := by decide +kernel
theorem dX11_soonestSquadron_100 : decode cX11_soonestSquadron 100 = .ok (.iconst (-1), 1) := by decide +kernel
theorem dX11_soonestSquadron_101 : decode cX11_soonestSquadron 101 = .ok (.if_icmp .eq 25, 3) := by decide +kernel
theorem dX11_soonestSquadron_104 : decode cX11_soonestSquadron 104 = .ok (.iload 8, 2) := by decide +kernel
theorem dX11_soonestSquadron_106 : decode cX11_soonestSquadron 106 = .ok (.iload_n 3, 1) := by decide +kernel
theorem dX11_soonestSquadron_107 : decode cX11_soonestSquadron 107 = .ok (.if_icmp .lt 19, 3) := by decide +kernel
theorem dX11_soonestSquadron_110 : decode cX11_soonestSquadron 110 = .ok (.iload 8, 2) := by decide +kernel
theorem dX11_soonestSquadron_112 : decode cX11_soonestSquadron 112 = .ok (.iload_n 3, 1) := by decide +kernel
theorem dX11_soonestSquadron_113 : decode cX11_soonestSquadron 113 = .ok (.if_icmp .ne 26, 3) := by decide +kernel
theorem dX11_soonestSquadron_116 : decode cX11_soonestSquadron 116 = .ok (.aload 6, 2) := by decide +kernel
theorem dX11_soonestSquadron_118 : decode cX11_soonestSquadron 118 = .ok (.getfield 247, 3) := by decide +kernel
theorem dX11_soonestSquadron_121 : decode cX11_soonestSquadron 121 = .ok (.iload 4, 2) := by decide +kernel
theorem dX11_soonestSquadron_123 : decode cX11_soonestSquadron 123 = .ok (.if_icmp .le 16, 3) := by decide +kernel
theorem dX11_soonestSquadron_126 : decode cX11_soonestSquadron 126 = .ok (.iload 5, 2) := by decide +kernel
theorem dX11_soonestSquadron_128 : decode cX11_soonestSquadron 128 = .ok (.istore_n 2, 1) := by decide +kernel
theorem dX11_soonestSquadron_129 : decode cX11_soonestSquadron 129 = .ok (.iload 8, 2) := by decide +kernel
theorem dX11_soonestSquadron_131 : decode cX11_soonestSquadron 131 = .ok (.istore_n 3, 1) := by decide +kernel
theorem dX11_soonestSquadron_132 : decode cX11_soonestSquadron 132 = .ok (.aload 6, 2) := by decide +kernel
theorem dX11_soonestSquadron_134 : decode cX11_soonestSquadron 134 = .ok (.getfield 247, 3) := by decide +kernel
theorem dX11_soonestSquadron_137 : decode cX11_soonestSquadron 137 = .ok (.istore 4, 2) := by decide +kernel
theorem dX11_soonestSquadron_139 : decode cX11_soonestSquadron 139 = .ok (.iinc 5 1, 3) := by decide +kernel
theorem dX11_soonestSquadron_142 : decode cX11_soonestSquadron 142 = .ok (.goto (-132), 3) := by decide +kernel
theorem dX11_soonestSquadron_145 : decode cX11_soonestSquadron 145 = .ok (.iload_n 2, 1) := by decide +kernel
theorem dX11_soonestSquadron_146 : decode cX11_soonestSquadron 146 = .ok (.ireturn, 1) := by decide +kernel
theorem dX11_areSquadronsSound_0 : decode cX11_areSquadronsSound 0 = .ok (.aload_n 0, 1) := by decide +kernel
theorem dX11_areSquadronsSound_1 : decode cX11_areSquadronsSound 1 = .ok (.invokevirtual 200, 3) := by decide +kernel
theorem dX11_areSquadronsSound_4 : decode cX11_areSquadronsSound 4 = .ok (.iconst 3, 1) := by decide +kernel
theorem dX11_areSquadronsSound_5 : decode cX11_areSquadronsSound 5 = .ok (.if_icmp .le 5, 3) := by decide +kernel
theorem dX11_areSquadronsSound_8 : decode cX11_areSquadronsSound 8 = .ok (.iconst 0, 1) := by decide +kernel
theorem dX11_areSquadronsSound_9 : decode cX11_areSquadronsSound 9 = .ok (.ireturn, 1) := by decide +kernel
theorem dX11_areSquadronsSound_10 : decode cX11_areSquadronsSound 10 = .ok (.iconst 0, 1) := by decide +kernel
theorem dX11_areSquadronsSound_11 : decode cX11_areSquadronsSound 11 = .ok (.istore_n 1, 1) := by decide +kernel
theorem dX11_areSquadronsSound_12 : decode cX11_areSquadronsSound 12 = .ok (.iload_n 1, 1) := by decide +kernel
theorem dX11_areSquadronsSound_13 : decode cX11_areSquadronsSound 13 = .ok (.aload_n 0, 1) := by decide +kernel
theorem dX11_areSquadronsSound_14 : decode cX11_areSquadronsSound 14 = .ok (.getfield 19, 3) := by decide +kernel
theorem dX11_areSquadronsSound_17 : decode cX11_areSquadronsSound 17 = .ok (.invokevirtual 73, 3) := by decide +kernel
theorem dX11_areSquadronsSound_20 : decode cX11_areSquadronsSound 20 = .ok (.if_icmp .ge 44, 3) := by decide +kernel
theorem dX11_areSquadronsSound_23 : decode cX11_areSquadronsSound 23 = .ok (.aload_n 0, 1) := by decide +kernel
theorem dX11_areSquadronsSound_24 : decode cX11_areSquadronsSound 24 = .ok (.getfield 19, 3) := by decide +kernel
theorem dX11_areSquadronsSound_27 : decode cX11_areSquadronsSound 27 = .ok (.iload_n 1, 1) := by decide +kernel
theorem dX11_areSquadronsSound_28 : decode cX11_areSquadronsSound 28 = .ok (.invokevirtual 99, 3) := by decide +kernel
theorem dX11_areSquadronsSound_31 : decode cX11_areSquadronsSound 31 = .ok (.checkcast 122, 3) := by decide +kernel
theorem dX11_areSquadronsSound_34 : decode cX11_areSquadronsSound 34 = .ok (.astore_n 2, 1) := by decide +kernel
theorem dX11_areSquadronsSound_35 : decode cX11_areSquadronsSound 35 = .ok (.aload_n 2, 1) := by decide +kernel
theorem dX11_areSquadronsSound_36 : decode cX11_areSquadronsSound 36 = .ok (.invokevirtual 340, 3) := by decide +kernel
theorem dX11_areSquadronsSound_39 : decode cX11_areSquadronsSound 39 = .ok (.ifCond .eq 19, 3) := by decide +kernel
theorem dX11_areSquadronsSound_42 : decode cX11_areSquadronsSound 42 = .ok (.aload_n 2, 1) := by decide +kernel
theorem dX11_areSquadronsSound_43 : decode cX11_areSquadronsSound 43 = .ok (.getfield 247, 3) := by decide +kernel
theorem dX11_areSquadronsSound_46 : decode cX11_areSquadronsSound 46 = .ok (.ifCond .le 10, 3) := by decide +kernel
theorem dX11_areSquadronsSound_49 : decode cX11_areSquadronsSound 49 = .ok (.aload_n 2, 1) := by decide +kernel
theorem dX11_areSquadronsSound_50 : decode cX11_areSquadronsSound 50 = .ok (.getfield 500, 3) := by decide +kernel
theorem dX11_areSquadronsSound_53 : decode cX11_areSquadronsSound 53 = .ok (.ifCond .gt 5, 3) := by decide +kernel
theorem dX11_areSquadronsSound_56 : decode cX11_areSquadronsSound 56 = .ok (.iconst 0, 1) := by decide +kernel
theorem dX11_areSquadronsSound_57 : decode cX11_areSquadronsSound 57 = .ok (.ireturn, 1) := by decide +kernel
theorem dX11_areSquadronsSound_58 : decode cX11_areSquadronsSound 58 = .ok (.iinc 1 1, 3) := by decide +kernel
theorem dX11_areSquadronsSound_61 : decode cX11_areSquadronsSound 61 = .ok (.goto (-49), 3) := by decide +kernel
theorem dX11_areSquadronsSound_64 : decode cX11_areSquadronsSound 64 = .ok (.iconst 1, 1) := by decide +kernel
theorem dX11_areSquadronsSound_65 : decode cX11_areSquadronsSound 65 = .ok (.ireturn, 1) := by decide +kernel
theorem dX11_arePlotsSound_0 : decode cX11_arePlotsSound 0 = .ok (.iconst 0, 1) := by decide +kernel
theorem dX11_arePlotsSound_1 : decode cX11_arePlotsSound 1 = .ok (.istore_n 1, 1) := by decide +kernel
theorem dX11_arePlotsSound_2 : decode cX11_arePlotsSound 2 = .ok (.iconst 0, 1) := by decide +kernel
theorem dX11_arePlotsSound_3 : decode cX11_arePlotsSound 3 = .ok (.istore_n 2, 1) := by decide +kernel
theorem dX11_arePlotsSound_4 : decode cX11_arePlotsSound 4 = .ok (.iconst 0, 1) := by decide +kernel
theorem dX11_arePlotsSound_5 : decode cX11_arePlotsSound 5 = .ok (.istore_n 3, 1) := by decide +kernel
theorem dX11_arePlotsSound_6 : decode cX11_arePlotsSound 6 = .ok (.iconst 0, 1) := by decide +kernel
theorem dX11_arePlotsSound_7 : decode cX11_arePlotsSound 7 = .ok (.istore 4, 2) := by decide +kernel
theorem dX11_arePlotsSound_9 : decode cX11_arePlotsSound 9 = .ok (.iload 4, 2) := by decide +kernel
theorem dX11_arePlotsSound_11 : decode cX11_arePlotsSound 11 = .ok (.aload_n 0, 1) := by decide +kernel
theorem dX11_arePlotsSound_12 : decode cX11_arePlotsSound 12 = .ok (.getfield 10, 3) := by decide +kernel
theorem dX11_arePlotsSound_15 : decode cX11_arePlotsSound 15 = .ok (.invokevirtual 73, 3) := by decide +kernel
theorem dX11_arePlotsSound_18 : decode cX11_arePlotsSound 18 = .ok (.if_icmp .ge 63, 3) := by decide +kernel
theorem dX11_arePlotsSound_21 : decode cX11_arePlotsSound 21 = .ok (.iload_n 1, 1) := by decide +kernel
theorem dX11_arePlotsSound_22 : decode cX11_arePlotsSound 22 = .ok (.aload_n 0, 1) := by decide +kernel
theorem dX11_arePlotsSound_23 : decode cX11_arePlotsSound 23 = .ok (.getfield 10, 3) := by decide +kernel
theorem dX11_arePlotsSound_26 : decode cX11_arePlotsSound 26 = .ok (.iload 4, 2) := by decide +kernel
theorem dX11_arePlotsSound_28 : decode cX11_arePlotsSound 28 = .ok (.invokevirtual 99, 3) := by decide +kernel
theorem dX11_arePlotsSound_31 : decode cX11_arePlotsSound 31 = .ok (.checkcast 82, 3) := by decide +kernel
theorem dX11_arePlotsSound_34 : decode cX11_arePlotsSound 34 = .ok (.getfield 453, 3) := by decide +kernel
theorem dX11_arePlotsSound_37 : decode cX11_arePlotsSound 37 = .ok (.iadd, 1) := by decide +kernel
theorem dX11_arePlotsSound_38 : decode cX11_arePlotsSound 38 = .ok (.istore_n 1, 1) := by decide +kernel
theorem dX11_arePlotsSound_39 : decode cX11_arePlotsSound 39 = .ok (.iload_n 2, 1) := by decide +kernel
theorem dX11_arePlotsSound_40 : decode cX11_arePlotsSound 40 = .ok (.aload_n 0, 1) := by decide +kernel
theorem dX11_arePlotsSound_41 : decode cX11_arePlotsSound 41 = .ok (.getfield 10, 3) := by decide +kernel
theorem dX11_arePlotsSound_44 : decode cX11_arePlotsSound 44 = .ok (.iload 4, 2) := by decide +kernel
theorem dX11_arePlotsSound_46 : decode cX11_arePlotsSound 46 = .ok (.invokevirtual 99, 3) := by decide +kernel
theorem dX11_arePlotsSound_49 : decode cX11_arePlotsSound 49 = .ok (.checkcast 82, 3) := by decide +kernel
theorem dX11_arePlotsSound_52 : decode cX11_arePlotsSound 52 = .ok (.getfield 472, 3) := by decide +kernel
theorem dX11_arePlotsSound_55 : decode cX11_arePlotsSound 55 = .ok (.iadd, 1) := by decide +kernel
theorem dX11_arePlotsSound_56 : decode cX11_arePlotsSound 56 = .ok (.istore_n 2, 1) := by decide +kernel
theorem dX11_arePlotsSound_57 : decode cX11_arePlotsSound 57 = .ok (.iload_n 3, 1) := by decide +kernel
theorem dX11_arePlotsSound_58 : decode cX11_arePlotsSound 58 = .ok (.aload_n 0, 1) := by decide +kernel
theorem dX11_arePlotsSound_59 : decode cX11_arePlotsSound 59 = .ok (.getfield 10, 3) := by decide +kernel
theorem dX11_arePlotsSound_62 : decode cX11_arePlotsSound 62 = .ok (.iload 4, 2) := by decide +kernel
theorem dX11_arePlotsSound_64 : decode cX11_arePlotsSound 64 = .ok (.invokevirtual 99, 3) := by decide +kernel
theorem dX11_arePlotsSound_67 : decode cX11_arePlotsSound 67 = .ok (.checkcast 82, 3) := by decide +kernel
theorem dX11_arePlotsSound_70 : decode cX11_arePlotsSound 70 = .ok (.getfield 469, 3) := by decide +kernel
theorem dX11_arePlotsSound_73 : decode cX11_arePlotsSound 73 = .ok (.iadd, 1) := by decide +kernel
theorem dX11_arePlotsSound_74 : decode cX11_arePlotsSound 74 = .ok (.istore_n 3, 1) := by decide +kernel
theorem dX11_arePlotsSound_75 : decode cX11_arePlotsSound 75 = .ok (.iinc 4 1, 3) := by decide +kernel
theorem dX11_arePlotsSound_78 : decode cX11_arePlotsSound 78 = .ok (.goto (-69), 3) := by decide +kernel
theorem dX11_arePlotsSound_81 : decode cX11_arePlotsSound 81 = .ok (.iconst 0, 1) := by decide +kernel
theorem dX11_arePlotsSound_82 : decode cX11_arePlotsSound 82 = .ok (.istore 4, 2) := by decide +kernel
theorem dX11_arePlotsSound_84 : decode cX11_arePlotsSound 84 = .ok (.iconst 0, 1) := by decide +kernel
theorem dX11_arePlotsSound_85 : decode cX11_arePlotsSound 85 = .ok (.istore 5, 2) := by decide +kernel
theorem dX11_arePlotsSound_87 : decode cX11_arePlotsSound 87 = .ok (.iload 5, 2) := by decide +kernel
theorem dX11_arePlotsSound_89 : decode cX11_arePlotsSound 89 = .ok (.aload_n 0, 1) := by decide +kernel
theorem dX11_arePlotsSound_90 : decode cX11_arePlotsSound 90 = .ok (.getfield 34, 3) := by decide +kernel
theorem dX11_arePlotsSound_93 : decode cX11_arePlotsSound 93 = .ok (.invokevirtual 73, 3) := by decide +kernel
theorem dX11_arePlotsSound_96 : decode cX11_arePlotsSound 96 = .ok (.if_icmp .ge 29, 3) := by decide +kernel
theorem dX11_arePlotsSound_99 : decode cX11_arePlotsSound 99 = .ok (.iload 4, 2) := by decide +kernel
theorem dX11_arePlotsSound_101 : decode cX11_arePlotsSound 101 = .ok (.aload_n 0, 1) := by decide +kernel
theorem dX11_arePlotsSound_102 : decode cX11_arePlotsSound 102 = .ok (.getfield 34, 3) := by decide +kernel
theorem dX11_arePlotsSound_105 : decode cX11_arePlotsSound 105 = .ok (.iload 5, 2) := by decide +kernel
theorem dX11_arePlotsSound_107 : decode cX11_arePlotsSound 107 = .ok (.invokevirtual 99, 3) := by decide +kernel
theorem dX11_arePlotsSound_110 : decode cX11_arePlotsSound 110 = .ok (.checkcast 191, 3) := by decide +kernel
theorem dX11_arePlotsSound_113 : decode cX11_arePlotsSound 113 = .ok (.getfield 582, 3) := by decide +kernel
theorem dX11_arePlotsSound_116 : decode cX11_arePlotsSound 116 = .ok (.iadd, 1) := by decide +kernel
theorem dX11_arePlotsSound_117 : decode cX11_arePlotsSound 117 = .ok (.istore 4, 2) := by decide +kernel
theorem dX11_arePlotsSound_119 : decode cX11_arePlotsSound 119 = .ok (.iinc 5 1, 3) := by decide +kernel
theorem dX11_arePlotsSound_122 : decode cX11_arePlotsSound 122 = .ok (.goto (-35), 3) := by decide +kernel
theorem dX11_arePlotsSound_125 : decode cX11_arePlotsSound 125 = .ok (.iload_n 1, 1) := by decide +kernel
theorem dX11_arePlotsSound_126 : decode cX11_arePlotsSound 126 = .ok (.iload_n 2, 1) := by decide +kernel
theorem dX11_arePlotsSound_127 : decode cX11_arePlotsSound 127 = .ok (.iload_n 3, 1) := by decide +kernel
theorem dX11_arePlotsSound_128 : decode cX11_arePlotsSound 128 = .ok (.iadd, 1) := by decide +kernel
theorem dX11_arePlotsSound_129 : decode cX11_arePlotsSound 129 = .ok (.aload_n 0, 1) := by decide +kernel
theorem dX11_arePlotsSound_130 : decode cX11_arePlotsSound 130 = .ok (.getfield 438, 3) := by decide +kernel
theorem dX11_arePlotsSound_133 : decode cX11_arePlotsSound 133 = .ok (.iadd, 1) := by decide +kernel
theorem dX11_arePlotsSound_134 : decode cX11_arePlotsSound 134 = .ok (.if_icmp .ne 21, 3) := by decide +kernel
theorem dX11_arePlotsSound_137 : decode cX11_arePlotsSound 137 = .ok (.iload_n 2, 1) := by decide +kernel
theorem dX11_arePlotsSound_138 : decode cX11_arePlotsSound 138 = .ok (.iload 4, 2) := by decide +kernel
theorem dX11_arePlotsSound_140 : decode cX11_arePlotsSound 140 = .ok (.aload_n 0, 1) := by decide +kernel
theorem dX11_arePlotsSound_141 : decode cX11_arePlotsSound 141 = .ok (.getfield 50, 3) := by decide +kernel
theorem dX11_arePlotsSound_144 : decode cX11_arePlotsSound 144 = .ok (.getfield 485, 3) := by decide +kernel
theorem dX11_arePlotsSound_147 : decode cX11_arePlotsSound 147 = .ok (.iadd, 1) := by decide +kernel
theorem dX11_arePlotsSound_148 : decode cX11_arePlotsSound 148 = .ok (.if_icmp .ne 7, 3) := by decide +kernel
theorem dX11_arePlotsSound_151 : decode cX11_arePlotsSound 151 = .ok (.iconst 1, 1) := by decide +kernel
theorem dX11_arePlotsSound_152 : decode cX11_arePlotsSound 152 = .ok (.goto 4, 3) := by decide +kernel
theorem dX11_arePlotsSound_155 : decode cX11_arePlotsSound 155 = .ok (.iconst 0, 1) := by decide +kernel
theorem dX11_arePlotsSound_156 : decode cX11_arePlotsSound 156 = .ok (.ireturn, 1) := by decide +kernel
theorem dX11_arePlacesSound_0 : decode cX11_arePlacesSound 0 = .ok (.iconst 0, 1) := by decide +kernel
theorem dX11_arePlacesSound_1 : decode cX11_arePlacesSound 1 = .ok (.istore_n 1, 1) := by decide +kernel
theorem dX11_arePlacesSound_2 : decode cX11_arePlacesSound 2 = .ok (.iload_n 1, 1) := by decide +kernel
theorem dX11_arePlacesSound_3 : decode cX11_arePlacesSound 3 = .ok (.aload_n 0, 1) := by decide +kernel
theorem dX11_arePlacesSound_4 : decode cX11_arePlacesSound 4 = .ok (.getfield 28, 3) := by decide +kernel
theorem dX11_arePlacesSound_7 : decode cX11_arePlacesSound 7 = .ok (.invokevirtual 73, 3) := by decide +kernel
theorem dX11_arePlacesSound_10 : decode cX11_arePlacesSound 10 = .ok (.if_icmp .ge 28, 3) := by decide +kernel
theorem dX11_arePlacesSound_13 : decode cX11_arePlacesSound 13 = .ok (.aload_n 0, 1) := by decide +kernel
theorem dX11_arePlacesSound_14 : decode cX11_arePlacesSound 14 = .ok (.getfield 28, 3) := by decide +kernel
theorem dX11_arePlacesSound_17 : decode cX11_arePlacesSound 17 = .ok (.iload_n 1, 1) := by decide +kernel
theorem dX11_arePlacesSound_18 : decode cX11_arePlacesSound 18 = .ok (.invokevirtual 99, 3) := by decide +kernel
theorem dX11_arePlacesSound_21 : decode cX11_arePlacesSound 21 = .ok (.checkcast 157, 3) := by decide +kernel
theorem dX11_arePlacesSound_24 : decode cX11_arePlacesSound 24 = .ok (.invokevirtual 629, 3) := by decide +kernel
theorem dX11_arePlacesSound_27 : decode cX11_arePlacesSound 27 = .ok (.ifCond .ne 5, 3) := by decide +kernel
theorem dX11_arePlacesSound_30 : decode cX11_arePlacesSound 30 = .ok (.iconst 0, 1) := by decide +kernel
theorem dX11_arePlacesSound_31 : decode cX11_arePlacesSound 31 = .ok (.ireturn, 1) := by decide +kernel
theorem dX11_arePlacesSound_32 : decode cX11_arePlacesSound 32 = .ok (.iinc 1 1, 3) := by decide +kernel
theorem dX11_arePlacesSound_35 : decode cX11_arePlacesSound 35 = .ok (.goto (-33), 3) := by decide +kernel
theorem dX11_arePlacesSound_38 : decode cX11_arePlacesSound 38 = .ok (.iconst 0, 1) := by decide +kernel
theorem dX11_arePlacesSound_39 : decode cX11_arePlacesSound 39 = .ok (.istore_n 1, 1) := by decide +kernel
theorem dX11_arePlacesSound_40 : decode cX11_arePlacesSound 40 = .ok (.iload_n 1, 1) := by decide +kernel
theorem dX11_arePlacesSound_41 : decode cX11_arePlacesSound 41 = .ok (.aload_n 0, 1) := by decide +kernel
theorem dX11_arePlacesSound_42 : decode cX11_arePlacesSound 42 = .ok (.getfield 34, 3) := by decide +kernel
theorem dX11_arePlacesSound_45 : decode cX11_arePlacesSound 45 = .ok (.invokevirtual 73, 3) := by decide +kernel
theorem dX11_arePlacesSound_48 : decode cX11_arePlacesSound 48 = .ok (.if_icmp .ge 28, 3) := by decide +kernel
theorem dX11_arePlacesSound_51 : decode cX11_arePlacesSound 51 = .ok (.aload_n 0, 1) := by decide +kernel
theorem dX11_arePlacesSound_52 : decode cX11_arePlacesSound 52 = .ok (.getfield 34, 3) := by decide +kernel
theorem dX11_arePlacesSound_55 : decode cX11_arePlacesSound 55 = .ok (.iload_n 1, 1) := by decide +kernel
theorem dX11_arePlacesSound_56 : decode cX11_arePlacesSound 56 = .ok (.invokevirtual 99, 3) := by decide +kernel
theorem dX11_arePlacesSound_59 : decode cX11_arePlacesSound 59 = .ok (.checkcast 191, 3) := by decide +kernel
theorem dX11_arePlacesSound_62 : decode cX11_arePlacesSound 62 = .ok (.invokevirtual 632, 3) := by decide +kernel
theorem dX11_arePlacesSound_65 : decode cX11_arePlacesSound 65 = .ok (.ifCond .ne 5, 3) := by decide +kernel
theorem dX11_arePlacesSound_68 : decode cX11_arePlacesSound 68 = .ok (.iconst 0, 1) := by decide +kernel
theorem dX11_arePlacesSound_69 : decode cX11_arePlacesSound 69 = .ok (.ireturn, 1) := by decide +kernel
theorem dX11_arePlacesSound_70 : decode cX11_arePlacesSound 70 = .ok (.iinc 1 1, 3) := by decide +kernel
theorem dX11_arePlacesSound_73 : decode cX11_arePlacesSound 73 = .ok (.goto (-33), 3) := by decide +kernel
theorem dX11_arePlacesSound_76 : decode cX11_arePlacesSound 76 = .ok (.iconst 0, 1) := by decide +kernel
theorem dX11_arePlacesSound_77 : decode cX11_arePlacesSound 77 = .ok (.istore_n 1, 1) := by decide +kernel
theorem dX11_arePlacesSound_78 : decode cX11_arePlacesSound 78 = .ok (.iload_n 1, 1) := by decide +kernel
theorem dX11_arePlacesSound_79 : decode cX11_arePlacesSound 79 = .ok (.aload_n 0, 1) := by decide +kernel
theorem dX11_arePlacesSound_80 : decode cX11_arePlacesSound 80 = .ok (.getfield 19, 3) := by decide +kernel
theorem dX11_arePlacesSound_83 : decode cX11_arePlacesSound 83 = .ok (.invokevirtual 73, 3) := by decide +kernel
theorem dX11_arePlacesSound_86 : decode cX11_arePlacesSound 86 = .ok (.if_icmp .ge 28, 3) := by decide +kernel
theorem dX11_arePlacesSound_89 : decode cX11_arePlacesSound 89 = .ok (.aload_n 0, 1) := by decide +kernel
theorem dX11_arePlacesSound_90 : decode cX11_arePlacesSound 90 = .ok (.getfield 19, 3) := by decide +kernel
theorem dX11_arePlacesSound_93 : decode cX11_arePlacesSound 93 = .ok (.iload_n 1, 1) := by decide +kernel
theorem dX11_arePlacesSound_94 : decode cX11_arePlacesSound 94 = .ok (.invokevirtual 99, 3) := by decide +kernel
theorem dX11_arePlacesSound_97 : decode cX11_arePlacesSound 97 = .ok (.checkcast 122, 3) := by decide +kernel
theorem dX11_arePlacesSound_100 : decode cX11_arePlacesSound 100 = .ok (.invokevirtual 633, 3) := by decide +kernel
theorem dX11_arePlacesSound_103 : decode cX11_arePlacesSound 103 = .ok (.ifCond .ne 5, 3) := by decide +kernel
theorem dX11_arePlacesSound_106 : decode cX11_arePlacesSound 106 = .ok (.iconst 0, 1) := by decide +kernel
theorem dX11_arePlacesSound_107 : decode cX11_arePlacesSound 107 = .ok (.ireturn, 1) := by decide +kernel
theorem dX11_arePlacesSound_108 : decode cX11_arePlacesSound 108 = .ok (.iinc 1 1, 3) := by decide +kernel
theorem dX11_arePlacesSound_111 : decode cX11_arePlacesSound 111 = .ok (.goto (-33), 3) := by decide +kernel
theorem dX11_arePlacesSound_114 : decode cX11_arePlacesSound 114 = .ok (.iconst 1, 1) := by decide +kernel
theorem dX11_arePlacesSound_115 : decode cX11_arePlacesSound 115 = .ok (.ireturn, 1) := by decide +kernel
theorem dX11_isIn_0 : decode cX11_isIn 0 = .ok (.iload_n 0, 1) := by decide +kernel
theorem dX11_isIn_1 : decode cX11_isIn 1 = .ok (.iload_n 1, 1) := by decide +kernel
theorem dX11_isIn_2 : decode cX11_isIn 2 = .ok (.if_icmp .lt 12, 3) := by decide +kernel
theorem dX11_isIn_5 : decode cX11_isIn 5 = .ok (.iload_n 0, 1) := by decide +kernel
theorem dX11_isIn_6 : decode cX11_isIn 6 = .ok (.iload_n 2, 1) := by decide +kernel
theorem dX11_isIn_7 : decode cX11_isIn 7 = .ok (.if_icmp .gt 7, 3) := by decide +kernel
theorem dX11_isIn_10 : decode cX11_isIn 10 = .ok (.iconst 1, 1) := by decide +kernel
theorem dX11_isIn_11 : decode cX11_isIn 11 = .ok (.goto 4, 3) := by decide +kernel
theorem dX11_isIn_14 : decode cX11_isIn 14 = .ok (.iconst 0, 1) := by decide +kernel
theorem dX11_isIn_15 : decode cX11_isIn 15 = .ok (.ireturn, 1) := by decide +kernel
theorem dX11_isPlace_0 : decode cX11_isPlace 0 = .ok (.iload_n 0, 1) := by decide +kernel
theorem dX11_isPlace_1 : decode cX11_isPlace 1 = .ok (.iconst 0, 1) := by decide +kernel
theorem dX11_isPlace_2 : decode cX11_isPlace 2 = .ok (.sipush 199, 3) := by decide +kernel
theorem dX11_isPlace_5 : decode cX11_isPlace 5 = .ok (.invokestatic 62, 3) := by decide +kernel
theorem dX11_isPlace_8 : decode cX11_isPlace 8 = .ok (.ifCond .eq 18, 3) := by decide +kernel
theorem dX11_isPlace_11 : decode cX11_isPlace 11 = .ok (.iload_n 1, 1) := by decide +kernel
theorem dX11_isPlace_12 : decode cX11_isPlace 12 = .ok (.iconst 0, 1) := by decide +kernel
theorem dX11_isPlace_13 : decode cX11_isPlace 13 = .ok (.sipush 199, 3) := by decide +kernel
theorem dX11_isPlace_16 : decode cX11_isPlace 16 = .ok (.invokestatic 62, 3) := by decide +kernel
theorem dX11_isPlace_19 : decode cX11_isPlace 19 = .ok (.ifCond .eq 7, 3) := by decide +kernel
theorem dX11_isPlace_22 : decode cX11_isPlace 22 = .ok (.iconst 1, 1) := by decide +kernel
theorem dX11_isPlace_23 : decode cX11_isPlace 23 = .ok (.goto 4, 3) := by decide +kernel
theorem dX11_isPlace_26 : decode cX11_isPlace 26 = .ok (.iconst 0, 1) := by decide +kernel
theorem dX11_isPlace_27 : decode cX11_isPlace 27 = .ok (.ireturn, 1) := by decide +kernel
theorem dX11_isCourse_0 : decode cX11_isCourse 0 = .ok (.iload_n 0, 1) := by decide +kernel
theorem dX11_isCourse_1 : decode cX11_isCourse 1 = .ok (.bipush (-9), 2) := by decide +kernel
theorem dX11_isCourse_3 : decode cX11_isCourse 3 = .ok (.bipush 9, 2) := by decide +kernel
theorem dX11_isCourse_5 : decode cX11_isCourse 5 = .ok (.invokestatic 62, 3) := by decide +kernel
theorem dX11_isCourse_8 : decode cX11_isCourse 8 = .ok (.ifCond .eq 18, 3) := by decide +kernel
theorem dX11_isCourse_11 : decode cX11_isCourse 11 = .ok (.iload_n 1, 1) := by decide +kernel
theorem dX11_isCourse_12 : decode cX11_isCourse 12 = .ok (.bipush (-9), 2) := by decide +kernel
theorem dX11_isCourse_14 : decode cX11_isCourse 14 = .ok (.bipush 9, 2) := by decide +kernel
theorem dX11_isCourse_16 : decode cX11_isCourse 16 = .ok (.invokestatic 62, 3) := by decide +kernel
theorem dX11_isCourse_19 : decode cX11_isCourse 19 = .ok (.ifCond .eq 7, 3) := by decide +kernel
theorem dX11_isCourse_22 : decode cX11_isCourse 22 = .ok (.iconst 1, 1) := by decide +kernel
theorem dX11_isCourse_23 : decode cX11_isCourse 23 = .ok (.goto 4, 3) := by decide +kernel
theorem dX11_isCourse_26 : decode cX11_isCourse 26 = .ok (.iconst 0, 1) := by decide +kernel
theorem dX11_isCourse_27 : decode cX11_isCourse 27 = .ok (.ireturn, 1) := by decide +kernel
theorem dX11_isNumber_0 : decode cX11_isNumber 0 = .ok (.iload_n 0, 1) := by decide +kernel
theorem dX11_isNumber_1 : decode cX11_isNumber 1 = .ok (.ifCond .lt 12, 3) := by decide +kernel
theorem dX11_isNumber_4 : decode cX11_isNumber 4 = .ok (.iload_n 0, 1) := by decide +kernel
theorem dX11_isNumber_5 : decode cX11_isNumber 5 = .ok (.iload_n 1, 1) := by decide +kernel
theorem dX11_isNumber_6 : decode cX11_isNumber 6 = .ok (.if_icmp .ge 7, 3) := by decide +kernel
theorem dX11_isNumber_9 : decode cX11_isNumber 9 = .ok (.iconst 1, 1) := by decide +kernel
theorem dX11_isNumber_10 : decode cX11_isNumber 10 = .ok (.goto 4, 3) := by decide +kernel
theorem dX11_isNumber_13 : decode cX11_isNumber 13 = .ok (.iconst 0, 1) := by decide +kernel
theorem dX11_isNumber_14 : decode cX11_isNumber 14 = .ok (.ireturn, 1) := by decide +kernel
theorem dX11_hold_0 : decode cX11_hold 0 = .ok (.iload_n 0, 1) := by decide +kernel
theorem dX11_hold_1 : decode cX11_hold 1 = .ok (.ifCond .ge 5, 3) := by decide +kernel
theorem dX11_hold_4 : decode cX11_hold 4 = .ok (.iconst 0, 1) := by decide +kernel
theorem dX11_hold_5 : decode cX11_hold 5 = .ok (.ireturn, 1) := by decide +kernel
theorem dX11_hold_6 : decode cX11_hold 6 = .ok (.iload_n 0, 1) := by decide +kernel
theorem dX11_hold_7 : decode cX11_hold 7 = .ok (.sipush 199, 3) := by decide +kernel
theorem dX11_hold_10 : decode cX11_hold 10 = .ok (.if_icmp .le 9, 3) := by decide +kernel
theorem dX11_hold_13 : decode cX11_hold 13 = .ok (.sipush 199, 3) := by decide +kernel
theorem dX11_hold_16 : decode cX11_hold 16 = .ok (.goto 4, 3) := by decide +kernel
theorem dX11_hold_19 : decode cX11_hold 19 = .ok (.iload_n 0, 1) := by decide +kernel
theorem dX11_hold_20 : decode cX11_hold 20 = .ok (.ireturn, 1) := by decide +kernel
theorem dX11_rootAbove_0 : decode cX11_rootAbove 0 = .ok (.iconst 1, 1) := by decide +kernel
theorem dX11_rootAbove_1 : decode cX11_rootAbove 1 = .ok (.istore_n 1, 1) := by decide +kernel
theorem dX11_rootAbove_2 : decode cX11_rootAbove 2 = .ok (.iload_n 1, 1) := by decide +kernel
theorem dX11_rootAbove_3 : decode cX11_rootAbove 3 = .ok (.sipush 400, 3) := by decide +kernel
theorem dX11_rootAbove_6 : decode cX11_rootAbove 6 = .ok (.if_icmp .ge 16, 3) := by decide +kernel
theorem dX11_rootAbove_9 : decode cX11_rootAbove 9 = .ok (.iload_n 1, 1) := by decide +kernel
theorem dX11_rootAbove_10 : decode cX11_rootAbove 10 = .ok (.iload_n 1, 1) := by decide +kernel
theorem dX11_rootAbove_11 : decode cX11_rootAbove 11 = .ok (.imul, 1) := by decide +kernel
theorem dX11_rootAbove_12 : decode cX11_rootAbove 12 = .ok (.iload_n 0, 1) := by decide +kernel
theorem dX11_rootAbove_13 : decode cX11_rootAbove 13 = .ok (.if_icmp .ge 9, 3) := by decide +kernel
theorem dX11_rootAbove_16 : decode cX11_rootAbove 16 = .ok (.iinc 1 1, 3) := by decide +kernel
theorem dX11_rootAbove_19 : decode cX11_rootAbove 19 = .ok (.goto (-17), 3) := by decide +kernel
theorem dX11_rootAbove_22 : decode cX11_rootAbove 22 = .ok (.iload_n 1, 1) := by decide +kernel
theorem dX11_rootAbove_23 : decode cX11_rootAbove 23 = .ok (.ireturn, 1) := by decide +kernel
