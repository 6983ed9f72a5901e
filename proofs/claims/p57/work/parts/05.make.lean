theorem dJxa1e45_init_da8c8_0 : decode cJxa1e45_init_da8c8 0 = .ok (.aload_n 0, 1) := by decide +kernel
theorem dJxa1e45_init_da8c8_1 : decode cJxa1e45_init_da8c8 1 = .ok (.invokespecial 1, 3) := by decide +kernel
theorem dJxa1e45_init_da8c8_4 : decode cJxa1e45_init_da8c8 4 = .ok (.return_, 1) := by decide +kernel
theorem dJxc12de_init_da8c8_0 : decode cJxc12de_init_da8c8 0 = .ok (.aload_n 0, 1) := by decide +kernel
theorem dJxc12de_init_da8c8_1 : decode cJxc12de_init_da8c8 1 = .ok (.invokespecial 1, 3) := by decide +kernel
theorem dJxc12de_init_da8c8_4 : decode cJxc12de_init_da8c8 4 = .ok (.aload_n 0, 1) := by decide +kernel
theorem dJxc12de_init_da8c8_5 : decode cJxc12de_init_da8c8 5 = .ok (.iconst 0, 1) := by decide +kernel
theorem dJxc12de_init_da8c8_6 : decode cJxc12de_init_da8c8 6 = .ok (.putfield 7, 3) := by decide +kernel
theorem dJxc12de_init_da8c8_9 : decode cJxc12de_init_da8c8 9 = .ok (.return_, 1) := by decide +kernel
theorem dJx4a65c_init_da8c8_0 : decode cJx4a65c_init_da8c8 0 = .ok (.aload_n 0, 1) := by decide +kernel
theorem dJx4a65c_init_da8c8_1 : decode cJx4a65c_init_da8c8 1 = .ok (.invokespecial 1, 3) := by decide +kernel
theorem dJx4a65c_init_da8c8_4 : decode cJx4a65c_init_da8c8 4 = .ok (.aload_n 0, 1) := by decide +kernel
theorem dJx4a65c_init_da8c8_5 : decode cJx4a65c_init_da8c8 5 = .ok (.getstatic 39, 3) := by decide +kernel
theorem dJx4a65c_init_da8c8_8 : decode cJx4a65c_init_da8c8 8 = .ok (.putfield 9, 3) := by decide +kernel
theorem dJx4a65c_init_da8c8_11 : decode cJx4a65c_init_da8c8 11 = .ok (.return_, 1) := by decide +kernel
theorem dJ7_fill_53178_0 : decode cJ7_fill_53178 0 = .ok (.iconst 0, 1) := by decide +kernel
theorem dJ7_fill_53178_1 : decode cJ7_fill_53178 1 = .ok (.istore_n 2, 1) := by decide +kernel
theorem dJ7_fill_53178_2 : decode cJ7_fill_53178 2 = .ok (.aload_n 0, 1) := by decide +kernel
theorem dJ7_fill_53178_3 : decode cJ7_fill_53178 3 = .ok (.arraylength, 1) := by decide +kernel
theorem dJ7_fill_53178_4 : decode cJ7_fill_53178 4 = .ok (.istore_n 3, 1) := by decide +kernel
theorem dJ7_fill_53178_5 : decode cJ7_fill_53178 5 = .ok (.iload_n 2, 1) := by decide +kernel
theorem dJ7_fill_53178_6 : decode cJ7_fill_53178 6 = .ok (.iload_n 3, 1) := by decide +kernel
theorem dJ7_fill_53178_7 : decode cJ7_fill_53178 7 = .ok (.if_icmp .ge 13, 3) := by decide +kernel
theorem dJ7_fill_53178_20 : decode cJ7_fill_53178 20 = .ok (.return_, 1) := by decide +kernel
theorem dJ7_fill_53178_10 : decode cJ7_fill_53178 10 = .ok (.aload_n 0, 1) := by decide +kernel
theorem dJ7_fill_53178_11 : decode cJ7_fill_53178 11 = .ok (.iload_n 2, 1) := by decide +kernel
theorem dJ7_fill_53178_12 : decode cJ7_fill_53178 12 = .ok (.iload_n 1, 1) := by decide +kernel
theorem dJ7_fill_53178_13 : decode cJ7_fill_53178 13 = .ok (.iastore, 1) := by decide +kernel
theorem dJ7_fill_53178_14 : decode cJ7_fill_53178 14 = .ok (.iinc 2 1, 3) := by decide +kernel
theorem dJ7_fill_53178_17 : decode cJ7_fill_53178 17 = .ok (.goto (-12), 3) := by decide +kernel
theorem dX4_init_0 : decode cX4_init 0 = .ok (.aload_n 0, 1) := by decide +kernel
theorem dX4_init_1 : decode cX4_init 1 = .ok (.invokespecial 3, 3) := by decide +kernel
theorem dX4_init_4 : decode cX4_init 4 = .ok (.aload_n 0, 1) := by decide +kernel
theorem dX4_init_5 : decode cX4_init 5 = .ok (.iconst 0, 1) := by decide +kernel
theorem dX4_init_6 : decode cX4_init 6 = .ok (.putfield 9, 3) := by decide +kernel
theorem dX4_init_9 : decode cX4_init 9 = .ok (.aload_n 0, 1) := by decide +kernel
theorem dX4_init_10 : decode cX4_init 10 = .ok (.bipush 20, 2) := by decide +kernel
theorem dX4_init_12 : decode cX4_init 12 = .ok (.newarray .int, 2) := by decide +kernel
theorem dX4_init_14 : decode cX4_init 14 = .ok (.putfield 15, 3) := by decide +kernel
theorem dX4_init_17 : decode cX4_init 17 = .ok (.aload_n 0, 1) := by decide +kernel
theorem dX4_init_18 : decode cX4_init 18 = .ok (.bipush 20, 2) := by decide +kernel
theorem dX4_init_20 : decode cX4_init 20 = .ok (.newarray .int, 2) := by decide +kernel
theorem dX4_init_22 : decode cX4_init 22 = .ok (.putfield 19, 3) := by decide +kernel
theorem dX4_init_25 : decode cX4_init 25 = .ok (.aload_n 0, 1) := by decide +kernel
theorem dX4_init_26 : decode cX4_init 26 = .ok (.bipush 20, 2) := by decide +kernel
theorem dX4_init_28 : decode cX4_init 28 = .ok (.newarray .int, 2) := by decide +kernel
theorem dX4_init_30 : decode cX4_init 30 = .ok (.putfield 22, 3) := by decide +kernel
theorem dX4_init_33 : decode cX4_init 33 = .ok (.aload_n 0, 1) := by decide +kernel
theorem dX4_init_34 : decode cX4_init 34 = .ok (.bipush 20, 2) := by decide +kernel
theorem dX4_init_36 : decode cX4_init 36 = .ok (.newarray .int, 2) := by decide +kernel
theorem dX4_init_38 : decode cX4_init 38 = .ok (.putfield 25, 3) := by decide +kernel
theorem dX4_init_41 : decode cX4_init 41 = .ok (.aload_n 0, 1) := by decide +kernel
theorem dX4_init_42 : decode cX4_init 42 = .ok (.bipush 20, 2) := by decide +kernel
theorem dX4_init_44 : decode cX4_init 44 = .ok (.newarray .int, 2) := by decide +kernel
theorem dX4_init_46 : decode cX4_init 46 = .ok (.putfield 28, 3) := by decide +kernel
theorem dX4_init_49 : decode cX4_init 49 = .ok (.aload_n 0, 1) := by decide +kernel
theorem dX4_init_50 : decode cX4_init 50 = .ok (.bipush 20, 2) := by decide +kernel
theorem dX4_init_52 : decode cX4_init 52 = .ok (.newarray .int, 2) := by decide +kernel
theorem dX4_init_54 : decode cX4_init 54 = .ok (.putfield 31, 3) := by decide +kernel
theorem dX4_init_57 : decode cX4_init 57 = .ok (.aload_n 0, 1) := by decide +kernel
theorem dX4_init_58 : decode cX4_init 58 = .ok (.bipush 20, 2) := by decide +kernel
theorem dX4_init_60 : decode cX4_init 60 = .ok (.newarray .int, 2) := by decide +kernel
theorem dX4_init_62 : decode cX4_init 62 = .ok (.putfield 34, 3) := by decide +kernel
theorem dX4_init_65 : decode cX4_init 65 = .ok (.aload_n 0, 1) := by decide +kernel
theorem dX4_init_66 : decode cX4_init 66 = .ok (.sipush 200, 3) := by decide +kernel
theorem dX4_init_69 : decode cX4_init 69 = .ok (.newarray .int, 2) := by decide +kernel
theorem dX4_init_71 : decode cX4_init 71 = .ok (.putfield 37, 3) := by decide +kernel
theorem dX4_init_74 : decode cX4_init 74 = .ok (.aload_n 0, 1) := by decide +kernel
theorem dX4_init_75 : decode cX4_init 75 = .ok (.sipush 400, 3) := by decide +kernel
theorem dX4_init_78 : decode cX4_init 78 = .ok (.newarray .int, 2) := by decide +kernel
theorem dX4_init_80 : decode cX4_init 80 = .ok (.putfield 40, 3) := by decide +kernel
theorem dX4_init_83 : decode cX4_init 83 = .ok (.aload_n 0, 1) := by decide +kernel
theorem dX4_init_84 : decode cX4_init 84 = .ok (.getfield 22, 3) := by decide +kernel
theorem dX4_init_87 : decode cX4_init 87 = .ok (.iconst (-1), 1) := by decide +kernel
theorem dX4_init_88 : decode cX4_init 88 = .ok (.invokestatic 43, 3) := by decide +kernel
theorem dX4_init_91 : decode cX4_init 91 = .ok (.aload_n 0, 1) := by decide +kernel
theorem dX4_init_92 : decode cX4_init 92 = .ok (.getfield 37, 3) := by decide +kernel
theorem dX4_init_95 : decode cX4_init 95 = .ok (.bipush (-60), 2) := by decide +kernel
theorem dX4_init_97 : decode cX4_init 97 = .ok (.invokestatic 43, 3) := by decide +kernel
theorem dX4_init_100 : decode cX4_init 100 = .ok (.aload_n 0, 1) := by decide +kernel
theorem dX4_init_101 : decode cX4_init 101 = .ok (.getfield 40, 3) := by decide +kernel
theorem dX4_init_104 : decode cX4_init 104 = .ok (.iconst (-1), 1) := by decide +kernel
theorem dX4_init_105 : decode cX4_init 105 = .ok (.invokestatic 43, 3) := by decide +kernel
theorem dX4_init_108 : decode cX4_init 108 = .ok (.return_, 1) := by decide +kernel
theorem dX1_init_0 : decode cX1_init 0 = .ok (.aload_n 0, 1) := by decide +kernel
theorem dX1_init_1 : decode cX1_init 1 = .ok (.invokespecial 3, 3) := by decide +kernel
theorem dX1_init_4 : decode cX1_init 4 = .ok (.aload_n 0, 1) := by decide +kernel
theorem dX1_init_5 : decode cX1_init 5 = .ok (.bipush 8, 2) := by decide +kernel
theorem dX1_init_7 : decode cX1_init 7 = .ok (.newarray .int, 2) := by decide +kernel
theorem dX1_init_9 : decode cX1_init 9 = .ok (.putfield 9, 3) := by decide +kernel
theorem dX1_init_12 : decode cX1_init 12 = .ok (.aload_n 0, 1) := by decide +kernel
theorem dX1_init_13 : decode cX1_init 13 = .ok (.bipush 8, 2) := by decide +kernel
theorem dX1_init_15 : decode cX1_init 15 = .ok (.newarray .int, 2) := by decide +kernel
theorem dX1_init_17 : decode cX1_init 17 = .ok (.putfield 15, 3) := by decide +kernel
theorem dX1_init_20 : decode cX1_init 20 = .ok (.aload_n 0, 1) := by decide +kernel
theorem dX1_init_21 : decode cX1_init 21 = .ok (.bipush 8, 2) := by decide +kernel
theorem dX1_init_23 : decode cX1_init 23 = .ok (.newarray .int, 2) := by decide +kernel
theorem dX1_init_25 : decode cX1_init 25 = .ok (.putfield 18, 3) := by decide +kernel
theorem dX1_init_28 : decode cX1_init 28 = .ok (.aload_n 0, 1) := by decide +kernel
theorem dX1_init_29 : decode cX1_init 29 = .ok (.bipush 8, 2) := by decide +kernel
theorem dX1_init_31 : decode cX1_init 31 = .ok (.newarray .int, 2) := by decide +kernel
theorem dX1_init_33 : decode cX1_init 33 = .ok (.putfield 21, 3) := by decide +kernel
theorem dX1_init_36 : decode cX1_init 36 = .ok (.aload_n 0, 1) := by decide +kernel
theorem dX1_init_37 : decode cX1_init 37 = .ok (.bipush 8, 2) := by decide +kernel
theorem dX1_init_39 : decode cX1_init 39 = .ok (.newarray .char, 2) := by decide +kernel
theorem dX1_init_41 : decode cX1_init 41 = .ok (.putfield 24, 3) := by decide +kernel
theorem dX1_init_44 : decode cX1_init 44 = .ok (.iconst 0, 1) := by decide +kernel
theorem dX1_init_45 : decode cX1_init 45 = .ok (.istore_n 1, 1) := by decide +kernel
theorem dX1_init_46 : decode cX1_init 46 = .ok (.iload_n 1, 1) := by decide +kernel
theorem dX1_init_47 : decode cX1_init 47 = .ok (.bipush 8, 2) := by decide +kernel
theorem dX1_init_49 : decode cX1_init 49 = .ok (.if_icmp .ge 40, 3) := by decide +kernel
theorem dX1_init_52 : decode cX1_init 52 = .ok (.aload_n 0, 1) := by decide +kernel
theorem dX1_init_53 : decode cX1_init 53 = .ok (.getfield 15, 3) := by decide +kernel
theorem dX1_init_56 : decode cX1_init 56 = .ok (.iload_n 1, 1) := by decide +kernel
theorem dX1_init_57 : decode cX1_init 57 = .ok (.iconst 2, 1) := by decide +kernel
theorem dX1_init_58 : decode cX1_init 58 = .ok (.iastore, 1) := by decide +kernel
theorem dX1_init_59 : decode cX1_init 59 = .ok (.aload_n 0, 1) := by decide +kernel
theorem dX1_init_60 : decode cX1_init 60 = .ok (.getfield 18, 3) := by decide +kernel
theorem dX1_init_63 : decode cX1_init 63 = .ok (.iload_n 1, 1) := by decide +kernel
theorem dX1_init_64 : decode cX1_init 64 = .ok (.bipush 50, 2) := by decide +kernel
theorem dX1_init_66 : decode cX1_init 66 = .ok (.iastore, 1) := by decide +kernel
theorem dX1_init_67 : decode cX1_init 67 = .ok (.aload_n 0, 1) := by decide +kernel
theorem dX1_init_68 : decode cX1_init 68 = .ok (.getfield 21, 3) := by decide +kernel
theorem dX1_init_71 : decode cX1_init 71 = .ok (.iload_n 1, 1) := by decide +kernel
theorem dX1_init_72 : decode cX1_init 72 = .ok (.bipush 35, 2) := by decide +kernel
theorem dX1_init_74 : decode cX1_init 74 = .ok (.iastore, 1) := by decide +kernel
theorem dX1_init_75 : decode cX1_init 75 = .ok (.aload_n 0, 1) := by decide +kernel
theorem dX1_init_76 : decode cX1_init 76 = .ok (.getfield 24, 3) := by decide +kernel
theorem dX1_init_79 : decode cX1_init 79 = .ok (.iload_n 1, 1) := by decide +kernel
theorem dX1_init_80 : decode cX1_init 80 = .ok (.bipush 115, 2) := by decide +kernel
theorem dX1_init_82 : decode cX1_init 82 = .ok (.castore, 1) := by decide +kernel
theorem dX1_init_83 : decode cX1_init 83 = .ok (.iinc 1 1, 3) := by decide +kernel
theorem dX1_init_86 : decode cX1_init 86 = .ok (.goto (-40), 3) := by decide +kernel
theorem dX1_init_89 : decode cX1_init 89 = .ok (.return_, 1) := by decide +kernel
theorem dX8_init_0 : decode cX8_init 0 = .ok (.aload_n 0, 1) := by decide +kernel
theorem dX8_init_1 : decode cX8_init 1 = .ok (.invokespecial 1, 3) := by decide +kernel
theorem dX8_init_4 : decode cX8_init 4 = .ok (.aload_n 0, 1) := by decide +kernel
theorem dX8_init_5 : decode cX8_init 5 = .ok (.new 7, 3) := by decide +kernel
theorem dX8_init_8 : decode cX8_init 8 = .ok (.dup, 1) := by decide +kernel
theorem dX8_init_9 : decode cX8_init 9 = .ok (.invokespecial 9, 3) := by decide +kernel
theorem dX8_init_12 : decode cX8_init 12 = .ok (.putfield 10, 3) := by decide +kernel
theorem dX8_init_15 : decode cX8_init 15 = .ok (.aload_n 0, 1) := by decide +kernel
theorem dX8_init_16 : decode cX8_init 16 = .ok (.new 16, 3) := by decide +kernel
theorem dX8_init_19 : decode cX8_init 19 = .ok (.dup, 1) := by decide +kernel
theorem dX8_init_20 : decode cX8_init 20 = .ok (.invokespecial 18, 3) := by decide +kernel
theorem dX8_init_23 : decode cX8_init 23 = .ok (.putfield 19, 3) := by decide +kernel
theorem dX8_init_26 : decode cX8_init 26 = .ok (.aload_n 0, 1) := by decide +kernel
theorem dX8_init_27 : decode cX8_init 27 = .ok (.new 23, 3) := by decide +kernel
theorem dX8_init_30 : decode cX8_init 30 = .ok (.dup, 1) := by decide +kernel
theorem dX8_init_31 : decode cX8_init 31 = .ok (.invokespecial 25, 3) := by decide +kernel
theorem dX8_init_34 : decode cX8_init 34 = .ok (.putfield 26, 3) := by decide +kernel
theorem dX8_init_37 : decode cX8_init 37 = .ok (.aload_n 0, 1) := by decide +kernel
theorem dX8_init_38 : decode cX8_init 38 = .ok (.bipush 20, 2) := by decide +kernel
theorem dX8_init_40 : decode cX8_init 40 = .ok (.newarray .int, 2) := by decide +kernel
theorem dX8_init_42 : decode cX8_init 42 = .ok (.putfield 30, 3) := by decide +kernel
theorem dX8_init_45 : decode cX8_init 45 = .ok (.aload_n 0, 1) := by decide +kernel
theorem dX8_init_46 : decode cX8_init 46 = .ok (.iconst 0, 1) := by decide +kernel
theorem dX8_init_47 : decode cX8_init 47 = .ok (.putfield 34, 3) := by decide +kernel
theorem dX8_init_50 : decode cX8_init 50 = .ok (.return_, 1) := by decide +kernel
theorem dX15_init_0 : decode cX15_init 0 = .ok (.aload_n 0, 1) := by decide +kernel
theorem dX15_init_1 : decode cX15_init 1 = .ok (.invokespecial 1, 3) := by decide +kernel
theorem dX15_init_4 : decode cX15_init 4 = .ok (.aload_n 0, 1) := by decide +kernel
theorem dX15_init_5 : decode cX15_init 5 = .ok (.new 7, 3) := by decide +kernel
theorem dX15_init_8 : decode cX15_init 8 = .ok (.dup, 1) := by decide +kernel
theorem dX15_init_9 : decode cX15_init 9 = .ok (.invokespecial 9, 3) := by decide +kernel
theorem dX15_init_12 : decode cX15_init 12 = .ok (.putfield 10, 3) := by decide +kernel
theorem dX15_init_15 : decode cX15_init 15 = .ok (.aload_n 0, 1) := by decide +kernel
theorem dX15_init_16 : decode cX15_init 16 = .ok (.bipush 8, 2) := by decide +kernel
theorem dX15_init_18 : decode cX15_init 18 = .ok (.newarray .int, 2) := by decide +kernel
theorem dX15_init_20 : decode cX15_init 20 = .ok (.putfield 16, 3) := by decide +kernel
theorem dX15_init_23 : decode cX15_init 23 = .ok (.aload_n 0, 1) := by decide +kernel
theorem dX15_init_24 : decode cX15_init 24 = .ok (.bipush 8, 2) := by decide +kernel
theorem dX15_init_26 : decode cX15_init 26 = .ok (.newarray .int, 2) := by decide +kernel
theorem dX15_init_28 : decode cX15_init 28 = .ok (.putfield 20, 3) := by decide +kernel
theorem dX15_init_31 : decode cX15_init 31 = .ok (.aload_n 0, 1) := by decide +kernel
theorem dX15_init_32 : decode cX15_init 32 = .ok (.bipush 8, 2) := by decide +kernel
theorem dX15_init_34 : decode cX15_init 34 = .ok (.newarray .int, 2) := by decide +kernel
theorem dX15_init_36 : decode cX15_init 36 = .ok (.putfield 23, 3) := by decide +kernel
theorem dX15_init_39 : decode cX15_init 39 = .ok (.aload_n 0, 1) := by decide +kernel
theorem dX15_init_40 : decode cX15_init 40 = .ok (.bipush 8, 2) := by decide +kernel
theorem dX15_init_42 : decode cX15_init 42 = .ok (.newarray .int, 2) := by decide +kernel
theorem dX15_init_44 : decode cX15_init 44 = .ok (.putfield 26, 3) := by decide +kernel
theorem dX15_init_47 : decode cX15_init 47 = .ok (.aload_n 0, 1) := by decide +kernel
theorem dX15_init_48 : decode cX15_init 48 = .ok (.bipush 8, 2) := by decide +kernel
theorem dX15_init_50 : decode cX15_init 50 = .ok (.newarray .char, 2) := by decide +kernel
theorem dX15_init_52 : decode cX15_init 52 = .ok (.putfield 29, 3) := by decide +kernel
theorem dX15_init_55 : decode cX15_init 55 = .ok (.aload_n 0, 1) := by decide +kernel
theorem dX15_init_56 : decode cX15_init 56 = .ok (.new 7, 3) := by decide +kernel
theorem dX15_init_59 : decode cX15_init 59 = .ok (.dup, 1) := by decide +kernel
theorem dX15_init_60 : decode cX15_init 60 = .ok (.invokespecial 9, 3) := by decide +kernel
theorem dX15_init_63 : decode cX15_init 63 = .ok (.putfield 33, 3) := by decide +kernel
theorem dX15_init_66 : decode cX15_init 66 = .ok (.iconst 0, 1) := by decide +kernel
theorem dX15_init_67 : decode cX15_init 67 = .ok (.istore_n 1, 1) := by decide +kernel
theorem dX15_init_68 : decode cX15_init 68 = .ok (.iload_n 1, 1) := by decide +kernel
theorem dX15_init_69 : decode cX15_init 69 = .ok (.bipush 8, 2) := by decide +kernel
theorem dX15_init_71 : decode cX15_init 71 = .ok (.if_icmp .ge 40, 3) := by decide +kernel
theorem dX15_init_74 : decode cX15_init 74 = .ok (.aload_n 0, 1) := by decide +kernel
theorem dX15_init_75 : decode cX15_init 75 = .ok (.getfield 20, 3) := by decide +kernel
theorem dX15_init_78 : decode cX15_init 78 = .ok (.iload_n 1, 1) := by decide +kernel
theorem dX15_init_79 : decode cX15_init 79 = .ok (.iconst 2, 1) := by decide +kernel
theorem dX15_init_80 : decode cX15_init 80 = .ok (.iastore, 1) := by decide +kernel
theorem dX15_init_81 : decode cX15_init 81 = .ok (.aload_n 0, 1) := by decide +kernel
theorem dX15_init_82 : decode cX15_init 82 = .ok (.getfield 23, 3) := by decide +kernel
theorem dX15_init_85 : decode cX15_init 85 = .ok (.iload_n 1, 1) := by decide +kernel
theorem dX15_init_86 : decode cX15_init 86 = .ok (.bipush 50, 2) := by decide +kernel
theorem dX15_init_88 : decode cX15_init 88 = .ok (.iastore, 1) := by decide +kernel
theorem dX15_init_89 : decode cX15_init 89 = .ok (.aload_n 0, 1) := by decide +kernel
theorem dX15_init_90 : decode cX15_init 90 = .ok (.getfield 26, 3) := by decide +kernel
theorem dX15_init_93 : decode cX15_init 93 = .ok (.iload_n 1, 1) := by decide +kernel
theorem dX15_init_94 : decode cX15_init 94 = .ok (.bipush 35, 2) := by decide +kernel
theorem dX15_init_96 : decode cX15_init 96 = .ok (.iastore, 1) := by decide +kernel
theorem dX15_init_97 : decode cX15_init 97 = .ok (.aload_n 0, 1) := by decide +kernel
theorem dX15_init_98 : decode cX15_init 98 = .ok (.getfield 29, 3) := by decide +kernel
theorem dX15_init_101 : decode cX15_init 101 = .ok (.iload_n 1, 1) := by decide +kernel
theorem dX15_init_102 : decode cX15_init 102 = .ok (.bipush 115, 2) := by decide +kernel
theorem dX15_init_104 : decode cX15_init 104 = .ok (.castore, 1) := by decide +kernel
theorem dX15_init_105 : decode cX15_init 105 = .ok (.iinc 1 1, 3) := by decide +kernel
theorem dX15_init_108 : decode cX15_init 108 = .ok (.goto (-40), 3) := by decide +kernel
theorem dX15_init_111 : decode cX15_init 111 = .ok (.return_, 1) := by decide +kernel
abbrev wzJ7_fill_53178 : List Cond := .code yJ7_fill_53178 cJ7_fill_53178 4 none :: zx_G
abbrev wzJx4a65c_init_da8c8 : List Cond := .code yJx4a65c_init_da8c8 cJx4a65c_init_da8c8 1 none :: zx_G
abbrev wzJxa1e45_init_da8c8 : List Cond := .code yJxa1e45_init_da8c8 cJxa1e45_init_da8c8 1 none :: zx_G
abbrev wzJxc12de_init_da8c8 : List Cond := .code yJxc12de_init_da8c8 cJxc12de_init_da8c8 1 none :: zx_G
abbrev wzX15_init : List Cond := .code yX15_init cX15_init 2 none :: zx_G
abbrev wzX1_init : List Cond := .code yX1_init cX1_init 2 none :: zx_G
abbrev wzX4_init : List Cond := .code yX4_init cX4_init 1 none :: zx_G
abbrev wzX8_init : List Cond := .code yX8_init cX8_init 1 none :: zx_G
theorem mm_72 : (.initialized RX4 : Cond) ∈ zx_G := zx_wi 72 (by decide +kernel) (by decide +kernel)
theorem mm_73 : (.initialized RJ7 : Cond) ∈ zx_G := zx_wi 73 (by decide +kernel) (by decide +kernel)
theorem mm_74 : (.initialized RX1 : Cond) ∈ zx_G := zx_wi 74 (by decide +kernel) (by decide +kernel)
theorem mm_75 : (.initialized RJxa1e45 : Cond) ∈ zx_G := zx_wi 75 (by decide +kernel) (by decide +kernel)
theorem mm_76 : (.initialized RJxc12de : Cond) ∈ zx_G := zx_wi 76 (by decide +kernel) (by decide +kernel)
theorem mm_77 : (.initialized RJx4a65c : Cond) ∈ zx_G := zx_wi 77 (by decide +kernel) (by decide +kernel)
theorem mm_118 : (.methodLink RX8 1 objectInit : Cond) ∈ zx_G := zx_wi 118 (by decide +kernel) (by decide +kernel)
theorem mm_119 : (.instanceMethod objectInit : Cond) ∈ zx_G := zx_wi 119 (by decide +kernel) (by decide +kernel)
theorem mm_120 : (.code objectInit ⟨#[0xb1]⟩ 1 none : Cond) ∈ zx_G := zx_wi 120 (by decide +kernel) (by decide +kernel)
theorem mm_121 : (.classLink RX8 7 RX4 : Cond) ∈ zx_G := zx_wi 121 (by decide +kernel) (by decide +kernel)
theorem mm_122 : (.instantiable RX4 10 : Cond) ∈ zx_G := zx_wi 122 (by decide +kernel) (by decide +kernel)
theorem mm_123 : (.methodLink RX8 9 yX4_init : Cond) ∈ zx_G := zx_wi 123 (by decide +kernel) (by decide +kernel)
theorem mm_124 : (.instanceMethod yX4_init : Cond) ∈ zx_G := zx_wi 124 (by decide +kernel) (by decide +kernel)
theorem mm_125 : (.code yX4_init cX4_init 1 none : Cond) ∈ zx_G := zx_wi 125 (by decide +kernel) (by decide +kernel)
theorem mm_126 : (.methodLink RX4 3 objectInit : Cond) ∈ zx_G := zx_wi 126 (by decide +kernel) (by decide +kernel)
theorem mm_127 : (.methodLink RX4 43 yJ7_fill_53178 : Cond) ∈ zx_G := zx_wi 127 (by decide +kernel) (by decide +kernel)
theorem mm_128 : (.static yJ7_fill_53178 : Cond) ∈ zx_G := zx_wi 128 (by decide +kernel) (by decide +kernel)
theorem mm_129 : (.code yJ7_fill_53178 cJ7_fill_53178 4 none : Cond) ∈ zx_G := zx_wi 129 (by decide +kernel) (by decide +kernel)
theorem mm_130 : (.fieldLink RX4 9 "Refereehall$People" "count" "I" : Cond) ∈ zx_G := zx_wi 130 (by decide +kernel) (by decide +kernel)
theorem mm_132 : (.fieldLink RX4 15 "Refereehall$People" "house" "[I" : Cond) ∈ zx_G := zx_wi 132 (by decide +kernel) (by decide +kernel)
theorem mm_134 : (.fieldLink RX4 19 "Refereehall$People" "words" "[I" : Cond) ∈ zx_G := zx_wi 134 (by decide +kernel) (by decide +kernel)
theorem mm_136 : (.fieldLink RX4 22 "Refereehall$People" "awayTo" "[I" : Cond) ∈ zx_G := zx_wi 136 (by decide +kernel) (by decide +kernel)
theorem mm_138 : (.fieldLink RX4 25 "Refereehall$People" "kin" "[I" : Cond) ∈ zx_G := zx_wi 138 (by decide +kernel) (by decide +kernel)
theorem mm_140 : (.fieldLink RX4 28 "Refereehall$People" "journals" "[I" : Cond) ∈ zx_G := zx_wi 140 (by decide +kernel) (by decide +kernel)
theorem mm_142 : (.fieldLink RX4 31 "Refereehall$People" "scores" "[I" : Cond) ∈ zx_G := zx_wi 142 (by decide +kernel) (by decide +kernel)
theorem mm_144 : (.fieldLink RX4 34 "Refereehall$People" "given" "[I" : Cond) ∈ zx_G := zx_wi 144 (by decide +kernel) (by decide +kernel)
theorem mm_146 : (.fieldLink RX4 37 "Refereehall$People" "leftOn" "[I" : Cond) ∈ zx_G := zx_wi 146 (by decide +kernel) (by decide +kernel)
theorem mm_148 : (.fieldLink RX4 40 "Refereehall$People" "moneyTo" "[I" : Cond) ∈ zx_G := zx_wi 148 (by decide +kernel) (by decide +kernel)
theorem mm_171 : (.arrayClass .int : Cond) ∈ zx_G := zx_wi 171 (by decide +kernel) (by decide +kernel)
theorem mm_172 : (.classLink RX8 16 RX1 : Cond) ∈ zx_G := zx_wi 172 (by decide +kernel) (by decide +kernel)
theorem mm_173 : (.instantiable RX1 5 : Cond) ∈ zx_G := zx_wi 173 (by decide +kernel) (by decide +kernel)
theorem mm_174 : (.methodLink RX8 18 yX1_init : Cond) ∈ zx_G := zx_wi 174 (by decide +kernel) (by decide +kernel)
theorem mm_175 : (.instanceMethod yX1_init : Cond) ∈ zx_G := zx_wi 175 (by decide +kernel) (by decide +kernel)
theorem mm_176 : (.code yX1_init cX1_init 2 none : Cond) ∈ zx_G := zx_wi 176 (by decide +kernel) (by decide +kernel)
theorem mm_177 : (.methodLink RX1 3 objectInit : Cond) ∈ zx_G := zx_wi 177 (by decide +kernel) (by decide +kernel)
theorem mm_178 : (.fieldLink RX1 9 "Refereehall$Net" "ties" "[I" : Cond) ∈ zx_G := zx_wi 178 (by decide +kernel) (by decide +kernel)
theorem mm_179 : (.fieldLink RX1 15 "Refereehall$Net" "needs" "[I" : Cond) ∈ zx_G := zx_wi 179 (by decide +kernel) (by decide +kernel)
theorem mm_181 : (.fieldLink RX1 18 "Refereehall$Net" "accepts" "[I" : Cond) ∈ zx_G := zx_wi 181 (by decide +kernel) (by decide +kernel)
theorem mm_183 : (.fieldLink RX1 21 "Refereehall$Net" "rejects" "[I" : Cond) ∈ zx_G := zx_wi 183 (by decide +kernel) (by decide +kernel)
theorem mm_185 : (.fieldLink RX1 24 "Refereehall$Net" "way" "[C" : Cond) ∈ zx_G := zx_wi 185 (by decide +kernel) (by decide +kernel)
theorem mm_198 : (.arrayClass .char : Cond) ∈ zx_G := zx_wi 198 (by decide +kernel) (by decide +kernel)
theorem mm_199 : (.classLink RX8 23 RJx4a65c : Cond) ∈ zx_G := zx_wi 199 (by decide +kernel) (by decide +kernel)
theorem mm_200 : (.instantiable RJx4a65c 3 : Cond) ∈ zx_G := zx_wi 200 (by decide +kernel) (by decide +kernel)
theorem mm_201 : (.methodLink RX8 25 yJx4a65c_init_da8c8 : Cond) ∈ zx_G := zx_wi 201 (by decide +kernel) (by decide +kernel)
theorem mm_202 : (.instanceMethod yJx4a65c_init_da8c8 : Cond) ∈ zx_G := zx_wi 202 (by decide +kernel) (by decide +kernel)
theorem mm_203 : (.code yJx4a65c_init_da8c8 cJx4a65c_init_da8c8 1 none : Cond) ∈ zx_G := zx_wi 203 (by decide +kernel) (by decide +kernel)
theorem mm_204 : (.methodLink RJx4a65c 1 yJxc12de_init_da8c8 : Cond) ∈ zx_G := zx_wi 204 (by decide +kernel) (by decide +kernel)
theorem mm_205 : (.instanceMethod yJxc12de_init_da8c8 : Cond) ∈ zx_G := zx_wi 205 (by decide +kernel) (by decide +kernel)
theorem mm_206 : (.code yJxc12de_init_da8c8 cJxc12de_init_da8c8 1 none : Cond) ∈ zx_G := zx_wi 206 (by decide +kernel) (by decide +kernel)
theorem mm_207 : (.methodLink RJxc12de 1 yJxa1e45_init_da8c8 : Cond) ∈ zx_G := zx_wi 207 (by decide +kernel) (by decide +kernel)
theorem mm_208 : (.instanceMethod yJxa1e45_init_da8c8 : Cond) ∈ zx_G := zx_wi 208 (by decide +kernel) (by decide +kernel)
theorem mm_209 : (.code yJxa1e45_init_da8c8 cJxa1e45_init_da8c8 1 none : Cond) ∈ zx_G := zx_wi 209 (by decide +kernel) (by decide +kernel)
theorem mm_210 : (.methodLink RJxa1e45 1 objectInit : Cond) ∈ zx_G := zx_wi 210 (by decide +kernel) (by decide +kernel)
theorem mm_211 : (.fieldLink RJx4a65c 39 "java/util/ArrayList" "DEFAULTCAPACITY_EMPTY_ELEMENTDATA" "[Ljava/lang/Object;" : Cond) ∈ zx_G := zx_wi 211 (by decide +kernel) (by decide +kernel)
theorem mm_213 : (.fieldLink RJx4a65c 9 "java/util/ArrayList" "elementData" "[Ljava/lang/Object;" : Cond) ∈ zx_G := zx_wi 213 (by decide +kernel) (by decide +kernel)
theorem mm_217 : (.fieldLink RJxc12de 7 "java/util/AbstractList" "modCount" "I" : Cond) ∈ zx_G := zx_wi 217 (by decide +kernel) (by decide +kernel)
theorem mm_228 : (.fieldLink RX8 10 "Refereehall" "people" "LRefereehall$People;" : Cond) ∈ zx_G := zx_wi 228 (by decide +kernel) (by decide +kernel)
theorem mm_229 : (.fieldLink RX8 19 "Refereehall" "net" "LRefereehall$Net;" : Cond) ∈ zx_G := zx_wi 229 (by decide +kernel) (by decide +kernel)
theorem mm_230 : (.fieldLink RX8 26 "Refereehall" "papers" "Ljava/util/ArrayList;" : Cond) ∈ zx_G := zx_wi 230 (by decide +kernel) (by decide +kernel)
theorem mm_231 : (.fieldLink RX8 30 "Refereehall" "row" "[I" : Cond) ∈ zx_G := zx_wi 231 (by decide +kernel) (by decide +kernel)
theorem mm_232 : (.fieldLink RX8 34 "Refereehall" "day" "I" : Cond) ∈ zx_G := zx_wi 232 (by decide +kernel) (by decide +kernel)
theorem mm_1568 : (.methodLink RX15 1 objectInit : Cond) ∈ zx_G := zx_wi 1568 (by decide +kernel) (by decide +kernel)
theorem mm_1569 : (.classLink RX15 7 RJx4a65c : Cond) ∈ zx_G := zx_wi 1569 (by decide +kernel) (by decide +kernel)
theorem mm_1570 : (.methodLink RX15 9 yJx4a65c_init_da8c8 : Cond) ∈ zx_G := zx_wi 1570 (by decide +kernel) (by decide +kernel)
theorem mm_1572 : (.fieldLink RX15 10 "RefereehallModel" "people" "Ljava/util/ArrayList;" : Cond) ∈ zx_G := zx_wi 1572 (by decide +kernel) (by decide +kernel)
theorem mm_1574 : (.fieldLink RX15 16 "RefereehallModel" "ties" "[I" : Cond) ∈ zx_G := zx_wi 1574 (by decide +kernel) (by decide +kernel)
theorem mm_1575 : (.fieldLink RX15 20 "RefereehallModel" "needs" "[I" : Cond) ∈ zx_G := zx_wi 1575 (by decide +kernel) (by decide +kernel)
theorem mm_1576 : (.fieldLink RX15 23 "RefereehallModel" "accepts" "[I" : Cond) ∈ zx_G := zx_wi 1576 (by decide +kernel) (by decide +kernel)
theorem mm_1577 : (.fieldLink RX15 26 "RefereehallModel" "rejects" "[I" : Cond) ∈ zx_G := zx_wi 1577 (by decide +kernel) (by decide +kernel)
theorem mm_1578 : (.fieldLink RX15 29 "RefereehallModel" "way" "[C" : Cond) ∈ zx_G := zx_wi 1578 (by decide +kernel) (by decide +kernel)
theorem mm_1579 : (.fieldLink RX15 33 "RefereehallModel" "papers" "Ljava/util/ArrayList;" : Cond) ∈ zx_G := zx_wi 1579 (by decide +kernel) (by decide +kernel)
theorem uz_X1 : ∀ w ∈ u_ws RX1 TX1 5, w ∈ zx_G := zx_us [187, 189, 191, 193, 195] (by decide +kernel)
theorem uz_X15 : ∀ w ∈ u_ws RX15 TX15 9, w ∈ zx_G := zx_us [1580, 1582, 1584, 1586, 1588, 1590, 1592, 1594, 1596] (by decide +kernel)
theorem uz_X4 : ∀ w ∈ u_ws RX4 TX4 10, w ∈ zx_G := zx_us [150, 152, 154, 156, 158, 160, 162, 164, 166, 168] (by decide +kernel)
theorem uz_X8 : ∀ w ∈ u_ws RX8 TX8 5, w ∈ zx_G := zx_us [233, 235, 237, 239, 241] (by decide +kernel)
set_option maxHeartbeats 4000000 in
set_option maxRecDepth 100000 in
theorem c_AC_init (l : Launch) (hst : l.stackTraces = false) (D : va_G) (cy : Nat → ClassId) (ed sz : Nat) (pa : Nat) (mc : Int32) (sz9 : Int32) : Met l yJxa1e45_init_da8c8 wzJxa1e45_init_da8c8 ({ frames := 1, cells := 0, slots := 0, locals := 12 }) (zx_Pc D cy ed sz [.ref pa] [(pa, .inr (4, [.int mc, .null, .int sz9]))]) (va_Qv (fun (u9 : Unit) => True) (fun (u9 : Unit) (t9 : State) => zx_At D cy (va_A [(pa, .inr (4, [.int mc, .null, .int sz9]))] sz) [(pa, .inr (4, [.int mc, .null, .int sz9]))] t9) (va_A [(pa, .inr (4, [.int mc, .null, .int sz9]))] sz)) 0 0 (va_A [(pa, .inr (4, [.int mc, .null, .int sz9]))] sz) := by
  refine Met.ofW (cc := cJxa1e45_init_da8c8) (maxL := 1) (ret := none) (by decide) rfl ?_
  intro p e s m args below meth c s₁ B hml hv
  obtain ⟨rfl, hsz, hP, hK, hD0, hZ, hN⟩ := hv
  have hx := B.exec
  have hb := B.bytes
  have hr := B.returns
  have hts := atoms_spec (ws := wzJxa1e45_init_da8c8) B.pre
  have hown : s.vm.findClass RJxa1e45 = some m.cls := findClass_of_methodNamed B.named
  have hlocks := B.notSynchronized
  have hin : meth.name = "<init>" := (name_of_methodNamed B.named B.method).1
  subst hsz
  have hD := hD0.self (sz := s.heap.size)
  generalize hAe : va_A [(pa, .inr (4, [.int mc, .null, .int sz9]))] s.heap.size = A at hD hZ ⊢
  have hA : ∀ q : Nat, s.heap.size ≤ q → A q := fun q h => by rw [← hAe]; exact Or.inr h
  have hS : va_S A s.heap s.heap [] := va_S.rf
  have hP : va_P D vwCl [(pa, .inr (4, [.int mc, .null, .int sz9]))] s.heap := hP
  have hl := lv_entry ([.ref pa]) (n := 1) (Nat.le_of_ble_eq_true rfl)
  rw [lg_entry_eq]
  generalize (lg_sl ([.ref pa]) ++ List.replicate (1 - (lg_sl ([.ref pa])).length) Slot.unset).toArray = ls at hl ⊢
  have hl : lv_has ls 1 [(0, .ref pa)] := hl
  refine lv_aload_n hx hb dJxa1e45_init_da8c8_0 rfl (lv_at hl 0 rfl) ?_
  refine W.objInit hx hb hown (hts (.methodLink RJxa1e45 1 objectInit) (zx_Gc mm_210)) (hts (.instanceMethod objectInit) (zx_Gc mm_119)) (hts (.code objectInit ⟨#[0xb1]⟩ 1 none) (zx_Gc mm_120)) rfl (by rw [hml]; exact hl.1) rfl dJxa1e45_init_da8c8_1 (Nat.le_of_ble_eq_true rfl) (Nat.le_of_ble_eq_true rfl) ?_
  refine W.eq (g2 := F0 m 4 ls []) rfl ?_
  have hP9 := hP.sub (ws' := [(pa, .inr (4, [.int mc, .null, .int sz9]))]) [0] rfl
  have hD9 := hD.sub (ws' := [(pa, .inr (4, [.int mc, .null, .int sz9]))]) [0] (by decide) rfl
  exact W.vret hx hb hr (fun t ht hW => ⟨⟨(), rfl, trivial, zx_fin hP9 hD9 hK ht hW⟩, hS.F ht⟩) hS.2.2 dJxa1e45_init_da8c8_4
set_option maxHeartbeats 4000000 in
set_option maxRecDepth 100000 in
theorem c_AbL_init (l : Launch) (hst : l.stackTraces = false) (D : va_G) (cy : Nat → ClassId) (ed sz : Nat) (pa : Nat) (mc : Int32) (sz9 : Int32) : Met l yJxc12de_init_da8c8 wzJxc12de_init_da8c8 ({ frames := 2, cells := 0, slots := 0, locals := 32 }) (zx_Pc D cy ed sz [.ref pa] [(pa, .inr (4, [.int mc, .null, .int sz9]))]) (va_Qv (fun (u9 : Unit) => True) (fun (u9 : Unit) (t9 : State) => zx_At D cy (va_A [(pa, .inr (4, [.int mc, .null, .int sz9]))] sz) [(pa, .inr (4, [.int 0, .null, .int sz9]))] t9) (va_A [(pa, .inr (4, [.int mc, .null, .int sz9]))] sz)) 0 0 (va_A [(pa, .inr (4, [.int mc, .null, .int sz9]))] sz) := by
  refine Met.ofW (cc := cJxc12de_init_da8c8) (maxL := 1) (ret := none) (by decide) rfl ?_
  intro p e s m args below meth c s₁ B hml hv
  obtain ⟨rfl, hsz, hP, hK, hD0, hZ, hN⟩ := hv
  have hx := B.exec
  have hb := B.bytes
  have hr := B.returns
  have hts := atoms_spec (ws := wzJxc12de_init_da8c8) B.pre
  have hown : s.vm.findClass RJxc12de = some m.cls := findClass_of_methodNamed B.named
  have hlocks := B.notSynchronized
  have hin : meth.name = "<init>" := (name_of_methodNamed B.named B.method).1
  subst hsz
  have hD := hD0.self (sz := s.heap.size)
  generalize hAe : va_A [(pa, .inr (4, [.int mc, .null, .int sz9]))] s.heap.size = A at hD hZ ⊢
  have hA : ∀ q : Nat, s.heap.size ≤ q → A q := fun q h => by rw [← hAe]; exact Or.inr h
  have hS : va_S A s.heap s.heap [] := va_S.rf
  have hP : va_P D vwCl [(pa, .inr (4, [.int mc, .null, .int sz9]))] s.heap := hP
  have hl := lv_entry ([.ref pa]) (n := 1) (Nat.le_of_ble_eq_true rfl)
  rw [lg_entry_eq]
  generalize (lg_sl ([.ref pa]) ++ List.replicate (1 - (lg_sl ([.ref pa])).length) Slot.unset).toArray = ls at hl ⊢
  have hl : lv_has ls 1 [(0, .ref pa)] := hl
  refine lv_aload_n hx hb dJxc12de_init_da8c8_0 rfl (lv_at hl 0 rfl) ?_
  have hPc := hP.sub (ws' := [(pa, .inr (4, [.int mc, .null, .int sz9]))]) [0] rfl
  have hDc := hD.sub (ws' := [(pa, .inr (4, [.int mc, .null, .int sz9]))]) [0] (by decide) rfl
  have hFc := va_free (wc := [(pa, .inr (4, [.int mc, .null, .int sz9]))]) hD hS hA [0] rfl
  refine va_callv (va_runI (As := []) (rest := []) ⟨hx, hb, hml, hown, hts⟩ (c_AC_init l hst D cy ed s.heap.size pa mc sz9) (cwI 0 hts (zx_GI mm_209) rfl rfl rfl (hts (.initialized RJxa1e45) (zx_Gc mm_75)) (hts (.methodLink RJxc12de 1 yJxa1e45_init_da8c8) (zx_Gc mm_207)) (hts (.instanceMethod yJxa1e45_init_da8c8) (zx_Gc mm_208)) rfl (by decide +kernel) ⟨(Nat.le_of_ble_eq_true rfl), (Nat.le_of_ble_eq_true rfl)⟩) ⟨zx_blind, zx_give hPc hK hDc hS hFc hZ hN⟩ rfl rfl hl.1 rfl (lv_room (Nat.le_of_ble_eq_true rfl)) dJxc12de_init_da8c8_1 ⟨(Nat.le_of_ble_eq_true rfl), (Nat.le_of_ble_eq_true rfl)⟩) hS (fun q _ h => hFc q h) hFc (fun u t H1 locs ht hvm hw hB hz1 hk1 hS => ?_)
  obtain ⟨hP, hD⟩ := zx_join (wr := []) (w1 := [(pa, .inr (4, [.int mc, .null, .int sz9]))]) [0] [] rfl rfl (by decide) (by decide) hP hD hk1 hFc hB ht
  generalize H1 = H at hP hS ⊢
  have hP : va_P D vwCl [(pa, .inr (4, [.int mc, .null, .int sz9]))] H := hP
  have hD : va_D A [(pa, .inr (4, [.int mc, .null, .int sz9]))] := hD
  refine W.widen (k := 0) (n := 0) (Nat.le_of_ble_eq_true rfl) (Nat.le_of_ble_eq_true rfl) ?_
  refine lv_aload_n hx hb dJxc12de_init_da8c8_4 rfl (lv_at hl 0 rfl) ?_
  refine lv_iconst (v := 0) hx hb dJxc12de_init_da8c8_5 (by decide) ?_
  refine va_put (D := D) (ci := 4) (v := .int 0) (ty := .int) (C := RJx4a65c) (T := TJx4a65c) (N := 3) hx hb hts (fun w h => zx_Gc (uz_Jx4a65c w h)) tyJx4a65c tyJx4a65c_ok nmJx4a65c hown hK hP hD hS 0 rfl rfl 0 (by decide) (hts (.fieldLink RJxc12de 7 "java/util/AbstractList" "modCount" "I") (zx_Gc mm_217)) (fun _ h9 => h9) rfl (by decide +kernel) rfl rfl (Nat.le_of_ble_eq_true rfl) dJxc12de_init_da8c8_6 (fun H locs hP hD hS => ?_)
  have hP : va_P D vwCl [(pa, .inr (4, [.int 0, .null, .int sz9]))] H := hP
  have hD : va_D A [(pa, .inr (4, [.int 0, .null, .int sz9]))] := hD
  have hP9 := hP.sub (ws' := [(pa, .inr (4, [.int 0, .null, .int sz9]))]) [0] rfl
  have hD9 := hD.sub (ws' := [(pa, .inr (4, [.int 0, .null, .int sz9]))]) [0] (by decide) rfl
  exact W.vret hx hb hr (fun t ht hW => ⟨⟨(), rfl, trivial, zx_fin hP9 hD9 hK ht hW⟩, hS.F ht⟩) hS.2.2 dJxc12de_init_da8c8_9
set_option maxHeartbeats 4000000 in
set_option maxRecDepth 100000 in
theorem c_AL_init (l : Launch) (hst : l.stackTraces = false) (D : va_G) (cy : Nat → ClassId) (ed sz : Nat) (pa : Nat) (mc : Int32) : Met l yJx4a65c_init_da8c8 wzJx4a65c_init_da8c8 ({ frames := 3, cells := 0, slots := 0, locals := 52 }) (zx_Pc D cy ed sz [.ref pa] [(pa, .inr (4, [.int mc, .null, .int 0]))]) (va_Qv (fun (u9 : Unit) => True) (fun (u9 : Unit) (t9 : State) => zx_At D cy (va_A [(pa, .inr (4, [.int mc, .null, .int 0]))] sz) [(pa, .inr (4, [.int 0, .ref ed, .int 0]))] t9) (va_A [(pa, .inr (4, [.int mc, .null, .int 0]))] sz)) 0 0 (va_A [(pa, .inr (4, [.int mc, .null, .int 0]))] sz) := by
  refine Met.ofW (cc := cJx4a65c_init_da8c8) (maxL := 1) (ret := none) (by decide) rfl ?_
  intro p e s m args below meth c s₁ B hml hv
  obtain ⟨rfl, hsz, hP, hK, hD0, hZ, hN⟩ := hv
  have hx := B.exec
  have hb := B.bytes
  have hr := B.returns
  have hts := atoms_spec (ws := wzJx4a65c_init_da8c8) B.pre
  have hown : s.vm.findClass RJx4a65c = some m.cls := findClass_of_methodNamed B.named
  have hlocks := B.notSynchronized
  have hin : meth.name = "<init>" := (name_of_methodNamed B.named B.method).1
  subst hsz
  have hD := hD0.self (sz := s.heap.size)
  generalize hAe : va_A [(pa, .inr (4, [.int mc, .null, .int 0]))] s.heap.size = A at hD hZ ⊢
  have hA : ∀ q : Nat, s.heap.size ≤ q → A q := fun q h => by rw [← hAe]; exact Or.inr h
  have hS : va_S A s.heap s.heap [] := va_S.rf
  have hP : va_P D vwCl [(pa, .inr (4, [.int mc, .null, .int 0]))] s.heap := hP
  have hl := lv_entry ([.ref pa]) (n := 1) (Nat.le_of_ble_eq_true rfl)
  rw [lg_entry_eq]
  generalize (lg_sl ([.ref pa]) ++ List.replicate (1 - (lg_sl ([.ref pa])).length) Slot.unset).toArray = ls at hl ⊢
  have hl : lv_has ls 1 [(0, .ref pa)] := hl
  refine lv_aload_n hx hb dJx4a65c_init_da8c8_0 rfl (lv_at hl 0 rfl) ?_
  have hPc := hP.sub (ws' := [(pa, .inr (4, [.int mc, .null, .int 0]))]) [0] rfl
  have hDc := hD.sub (ws' := [(pa, .inr (4, [.int mc, .null, .int 0]))]) [0] (by decide) rfl
  have hFc := va_free (wc := [(pa, .inr (4, [.int mc, .null, .int 0]))]) hD hS hA [0] rfl
  refine va_callv (va_runI (As := []) (rest := []) ⟨hx, hb, hml, hown, hts⟩ (c_AbL_init l hst D cy ed s.heap.size pa mc 0) (cwI 0 hts (zx_GI mm_206) rfl rfl rfl (hts (.initialized RJxc12de) (zx_Gc mm_76)) (hts (.methodLink RJx4a65c 1 yJxc12de_init_da8c8) (zx_Gc mm_204)) (hts (.instanceMethod yJxc12de_init_da8c8) (zx_Gc mm_205)) rfl (by decide +kernel) ⟨(Nat.le_of_ble_eq_true rfl), (Nat.le_of_ble_eq_true rfl)⟩) ⟨zx_blind, zx_give hPc hK hDc hS hFc hZ hN⟩ rfl rfl hl.1 rfl (lv_room (Nat.le_of_ble_eq_true rfl)) dJx4a65c_init_da8c8_1 ⟨(Nat.le_of_ble_eq_true rfl), (Nat.le_of_ble_eq_true rfl)⟩) hS (fun q _ h => hFc q h) hFc (fun u t H1 locs ht hvm hw hB hz1 hk1 hS => ?_)
  obtain ⟨hP, hD⟩ := zx_join (wr := []) (w1 := [(pa, .inr (4, [.int 0, .null, .int 0]))]) [0] [] rfl rfl (by decide) (by decide) hP hD hk1 hFc hB ht
  generalize H1 = H at hP hS ⊢
  have hP : va_P D vwCl [(pa, .inr (4, [.int 0, .null, .int 0]))] H := hP
  have hD : va_D A [(pa, .inr (4, [.int 0, .null, .int 0]))] := hD
  refine W.widen (k := 0) (n := 0) (Nat.le_of_ble_eq_true rfl) (Nat.le_of_ble_eq_true rfl) ?_
  refine lv_aload_n hx hb dJx4a65c_init_da8c8_4 rfl (lv_at hl 0 rfl) ?_
  refine va_gets hx hb hZ.2.2.1 hS hown (hts (.fieldLink RJx4a65c 39 "java/util/ArrayList" "DEFAULTCAPACITY_EMPTY_ELEMENTDATA" "[Ljava/lang/Object;") (zx_Gc mm_211)) (fun _ h9 => h9) dJx4a65c_init_da8c8_5 ?_
  refine va_put (D := D) (ci := 4) (v := .ref ed) (ty := .array (.object "java/lang/Object")) (C := RJx4a65c) (T := TJx4a65c) (N := 3) hx hb hts (fun w h => zx_Gc (uz_Jx4a65c w h)) tyJx4a65c tyJx4a65c_ok nmJx4a65c hown hK hP hD hS 0 rfl rfl 1 (by decide) (hts (.fieldLink RJx4a65c 9 "java/util/ArrayList" "elementData" "[Ljava/lang/Object;") (zx_Gc mm_213)) (fun _ h9 => h9) rfl (by decide +kernel) rfl rfl (Nat.le_of_ble_eq_true rfl) dJx4a65c_init_da8c8_8 (fun H locs hP hD hS => ?_)
  have hP : va_P D vwCl [(pa, .inr (4, [.int 0, .ref ed, .int 0]))] H := hP
  have hD : va_D A [(pa, .inr (4, [.int 0, .ref ed, .int 0]))] := hD
  have hP9 := hP.sub (ws' := [(pa, .inr (4, [.int 0, .ref ed, .int 0]))]) [0] rfl
  have hD9 := hD.sub (ws' := [(pa, .inr (4, [.int 0, .ref ed, .int 0]))]) [0] (by decide) rfl
  exact W.vret hx hb hr (fun t ht hW => ⟨⟨(), rfl, trivial, zx_fin hP9 hD9 hK ht hW⟩, hS.F ht⟩) hS.2.2 dJx4a65c_init_da8c8_11
set_option maxHeartbeats 4000000 in
set_option maxRecDepth 100000 in
theorem c_fill (l : Launch) (hst : l.stackTraces = false) (D : va_G) (cy : Nat → ClassId) (ed sz : Nat) (a0 : Nat) (N : Nat) (f : Nat → Int32) (v : Int32) (hN9 : N < 2 ^ 31) : Met l yJ7_fill_53178 wzJ7_fill_53178 ({ frames := 0, cells := 0, slots := 0, locals := 0 }) (zx_Pc D cy ed sz [.ref a0, .int v] [(a0, .inl (cy 0, N, .inl f))]) (va_Qv (fun (u9 : Nat → Int32) => match u9 with | f2 => True) (fun (u9 : Nat → Int32) (t9 : State) => match u9 with | f2 => zx_At D cy (va_A [(a0, .inl (cy 0, N, .inl f))] sz) [(a0, .inl (cy 0, N, .inl f2))] t9) (va_A [(a0, .inl (cy 0, N, .inl f))] sz)) 0 0 (va_A [(a0, .inl (cy 0, N, .inl f))] sz) := by
  refine Met.ofW (cc := cJ7_fill_53178) (maxL := 4) (ret := none) (by decide) rfl ?_
  intro p e s m args below meth c s₁ B hml hv
  obtain ⟨rfl, hsz, hP, hK, hD0, hZ, hN⟩ := hv
  have hx := B.exec
  have hb := B.bytes
  have hr := B.returns
  have hts := atoms_spec (ws := wzJ7_fill_53178) B.pre
  have hown : s.vm.findClass RJ7 = some m.cls := findClass_of_methodNamed B.named
  have hlocks := B.notSynchronized
  subst hsz
  have hD := hD0.self (sz := s.heap.size)
  generalize hAe : va_A [(a0, .inl (cy 0, N, .inl f))] s.heap.size = A at hD hZ ⊢
  have hA : ∀ q : Nat, s.heap.size ≤ q → A q := fun q h => by rw [← hAe]; exact Or.inr h
  have hS : va_S A s.heap s.heap [] := va_S.rf
  have hP : va_P D vwCl [(a0, .inl (cy 0, N, .inl f))] s.heap := hP
  have hl := lv_entry ([.ref a0, .int v]) (n := 4) (Nat.le_of_ble_eq_true rfl)
  rw [lg_entry_eq]
  generalize (lg_sl ([.ref a0, .int v]) ++ List.replicate (4 - (lg_sl ([.ref a0, .int v])).length) Slot.unset).toArray = ls at hl ⊢
  have hl : lv_has ls 4 [(0, .ref a0), (1, .int v)] := hl
  refine lv_iconst (v := nI 0) hx hb dJ7_fill_53178_0 (by decide) ?_
  refine lv_istore_n (lv' := [(2, .int (nI 0)), (0, .ref a0), (1, .int v)]) hx hb dJ7_fill_53178_1 rfl hl (by decide) rfl (fun ls hl => ?_)
  refine lv_aload_n hx hb dJ7_fill_53178_2 rfl (lv_at hl 1 rfl) ?_
  refine va_alen (v := (nI N)) hx hb hK hP 0 0 rfl rfl rfl dJ7_fill_53178_3 ?_
  refine lv_istore_n (lv' := [(3, .int (nI N)), (2, .int (nI 0)), (0, .ref a0), (1, .int v)]) hx hb dJ7_fill_53178_4 rfl hl (by decide) rfl (fun ls hl => ?_)
  refine zx_loop (P := fun i H locs ls => ∃ f : Nat → Int32, va_P D vwCl [(a0, .inl (cy 0, N, .inl f))] H ∧ va_D A [(a0, .inl (cy 0, N, .inl f))] ∧ va_S A s.heap H locs ∧ lv_has ls 4 [(2, .int (nI i)), (3, .int (nI N)), (0, .ref a0), (1, .int v)]) (N := N) 0 (Nat.zero_le _) ⟨_, hP, hD, hS, lv_sub hl [1, 0, 2, 3] rfl⟩ (fun i hi ih H locs ls hj => ?_)
  obtain ⟨f, hP, hD, hS, hl⟩ := hj
  refine lv_iload_n hx hb dJ7_fill_53178_5 rfl (lv_at hl 0 rfl) ?_
  refine lv_iload_n hx hb dJ7_fill_53178_6 rfl (lv_at hl 1 rfl) ?_
  refine lv_icmp_ge (tgt := 20) hx hb dJ7_fill_53178_7 (by decide) (fun c_12 => ?_) (fun c_12 => ?_)
  ·
    have hP9 := hP.sub (ws' := [(a0, .inl (cy 0, N, .inl f))]) [0] rfl
    have hD9 := hD.sub (ws' := [(a0, .inl (cy 0, N, .inl f))]) [0] (by decide) rfl
    exact W.vret hx hb hr (fun t ht hW => ⟨⟨f, rfl, trivial, zx_fin hP9 hD9 hK ht hW⟩, hS.F ht⟩) hS.2.2 dJ7_fill_53178_20
  ·
    have hlt9 : i < N := Nat.lt_of_not_le (fun q9 => c_12 (nI_le q9 (by omega)))
    refine lv_aload_n hx hb dJ7_fill_53178_10 rfl (lv_at hl 2 rfl) ?_
    refine lv_iload_n hx hb dJ7_fill_53178_11 rfl (lv_at hl 0 rfl) ?_
    refine lv_iload_n hx hb dJ7_fill_53178_12 rfl (lv_at hl 3 rfl) ?_
    refine va_iast hx hb hK hP hD hS 0 0 rfl rfl (vp_in_nI hlt9 (by omega)) dJ7_fill_53178_13 (fun H locs hP hD hS => ?_)
    have hP : va_P D vwCl [(a0, .inl (cy 0, N, .inl (upd f (nI i).toNatClampNeg v)))] H := hP
    have hD : va_D A [(a0, .inl (cy 0, N, .inl (upd f (nI i).toNatClampNeg v)))] := hD
    refine lv_iinc (v := nI (i + 1)) (lv' := [(2, .int (nI (i + 1))), (3, .int (nI N)), (0, .ref a0), (1, .int v)]) hx hb dJ7_fill_53178_14 hl (k := 0) rfl (by rw [nI_succ]; rfl) (by decide) rfl (fun ls hl => ?_)
    refine lv_goto (tgt := 5) hx hb dJ7_fill_53178_17 (by decide) ?_
    exact ih _ _ _ hlt9 ⟨_, hP, hD, hS, lv_sub hl [0, 1, 2, 3] rfl⟩
set_option maxHeartbeats 4000000 in
set_option maxRecDepth 100000 in
theorem c_X4_init (l : Launch) (hst : l.stackTraces = false) (D : va_G) (cy : Nat → ClassId) (ed sz : Nat) (pe : Nat) (c9 : Int32) : Met l yX4_init wzX4_init ({ frames := 1, cells := 9, slots := 740, locals := 23 }) (zx_Pc D cy ed sz [.ref pe] [(pe, .inr (9, [.int c9, .null, .null, .null, .null, .null, .null, .null, .null, .null]))]) (va_Qv (fun (u9 : Nat × Nat × Nat × Nat × Nat × Nat × Nat × Nat × Nat) => match u9 with | (a1, a2, a3, a4, a5, a6, a7, a8, a9) => True) (fun (u9 : Nat × Nat × Nat × Nat × Nat × Nat × Nat × Nat × Nat) (t9 : State) => match u9 with | (a1, a2, a3, a4, a5, a6, a7, a8, a9) => zx_At D cy (va_A [(pe, .inr (9, [.int c9, .null, .null, .null, .null, .null, .null, .null, .null, .null]))] sz) [(pe, .inr (9, [.int 0, .ref a1, .ref a2, .ref a3, .ref a4, .ref a5, .ref a6, .ref a7, .ref a8, .ref a9])), (a1, .inl (cy 0, 20, .inl (fun _ => 0))), (a2, .inl (cy 0, 20, .inl (fun _ => 0)))] t9) (va_A [(pe, .inr (9, [.int c9, .null, .null, .null, .null, .null, .null, .null, .null, .null]))] sz)) 9 740 (va_A [(pe, .inr (9, [.int c9, .null, .null, .null, .null, .null, .null, .null, .null, .null]))] sz) := by
  refine Met.ofW (cc := cX4_init) (maxL := 1) (ret := none) (by decide) rfl ?_
  intro p e s m args below meth c s₁ B hml hv
  obtain ⟨rfl, hsz, hP, hK, hD0, hZ, hN⟩ := hv
  have hx := B.exec
  have hb := B.bytes
  have hr := B.returns
  have hts := atoms_spec (ws := wzX4_init) B.pre
  have hown : s.vm.findClass RX4 = some m.cls := findClass_of_methodNamed B.named
  have hlocks := B.notSynchronized
  have hin : meth.name = "<init>" := (name_of_methodNamed B.named B.method).1
  subst hsz
  have hD := hD0.self (sz := s.heap.size)
  generalize hAe : va_A [(pe, .inr (9, [.int c9, .null, .null, .null, .null, .null, .null, .null, .null, .null]))] s.heap.size = A at hD hZ ⊢
  have hA : ∀ q : Nat, s.heap.size ≤ q → A q := fun q h => by rw [← hAe]; exact Or.inr h
  have hS : va_S A s.heap s.heap [] := va_S.rf
  have hP : va_P D vwCl [(pe, .inr (9, [.int c9, .null, .null, .null, .null, .null, .null, .null, .null, .null]))] s.heap := hP
  have hl := lv_entry ([.ref pe]) (n := 1) (Nat.le_of_ble_eq_true rfl)
  rw [lg_entry_eq]
  generalize (lg_sl ([.ref pe]) ++ List.replicate (1 - (lg_sl ([.ref pe])).length) Slot.unset).toArray = ls at hl ⊢
  have hl : lv_has ls 1 [(0, .ref pe)] := hl
  refine lv_aload_n hx hb dX4_init_0 rfl (lv_at hl 0 rfl) ?_
  refine W.objInit hx hb hown (hts (.methodLink RX4 3 objectInit) (zx_Gc mm_126)) (hts (.instanceMethod objectInit) (zx_Gc mm_119)) (hts (.code objectInit ⟨#[0xb1]⟩ 1 none) (zx_Gc mm_120)) rfl (by rw [hml]; exact hl.1) rfl dX4_init_1 (Nat.le_of_ble_eq_true rfl) (Nat.le_of_ble_eq_true rfl) ?_
  refine W.eq (g2 := F0 m 4 ls []) rfl ?_
  refine lv_aload_n hx hb dX4_init_4 rfl (lv_at hl 0 rfl) ?_
  refine lv_iconst (v := 0) hx hb dX4_init_5 (by decide) ?_
  refine va_put (D := D) (ci := 9) (v := .int 0) (ty := .int) (C := RX4) (T := TX4) (N := 10) hx hb hts (fun w h => zx_Gc (uz_X4 w h)) tyX4 tyX4_ok nmX4 hown hK hP hD hS 0 rfl rfl 0 (by decide) (hts (.fieldLink RX4 9 "Refereehall$People" "count" "I") (zx_Gc mm_130)) (fun _ h9 => h9) rfl (by decide +kernel) rfl rfl (Nat.le_of_ble_eq_true rfl) dX4_init_6 (fun H locs hP hD hS => ?_)
  have hP : va_P D vwCl [(pe, .inr (9, [.int 0, .null, .null, .null, .null, .null, .null, .null, .null, .null]))] H := hP
  have hD : va_D A [(pe, .inr (9, [.int 0, .null, .null, .null, .null, .null, .null, .null, .null, .null]))] := hD
  refine lv_aload_n hx hb dX4_init_9 rfl (lv_at hl 0 rfl) ?_
  refine lv_bipush (v := 20) hx hb dX4_init_10 (by decide) ?_
  refine va_newa (atype := .int) (a0 := (20, .inl (fun _ => 0))) (N' := 20) hx hb (hts (.arrayClass .int) (zx_Gc mm_171)) rfl hK hP hD hS hA (fun _ => rfl) (by decide) (by decide) (Nat.le_of_ble_eq_true rfl) (Nat.le_of_ble_eq_true rfl) (Nat.le_of_ble_eq_true rfl) dX4_init_12 (fun q_13 cA9 H hK9 hP hD hS => ?_)
  obtain rfl := zx_same (c0 := cy 0) 0 rfl hK9
  have hP : va_P D vwCl [(pe, .inr (9, [.int 0, .null, .null, .null, .null, .null, .null, .null, .null, .null])), (q_13, .inl (cy 0, 20, .inl (fun _ => 0)))] H := hP
  have hD : va_D A [(pe, .inr (9, [.int 0, .null, .null, .null, .null, .null, .null, .null, .null, .null])), (q_13, .inl (cy 0, 20, .inl (fun _ => 0)))] := hD
  refine W.widen (k := 1) (n := 20) (Nat.le_of_ble_eq_true rfl) (Nat.le_of_ble_eq_true rfl) ?_
  refine va_putF (D := D) (ci := 9) (v := .ref q_13) (ty := .array .int) (C := RX4) (T := TX4) (N := 10) hx hb hts (fun w h => zx_Gc (uz_X4 w h)) tyX4 tyX4_ok nmX4 hown hK hP hD hS 0 rfl rfl 1 (by decide) (hts (.fieldLink RX4 15 "Refereehall$People" "house" "[I") (zx_Gc mm_132)) (fun _ h9 => h9) rfl hin rfl (by decide +kernel) rfl rfl (Nat.le_of_ble_eq_true rfl) dX4_init_14 (fun H locs hP hD hS => ?_)
  have hP : va_P D vwCl [(pe, .inr (9, [.int 0, .ref q_13, .null, .null, .null, .null, .null, .null, .null, .null])), (q_13, .inl (cy 0, 20, .inl (fun _ => 0)))] H := hP
  have hD : va_D A [(pe, .inr (9, [.int 0, .ref q_13, .null, .null, .null, .null, .null, .null, .null, .null])), (q_13, .inl (cy 0, 20, .inl (fun _ => 0)))] := hD
  refine lv_aload_n hx hb dX4_init_17 rfl (lv_at hl 0 rfl) ?_
  refine lv_bipush (v := 20) hx hb dX4_init_18 (by decide) ?_
  refine va_newa (atype := .int) (a0 := (20, .inl (fun _ => 0))) (N' := 20) hx hb (hts (.arrayClass .int) (zx_Gc mm_171)) rfl hK hP hD hS hA (fun _ => rfl) (by decide) (by decide) (Nat.le_of_ble_eq_true rfl) (Nat.le_of_ble_eq_true rfl) (Nat.le_of_ble_eq_true rfl) dX4_init_20 (fun q_14 cA9 H hK9 hP hD hS => ?_)
  obtain rfl := zx_same (c0 := cy 0) 0 rfl hK9
  have hP : va_P D vwCl [(pe, .inr (9, [.int 0, .ref q_13, .null, .null, .null, .null, .null, .null, .null, .null])), (q_13, .inl (cy 0, 20, .inl (fun _ => 0))), (q_14, .inl (cy 0, 20, .inl (fun _ => 0)))] H := hP
  have hD : va_D A [(pe, .inr (9, [.int 0, .ref q_13, .null, .null, .null, .null, .null, .null, .null, .null])), (q_13, .inl (cy 0, 20, .inl (fun _ => 0))), (q_14, .inl (cy 0, 20, .inl (fun _ => 0)))] := hD
  refine W.widen (k := 2) (n := 40) (Nat.le_of_ble_eq_true rfl) (Nat.le_of_ble_eq_true rfl) ?_
  refine va_putF (D := D) (ci := 9) (v := .ref q_14) (ty := .array .int) (C := RX4) (T := TX4) (N := 10) hx hb hts (fun w h => zx_Gc (uz_X4 w h)) tyX4 tyX4_ok nmX4 hown hK hP hD hS 0 rfl rfl 2 (by decide) (hts (.fieldLink RX4 19 "Refereehall$People" "words" "[I") (zx_Gc mm_134)) (fun _ h9 => h9) rfl hin rfl (by decide +kernel) rfl rfl (Nat.le_of_ble_eq_true rfl) dX4_init_22 (fun H locs hP hD hS => ?_)
  have hP : va_P D vwCl [(pe, .inr (9, [.int 0, .ref q_13, .ref q_14, .null, .null, .null, .null, .null, .null, .null])), (q_13, .inl (cy 0, 20, .inl (fun _ => 0))), (q_14, .inl (cy 0, 20, .inl (fun _ => 0)))] H := hP
  have hD : va_D A [(pe, .inr (9, [.int 0, .ref q_13, .ref q_14, .null, .null, .null, .null, .null, .null, .null])), (q_13, .inl (cy 0, 20, .inl (fun _ => 0))), (q_14, .inl (cy 0, 20, .inl (fun _ => 0)))] := hD
  refine lv_aload_n hx hb dX4_init_25 rfl (lv_at hl 0 rfl) ?_
  refine lv_bipush (v := 20) hx hb dX4_init_26 (by decide) ?_
  refine va_newa (atype := .int) (a0 := (20, .inl (fun _ => 0))) (N' := 20) hx hb (hts (.arrayClass .int) (zx_Gc mm_171)) rfl hK hP hD hS hA (fun _ => rfl) (by decide) (by decide) (Nat.le_of_ble_eq_true rfl) (Nat.le_of_ble_eq_true rfl) (Nat.le_of_ble_eq_true rfl) dX4_init_28 (fun q_15 cA9 H hK9 hP hD hS => ?_)
  obtain rfl := zx_same (c0 := cy 0) 0 rfl hK9
  have hP : va_P D vwCl [(pe, .inr (9, [.int 0, .ref q_13, .ref q_14, .null, .null, .null, .null, .null, .null, .null])), (q_13, .inl (cy 0, 20, .inl (fun _ => 0))), (q_14, .inl (cy 0, 20, .inl (fun _ => 0))), (q_15, .inl (cy 0, 20, .inl (fun _ => 0)))] H := hP
  have hD : va_D A [(pe, .inr (9, [.int 0, .ref q_13, .ref q_14, .null, .null, .null, .null, .null, .null, .null])), (q_13, .inl (cy 0, 20, .inl (fun _ => 0))), (q_14, .inl (cy 0, 20, .inl (fun _ => 0))), (q_15, .inl (cy 0, 20, .inl (fun _ => 0)))] := hD
  refine W.widen (k := 3) (n := 60) (Nat.le_of_ble_eq_true rfl) (Nat.le_of_ble_eq_true rfl) ?_
  refine va_putF (D := D) (ci := 9) (v := .ref q_15) (ty := .array .int) (C := RX4) (T := TX4) (N := 10) hx hb hts (fun w h => zx_Gc (uz_X4 w h)) tyX4 tyX4_ok nmX4 hown hK hP hD hS 0 rfl rfl 3 (by decide) (hts (.fieldLink RX4 22 "Refereehall$People" "awayTo" "[I") (zx_Gc mm_136)) (fun _ h9 => h9) rfl hin rfl (by decide +kernel) rfl rfl (Nat.le_of_ble_eq_true rfl) dX4_init_30 (fun H locs hP hD hS => ?_)
  have hP : va_P D vwCl [(pe, .inr (9, [.int 0, .ref q_13, .ref q_14, .ref q_15, .null, .null, .null, .null, .null, .null])), (q_13, .inl (cy 0, 20, .inl (fun _ => 0))), (q_14, .inl (cy 0, 20, .inl (fun _ => 0))), (q_15, .inl (cy 0, 20, .inl (fun _ => 0)))] H := hP
  have hD : va_D A [(pe, .inr (9, [.int 0, .ref q_13, .ref q_14, .ref q_15, .null, .null, .null, .null, .null, .null])), (q_13, .inl (cy 0, 20, .inl (fun _ => 0))), (q_14, .inl (cy 0, 20, .inl (fun _ => 0))), (q_15, .inl (cy 0, 20, .inl (fun _ => 0)))] := hD
  refine lv_aload_n hx hb dX4_init_33 rfl (lv_at hl 0 rfl) ?_
  refine lv_bipush (v := 20) hx hb dX4_init_34 (by decide) ?_
  refine va_newa (atype := .int) (a0 := (20, .inl (fun _ => 0))) (N' := 20) hx hb (hts (.arrayClass .int) (zx_Gc mm_171)) rfl hK hP hD hS hA (fun _ => rfl) (by decide) (by decide) (Nat.le_of_ble_eq_true rfl) (Nat.le_of_ble_eq_true rfl) (Nat.le_of_ble_eq_true rfl) dX4_init_36 (fun q_16 cA9 H hK9 hP hD hS => ?_)
  obtain rfl := zx_same (c0 := cy 0) 0 rfl hK9
  have hP : va_P D vwCl [(pe, .inr (9, [.int 0, .ref q_13, .ref q_14, .ref q_15, .null, .null, .null, .null, .null, .null])), (q_13, .inl (cy 0, 20, .inl (fun _ => 0))), (q_14, .inl (cy 0, 20, .inl (fun _ => 0))), (q_15, .inl (cy 0, 20, .inl (fun _ => 0))), (q_16, .inl (cy 0, 20, .inl (fun _ => 0)))] H := hP
  have hD : va_D A [(pe, .inr (9, [.int 0, .ref q_13, .ref q_14, .ref q_15, .null, .null, .null, .null, .null, .null])), (q_13, .inl (cy 0, 20, .inl (fun _ => 0))), (q_14, .inl (cy 0, 20, .inl (fun _ => 0))), (q_15, .inl (cy 0, 20, .inl (fun _ => 0))), (q_16, .inl (cy 0, 20, .inl (fun _ => 0)))] := hD
  refine W.widen (k := 4) (n := 80) (Nat.le_of_ble_eq_true rfl) (Nat.le_of_ble_eq_true rfl) ?_
  refine va_putF (D := D) (ci := 9) (v := .ref q_16) (ty := .array .int) (C := RX4) (T := TX4) (N := 10) hx hb hts (fun w h => zx_Gc (uz_X4 w h)) tyX4 tyX4_ok nmX4 hown hK hP hD hS 0 rfl rfl 4 (by decide) (hts (.fieldLink RX4 25 "Refereehall$People" "kin" "[I") (zx_Gc mm_138)) (fun _ h9 => h9) rfl hin rfl (by decide +kernel) rfl rfl (Nat.le_of_ble_eq_true rfl) dX4_init_38 (fun H locs hP hD hS => ?_)
  have hP : va_P D vwCl [(pe, .inr (9, [.int 0, .ref q_13, .ref q_14, .ref q_15, .ref q_16, .null, .null, .null, .null, .null])), (q_13, .inl (cy 0, 20, .inl (fun _ => 0))), (q_14, .inl (cy 0, 20, .inl (fun _ => 0))), (q_15, .inl (cy 0, 20, .inl (fun _ => 0))), (q_16, .inl (cy 0, 20, .inl (fun _ => 0)))] H := hP
  have hD : va_D A [(pe, .inr (9, [.int 0, .ref q_13, .ref q_14, .ref q_15, .ref q_16, .null, .null, .null, .null, .null])), (q_13, .inl (cy 0, 20, .inl (fun _ => 0))), (q_14, .inl (cy 0, 20, .inl (fun _ => 0))), (q_15, .inl (cy 0, 20, .inl (fun _ => 0))), (q_16, .inl (cy 0, 20, .inl (fun _ => 0)))] := hD
  refine lv_aload_n hx hb dX4_init_41 rfl (lv_at hl 0 rfl) ?_
  refine lv_bipush (v := 20) hx hb dX4_init_42 (by decide) ?_
  refine va_newa (atype := .int) (a0 := (20, .inl (fun _ => 0))) (N' := 20) hx hb (hts (.arrayClass .int) (zx_Gc mm_171)) rfl hK hP hD hS hA (fun _ => rfl) (by decide) (by decide) (Nat.le_of_ble_eq_true rfl) (Nat.le_of_ble_eq_true rfl) (Nat.le_of_ble_eq_true rfl) dX4_init_44 (fun q_17 cA9 H hK9 hP hD hS => ?_)
  obtain rfl := zx_same (c0 := cy 0) 0 rfl hK9
  have hP : va_P D vwCl [(pe, .inr (9, [.int 0, .ref q_13, .ref q_14, .ref q_15, .ref q_16, .null, .null, .null, .null, .null])), (q_13, .inl (cy 0, 20, .inl (fun _ => 0))), (q_14, .inl (cy 0, 20, .inl (fun _ => 0))), (q_15, .inl (cy 0, 20, .inl (fun _ => 0))), (q_16, .inl (cy 0, 20, .inl (fun _ => 0))), (q_17, .inl (cy 0, 20, .inl (fun _ => 0)))] H := hP
  have hD : va_D A [(pe, .inr (9, [.int 0, .ref q_13, .ref q_14, .ref q_15, .ref q_16, .null, .null, .null, .null, .null])), (q_13, .inl (cy 0, 20, .inl (fun _ => 0))), (q_14, .inl (cy 0, 20, .inl (fun _ => 0))), (q_15, .inl (cy 0, 20, .inl (fun _ => 0))), (q_16, .inl (cy 0, 20, .inl (fun _ => 0))), (q_17, .inl (cy 0, 20, .inl (fun _ => 0)))] := hD
  refine W.widen (k := 5) (n := 100) (Nat.le_of_ble_eq_true rfl) (Nat.le_of_ble_eq_true rfl) ?_
  refine va_putF (D := D) (ci := 9) (v := .ref q_17) (ty := .array .int) (C := RX4) (T := TX4) (N := 10) hx hb hts (fun w h => zx_Gc (uz_X4 w h)) tyX4 tyX4_ok nmX4 hown hK hP hD hS 0 rfl rfl 5 (by decide) (hts (.fieldLink RX4 28 "Refereehall$People" "journals" "[I") (zx_Gc mm_140)) (fun _ h9 => h9) rfl hin rfl (by decide +kernel) rfl rfl (Nat.le_of_ble_eq_true rfl) dX4_init_46 (fun H locs hP hD hS => ?_)
  have hP : va_P D vwCl [(pe, .inr (9, [.int 0, .ref q_13, .ref q_14, .ref q_15, .ref q_16, .ref q_17, .null, .null, .null, .null])), (q_13, .inl (cy 0, 20, .inl (fun _ => 0))), (q_14, .inl (cy 0, 20, .inl (fun _ => 0))), (q_15, .inl (cy 0, 20, .inl (fun _ => 0))), (q_16, .inl (cy 0, 20, .inl (fun _ => 0))), (q_17, .inl (cy 0, 20, .inl (fun _ => 0)))] H := hP
  have hD : va_D A [(pe, .inr (9, [.int 0, .ref q_13, .ref q_14, .ref q_15, .ref q_16, .ref q_17, .null, .null, .null, .null])), (q_13, .inl (cy 0, 20, .inl (fun _ => 0))), (q_14, .inl (cy 0, 20, .inl (fun _ => 0))), (q_15, .inl (cy 0, 20, .inl (fun _ => 0))), (q_16, .inl (cy 0, 20, .inl (fun _ => 0))), (q_17, .inl (cy 0, 20, .inl (fun _ => 0)))] := hD
  refine lv_aload_n hx hb dX4_init_49 rfl (lv_at hl 0 rfl) ?_
  refine lv_bipush (v := 20) hx hb dX4_init_50 (by decide) ?_
  refine va_newa (atype := .int) (a0 := (20, .inl (fun _ => 0))) (N' := 20) hx hb (hts (.arrayClass .int) (zx_Gc mm_171)) rfl hK hP hD hS hA (fun _ => rfl) (by decide) (by decide) (Nat.le_of_ble_eq_true rfl) (Nat.le_of_ble_eq_true rfl) (Nat.le_of_ble_eq_true rfl) dX4_init_52 (fun q_18 cA9 H hK9 hP hD hS => ?_)
  obtain rfl := zx_same (c0 := cy 0) 0 rfl hK9
  have hP : va_P D vwCl [(pe, .inr (9, [.int 0, .ref q_13, .ref q_14, .ref q_15, .ref q_16, .ref q_17, .null, .null, .null, .null])), (q_13, .inl (cy 0, 20, .inl (fun _ => 0))), (q_14, .inl (cy 0, 20, .inl (fun _ => 0))), (q_15, .inl (cy 0, 20, .inl (fun _ => 0))), (q_16, .inl (cy 0, 20, .inl (fun _ => 0))), (q_17, .inl (cy 0, 20, .inl (fun _ => 0))), (q_18, .inl (cy 0, 20, .inl (fun _ => 0)))] H := hP
  have hD : va_D A [(pe, .inr (9, [.int 0, .ref q_13, .ref q_14, .ref q_15, .ref q_16, .ref q_17, .null, .null, .null, .null])), (q_13, .inl (cy 0, 20, .inl (fun _ => 0))), (q_14, .inl (cy 0, 20, .inl (fun _ => 0))), (q_15, .inl (cy 0, 20, .inl (fun _ => 0))), (q_16, .inl (cy 0, 20, .inl (fun _ => 0))), (q_17, .inl (cy 0, 20, .inl (fun _ => 0))), (q_18, .inl (cy 0, 20, .inl (fun _ => 0)))] := hD
  refine W.widen (k := 6) (n := 120) (Nat.le_of_ble_eq_true rfl) (Nat.le_of_ble_eq_true rfl) ?_
  refine va_putF (D := D) (ci := 9) (v := .ref q_18) (ty := .array .int) (C := RX4) (T := TX4) (N := 10) hx hb hts (fun w h => zx_Gc (uz_X4 w h)) tyX4 tyX4_ok nmX4 hown hK hP hD hS 0 rfl rfl 6 (by decide) (hts (.fieldLink RX4 31 "Refereehall$People" "scores" "[I") (zx_Gc mm_142)) (fun _ h9 => h9) rfl hin rfl (by decide +kernel) rfl rfl (Nat.le_of_ble_eq_true rfl) dX4_init_54 (fun H locs hP hD hS => ?_)
  have hP : va_P D vwCl [(pe, .inr (9, [.int 0, .ref q_13, .ref q_14, .ref q_15, .ref q_16, .ref q_17, .ref q_18, .null, .null, .null])), (q_13, .inl (cy 0, 20, .inl (fun _ => 0))), (q_14, .inl (cy 0, 20, .inl (fun _ => 0))), (q_15, .inl (cy 0, 20, .inl (fun _ => 0))), (q_16, .inl (cy 0, 20, .inl (fun _ => 0))), (q_17, .inl (cy 0, 20, .inl (fun _ => 0))), (q_18, .inl (cy 0, 20, .inl (fun _ => 0)))] H := hP
  have hD : va_D A [(pe, .inr (9, [.int 0, .ref q_13, .ref q_14, .ref q_15, .ref q_16, .ref q_17, .ref q_18, .null, .null, .null])), (q_13, .inl (cy 0, 20, .inl (fun _ => 0))), (q_14, .inl (cy 0, 20, .inl (fun _ => 0))), (q_15, .inl (cy 0, 20, .inl (fun _ => 0))), (q_16, .inl (cy 0, 20, .inl (fun _ => 0))), (q_17, .inl (cy 0, 20, .inl (fun _ => 0))), (q_18, .inl (cy 0, 20, .inl (fun _ => 0)))] := hD
  refine lv_aload_n hx hb dX4_init_57 rfl (lv_at hl 0 rfl) ?_
  refine lv_bipush (v := 20) hx hb dX4_init_58 (by decide) ?_
  refine va_newa (atype := .int) (a0 := (20, .inl (fun _ => 0))) (N' := 20) hx hb (hts (.arrayClass .int) (zx_Gc mm_171)) rfl hK hP hD hS hA (fun _ => rfl) (by decide) (by decide) (Nat.le_of_ble_eq_true rfl) (Nat.le_of_ble_eq_true rfl) (Nat.le_of_ble_eq_true rfl) dX4_init_60 (fun q_19 cA9 H hK9 hP hD hS => ?_)
  obtain rfl := zx_same (c0 := cy 0) 0 rfl hK9
  have hP : va_P D vwCl [(pe, .inr (9, [.int 0, .ref q_13, .ref q_14, .ref q_15, .ref q_16, .ref q_17, .ref q_18, .null, .null, .null])), (q_13, .inl (cy 0, 20, .inl (fun _ => 0))), (q_14, .inl (cy 0, 20, .inl (fun _ => 0))), (q_15, .inl (cy 0, 20, .inl (fun _ => 0))), (q_16, .inl (cy 0, 20, .inl (fun _ => 0))), (q_17, .inl (cy 0, 20, .inl (fun _ => 0))), (q_18, .inl (cy 0, 20, .inl (fun _ => 0))), (q_19, .inl (cy 0, 20, .inl (fun _ => 0)))] H := hP
  have hD : va_D A [(pe, .inr (9, [.int 0, .ref q_13, .ref q_14, .ref q_15, .ref q_16, .ref q_17, .ref q_18, .null, .null, .null])), (q_13, .inl (cy 0, 20, .inl (fun _ => 0))), (q_14, .inl (cy 0, 20, .inl (fun _ => 0))), (q_15, .inl (cy 0, 20, .inl (fun _ => 0))), (q_16, .inl (cy 0, 20, .inl (fun _ => 0))), (q_17, .inl (cy 0, 20, .inl (fun _ => 0))), (q_18, .inl (cy 0, 20, .inl (fun _ => 0))), (q_19, .inl (cy 0, 20, .inl (fun _ => 0)))] := hD
  refine W.widen (k := 7) (n := 140) (Nat.le_of_ble_eq_true rfl) (Nat.le_of_ble_eq_true rfl) ?_
  refine va_putF (D := D) (ci := 9) (v := .ref q_19) (ty := .array .int) (C := RX4) (T := TX4) (N := 10) hx hb hts (fun w h => zx_Gc (uz_X4 w h)) tyX4 tyX4_ok nmX4 hown hK hP hD hS 0 rfl rfl 7 (by decide) (hts (.fieldLink RX4 34 "Refereehall$People" "given" "[I") (zx_Gc mm_144)) (fun _ h9 => h9) rfl hin rfl (by decide +kernel) rfl rfl (Nat.le_of_ble_eq_true rfl) dX4_init_62 (fun H locs hP hD hS => ?_)
  have hP : va_P D vwCl [(pe, .inr (9, [.int 0, .ref q_13, .ref q_14, .ref q_15, .ref q_16, .ref q_17, .ref q_18, .ref q_19, .null, .null])), (q_13, .inl (cy 0, 20, .inl (fun _ => 0))), (q_14, .inl (cy 0, 20, .inl (fun _ => 0))), (q_15, .inl (cy 0, 20, .inl (fun _ => 0))), (q_16, .inl (cy 0, 20, .inl (fun _ => 0))), (q_17, .inl (cy 0, 20, .inl (fun _ => 0))), (q_18, .inl (cy 0, 20, .inl (fun _ => 0))), (q_19, .inl (cy 0, 20, .inl (fun _ => 0)))] H := hP
  have hD : va_D A [(pe, .inr (9, [.int 0, .ref q_13, .ref q_14, .ref q_15, .ref q_16, .ref q_17, .ref q_18, .ref q_19, .null, .null])), (q_13, .inl (cy 0, 20, .inl (fun _ => 0))), (q_14, .inl (cy 0, 20, .inl (fun _ => 0))), (q_15, .inl (cy 0, 20, .inl (fun _ => 0))), (q_16, .inl (cy 0, 20, .inl (fun _ => 0))), (q_17, .inl (cy 0, 20, .inl (fun _ => 0))), (q_18, .inl (cy 0, 20, .inl (fun _ => 0))), (q_19, .inl (cy 0, 20, .inl (fun _ => 0)))] := hD
  refine lv_aload_n hx hb dX4_init_65 rfl (lv_at hl 0 rfl) ?_
  refine lv_sipush (v := 200) hx hb dX4_init_66 (by decide) ?_
  refine va_newa (atype := .int) (a0 := (200, .inl (fun _ => 0))) (N' := 200) hx hb (hts (.arrayClass .int) (zx_Gc mm_171)) rfl hK hP hD hS hA (fun _ => rfl) (by decide) (by decide) (Nat.le_of_ble_eq_true rfl) (Nat.le_of_ble_eq_true rfl) (Nat.le_of_ble_eq_true rfl) dX4_init_69 (fun q_20 cA9 H hK9 hP hD hS => ?_)
  obtain rfl := zx_same (c0 := cy 0) 0 rfl hK9
  have hP : va_P D vwCl [(pe, .inr (9, [.int 0, .ref q_13, .ref q_14, .ref q_15, .ref q_16, .ref q_17, .ref q_18, .ref q_19, .null, .null])), (q_13, .inl (cy 0, 20, .inl (fun _ => 0))), (q_14, .inl (cy 0, 20, .inl (fun _ => 0))), (q_15, .inl (cy 0, 20, .inl (fun _ => 0))), (q_16, .inl (cy 0, 20, .inl (fun _ => 0))), (q_17, .inl (cy 0, 20, .inl (fun _ => 0))), (q_18, .inl (cy 0, 20, .inl (fun _ => 0))), (q_19, .inl (cy 0, 20, .inl (fun _ => 0))), (q_20, .inl (cy 0, 200, .inl (fun _ => 0)))] H := hP
  have hD : va_D A [(pe, .inr (9, [.int 0, .ref q_13, .ref q_14, .ref q_15, .ref q_16, .ref q_17, .ref q_18, .ref q_19, .null, .null])), (q_13, .inl (cy 0, 20, .inl (fun _ => 0))), (q_14, .inl (cy 0, 20, .inl (fun _ => 0))), (q_15, .inl (cy 0, 20, .inl (fun _ => 0))), (q_16, .inl (cy 0, 20, .inl (fun _ => 0))), (q_17, .inl (cy 0, 20, .inl (fun _ => 0))), (q_18, .inl (cy 0, 20, .inl (fun _ => 0))), (q_19, .inl (cy 0, 20, .inl (fun _ => 0))), (q_20, .inl (cy 0, 200, .inl (fun _ => 0)))] := hD
  refine W.widen (k := 8) (n := 340) (Nat.le_of_ble_eq_true rfl) (Nat.le_of_ble_eq_true rfl) ?_
  refine va_putF (D := D) (ci := 9) (v := .ref q_20) (ty := .array .int) (C := RX4) (T := TX4) (N := 10) hx hb hts (fun w h => zx_Gc (uz_X4 w h)) tyX4 tyX4_ok nmX4 hown hK hP hD hS 0 rfl rfl 8 (by decide) (hts (.fieldLink RX4 37 "Refereehall$People" "leftOn" "[I") (zx_Gc mm_146)) (fun _ h9 => h9) rfl hin rfl (by decide +kernel) rfl rfl (Nat.le_of_ble_eq_true rfl) dX4_init_71 (fun H locs hP hD hS => ?_)
  have hP : va_P D vwCl [(pe, .inr (9, [.int 0, .ref q_13, .ref q_14, .ref q_15, .ref q_16, .ref q_17, .ref q_18, .ref q_19, .ref q_20, .null])), (q_13, .inl (cy 0, 20, .inl (fun _ => 0))), (q_14, .inl (cy 0, 20, .inl (fun _ => 0))), (q_15, .inl (cy 0, 20, .inl (fun _ => 0))), (q_16, .inl (cy 0, 20, .inl (fun _ => 0))), (q_17, .inl (cy 0, 20, .inl (fun _ => 0))), (q_18, .inl (cy 0, 20, .inl (fun _ => 0))), (q_19, .inl (cy 0, 20, .inl (fun _ => 0))), (q_20, .inl (cy 0, 200, .inl (fun _ => 0)))] H := hP
  have hD : va_D A [(pe, .inr (9, [.int 0, .ref q_13, .ref q_14, .ref q_15, .ref q_16, .ref q_17, .ref q_18, .ref q_19, .ref q_20, .null])), (q_13, .inl (cy 0, 20, .inl (fun _ => 0))), (q_14, .inl (cy 0, 20, .inl (fun _ => 0))), (q_15, .inl (cy 0, 20, .inl (fun _ => 0))), (q_16, .inl (cy 0, 20, .inl (fun _ => 0))), (q_17, .inl (cy 0, 20, .inl (fun _ => 0))), (q_18, .inl (cy 0, 20, .inl (fun _ => 0))), (q_19, .inl (cy 0, 20, .inl (fun _ => 0))), (q_20, .inl (cy 0, 200, .inl (fun _ => 0)))] := hD
  refine lv_aload_n hx hb dX4_init_74 rfl (lv_at hl 0 rfl) ?_
  refine lv_sipush (v := 400) hx hb dX4_init_75 (by decide) ?_
  refine va_newa (atype := .int) (a0 := (400, .inl (fun _ => 0))) (N' := 400) hx hb (hts (.arrayClass .int) (zx_Gc mm_171)) rfl hK hP hD hS hA (fun _ => rfl) (by decide) (by decide) (Nat.le_of_ble_eq_true rfl) (Nat.le_of_ble_eq_true rfl) (Nat.le_of_ble_eq_true rfl) dX4_init_78 (fun q_21 cA9 H hK9 hP hD hS => ?_)
  obtain rfl := zx_same (c0 := cy 0) 0 rfl hK9
  have hP : va_P D vwCl [(pe, .inr (9, [.int 0, .ref q_13, .ref q_14, .ref q_15, .ref q_16, .ref q_17, .ref q_18, .ref q_19, .ref q_20, .null])), (q_13, .inl (cy 0, 20, .inl (fun _ => 0))), (q_14, .inl (cy 0, 20, .inl (fun _ => 0))), (q_15, .inl (cy 0, 20, .inl (fun _ => 0))), (q_16, .inl (cy 0, 20, .inl (fun _ => 0))), (q_17, .inl (cy 0, 20, .inl (fun _ => 0))), (q_18, .inl (cy 0, 20, .inl (fun _ => 0))), (q_19, .inl (cy 0, 20, .inl (fun _ => 0))), (q_20, .inl (cy 0, 200, .inl (fun _ => 0))), (q_21, .inl (cy 0, 400, .inl (fun _ => 0)))] H := hP
  have hD : va_D A [(pe, .inr (9, [.int 0, .ref q_13, .ref q_14, .ref q_15, .ref q_16, .ref q_17, .ref q_18, .ref q_19, .ref q_20, .null])), (q_13, .inl (cy 0, 20, .inl (fun _ => 0))), (q_14, .inl (cy 0, 20, .inl (fun _ => 0))), (q_15, .inl (cy 0, 20, .inl (fun _ => 0))), (q_16, .inl (cy 0, 20, .inl (fun _ => 0))), (q_17, .inl (cy 0, 20, .inl (fun _ => 0))), (q_18, .inl (cy 0, 20, .inl (fun _ => 0))), (q_19, .inl (cy 0, 20, .inl (fun _ => 0))), (q_20, .inl (cy 0, 200, .inl (fun _ => 0))), (q_21, .inl (cy 0, 400, .inl (fun _ => 0)))] := hD
  refine W.widen (k := 9) (n := 740) (Nat.le_of_ble_eq_true rfl) (Nat.le_of_ble_eq_true rfl) ?_
  refine va_putF (D := D) (ci := 9) (v := .ref q_21) (ty := .array .int) (C := RX4) (T := TX4) (N := 10) hx hb hts (fun w h => zx_Gc (uz_X4 w h)) tyX4 tyX4_ok nmX4 hown hK hP hD hS 0 rfl rfl 9 (by decide) (hts (.fieldLink RX4 40 "Refereehall$People" "moneyTo" "[I") (zx_Gc mm_148)) (fun _ h9 => h9) rfl hin rfl (by decide +kernel) rfl rfl (Nat.le_of_ble_eq_true rfl) dX4_init_80 (fun H locs hP hD hS => ?_)
  have hP : va_P D vwCl [(pe, .inr (9, [.int 0, .ref q_13, .ref q_14, .ref q_15, .ref q_16, .ref q_17, .ref q_18, .ref q_19, .ref q_20, .ref q_21])), (q_13, .inl (cy 0, 20, .inl (fun _ => 0))), (q_14, .inl (cy 0, 20, .inl (fun _ => 0))), (q_15, .inl (cy 0, 20, .inl (fun _ => 0))), (q_16, .inl (cy 0, 20, .inl (fun _ => 0))), (q_17, .inl (cy 0, 20, .inl (fun _ => 0))), (q_18, .inl (cy 0, 20, .inl (fun _ => 0))), (q_19, .inl (cy 0, 20, .inl (fun _ => 0))), (q_20, .inl (cy 0, 200, .inl (fun _ => 0))), (q_21, .inl (cy 0, 400, .inl (fun _ => 0)))] H := hP
  have hD : va_D A [(pe, .inr (9, [.int 0, .ref q_13, .ref q_14, .ref q_15, .ref q_16, .ref q_17, .ref q_18, .ref q_19, .ref q_20, .ref q_21])), (q_13, .inl (cy 0, 20, .inl (fun _ => 0))), (q_14, .inl (cy 0, 20, .inl (fun _ => 0))), (q_15, .inl (cy 0, 20, .inl (fun _ => 0))), (q_16, .inl (cy 0, 20, .inl (fun _ => 0))), (q_17, .inl (cy 0, 20, .inl (fun _ => 0))), (q_18, .inl (cy 0, 20, .inl (fun _ => 0))), (q_19, .inl (cy 0, 20, .inl (fun _ => 0))), (q_20, .inl (cy 0, 200, .inl (fun _ => 0))), (q_21, .inl (cy 0, 400, .inl (fun _ => 0)))] := hD
  refine lv_aload_n hx hb dX4_init_83 rfl (lv_at hl 0 rfl) ?_
  refine va_get (D := D) (ci := 9) (v := .ref q_15) (C := RX4) (T := TX4) (N := 10) hx hb hts (fun w h => zx_Gc (uz_X4 w h)) hown hK hP 0 rfl rfl 3 (by decide) (hts (.fieldLink RX4 22 "Refereehall$People" "awayTo" "[I") (zx_Gc mm_136)) (fun _ h9 => h9) rfl dX4_init_84 ?_
  refine lv_iconst (v := (-1)) hx hb dX4_init_87 (by decide) ?_
  have hPc := hP.sub (ws' := [(q_15, .inl (cy 0, 20, .inl (fun _ => 0)))]) [3] rfl
  have hDc := hD.sub (ws' := [(q_15, .inl (cy 0, 20, .inl (fun _ => 0)))]) [3] (by decide) rfl
  have hFc := va_free (wc := [(q_15, .inl (cy 0, 20, .inl (fun _ => 0)))]) hD hS hA [3] rfl
  refine va_callv (va_runS (As := [.ref q_15, .int (-1)]) (rest := []) ⟨hx, hb, hml, hown, hts⟩ (c_fill l hst D cy ed H.size q_15 20 (fun _ => 0) (-1) (by decide)) (va_cwS 2 hts (zx_GS mm_127 mm_128 mm_73 mm_129) rfl rfl rfl (by decide +kernel) ⟨(Nat.le_of_ble_eq_true rfl), (Nat.le_of_ble_eq_true rfl)⟩) ⟨zx_blind, zx_give hPc hK hDc hS hFc hZ hN⟩ rfl rfl hl.1 rfl (lv_room (Nat.le_of_ble_eq_true rfl)) dX4_init_88 ⟨(Nat.le_of_ble_eq_true rfl), (Nat.le_of_ble_eq_true rfl)⟩) hS (fun q _ h => hFc q h) hFc (fun u t H1 locs ht hvm hw hB hz1 hk1 hS => ?_)
  obtain ⟨f2_22, rfl⟩ : ∃ z9, z9 = u := ⟨_, rfl⟩
  obtain ⟨hP, hD⟩ := zx_join (wr := [(pe, .inr (9, [.int 0, .ref q_13, .ref q_14, .ref q_15, .ref q_16, .ref q_17, .ref q_18, .ref q_19, .ref q_20, .ref q_21])), (q_13, .inl (cy 0, 20, .inl (fun _ => 0))), (q_14, .inl (cy 0, 20, .inl (fun _ => 0))), (q_16, .inl (cy 0, 20, .inl (fun _ => 0))), (q_17, .inl (cy 0, 20, .inl (fun _ => 0))), (q_18, .inl (cy 0, 20, .inl (fun _ => 0))), (q_19, .inl (cy 0, 20, .inl (fun _ => 0))), (q_20, .inl (cy 0, 200, .inl (fun _ => 0))), (q_21, .inl (cy 0, 400, .inl (fun _ => 0)))]) (w1 := [(q_15, .inl (cy 0, 20, .inl f2_22))]) [3] [0, 1, 2, 4, 5, 6, 7, 8, 9] rfl rfl (by decide) (by decide) hP hD hk1 hFc hB ht
  generalize H1 = H at hP hS ⊢
  have hP : va_P D vwCl [(pe, .inr (9, [.int 0, .ref q_13, .ref q_14, .ref q_15, .ref q_16, .ref q_17, .ref q_18, .ref q_19, .ref q_20, .ref q_21])), (q_13, .inl (cy 0, 20, .inl (fun _ => 0))), (q_14, .inl (cy 0, 20, .inl (fun _ => 0))), (q_16, .inl (cy 0, 20, .inl (fun _ => 0))), (q_17, .inl (cy 0, 20, .inl (fun _ => 0))), (q_18, .inl (cy 0, 20, .inl (fun _ => 0))), (q_19, .inl (cy 0, 20, .inl (fun _ => 0))), (q_20, .inl (cy 0, 200, .inl (fun _ => 0))), (q_21, .inl (cy 0, 400, .inl (fun _ => 0))), (q_15, .inl (cy 0, 20, .inl f2_22))] H := hP
  have hD : va_D A [(pe, .inr (9, [.int 0, .ref q_13, .ref q_14, .ref q_15, .ref q_16, .ref q_17, .ref q_18, .ref q_19, .ref q_20, .ref q_21])), (q_13, .inl (cy 0, 20, .inl (fun _ => 0))), (q_14, .inl (cy 0, 20, .inl (fun _ => 0))), (q_16, .inl (cy 0, 20, .inl (fun _ => 0))), (q_17, .inl (cy 0, 20, .inl (fun _ => 0))), (q_18, .inl (cy 0, 20, .inl (fun _ => 0))), (q_19, .inl (cy 0, 20, .inl (fun _ => 0))), (q_20, .inl (cy 0, 200, .inl (fun _ => 0))), (q_21, .inl (cy 0, 400, .inl (fun _ => 0))), (q_15, .inl (cy 0, 20, .inl f2_22))] := hD
  refine W.widen (k := 9) (n := 740) (Nat.le_of_ble_eq_true rfl) (Nat.le_of_ble_eq_true rfl) ?_
  refine lv_aload_n hx hb dX4_init_91 rfl (lv_at hl 0 rfl) ?_
  refine va_get (D := D) (ci := 9) (v := .ref q_20) (C := RX4) (T := TX4) (N := 10) hx hb hts (fun w h => zx_Gc (uz_X4 w h)) hown hK hP 0 rfl rfl 8 (by decide) (hts (.fieldLink RX4 37 "Refereehall$People" "leftOn" "[I") (zx_Gc mm_146)) (fun _ h9 => h9) rfl dX4_init_92 ?_
  refine lv_bipush (v := (-60)) hx hb dX4_init_95 (by decide) ?_
  have hPc := hP.sub (ws' := [(q_20, .inl (cy 0, 200, .inl (fun _ => 0)))]) [7] rfl
  have hDc := hD.sub (ws' := [(q_20, .inl (cy 0, 200, .inl (fun _ => 0)))]) [7] (by decide) rfl
  have hFc := va_free (wc := [(q_20, .inl (cy 0, 200, .inl (fun _ => 0)))]) hD hS hA [7] rfl
  refine va_callv (va_runS (As := [.ref q_20, .int (-60)]) (rest := []) ⟨hx, hb, hml, hown, hts⟩ (c_fill l hst D cy ed H.size q_20 200 (fun _ => 0) (-60) (by decide)) (va_cwS 2 hts (zx_GS mm_127 mm_128 mm_73 mm_129) rfl rfl rfl (by decide +kernel) ⟨(Nat.le_of_ble_eq_true rfl), (Nat.le_of_ble_eq_true rfl)⟩) ⟨zx_blind, zx_give hPc hK hDc hS hFc hZ hN⟩ rfl rfl hl.1 rfl (lv_room (Nat.le_of_ble_eq_true rfl)) dX4_init_97 ⟨(Nat.le_of_ble_eq_true rfl), (Nat.le_of_ble_eq_true rfl)⟩) hS (fun q _ h => hFc q h) hFc (fun u t H1 locs ht hvm hw hB hz1 hk1 hS => ?_)
  obtain ⟨f2_23, rfl⟩ : ∃ z9, z9 = u := ⟨_, rfl⟩
  obtain ⟨hP, hD⟩ := zx_join (wr := [(pe, .inr (9, [.int 0, .ref q_13, .ref q_14, .ref q_15, .ref q_16, .ref q_17, .ref q_18, .ref q_19, .ref q_20, .ref q_21])), (q_13, .inl (cy 0, 20, .inl (fun _ => 0))), (q_14, .inl (cy 0, 20, .inl (fun _ => 0))), (q_16, .inl (cy 0, 20, .inl (fun _ => 0))), (q_17, .inl (cy 0, 20, .inl (fun _ => 0))), (q_18, .inl (cy 0, 20, .inl (fun _ => 0))), (q_19, .inl (cy 0, 20, .inl (fun _ => 0))), (q_21, .inl (cy 0, 400, .inl (fun _ => 0))), (q_15, .inl (cy 0, 20, .inl f2_22))]) (w1 := [(q_20, .inl (cy 0, 200, .inl f2_23))]) [7] [0, 1, 2, 3, 4, 5, 6, 8, 9] rfl rfl (by decide) (by decide) hP hD hk1 hFc hB ht
  generalize H1 = H at hP hS ⊢
  have hP : va_P D vwCl [(pe, .inr (9, [.int 0, .ref q_13, .ref q_14, .ref q_15, .ref q_16, .ref q_17, .ref q_18, .ref q_19, .ref q_20, .ref q_21])), (q_13, .inl (cy 0, 20, .inl (fun _ => 0))), (q_14, .inl (cy 0, 20, .inl (fun _ => 0))), (q_16, .inl (cy 0, 20, .inl (fun _ => 0))), (q_17, .inl (cy 0, 20, .inl (fun _ => 0))), (q_18, .inl (cy 0, 20, .inl (fun _ => 0))), (q_19, .inl (cy 0, 20, .inl (fun _ => 0))), (q_21, .inl (cy 0, 400, .inl (fun _ => 0))), (q_15, .inl (cy 0, 20, .inl f2_22)), (q_20, .inl (cy 0, 200, .inl f2_23))] H := hP
  have hD : va_D A [(pe, .inr (9, [.int 0, .ref q_13, .ref q_14, .ref q_15, .ref q_16, .ref q_17, .ref q_18, .ref q_19, .ref q_20, .ref q_21])), (q_13, .inl (cy 0, 20, .inl (fun _ => 0))), (q_14, .inl (cy 0, 20, .inl (fun _ => 0))), (q_16, .inl (cy 0, 20, .inl (fun _ => 0))), (q_17, .inl (cy 0, 20, .inl (fun _ => 0))), (q_18, .inl (cy 0, 20, .inl (fun _ => 0))), (q_19, .inl (cy 0, 20, .inl (fun _ => 0))), (q_21, .inl (cy 0, 400, .inl (fun _ => 0))), (q_15, .inl (cy 0, 20, .inl f2_22)), (q_20, .inl (cy 0, 200, .inl f2_23))] := hD
  refine W.widen (k := 9) (n := 740) (Nat.le_of_ble_eq_true rfl) (Nat.le_of_ble_eq_true rfl) ?_
  refine lv_aload_n hx hb dX4_init_100 rfl (lv_at hl 0 rfl) ?_
  refine va_get (D := D) (ci := 9) (v := .ref q_21) (C := RX4) (T := TX4) (N := 10) hx hb hts (fun w h => zx_Gc (uz_X4 w h)) hown hK hP 0 rfl rfl 9 (by decide) (hts (.fieldLink RX4 40 "Refereehall$People" "moneyTo" "[I") (zx_Gc mm_148)) (fun _ h9 => h9) rfl dX4_init_101 ?_
  refine lv_iconst (v := (-1)) hx hb dX4_init_104 (by decide) ?_
  have hPc := hP.sub (ws' := [(q_21, .inl (cy 0, 400, .inl (fun _ => 0)))]) [7] rfl
  have hDc := hD.sub (ws' := [(q_21, .inl (cy 0, 400, .inl (fun _ => 0)))]) [7] (by decide) rfl
  have hFc := va_free (wc := [(q_21, .inl (cy 0, 400, .inl (fun _ => 0)))]) hD hS hA [7] rfl
  refine va_callv (va_runS (As := [.ref q_21, .int (-1)]) (rest := []) ⟨hx, hb, hml, hown, hts⟩ (c_fill l hst D cy ed H.size q_21 400 (fun _ => 0) (-1) (by decide)) (va_cwS 2 hts (zx_GS mm_127 mm_128 mm_73 mm_129) rfl rfl rfl (by decide +kernel) ⟨(Nat.le_of_ble_eq_true rfl), (Nat.le_of_ble_eq_true rfl)⟩) ⟨zx_blind, zx_give hPc hK hDc hS hFc hZ hN⟩ rfl rfl hl.1 rfl (lv_room (Nat.le_of_ble_eq_true rfl)) dX4_init_105 ⟨(Nat.le_of_ble_eq_true rfl), (Nat.le_of_ble_eq_true rfl)⟩) hS (fun q _ h => hFc q h) hFc (fun u t H1 locs ht hvm hw hB hz1 hk1 hS => ?_)
  obtain ⟨f2_24, rfl⟩ : ∃ z9, z9 = u := ⟨_, rfl⟩
  obtain ⟨hP, hD⟩ := zx_join (wr := [(pe, .inr (9, [.int 0, .ref q_13, .ref q_14, .ref q_15, .ref q_16, .ref q_17, .ref q_18, .ref q_19, .ref q_20, .ref q_21])), (q_13, .inl (cy 0, 20, .inl (fun _ => 0))), (q_14, .inl (cy 0, 20, .inl (fun _ => 0))), (q_16, .inl (cy 0, 20, .inl (fun _ => 0))), (q_17, .inl (cy 0, 20, .inl (fun _ => 0))), (q_18, .inl (cy 0, 20, .inl (fun _ => 0))), (q_19, .inl (cy 0, 20, .inl (fun _ => 0))), (q_15, .inl (cy 0, 20, .inl f2_22)), (q_20, .inl (cy 0, 200, .inl f2_23))]) (w1 := [(q_21, .inl (cy 0, 400, .inl f2_24))]) [7] [0, 1, 2, 3, 4, 5, 6, 8, 9] rfl rfl (by decide) (by decide) hP hD hk1 hFc hB ht
  generalize H1 = H at hP hS ⊢
  have hP : va_P D vwCl [(pe, .inr (9, [.int 0, .ref q_13, .ref q_14, .ref q_15, .ref q_16, .ref q_17, .ref q_18, .ref q_19, .ref q_20, .ref q_21])), (q_13, .inl (cy 0, 20, .inl (fun _ => 0))), (q_14, .inl (cy 0, 20, .inl (fun _ => 0))), (q_16, .inl (cy 0, 20, .inl (fun _ => 0))), (q_17, .inl (cy 0, 20, .inl (fun _ => 0))), (q_18, .inl (cy 0, 20, .inl (fun _ => 0))), (q_19, .inl (cy 0, 20, .inl (fun _ => 0))), (q_15, .inl (cy 0, 20, .inl f2_22)), (q_20, .inl (cy 0, 200, .inl f2_23)), (q_21, .inl (cy 0, 400, .inl f2_24))] H := hP
  have hD : va_D A [(pe, .inr (9, [.int 0, .ref q_13, .ref q_14, .ref q_15, .ref q_16, .ref q_17, .ref q_18, .ref q_19, .ref q_20, .ref q_21])), (q_13, .inl (cy 0, 20, .inl (fun _ => 0))), (q_14, .inl (cy 0, 20, .inl (fun _ => 0))), (q_16, .inl (cy 0, 20, .inl (fun _ => 0))), (q_17, .inl (cy 0, 20, .inl (fun _ => 0))), (q_18, .inl (cy 0, 20, .inl (fun _ => 0))), (q_19, .inl (cy 0, 20, .inl (fun _ => 0))), (q_15, .inl (cy 0, 20, .inl f2_22)), (q_20, .inl (cy 0, 200, .inl f2_23)), (q_21, .inl (cy 0, 400, .inl f2_24))] := hD
  refine W.widen (k := 9) (n := 740) (Nat.le_of_ble_eq_true rfl) (Nat.le_of_ble_eq_true rfl) ?_
  have hP9 := hP.sub (ws' := [(pe, .inr (9, [.int 0, .ref q_13, .ref q_14, .ref q_15, .ref q_16, .ref q_17, .ref q_18, .ref q_19, .ref q_20, .ref q_21])), (q_13, .inl (cy 0, 20, .inl (fun _ => 0))), (q_14, .inl (cy 0, 20, .inl (fun _ => 0)))]) [0, 1, 2] rfl
  have hD9 := hD.sub (ws' := [(pe, .inr (9, [.int 0, .ref q_13, .ref q_14, .ref q_15, .ref q_16, .ref q_17, .ref q_18, .ref q_19, .ref q_20, .ref q_21])), (q_13, .inl (cy 0, 20, .inl (fun _ => 0))), (q_14, .inl (cy 0, 20, .inl (fun _ => 0)))]) [0, 1, 2] (by decide) rfl
  exact W.vret hx hb hr (fun t ht hW => ⟨⟨⟨q_13, q_14, q_15, q_16, q_17, q_18, q_19, q_20, q_21⟩, rfl, trivial, zx_fin hP9 hD9 hK ht hW⟩, hS.F ht⟩) hS.2.2 dX4_init_108
set_option maxHeartbeats 4000000 in
set_option maxRecDepth 100000 in
theorem c_X1_init (l : Launch) (hst : l.stackTraces = false) (D : va_G) (cy : Nat → ClassId) (ed sz : Nat) (ne : Nat) : Met l yX1_init wzX1_init ({ frames := 1, cells := 5, slots := 40, locals := 12 }) (zx_Pc D cy ed sz [.ref ne] [(ne, .inr (6, [.null, .null, .null, .null, .null]))]) (va_Qv (fun (u9 : Nat × Nat × Nat × Nat × Nat × (Nat → Int32) × (Nat → Int32) × (Nat → Int32) × (Nat → Int32)) => match u9 with | (n1, n2, n3, n4, n5, f2, f3, f4, f5) => ∀ j, j < 8 → f5 j = 115) (fun (u9 : Nat × Nat × Nat × Nat × Nat × (Nat → Int32) × (Nat → Int32) × (Nat → Int32) × (Nat → Int32)) (t9 : State) => match u9 with | (n1, n2, n3, n4, n5, f2, f3, f4, f5) => zx_At D cy (va_A [(ne, .inr (6, [.null, .null, .null, .null, .null]))] sz) [(ne, .inr (6, [.ref n1, .ref n2, .ref n3, .ref n4, .ref n5])), (n1, .inl (cy 0, 8, .inl (fun _ => 0))), (n2, .inl (cy 0, 8, .inl f2)), (n3, .inl (cy 0, 8, .inl f3)), (n4, .inl (cy 0, 8, .inl f4)), (n5, .inl (cy 1, 8, .inl f5))] t9) (va_A [(ne, .inr (6, [.null, .null, .null, .null, .null]))] sz)) 5 40 (va_A [(ne, .inr (6, [.null, .null, .null, .null, .null]))] sz) := by
  refine Met.ofW (cc := cX1_init) (maxL := 2) (ret := none) (by decide) rfl ?_
  intro p e s m args below meth c s₁ B hml hv
  obtain ⟨rfl, hsz, hP, hK, hD0, hZ, hN⟩ := hv
  have hx := B.exec
  have hb := B.bytes
  have hr := B.returns
  have hts := atoms_spec (ws := wzX1_init) B.pre
  have hown : s.vm.findClass RX1 = some m.cls := findClass_of_methodNamed B.named
  have hlocks := B.notSynchronized
  have hin : meth.name = "<init>" := (name_of_methodNamed B.named B.method).1
  subst hsz
  have hD := hD0.self (sz := s.heap.size)
  generalize hAe : va_A [(ne, .inr (6, [.null, .null, .null, .null, .null]))] s.heap.size = A at hD hZ ⊢
  have hA : ∀ q : Nat, s.heap.size ≤ q → A q := fun q h => by rw [← hAe]; exact Or.inr h
  have hS : va_S A s.heap s.heap [] := va_S.rf
  have hP : va_P D vwCl [(ne, .inr (6, [.null, .null, .null, .null, .null]))] s.heap := hP
  have hl := lv_entry ([.ref ne]) (n := 2) (Nat.le_of_ble_eq_true rfl)
  rw [lg_entry_eq]
  generalize (lg_sl ([.ref ne]) ++ List.replicate (2 - (lg_sl ([.ref ne])).length) Slot.unset).toArray = ls at hl ⊢
  have hl : lv_has ls 2 [(0, .ref ne)] := hl
  refine lv_aload_n hx hb dX1_init_0 rfl (lv_at hl 0 rfl) ?_
  refine W.objInit hx hb hown (hts (.methodLink RX1 3 objectInit) (zx_Gc mm_177)) (hts (.instanceMethod objectInit) (zx_Gc mm_119)) (hts (.code objectInit ⟨#[0xb1]⟩ 1 none) (zx_Gc mm_120)) rfl (by rw [hml]; exact hl.1) rfl dX1_init_1 (Nat.le_of_ble_eq_true rfl) (Nat.le_of_ble_eq_true rfl) ?_
  refine W.eq (g2 := F0 m 4 ls []) rfl ?_
  refine lv_aload_n hx hb dX1_init_4 rfl (lv_at hl 0 rfl) ?_
  refine lv_bipush (v := 8) hx hb dX1_init_5 (by decide) ?_
  refine va_newa (atype := .int) (a0 := (8, .inl (fun _ => 0))) (N' := 8) hx hb (hts (.arrayClass .int) (zx_Gc mm_171)) rfl hK hP hD hS hA (fun _ => rfl) (by decide) (by decide) (Nat.le_of_ble_eq_true rfl) (Nat.le_of_ble_eq_true rfl) (Nat.le_of_ble_eq_true rfl) dX1_init_7 (fun q_25 cA9 H hK9 hP hD hS => ?_)
  obtain rfl := zx_same (c0 := cy 0) 0 rfl hK9
  have hP : va_P D vwCl [(ne, .inr (6, [.null, .null, .null, .null, .null])), (q_25, .inl (cy 0, 8, .inl (fun _ => 0)))] H := hP
  have hD : va_D A [(ne, .inr (6, [.null, .null, .null, .null, .null])), (q_25, .inl (cy 0, 8, .inl (fun _ => 0)))] := hD
  refine W.widen (k := 1) (n := 8) (Nat.le_of_ble_eq_true rfl) (Nat.le_of_ble_eq_true rfl) ?_
  refine va_putF (D := D) (ci := 6) (v := .ref q_25) (ty := .array .int) (C := RX1) (T := TX1) (N := 5) hx hb hts (fun w h => zx_Gc (uz_X1 w h)) tyX1 tyX1_ok nmX1 hown hK hP hD hS 0 rfl rfl 0 (by decide) (hts (.fieldLink RX1 9 "Refereehall$Net" "ties" "[I") (zx_Gc mm_178)) (fun _ h9 => h9) rfl hin rfl (by decide +kernel) rfl rfl (Nat.le_of_ble_eq_true rfl) dX1_init_9 (fun H locs hP hD hS => ?_)
  have hP : va_P D vwCl [(ne, .inr (6, [.ref q_25, .null, .null, .null, .null])), (q_25, .inl (cy 0, 8, .inl (fun _ => 0)))] H := hP
  have hD : va_D A [(ne, .inr (6, [.ref q_25, .null, .null, .null, .null])), (q_25, .inl (cy 0, 8, .inl (fun _ => 0)))] := hD
  refine lv_aload_n hx hb dX1_init_12 rfl (lv_at hl 0 rfl) ?_
  refine lv_bipush (v := 8) hx hb dX1_init_13 (by decide) ?_
  refine va_newa (atype := .int) (a0 := (8, .inl (fun _ => 0))) (N' := 8) hx hb (hts (.arrayClass .int) (zx_Gc mm_171)) rfl hK hP hD hS hA (fun _ => rfl) (by decide) (by decide) (Nat.le_of_ble_eq_true rfl) (Nat.le_of_ble_eq_true rfl) (Nat.le_of_ble_eq_true rfl) dX1_init_15 (fun q_26 cA9 H hK9 hP hD hS => ?_)
  obtain rfl := zx_same (c0 := cy 0) 0 rfl hK9
  have hP : va_P D vwCl [(ne, .inr (6, [.ref q_25, .null, .null, .null, .null])), (q_25, .inl (cy 0, 8, .inl (fun _ => 0))), (q_26, .inl (cy 0, 8, .inl (fun _ => 0)))] H := hP
  have hD : va_D A [(ne, .inr (6, [.ref q_25, .null, .null, .null, .null])), (q_25, .inl (cy 0, 8, .inl (fun _ => 0))), (q_26, .inl (cy 0, 8, .inl (fun _ => 0)))] := hD
  refine W.widen (k := 2) (n := 16) (Nat.le_of_ble_eq_true rfl) (Nat.le_of_ble_eq_true rfl) ?_
  refine va_putF (D := D) (ci := 6) (v := .ref q_26) (ty := .array .int) (C := RX1) (T := TX1) (N := 5) hx hb hts (fun w h => zx_Gc (uz_X1 w h)) tyX1 tyX1_ok nmX1 hown hK hP hD hS 0 rfl rfl 1 (by decide) (hts (.fieldLink RX1 15 "Refereehall$Net" "needs" "[I") (zx_Gc mm_179)) (fun _ h9 => h9) rfl hin rfl (by decide +kernel) rfl rfl (Nat.le_of_ble_eq_true rfl) dX1_init_17 (fun H locs hP hD hS => ?_)
  have hP : va_P D vwCl [(ne, .inr (6, [.ref q_25, .ref q_26, .null, .null, .null])), (q_25, .inl (cy 0, 8, .inl (fun _ => 0))), (q_26, .inl (cy 0, 8, .inl (fun _ => 0)))] H := hP
  have hD : va_D A [(ne, .inr (6, [.ref q_25, .ref q_26, .null, .null, .null])), (q_25, .inl (cy 0, 8, .inl (fun _ => 0))), (q_26, .inl (cy 0, 8, .inl (fun _ => 0)))] := hD
  refine lv_aload_n hx hb dX1_init_20 rfl (lv_at hl 0 rfl) ?_
  refine lv_bipush (v := 8) hx hb dX1_init_21 (by decide) ?_
  refine va_newa (atype := .int) (a0 := (8, .inl (fun _ => 0))) (N' := 8) hx hb (hts (.arrayClass .int) (zx_Gc mm_171)) rfl hK hP hD hS hA (fun _ => rfl) (by decide) (by decide) (Nat.le_of_ble_eq_true rfl) (Nat.le_of_ble_eq_true rfl) (Nat.le_of_ble_eq_true rfl) dX1_init_23 (fun q_27 cA9 H hK9 hP hD hS => ?_)
  obtain rfl := zx_same (c0 := cy 0) 0 rfl hK9
  have hP : va_P D vwCl [(ne, .inr (6, [.ref q_25, .ref q_26, .null, .null, .null])), (q_25, .inl (cy 0, 8, .inl (fun _ => 0))), (q_26, .inl (cy 0, 8, .inl (fun _ => 0))), (q_27, .inl (cy 0, 8, .inl (fun _ => 0)))] H := hP
  have hD : va_D A [(ne, .inr (6, [.ref q_25, .ref q_26, .null, .null, .null])), (q_25, .inl (cy 0, 8, .inl (fun _ => 0))), (q_26, .inl (cy 0, 8, .inl (fun _ => 0))), (q_27, .inl (cy 0, 8, .inl (fun _ => 0)))] := hD
  refine W.widen (k := 3) (n := 24) (Nat.le_of_ble_eq_true rfl) (Nat.le_of_ble_eq_true rfl) ?_
  refine va_putF (D := D) (ci := 6) (v := .ref q_27) (ty := .array .int) (C := RX1) (T := TX1) (N := 5) hx hb hts (fun w h => zx_Gc (uz_X1 w h)) tyX1 tyX1_ok nmX1 hown hK hP hD hS 0 rfl rfl 2 (by decide) (hts (.fieldLink RX1 18 "Refereehall$Net" "accepts" "[I") (zx_Gc mm_181)) (fun _ h9 => h9) rfl hin rfl (by decide +kernel) rfl rfl (Nat.le_of_ble_eq_true rfl) dX1_init_25 (fun H locs hP hD hS => ?_)
  have hP : va_P D vwCl [(ne, .inr (6, [.ref q_25, .ref q_26, .ref q_27, .null, .null])), (q_25, .inl (cy 0, 8, .inl (fun _ => 0))), (q_26, .inl (cy 0, 8, .inl (fun _ => 0))), (q_27, .inl (cy 0, 8, .inl (fun _ => 0)))] H := hP
  have hD : va_D A [(ne, .inr (6, [.ref q_25, .ref q_26, .ref q_27, .null, .null])), (q_25, .inl (cy 0, 8, .inl (fun _ => 0))), (q_26, .inl (cy 0, 8, .inl (fun _ => 0))), (q_27, .inl (cy 0, 8, .inl (fun _ => 0)))] := hD
  refine lv_aload_n hx hb dX1_init_28 rfl (lv_at hl 0 rfl) ?_
  refine lv_bipush (v := 8) hx hb dX1_init_29 (by decide) ?_
  refine va_newa (atype := .int) (a0 := (8, .inl (fun _ => 0))) (N' := 8) hx hb (hts (.arrayClass .int) (zx_Gc mm_171)) rfl hK hP hD hS hA (fun _ => rfl) (by decide) (by decide) (Nat.le_of_ble_eq_true rfl) (Nat.le_of_ble_eq_true rfl) (Nat.le_of_ble_eq_true rfl) dX1_init_31 (fun q_28 cA9 H hK9 hP hD hS => ?_)
  obtain rfl := zx_same (c0 := cy 0) 0 rfl hK9
  have hP : va_P D vwCl [(ne, .inr (6, [.ref q_25, .ref q_26, .ref q_27, .null, .null])), (q_25, .inl (cy 0, 8, .inl (fun _ => 0))), (q_26, .inl (cy 0, 8, .inl (fun _ => 0))), (q_27, .inl (cy 0, 8, .inl (fun _ => 0))), (q_28, .inl (cy 0, 8, .inl (fun _ => 0)))] H := hP
  have hD : va_D A [(ne, .inr (6, [.ref q_25, .ref q_26, .ref q_27, .null, .null])), (q_25, .inl (cy 0, 8, .inl (fun _ => 0))), (q_26, .inl (cy 0, 8, .inl (fun _ => 0))), (q_27, .inl (cy 0, 8, .inl (fun _ => 0))), (q_28, .inl (cy 0, 8, .inl (fun _ => 0)))] := hD
  refine W.widen (k := 4) (n := 32) (Nat.le_of_ble_eq_true rfl) (Nat.le_of_ble_eq_true rfl) ?_
  refine va_putF (D := D) (ci := 6) (v := .ref q_28) (ty := .array .int) (C := RX1) (T := TX1) (N := 5) hx hb hts (fun w h => zx_Gc (uz_X1 w h)) tyX1 tyX1_ok nmX1 hown hK hP hD hS 0 rfl rfl 3 (by decide) (hts (.fieldLink RX1 21 "Refereehall$Net" "rejects" "[I") (zx_Gc mm_183)) (fun _ h9 => h9) rfl hin rfl (by decide +kernel) rfl rfl (Nat.le_of_ble_eq_true rfl) dX1_init_33 (fun H locs hP hD hS => ?_)
  have hP : va_P D vwCl [(ne, .inr (6, [.ref q_25, .ref q_26, .ref q_27, .ref q_28, .null])), (q_25, .inl (cy 0, 8, .inl (fun _ => 0))), (q_26, .inl (cy 0, 8, .inl (fun _ => 0))), (q_27, .inl (cy 0, 8, .inl (fun _ => 0))), (q_28, .inl (cy 0, 8, .inl (fun _ => 0)))] H := hP
  have hD : va_D A [(ne, .inr (6, [.ref q_25, .ref q_26, .ref q_27, .ref q_28, .null])), (q_25, .inl (cy 0, 8, .inl (fun _ => 0))), (q_26, .inl (cy 0, 8, .inl (fun _ => 0))), (q_27, .inl (cy 0, 8, .inl (fun _ => 0))), (q_28, .inl (cy 0, 8, .inl (fun _ => 0)))] := hD
  refine lv_aload_n hx hb dX1_init_36 rfl (lv_at hl 0 rfl) ?_
  refine lv_bipush (v := 8) hx hb dX1_init_37 (by decide) ?_
  refine va_newa (atype := .char) (a0 := (8, .inl (fun _ => 0))) (N' := 8) hx hb (hts (.arrayClass .char) (zx_Gc mm_198)) rfl hK hP hD hS hA (fun _ => rfl) (by decide) (by decide) (Nat.le_of_ble_eq_true rfl) (Nat.le_of_ble_eq_true rfl) (Nat.le_of_ble_eq_true rfl) dX1_init_39 (fun q_29 cA9 H hK9 hP hD hS => ?_)
  obtain rfl := zx_same (c0 := cy 1) 1 rfl hK9
  have hP : va_P D vwCl [(ne, .inr (6, [.ref q_25, .ref q_26, .ref q_27, .ref q_28, .null])), (q_25, .inl (cy 0, 8, .inl (fun _ => 0))), (q_26, .inl (cy 0, 8, .inl (fun _ => 0))), (q_27, .inl (cy 0, 8, .inl (fun _ => 0))), (q_28, .inl (cy 0, 8, .inl (fun _ => 0))), (q_29, .inl (cy 1, 8, .inl (fun _ => 0)))] H := hP
  have hD : va_D A [(ne, .inr (6, [.ref q_25, .ref q_26, .ref q_27, .ref q_28, .null])), (q_25, .inl (cy 0, 8, .inl (fun _ => 0))), (q_26, .inl (cy 0, 8, .inl (fun _ => 0))), (q_27, .inl (cy 0, 8, .inl (fun _ => 0))), (q_28, .inl (cy 0, 8, .inl (fun _ => 0))), (q_29, .inl (cy 1, 8, .inl (fun _ => 0)))] := hD
  refine W.widen (k := 5) (n := 40) (Nat.le_of_ble_eq_true rfl) (Nat.le_of_ble_eq_true rfl) ?_
  refine va_putF (D := D) (ci := 6) (v := .ref q_29) (ty := .array .char) (C := RX1) (T := TX1) (N := 5) hx hb hts (fun w h => zx_Gc (uz_X1 w h)) tyX1 tyX1_ok nmX1 hown hK hP hD hS 0 rfl rfl 4 (by decide) (hts (.fieldLink RX1 24 "Refereehall$Net" "way" "[C") (zx_Gc mm_185)) (fun _ h9 => h9) rfl hin rfl (by decide +kernel) rfl rfl (Nat.le_of_ble_eq_true rfl) dX1_init_41 (fun H locs hP hD hS => ?_)
  have hP : va_P D vwCl [(ne, .inr (6, [.ref q_25, .ref q_26, .ref q_27, .ref q_28, .ref q_29])), (q_25, .inl (cy 0, 8, .inl (fun _ => 0))), (q_26, .inl (cy 0, 8, .inl (fun _ => 0))), (q_27, .inl (cy 0, 8, .inl (fun _ => 0))), (q_28, .inl (cy 0, 8, .inl (fun _ => 0))), (q_29, .inl (cy 1, 8, .inl (fun _ => 0)))] H := hP
  have hD : va_D A [(ne, .inr (6, [.ref q_25, .ref q_26, .ref q_27, .ref q_28, .ref q_29])), (q_25, .inl (cy 0, 8, .inl (fun _ => 0))), (q_26, .inl (cy 0, 8, .inl (fun _ => 0))), (q_27, .inl (cy 0, 8, .inl (fun _ => 0))), (q_28, .inl (cy 0, 8, .inl (fun _ => 0))), (q_29, .inl (cy 1, 8, .inl (fun _ => 0)))] := hD
  refine lv_iconst (v := 0) hx hb dX1_init_44 (by decide) ?_
  refine lv_istore_n (lv' := [(1, .int 0), (0, .ref ne)]) hx hb dX1_init_45 rfl hl (by decide) rfl (fun ls hl => ?_)
  refine lv_iload_n hx hb dX1_init_46 rfl (lv_at hl 0 rfl) ?_
  refine lv_bipush (v := 8) hx hb dX1_init_47 (by decide) ?_
  refine lv_icmp_ge (tgt := 89) hx hb dX1_init_49 (by decide) (fun c_30 => absurd c_30 (by decide)) (fun _ => ?_)
  refine lv_aload_n hx hb dX1_init_52 rfl (lv_at hl 1 rfl) ?_
  refine va_get (D := D) (ci := 6) (v := .ref q_26) (C := RX1) (T := TX1) (N := 5) hx hb hts (fun w h => zx_Gc (uz_X1 w h)) hown hK hP 0 rfl rfl 1 (by decide) (hts (.fieldLink RX1 15 "Refereehall$Net" "needs" "[I") (zx_Gc mm_179)) (fun _ h9 => h9) rfl dX1_init_53 ?_
  refine lv_iload_n hx hb dX1_init_56 rfl (lv_at hl 0 rfl) ?_
  refine lv_iconst (v := 2) hx hb dX1_init_57 (by decide) ?_
  refine va_iast hx hb hK hP hD hS 2 0 rfl rfl (zx_bn (by decide)) dX1_init_58 (fun H locs hP hD hS => ?_)
  have hP : va_P D vwCl [(ne, .inr (6, [.ref q_25, .ref q_26, .ref q_27, .ref q_28, .ref q_29])), (q_25, .inl (cy 0, 8, .inl (fun _ => 0))), (q_26, .inl (cy 0, 8, .inl (upd (fun _ => 0) (0 : Int32).toNatClampNeg 2))), (q_27, .inl (cy 0, 8, .inl (fun _ => 0))), (q_28, .inl (cy 0, 8, .inl (fun _ => 0))), (q_29, .inl (cy 1, 8, .inl (fun _ => 0)))] H := hP
  have hD : va_D A [(ne, .inr (6, [.ref q_25, .ref q_26, .ref q_27, .ref q_28, .ref q_29])), (q_25, .inl (cy 0, 8, .inl (fun _ => 0))), (q_26, .inl (cy 0, 8, .inl (upd (fun _ => 0) (0 : Int32).toNatClampNeg 2))), (q_27, .inl (cy 0, 8, .inl (fun _ => 0))), (q_28, .inl (cy 0, 8, .inl (fun _ => 0))), (q_29, .inl (cy 1, 8, .inl (fun _ => 0)))] := hD
  obtain ⟨f_31, ef_31⟩ : ∃ z9, z9 = (upd (fun _ => 0) (0 : Int32).toNatClampNeg 2) := ⟨_, rfl⟩
  rw [← ef_31] at hP hD
  clear ef_31
  refine lv_aload_n hx hb dX1_init_59 rfl (lv_at hl 1 rfl) ?_
  refine va_get (D := D) (ci := 6) (v := .ref q_27) (C := RX1) (T := TX1) (N := 5) hx hb hts (fun w h => zx_Gc (uz_X1 w h)) hown hK hP 0 rfl rfl 2 (by decide) (hts (.fieldLink RX1 18 "Refereehall$Net" "accepts" "[I") (zx_Gc mm_181)) (fun _ h9 => h9) rfl dX1_init_60 ?_
  refine lv_iload_n hx hb dX1_init_63 rfl (lv_at hl 0 rfl) ?_
  refine lv_bipush (v := 50) hx hb dX1_init_64 (by decide) ?_
  refine va_iast hx hb hK hP hD hS 3 0 rfl rfl (zx_bn (by decide)) dX1_init_66 (fun H locs hP hD hS => ?_)
  have hP : va_P D vwCl [(ne, .inr (6, [.ref q_25, .ref q_26, .ref q_27, .ref q_28, .ref q_29])), (q_25, .inl (cy 0, 8, .inl (fun _ => 0))), (q_26, .inl (cy 0, 8, .inl f_31)), (q_27, .inl (cy 0, 8, .inl (upd (fun _ => 0) (0 : Int32).toNatClampNeg 50))), (q_28, .inl (cy 0, 8, .inl (fun _ => 0))), (q_29, .inl (cy 1, 8, .inl (fun _ => 0)))] H := hP
  have hD : va_D A [(ne, .inr (6, [.ref q_25, .ref q_26, .ref q_27, .ref q_28, .ref q_29])), (q_25, .inl (cy 0, 8, .inl (fun _ => 0))), (q_26, .inl (cy 0, 8, .inl f_31)), (q_27, .inl (cy 0, 8, .inl (upd (fun _ => 0) (0 : Int32).toNatClampNeg 50))), (q_28, .inl (cy 0, 8, .inl (fun _ => 0))), (q_29, .inl (cy 1, 8, .inl (fun _ => 0)))] := hD
  obtain ⟨f_32, ef_32⟩ : ∃ z9, z9 = (upd (fun _ => 0) (0 : Int32).toNatClampNeg 50) := ⟨_, rfl⟩
  rw [← ef_32] at hP hD
  clear ef_32
  refine lv_aload_n hx hb dX1_init_67 rfl (lv_at hl 1 rfl) ?_
  refine va_get (D := D) (ci := 6) (v := .ref q_28) (C := RX1) (T := TX1) (N := 5) hx hb hts (fun w h => zx_Gc (uz_X1 w h)) hown hK hP 0 rfl rfl 3 (by decide) (hts (.fieldLink RX1 21 "Refereehall$Net" "rejects" "[I") (zx_Gc mm_183)) (fun _ h9 => h9) rfl dX1_init_68 ?_
  refine lv_iload_n hx hb dX1_init_71 rfl (lv_at hl 0 rfl) ?_
  refine lv_bipush (v := 35) hx hb dX1_init_72 (by decide) ?_
  refine va_iast hx hb hK hP hD hS 4 0 rfl rfl (zx_bn (by decide)) dX1_init_74 (fun H locs hP hD hS => ?_)
  have hP : va_P D vwCl [(ne, .inr (6, [.ref q_25, .ref q_26, .ref q_27, .ref q_28, .ref q_29])), (q_25, .inl (cy 0, 8, .inl (fun _ => 0))), (q_26, .inl (cy 0, 8, .inl f_31)), (q_27, .inl (cy 0, 8, .inl f_32)), (q_28, .inl (cy 0, 8, .inl (upd (fun _ => 0) (0 : Int32).toNatClampNeg 35))), (q_29, .inl (cy 1, 8, .inl (fun _ => 0)))] H := hP
  have hD : va_D A [(ne, .inr (6, [.ref q_25, .ref q_26, .ref q_27, .ref q_28, .ref q_29])), (q_25, .inl (cy 0, 8, .inl (fun _ => 0))), (q_26, .inl (cy 0, 8, .inl f_31)), (q_27, .inl (cy 0, 8, .inl f_32)), (q_28, .inl (cy 0, 8, .inl (upd (fun _ => 0) (0 : Int32).toNatClampNeg 35))), (q_29, .inl (cy 1, 8, .inl (fun _ => 0)))] := hD
  obtain ⟨f_33, ef_33⟩ : ∃ z9, z9 = (upd (fun _ => 0) (0 : Int32).toNatClampNeg 35) := ⟨_, rfl⟩
  rw [← ef_33] at hP hD
  clear ef_33
  refine lv_aload_n hx hb dX1_init_75 rfl (lv_at hl 1 rfl) ?_
  refine va_get (D := D) (ci := 6) (v := .ref q_29) (C := RX1) (T := TX1) (N := 5) hx hb hts (fun w h => zx_Gc (uz_X1 w h)) hown hK hP 0 rfl rfl 4 (by decide) (hts (.fieldLink RX1 24 "Refereehall$Net" "way" "[C") (zx_Gc mm_185)) (fun _ h9 => h9) rfl dX1_init_76 ?_
  refine lv_iload_n hx hb dX1_init_79 rfl (lv_at hl 0 rfl) ?_
  refine lv_bipush (v := 115) hx hb dX1_init_80 (by decide) ?_
  refine va_cast hx hb hK hP hD hS 5 1 rfl rfl (zx_bn (by decide)) dX1_init_82 (fun H locs hP hD hS => ?_)
  have hP : va_P D vwCl [(ne, .inr (6, [.ref q_25, .ref q_26, .ref q_27, .ref q_28, .ref q_29])), (q_25, .inl (cy 0, 8, .inl (fun _ => 0))), (q_26, .inl (cy 0, 8, .inl f_31)), (q_27, .inl (cy 0, 8, .inl f_32)), (q_28, .inl (cy 0, 8, .inl f_33)), (q_29, .inl (cy 1, 8, .inl (upd (fun _ => 0) (0 : Int32).toNatClampNeg 115)))] H := hP
  have hD : va_D A [(ne, .inr (6, [.ref q_25, .ref q_26, .ref q_27, .ref q_28, .ref q_29])), (q_25, .inl (cy 0, 8, .inl (fun _ => 0))), (q_26, .inl (cy 0, 8, .inl f_31)), (q_27, .inl (cy 0, 8, .inl f_32)), (q_28, .inl (cy 0, 8, .inl f_33)), (q_29, .inl (cy 1, 8, .inl (upd (fun _ => 0) (0 : Int32).toNatClampNeg 115)))] := hD
  obtain ⟨f_34, ef_34⟩ : ∃ z9, z9 = (upd (fun _ => 0) (0 : Int32).toNatClampNeg 115) := ⟨_, rfl⟩
  rw [← ef_34] at hP hD
  have hf_34 : ∀ j, j < 1 → f_34 j = 115 := by rw [ef_34]; exact (zx_way (i := 0) (fun j9 h9 => absurd h9 (Nat.not_lt_zero _)))
  clear ef_34
  refine lv_iinc (v := 1) (lv' := [(1, .int 1), (0, .ref ne)]) hx hb dX1_init_83 hl (k := 0) rfl (by decide) (by decide) rfl (fun ls hl => ?_)
  refine lv_goto (tgt := 46) hx hb dX1_init_86 (by decide) ?_
  refine lv_iload_n hx hb dX1_init_46 rfl (lv_at hl 0 rfl) ?_
  refine lv_bipush (v := 8) hx hb dX1_init_47 (by decide) ?_
  refine lv_icmp_ge (tgt := 89) hx hb dX1_init_49 (by decide) (fun c_35 => absurd c_35 (by decide)) (fun _ => ?_)
  refine lv_aload_n hx hb dX1_init_52 rfl (lv_at hl 1 rfl) ?_
  refine va_get (D := D) (ci := 6) (v := .ref q_26) (C := RX1) (T := TX1) (N := 5) hx hb hts (fun w h => zx_Gc (uz_X1 w h)) hown hK hP 0 rfl rfl 1 (by decide) (hts (.fieldLink RX1 15 "Refereehall$Net" "needs" "[I") (zx_Gc mm_179)) (fun _ h9 => h9) rfl dX1_init_53 ?_
  refine lv_iload_n hx hb dX1_init_56 rfl (lv_at hl 0 rfl) ?_
  refine lv_iconst (v := 2) hx hb dX1_init_57 (by decide) ?_
  refine va_iast hx hb hK hP hD hS 2 0 rfl rfl (zx_bn (by decide)) dX1_init_58 (fun H locs hP hD hS => ?_)
  have hP : va_P D vwCl [(ne, .inr (6, [.ref q_25, .ref q_26, .ref q_27, .ref q_28, .ref q_29])), (q_25, .inl (cy 0, 8, .inl (fun _ => 0))), (q_26, .inl (cy 0, 8, .inl (upd f_31 (1 : Int32).toNatClampNeg 2))), (q_27, .inl (cy 0, 8, .inl f_32)), (q_28, .inl (cy 0, 8, .inl f_33)), (q_29, .inl (cy 1, 8, .inl f_34))] H := hP
  have hD : va_D A [(ne, .inr (6, [.ref q_25, .ref q_26, .ref q_27, .ref q_28, .ref q_29])), (q_25, .inl (cy 0, 8, .inl (fun _ => 0))), (q_26, .inl (cy 0, 8, .inl (upd f_31 (1 : Int32).toNatClampNeg 2))), (q_27, .inl (cy 0, 8, .inl f_32)), (q_28, .inl (cy 0, 8, .inl f_33)), (q_29, .inl (cy 1, 8, .inl f_34))] := hD
  obtain ⟨f_36, ef_36⟩ : ∃ z9, z9 = (upd f_31 (1 : Int32).toNatClampNeg 2) := ⟨_, rfl⟩
  rw [← ef_36] at hP hD
  clear ef_36
  refine lv_aload_n hx hb dX1_init_59 rfl (lv_at hl 1 rfl) ?_
  refine va_get (D := D) (ci := 6) (v := .ref q_27) (C := RX1) (T := TX1) (N := 5) hx hb hts (fun w h => zx_Gc (uz_X1 w h)) hown hK hP 0 rfl rfl 2 (by decide) (hts (.fieldLink RX1 18 "Refereehall$Net" "accepts" "[I") (zx_Gc mm_181)) (fun _ h9 => h9) rfl dX1_init_60 ?_
  refine lv_iload_n hx hb dX1_init_63 rfl (lv_at hl 0 rfl) ?_
  refine lv_bipush (v := 50) hx hb dX1_init_64 (by decide) ?_
  refine va_iast hx hb hK hP hD hS 3 0 rfl rfl (zx_bn (by decide)) dX1_init_66 (fun H locs hP hD hS => ?_)
  have hP : va_P D vwCl [(ne, .inr (6, [.ref q_25, .ref q_26, .ref q_27, .ref q_28, .ref q_29])), (q_25, .inl (cy 0, 8, .inl (fun _ => 0))), (q_26, .inl (cy 0, 8, .inl f_36)), (q_27, .inl (cy 0, 8, .inl (upd f_32 (1 : Int32).toNatClampNeg 50))), (q_28, .inl (cy 0, 8, .inl f_33)), (q_29, .inl (cy 1, 8, .inl f_34))] H := hP
  have hD : va_D A [(ne, .inr (6, [.ref q_25, .ref q_26, .ref q_27, .ref q_28, .ref q_29])), (q_25, .inl (cy 0, 8, .inl (fun _ => 0))), (q_26, .inl (cy 0, 8, .inl f_36)), (q_27, .inl (cy 0, 8, .inl (upd f_32 (1 : Int32).toNatClampNeg 50))), (q_28, .inl (cy 0, 8, .inl f_33)), (q_29, .inl (cy 1, 8, .inl f_34))] := hD
  obtain ⟨f_37, ef_37⟩ : ∃ z9, z9 = (upd f_32 (1 : Int32).toNatClampNeg 50) := ⟨_, rfl⟩
  rw [← ef_37] at hP hD
  clear ef_37
  refine lv_aload_n hx hb dX1_init_67 rfl (lv_at hl 1 rfl) ?_
  refine va_get (D := D) (ci := 6) (v := .ref q_28) (C := RX1) (T := TX1) (N := 5) hx hb hts (fun w h => zx_Gc (uz_X1 w h)) hown hK hP 0 rfl rfl 3 (by decide) (hts (.fieldLink RX1 21 "Refereehall$Net" "rejects" "[I") (zx_Gc mm_183)) (fun _ h9 => h9) rfl dX1_init_68 ?_
  refine lv_iload_n hx hb dX1_init_71 rfl (lv_at hl 0 rfl) ?_
  refine lv_bipush (v := 35) hx hb dX1_init_72 (by decide) ?_
  refine va_iast hx hb hK hP hD hS 4 0 rfl rfl (zx_bn (by decide)) dX1_init_74 (fun H locs hP hD hS => ?_)
  have hP : va_P D vwCl [(ne, .inr (6, [.ref q_25, .ref q_26, .ref q_27, .ref q_28, .ref q_29])), (q_25, .inl (cy 0, 8, .inl (fun _ => 0))), (q_26, .inl (cy 0, 8, .inl f_36)), (q_27, .inl (cy 0, 8, .inl f_37)), (q_28, .inl (cy 0, 8, .inl (upd f_33 (1 : Int32).toNatClampNeg 35))), (q_29, .inl (cy 1, 8, .inl f_34))] H := hP
  have hD : va_D A [(ne, .inr (6, [.ref q_25, .ref q_26, .ref q_27, .ref q_28, .ref q_29])), (q_25, .inl (cy 0, 8, .inl (fun _ => 0))), (q_26, .inl (cy 0, 8, .inl f_36)), (q_27, .inl (cy 0, 8, .inl f_37)), (q_28, .inl (cy 0, 8, .inl (upd f_33 (1 : Int32).toNatClampNeg 35))), (q_29, .inl (cy 1, 8, .inl f_34))] := hD
  obtain ⟨f_38, ef_38⟩ : ∃ z9, z9 = (upd f_33 (1 : Int32).toNatClampNeg 35) := ⟨_, rfl⟩
  rw [← ef_38] at hP hD
  clear ef_38
  refine lv_aload_n hx hb dX1_init_75 rfl (lv_at hl 1 rfl) ?_
  refine va_get (D := D) (ci := 6) (v := .ref q_29) (C := RX1) (T := TX1) (N := 5) hx hb hts (fun w h => zx_Gc (uz_X1 w h)) hown hK hP 0 rfl rfl 4 (by decide) (hts (.fieldLink RX1 24 "Refereehall$Net" "way" "[C") (zx_Gc mm_185)) (fun _ h9 => h9) rfl dX1_init_76 ?_
  refine lv_iload_n hx hb dX1_init_79 rfl (lv_at hl 0 rfl) ?_
  refine lv_bipush (v := 115) hx hb dX1_init_80 (by decide) ?_
  refine va_cast hx hb hK hP hD hS 5 1 rfl rfl (zx_bn (by decide)) dX1_init_82 (fun H locs hP hD hS => ?_)
  have hP : va_P D vwCl [(ne, .inr (6, [.ref q_25, .ref q_26, .ref q_27, .ref q_28, .ref q_29])), (q_25, .inl (cy 0, 8, .inl (fun _ => 0))), (q_26, .inl (cy 0, 8, .inl f_36)), (q_27, .inl (cy 0, 8, .inl f_37)), (q_28, .inl (cy 0, 8, .inl f_38)), (q_29, .inl (cy 1, 8, .inl (upd f_34 (1 : Int32).toNatClampNeg 115)))] H := hP
  have hD : va_D A [(ne, .inr (6, [.ref q_25, .ref q_26, .ref q_27, .ref q_28, .ref q_29])), (q_25, .inl (cy 0, 8, .inl (fun _ => 0))), (q_26, .inl (cy 0, 8, .inl f_36)), (q_27, .inl (cy 0, 8, .inl f_37)), (q_28, .inl (cy 0, 8, .inl f_38)), (q_29, .inl (cy 1, 8, .inl (upd f_34 (1 : Int32).toNatClampNeg 115)))] := hD
  obtain ⟨f_39, ef_39⟩ : ∃ z9, z9 = (upd f_34 (1 : Int32).toNatClampNeg 115) := ⟨_, rfl⟩
  rw [← ef_39] at hP hD
  have hf_39 : ∀ j, j < 2 → f_39 j = 115 := by rw [ef_39]; exact (zx_way (i := 1) hf_34)
  clear ef_39
  refine lv_iinc (v := 2) (lv' := [(1, .int 2), (0, .ref ne)]) hx hb dX1_init_83 hl (k := 0) rfl (by decide) (by decide) rfl (fun ls hl => ?_)
  refine lv_goto (tgt := 46) hx hb dX1_init_86 (by decide) ?_
  refine lv_iload_n hx hb dX1_init_46 rfl (lv_at hl 0 rfl) ?_
  refine lv_bipush (v := 8) hx hb dX1_init_47 (by decide) ?_
  refine lv_icmp_ge (tgt := 89) hx hb dX1_init_49 (by decide) (fun c_40 => absurd c_40 (by decide)) (fun _ => ?_)
  refine lv_aload_n hx hb dX1_init_52 rfl (lv_at hl 1 rfl) ?_
  refine va_get (D := D) (ci := 6) (v := .ref q_26) (C := RX1) (T := TX1) (N := 5) hx hb hts (fun w h => zx_Gc (uz_X1 w h)) hown hK hP 0 rfl rfl 1 (by decide) (hts (.fieldLink RX1 15 "Refereehall$Net" "needs" "[I") (zx_Gc mm_179)) (fun _ h9 => h9) rfl dX1_init_53 ?_
  refine lv_iload_n hx hb dX1_init_56 rfl (lv_at hl 0 rfl) ?_
  refine lv_iconst (v := 2) hx hb dX1_init_57 (by decide) ?_
  refine va_iast hx hb hK hP hD hS 2 0 rfl rfl (zx_bn (by decide)) dX1_init_58 (fun H locs hP hD hS => ?_)
  have hP : va_P D vwCl [(ne, .inr (6, [.ref q_25, .ref q_26, .ref q_27, .ref q_28, .ref q_29])), (q_25, .inl (cy 0, 8, .inl (fun _ => 0))), (q_26, .inl (cy 0, 8, .inl (upd f_36 (2 : Int32).toNatClampNeg 2))), (q_27, .inl (cy 0, 8, .inl f_37)), (q_28, .inl (cy 0, 8, .inl f_38)), (q_29, .inl (cy 1, 8, .inl f_39))] H := hP
  have hD : va_D A [(ne, .inr (6, [.ref q_25, .ref q_26, .ref q_27, .ref q_28, .ref q_29])), (q_25, .inl (cy 0, 8, .inl (fun _ => 0))), (q_26, .inl (cy 0, 8, .inl (upd f_36 (2 : Int32).toNatClampNeg 2))), (q_27, .inl (cy 0, 8, .inl f_37)), (q_28, .inl (cy 0, 8, .inl f_38)), (q_29, .inl (cy 1, 8, .inl f_39))] := hD
  obtain ⟨f_41, ef_41⟩ : ∃ z9, z9 = (upd f_36 (2 : Int32).toNatClampNeg 2) := ⟨_, rfl⟩
  rw [← ef_41] at hP hD
  clear ef_41
  refine lv_aload_n hx hb dX1_init_59 rfl (lv_at hl 1 rfl) ?_
  refine va_get (D := D) (ci := 6) (v := .ref q_27) (C := RX1) (T := TX1) (N := 5) hx hb hts (fun w h => zx_Gc (uz_X1 w h)) hown hK hP 0 rfl rfl 2 (by decide) (hts (.fieldLink RX1 18 "Refereehall$Net" "accepts" "[I") (zx_Gc mm_181)) (fun _ h9 => h9) rfl dX1_init_60 ?_
  refine lv_iload_n hx hb dX1_init_63 rfl (lv_at hl 0 rfl) ?_
  refine lv_bipush (v := 50) hx hb dX1_init_64 (by decide) ?_
  refine va_iast hx hb hK hP hD hS 3 0 rfl rfl (zx_bn (by decide)) dX1_init_66 (fun H locs hP hD hS => ?_)
  have hP : va_P D vwCl [(ne, .inr (6, [.ref q_25, .ref q_26, .ref q_27, .ref q_28, .ref q_29])), (q_25, .inl (cy 0, 8, .inl (fun _ => 0))), (q_26, .inl (cy 0, 8, .inl f_41)), (q_27, .inl (cy 0, 8, .inl (upd f_37 (2 : Int32).toNatClampNeg 50))), (q_28, .inl (cy 0, 8, .inl f_38)), (q_29, .inl (cy 1, 8, .inl f_39))] H := hP
  have hD : va_D A [(ne, .inr (6, [.ref q_25, .ref q_26, .ref q_27, .ref q_28, .ref q_29])), (q_25, .inl (cy 0, 8, .inl (fun _ => 0))), (q_26, .inl (cy 0, 8, .inl f_41)), (q_27, .inl (cy 0, 8, .inl (upd f_37 (2 : Int32).toNatClampNeg 50))), (q_28, .inl (cy 0, 8, .inl f_38)), (q_29, .inl (cy 1, 8, .inl f_39))] := hD
  obtain ⟨f_42, ef_42⟩ : ∃ z9, z9 = (upd f_37 (2 : Int32).toNatClampNeg 50) := ⟨_, rfl⟩
  rw [← ef_42] at hP hD
  clear ef_42
  refine lv_aload_n hx hb dX1_init_67 rfl (lv_at hl 1 rfl) ?_
  refine va_get (D := D) (ci := 6) (v := .ref q_28) (C := RX1) (T := TX1) (N := 5) hx hb hts (fun w h => zx_Gc (uz_X1 w h)) hown hK hP 0 rfl rfl 3 (by decide) (hts (.fieldLink RX1 21 "Refereehall$Net" "rejects" "[I") (zx_Gc mm_183)) (fun _ h9 => h9) rfl dX1_init_68 ?_
  refine lv_iload_n hx hb dX1_init_71 rfl (lv_at hl 0 rfl) ?_
  refine lv_bipush (v := 35) hx hb dX1_init_72 (by decide) ?_
  refine va_iast hx hb hK hP hD hS 4 0 rfl rfl (zx_bn (by decide)) dX1_init_74 (fun H locs hP hD hS => ?_)
  have hP : va_P D vwCl [(ne, .inr (6, [.ref q_25, .ref q_26, .ref q_27, .ref q_28, .ref q_29])), (q_25, .inl (cy 0, 8, .inl (fun _ => 0))), (q_26, .inl (cy 0, 8, .inl f_41)), (q_27, .inl (cy 0, 8, .inl f_42)), (q_28, .inl (cy 0, 8, .inl (upd f_38 (2 : Int32).toNatClampNeg 35))), (q_29, .inl (cy 1, 8, .inl f_39))] H := hP
  have hD : va_D A [(ne, .inr (6, [.ref q_25, .ref q_26, .ref q_27, .ref q_28, .ref q_29])), (q_25, .inl (cy 0, 8, .inl (fun _ => 0))), (q_26, .inl (cy 0, 8, .inl f_41)), (q_27, .inl (cy 0, 8, .inl f_42)), (q_28, .inl (cy 0, 8, .inl (upd f_38 (2 : Int32).toNatClampNeg 35))), (q_29, .inl (cy 1, 8, .inl f_39))] := hD
  obtain ⟨f_43, ef_43⟩ : ∃ z9, z9 = (upd f_38 (2 : Int32).toNatClampNeg 35) := ⟨_, rfl⟩
  rw [← ef_43] at hP hD
  clear ef_43
  refine lv_aload_n hx hb dX1_init_75 rfl (lv_at hl 1 rfl) ?_
  refine va_get (D := D) (ci := 6) (v := .ref q_29) (C := RX1) (T := TX1) (N := 5) hx hb hts (fun w h => zx_Gc (uz_X1 w h)) hown hK hP 0 rfl rfl 4 (by decide) (hts (.fieldLink RX1 24 "Refereehall$Net" "way" "[C") (zx_Gc mm_185)) (fun _ h9 => h9) rfl dX1_init_76 ?_
  refine lv_iload_n hx hb dX1_init_79 rfl (lv_at hl 0 rfl) ?_
  refine lv_bipush (v := 115) hx hb dX1_init_80 (by decide) ?_
  refine va_cast hx hb hK hP hD hS 5 1 rfl rfl (zx_bn (by decide)) dX1_init_82 (fun H locs hP hD hS => ?_)
  have hP : va_P D vwCl [(ne, .inr (6, [.ref q_25, .ref q_26, .ref q_27, .ref q_28, .ref q_29])), (q_25, .inl (cy 0, 8, .inl (fun _ => 0))), (q_26, .inl (cy 0, 8, .inl f_41)), (q_27, .inl (cy 0, 8, .inl f_42)), (q_28, .inl (cy 0, 8, .inl f_43)), (q_29, .inl (cy 1, 8, .inl (upd f_39 (2 : Int32).toNatClampNeg 115)))] H := hP
  have hD : va_D A [(ne, .inr (6, [.ref q_25, .ref q_26, .ref q_27, .ref q_28, .ref q_29])), (q_25, .inl (cy 0, 8, .inl (fun _ => 0))), (q_26, .inl (cy 0, 8, .inl f_41)), (q_27, .inl (cy 0, 8, .inl f_42)), (q_28, .inl (cy 0, 8, .inl f_43)), (q_29, .inl (cy 1, 8, .inl (upd f_39 (2 : Int32).toNatClampNeg 115)))] := hD
  obtain ⟨f_44, ef_44⟩ : ∃ z9, z9 = (upd f_39 (2 : Int32).toNatClampNeg 115) := ⟨_, rfl⟩
  rw [← ef_44] at hP hD
  have hf_44 : ∀ j, j < 3 → f_44 j = 115 := by rw [ef_44]; exact (zx_way (i := 2) hf_39)
  clear ef_44
  refine lv_iinc (v := 3) (lv' := [(1, .int 3), (0, .ref ne)]) hx hb dX1_init_83 hl (k := 0) rfl (by decide) (by decide) rfl (fun ls hl => ?_)
  refine lv_goto (tgt := 46) hx hb dX1_init_86 (by decide) ?_
  refine lv_iload_n hx hb dX1_init_46 rfl (lv_at hl 0 rfl) ?_
  refine lv_bipush (v := 8) hx hb dX1_init_47 (by decide) ?_
  refine lv_icmp_ge (tgt := 89) hx hb dX1_init_49 (by decide) (fun c_45 => absurd c_45 (by decide)) (fun _ => ?_)
  refine lv_aload_n hx hb dX1_init_52 rfl (lv_at hl 1 rfl) ?_
  refine va_get (D := D) (ci := 6) (v := .ref q_26) (C := RX1) (T := TX1) (N := 5) hx hb hts (fun w h => zx_Gc (uz_X1 w h)) hown hK hP 0 rfl rfl 1 (by decide) (hts (.fieldLink RX1 15 "Refereehall$Net" "needs" "[I") (zx_Gc mm_179)) (fun _ h9 => h9) rfl dX1_init_53 ?_
  refine lv_iload_n hx hb dX1_init_56 rfl (lv_at hl 0 rfl) ?_
  refine lv_iconst (v := 2) hx hb dX1_init_57 (by decide) ?_
  refine va_iast hx hb hK hP hD hS 2 0 rfl rfl (zx_bn (by decide)) dX1_init_58 (fun H locs hP hD hS => ?_)
  have hP : va_P D vwCl [(ne, .inr (6, [.ref q_25, .ref q_26, .ref q_27, .ref q_28, .ref q_29])), (q_25, .inl (cy 0, 8, .inl (fun _ => 0))), (q_26, .inl (cy 0, 8, .inl (upd f_41 (3 : Int32).toNatClampNeg 2))), (q_27, .inl (cy 0, 8, .inl f_42)), (q_28, .inl (cy 0, 8, .inl f_43)), (q_29, .inl (cy 1, 8, .inl f_44))] H := hP
  have hD : va_D A [(ne, .inr (6, [.ref q_25, .ref q_26, .ref q_27, .ref q_28, .ref q_29])), (q_25, .inl (cy 0, 8, .inl (fun _ => 0))), (q_26, .inl (cy 0, 8, .inl (upd f_41 (3 : Int32).toNatClampNeg 2))), (q_27, .inl (cy 0, 8, .inl f_42)), (q_28, .inl (cy 0, 8, .inl f_43)), (q_29, .inl (cy 1, 8, .inl f_44))] := hD
  obtain ⟨f_46, ef_46⟩ : ∃ z9, z9 = (upd f_41 (3 : Int32).toNatClampNeg 2) := ⟨_, rfl⟩
  rw [← ef_46] at hP hD
  clear ef_46
  refine lv_aload_n hx hb dX1_init_59 rfl (lv_at hl 1 rfl) ?_
  refine va_get (D := D) (ci := 6) (v := .ref q_27) (C := RX1) (T := TX1) (N := 5) hx hb hts (fun w h => zx_Gc (uz_X1 w h)) hown hK hP 0 rfl rfl 2 (by decide) (hts (.fieldLink RX1 18 "Refereehall$Net" "accepts" "[I") (zx_Gc mm_181)) (fun _ h9 => h9) rfl dX1_init_60 ?_
  refine lv_iload_n hx hb dX1_init_63 rfl (lv_at hl 0 rfl) ?_
  refine lv_bipush (v := 50) hx hb dX1_init_64 (by decide) ?_
  refine va_iast hx hb hK hP hD hS 3 0 rfl rfl (zx_bn (by decide)) dX1_init_66 (fun H locs hP hD hS => ?_)
  have hP : va_P D vwCl [(ne, .inr (6, [.ref q_25, .ref q_26, .ref q_27, .ref q_28, .ref q_29])), (q_25, .inl (cy 0, 8, .inl (fun _ => 0))), (q_26, .inl (cy 0, 8, .inl f_46)), (q_27, .inl (cy 0, 8, .inl (upd f_42 (3 : Int32).toNatClampNeg 50))), (q_28, .inl (cy 0, 8, .inl f_43)), (q_29, .inl (cy 1, 8, .inl f_44))] H := hP
  have hD : va_D A [(ne, .inr (6, [.ref q_25, .ref q_26, .ref q_27, .ref q_28, .ref q_29])), (q_25, .inl (cy 0, 8, .inl (fun _ => 0))), (q_26, .inl (cy 0, 8, .inl f_46)), (q_27, .inl (cy 0, 8, .inl (upd f_42 (3 : Int32).toNatClampNeg 50))), (q_28, .inl (cy 0, 8, .inl f_43)), (q_29, .inl (cy 1, 8, .inl f_44))] := hD
  obtain ⟨f_47, ef_47⟩ : ∃ z9, z9 = (upd f_42 (3 : Int32).toNatClampNeg 50) := ⟨_, rfl⟩
  rw [← ef_47] at hP hD
  clear ef_47
  refine lv_aload_n hx hb dX1_init_67 rfl (lv_at hl 1 rfl) ?_
  refine va_get (D := D) (ci := 6) (v := .ref q_28) (C := RX1) (T := TX1) (N := 5) hx hb hts (fun w h => zx_Gc (uz_X1 w h)) hown hK hP 0 rfl rfl 3 (by decide) (hts (.fieldLink RX1 21 "Refereehall$Net" "rejects" "[I") (zx_Gc mm_183)) (fun _ h9 => h9) rfl dX1_init_68 ?_
  refine lv_iload_n hx hb dX1_init_71 rfl (lv_at hl 0 rfl) ?_
  refine lv_bipush (v := 35) hx hb dX1_init_72 (by decide) ?_
  refine va_iast hx hb hK hP hD hS 4 0 rfl rfl (zx_bn (by decide)) dX1_init_74 (fun H locs hP hD hS => ?_)
  have hP : va_P D vwCl [(ne, .inr (6, [.ref q_25, .ref q_26, .ref q_27, .ref q_28, .ref q_29])), (q_25, .inl (cy 0, 8, .inl (fun _ => 0))), (q_26, .inl (cy 0, 8, .inl f_46)), (q_27, .inl (cy 0, 8, .inl f_47)), (q_28, .inl (cy 0, 8, .inl (upd f_43 (3 : Int32).toNatClampNeg 35))), (q_29, .inl (cy 1, 8, .inl f_44))] H := hP
  have hD : va_D A [(ne, .inr (6, [.ref q_25, .ref q_26, .ref q_27, .ref q_28, .ref q_29])), (q_25, .inl (cy 0, 8, .inl (fun _ => 0))), (q_26, .inl (cy 0, 8, .inl f_46)), (q_27, .inl (cy 0, 8, .inl f_47)), (q_28, .inl (cy 0, 8, .inl (upd f_43 (3 : Int32).toNatClampNeg 35))), (q_29, .inl (cy 1, 8, .inl f_44))] := hD
  obtain ⟨f_48, ef_48⟩ : ∃ z9, z9 = (upd f_43 (3 : Int32).toNatClampNeg 35) := ⟨_, rfl⟩
  rw [← ef_48] at hP hD
  clear ef_48
  refine lv_aload_n hx hb dX1_init_75 rfl (lv_at hl 1 rfl) ?_
  refine va_get (D := D) (ci := 6) (v := .ref q_29) (C := RX1) (T := TX1) (N := 5) hx hb hts (fun w h => zx_Gc (uz_X1 w h)) hown hK hP 0 rfl rfl 4 (by decide) (hts (.fieldLink RX1 24 "Refereehall$Net" "way" "[C") (zx_Gc mm_185)) (fun _ h9 => h9) rfl dX1_init_76 ?_
  refine lv_iload_n hx hb dX1_init_79 rfl (lv_at hl 0 rfl) ?_
  refine lv_bipush (v := 115) hx hb dX1_init_80 (by decide) ?_
  refine va_cast hx hb hK hP hD hS 5 1 rfl rfl (zx_bn (by decide)) dX1_init_82 (fun H locs hP hD hS => ?_)
  have hP : va_P D vwCl [(ne, .inr (6, [.ref q_25, .ref q_26, .ref q_27, .ref q_28, .ref q_29])), (q_25, .inl (cy 0, 8, .inl (fun _ => 0))), (q_26, .inl (cy 0, 8, .inl f_46)), (q_27, .inl (cy 0, 8, .inl f_47)), (q_28, .inl (cy 0, 8, .inl f_48)), (q_29, .inl (cy 1, 8, .inl (upd f_44 (3 : Int32).toNatClampNeg 115)))] H := hP
  have hD : va_D A [(ne, .inr (6, [.ref q_25, .ref q_26, .ref q_27, .ref q_28, .ref q_29])), (q_25, .inl (cy 0, 8, .inl (fun _ => 0))), (q_26, .inl (cy 0, 8, .inl f_46)), (q_27, .inl (cy 0, 8, .inl f_47)), (q_28, .inl (cy 0, 8, .inl f_48)), (q_29, .inl (cy 1, 8, .inl (upd f_44 (3 : Int32).toNatClampNeg 115)))] := hD
  obtain ⟨f_49, ef_49⟩ : ∃ z9, z9 = (upd f_44 (3 : Int32).toNatClampNeg 115) := ⟨_, rfl⟩
  rw [← ef_49] at hP hD
  have hf_49 : ∀ j, j < 4 → f_49 j = 115 := by rw [ef_49]; exact (zx_way (i := 3) hf_44)
  clear ef_49
  refine lv_iinc (v := 4) (lv' := [(1, .int 4), (0, .ref ne)]) hx hb dX1_init_83 hl (k := 0) rfl (by decide) (by decide) rfl (fun ls hl => ?_)
  refine lv_goto (tgt := 46) hx hb dX1_init_86 (by decide) ?_
  refine lv_iload_n hx hb dX1_init_46 rfl (lv_at hl 0 rfl) ?_
  refine lv_bipush (v := 8) hx hb dX1_init_47 (by decide) ?_
  refine lv_icmp_ge (tgt := 89) hx hb dX1_init_49 (by decide) (fun c_50 => absurd c_50 (by decide)) (fun _ => ?_)
  refine lv_aload_n hx hb dX1_init_52 rfl (lv_at hl 1 rfl) ?_
  refine va_get (D := D) (ci := 6) (v := .ref q_26) (C := RX1) (T := TX1) (N := 5) hx hb hts (fun w h => zx_Gc (uz_X1 w h)) hown hK hP 0 rfl rfl 1 (by decide) (hts (.fieldLink RX1 15 "Refereehall$Net" "needs" "[I") (zx_Gc mm_179)) (fun _ h9 => h9) rfl dX1_init_53 ?_
  refine lv_iload_n hx hb dX1_init_56 rfl (lv_at hl 0 rfl) ?_
  refine lv_iconst (v := 2) hx hb dX1_init_57 (by decide) ?_
  refine va_iast hx hb hK hP hD hS 2 0 rfl rfl (zx_bn (by decide)) dX1_init_58 (fun H locs hP hD hS => ?_)
  have hP : va_P D vwCl [(ne, .inr (6, [.ref q_25, .ref q_26, .ref q_27, .ref q_28, .ref q_29])), (q_25, .inl (cy 0, 8, .inl (fun _ => 0))), (q_26, .inl (cy 0, 8, .inl (upd f_46 (4 : Int32).toNatClampNeg 2))), (q_27, .inl (cy 0, 8, .inl f_47)), (q_28, .inl (cy 0, 8, .inl f_48)), (q_29, .inl (cy 1, 8, .inl f_49))] H := hP
  have hD : va_D A [(ne, .inr (6, [.ref q_25, .ref q_26, .ref q_27, .ref q_28, .ref q_29])), (q_25, .inl (cy 0, 8, .inl (fun _ => 0))), (q_26, .inl (cy 0, 8, .inl (upd f_46 (4 : Int32).toNatClampNeg 2))), (q_27, .inl (cy 0, 8, .inl f_47)), (q_28, .inl (cy 0, 8, .inl f_48)), (q_29, .inl (cy 1, 8, .inl f_49))] := hD
  obtain ⟨f_51, ef_51⟩ : ∃ z9, z9 = (upd f_46 (4 : Int32).toNatClampNeg 2) := ⟨_, rfl⟩
  rw [← ef_51] at hP hD
  clear ef_51
  refine lv_aload_n hx hb dX1_init_59 rfl (lv_at hl 1 rfl) ?_
  refine va_get (D := D) (ci := 6) (v := .ref q_27) (C := RX1) (T := TX1) (N := 5) hx hb hts (fun w h => zx_Gc (uz_X1 w h)) hown hK hP 0 rfl rfl 2 (by decide) (hts (.fieldLink RX1 18 "Refereehall$Net" "accepts" "[I") (zx_Gc mm_181)) (fun _ h9 => h9) rfl dX1_init_60 ?_
  refine lv_iload_n hx hb dX1_init_63 rfl (lv_at hl 0 rfl) ?_
  refine lv_bipush (v := 50) hx hb dX1_init_64 (by decide) ?_
  refine va_iast hx hb hK hP hD hS 3 0 rfl rfl (zx_bn (by decide)) dX1_init_66 (fun H locs hP hD hS => ?_)
  have hP : va_P D vwCl [(ne, .inr (6, [.ref q_25, .ref q_26, .ref q_27, .ref q_28, .ref q_29])), (q_25, .inl (cy 0, 8, .inl (fun _ => 0))), (q_26, .inl (cy 0, 8, .inl f_51)), (q_27, .inl (cy 0, 8, .inl (upd f_47 (4 : Int32).toNatClampNeg 50))), (q_28, .inl (cy 0, 8, .inl f_48)), (q_29, .inl (cy 1, 8, .inl f_49))] H := hP
  have hD : va_D A [(ne, .inr (6, [.ref q_25, .ref q_26, .ref q_27, .ref q_28, .ref q_29])), (q_25, .inl (cy 0, 8, .inl (fun _ => 0))), (q_26, .inl (cy 0, 8, .inl f_51)), (q_27, .inl (cy 0, 8, .inl (upd f_47 (4 : Int32).toNatClampNeg 50))), (q_28, .inl (cy 0, 8, .inl f_48)), (q_29, .inl (cy 1, 8, .inl f_49))] := hD
  obtain ⟨f_52, ef_52⟩ : ∃ z9, z9 = (upd f_47 (4 : Int32).toNatClampNeg 50) := ⟨_, rfl⟩
  rw [← ef_52] at hP hD
  clear ef_52
  refine lv_aload_n hx hb dX1_init_67 rfl (lv_at hl 1 rfl) ?_
  refine va_get (D := D) (ci := 6) (v := .ref q_28) (C := RX1) (T := TX1) (N := 5) hx hb hts (fun w h => zx_Gc (uz_X1 w h)) hown hK hP 0 rfl rfl 3 (by decide) (hts (.fieldLink RX1 21 "Refereehall$Net" "rejects" "[I") (zx_Gc mm_183)) (fun _ h9 => h9) rfl dX1_init_68 ?_
  refine lv_iload_n hx hb dX1_init_71 rfl (lv_at hl 0 rfl) ?_
  refine lv_bipush (v := 35) hx hb dX1_init_72 (by decide) ?_
  refine va_iast hx hb hK hP hD hS 4 0 rfl rfl (zx_bn (by decide)) dX1_init_74 (fun H locs hP hD hS => ?_)
  have hP : va_P D vwCl [(ne, .inr (6, [.ref q_25, .ref q_26, .ref q_27, .ref q_28, .ref q_29])), (q_25, .inl (cy 0, 8, .inl (fun _ => 0))), (q_26, .inl (cy 0, 8, .inl f_51)), (q_27, .inl (cy 0, 8, .inl f_52)), (q_28, .inl (cy 0, 8, .inl (upd f_48 (4 : Int32).toNatClampNeg 35))), (q_29, .inl (cy 1, 8, .inl f_49))] H := hP
  have hD : va_D A [(ne, .inr (6, [.ref q_25, .ref q_26, .ref q_27, .ref q_28, .ref q_29])), (q_25, .inl (cy 0, 8, .inl (fun _ => 0))), (q_26, .inl (cy 0, 8, .inl f_51)), (q_27, .inl (cy 0, 8, .inl f_52)), (q_28, .inl (cy 0, 8, .inl (upd f_48 (4 : Int32).toNatClampNeg 35))), (q_29, .inl (cy 1, 8, .inl f_49))] := hD
  obtain ⟨f_53, ef_53⟩ : ∃ z9, z9 = (upd f_48 (4 : Int32).toNatClampNeg 35) := ⟨_, rfl⟩
  rw [← ef_53] at hP hD
  clear ef_53
  refine lv_aload_n hx hb dX1_init_75 rfl (lv_at hl 1 rfl) ?_
  refine va_get (D := D) (ci := 6) (v := .ref q_29) (C := RX1) (T := TX1) (N := 5) hx hb hts (fun w h => zx_Gc (uz_X1 w h)) hown hK hP 0 rfl rfl 4 (by decide) (hts (.fieldLink RX1 24 "Refereehall$Net" "way" "[C") (zx_Gc mm_185)) (fun _ h9 => h9) rfl dX1_init_76 ?_
  refine lv_iload_n hx hb dX1_init_79 rfl (lv_at hl 0 rfl) ?_
  refine lv_bipush (v := 115) hx hb dX1_init_80 (by decide) ?_
  refine va_cast hx hb hK hP hD hS 5 1 rfl rfl (zx_bn (by decide)) dX1_init_82 (fun H locs hP hD hS => ?_)
  have hP : va_P D vwCl [(ne, .inr (6, [.ref q_25, .ref q_26, .ref q_27, .ref q_28, .ref q_29])), (q_25, .inl (cy 0, 8, .inl (fun _ => 0))), (q_26, .inl (cy 0, 8, .inl f_51)), (q_27, .inl (cy 0, 8, .inl f_52)), (q_28, .inl (cy 0, 8, .inl f_53)), (q_29, .inl (cy 1, 8, .inl (upd f_49 (4 : Int32).toNatClampNeg 115)))] H := hP
  have hD : va_D A [(ne, .inr (6, [.ref q_25, .ref q_26, .ref q_27, .ref q_28, .ref q_29])), (q_25, .inl (cy 0, 8, .inl (fun _ => 0))), (q_26, .inl (cy 0, 8, .inl f_51)), (q_27, .inl (cy 0, 8, .inl f_52)), (q_28, .inl (cy 0, 8, .inl f_53)), (q_29, .inl (cy 1, 8, .inl (upd f_49 (4 : Int32).toNatClampNeg 115)))] := hD
  obtain ⟨f_54, ef_54⟩ : ∃ z9, z9 = (upd f_49 (4 : Int32).toNatClampNeg 115) := ⟨_, rfl⟩
  rw [← ef_54] at hP hD
  have hf_54 : ∀ j, j < 5 → f_54 j = 115 := by rw [ef_54]; exact (zx_way (i := 4) hf_49)
  clear ef_54
  refine lv_iinc (v := 5) (lv' := [(1, .int 5), (0, .ref ne)]) hx hb dX1_init_83 hl (k := 0) rfl (by decide) (by decide) rfl (fun ls hl => ?_)
  refine lv_goto (tgt := 46) hx hb dX1_init_86 (by decide) ?_
  refine lv_iload_n hx hb dX1_init_46 rfl (lv_at hl 0 rfl) ?_
  refine lv_bipush (v := 8) hx hb dX1_init_47 (by decide) ?_
  refine lv_icmp_ge (tgt := 89) hx hb dX1_init_49 (by decide) (fun c_55 => absurd c_55 (by decide)) (fun _ => ?_)
  refine lv_aload_n hx hb dX1_init_52 rfl (lv_at hl 1 rfl) ?_
  refine va_get (D := D) (ci := 6) (v := .ref q_26) (C := RX1) (T := TX1) (N := 5) hx hb hts (fun w h => zx_Gc (uz_X1 w h)) hown hK hP 0 rfl rfl 1 (by decide) (hts (.fieldLink RX1 15 "Refereehall$Net" "needs" "[I") (zx_Gc mm_179)) (fun _ h9 => h9) rfl dX1_init_53 ?_
  refine lv_iload_n hx hb dX1_init_56 rfl (lv_at hl 0 rfl) ?_
  refine lv_iconst (v := 2) hx hb dX1_init_57 (by decide) ?_
  refine va_iast hx hb hK hP hD hS 2 0 rfl rfl (zx_bn (by decide)) dX1_init_58 (fun H locs hP hD hS => ?_)
  have hP : va_P D vwCl [(ne, .inr (6, [.ref q_25, .ref q_26, .ref q_27, .ref q_28, .ref q_29])), (q_25, .inl (cy 0, 8, .inl (fun _ => 0))), (q_26, .inl (cy 0, 8, .inl (upd f_51 (5 : Int32).toNatClampNeg 2))), (q_27, .inl (cy 0, 8, .inl f_52)), (q_28, .inl (cy 0, 8, .inl f_53)), (q_29, .inl (cy 1, 8, .inl f_54))] H := hP
  have hD : va_D A [(ne, .inr (6, [.ref q_25, .ref q_26, .ref q_27, .ref q_28, .ref q_29])), (q_25, .inl (cy 0, 8, .inl (fun _ => 0))), (q_26, .inl (cy 0, 8, .inl (upd f_51 (5 : Int32).toNatClampNeg 2))), (q_27, .inl (cy 0, 8, .inl f_52)), (q_28, .inl (cy 0, 8, .inl f_53)), (q_29, .inl (cy 1, 8, .inl f_54))] := hD
  obtain ⟨f_56, ef_56⟩ : ∃ z9, z9 = (upd f_51 (5 : Int32).toNatClampNeg 2) := ⟨_, rfl⟩
  rw [← ef_56] at hP hD
  clear ef_56
  refine lv_aload_n hx hb dX1_init_59 rfl (lv_at hl 1 rfl) ?_
  refine va_get (D := D) (ci := 6) (v := .ref q_27) (C := RX1) (T := TX1) (N := 5) hx hb hts (fun w h => zx_Gc (uz_X1 w h)) hown hK hP 0 rfl rfl 2 (by decide) (hts (.fieldLink RX1 18 "Refereehall$Net" "accepts" "[I") (zx_Gc mm_181)) (fun _ h9 => h9) rfl dX1_init_60 ?_
  refine lv_iload_n hx hb dX1_init_63 rfl (lv_at hl 0 rfl) ?_
  refine lv_bipush (v := 50) hx hb dX1_init_64 (by decide) ?_
  refine va_iast hx hb hK hP hD hS 3 0 rfl rfl (zx_bn (by decide)) dX1_init_66 (fun H locs hP hD hS => ?_)
  have hP : va_P D vwCl [(ne, .inr (6, [.ref q_25, .ref q_26, .ref q_27, .ref q_28, .ref q_29])), (q_25, .inl (cy 0, 8, .inl (fun _ => 0))), (q_26, .inl (cy 0, 8, .inl f_56)), (q_27, .inl (cy 0, 8, .inl (upd f_52 (5 : Int32).toNatClampNeg 50))), (q_28, .inl (cy 0, 8, .inl f_53)), (q_29, .inl (cy 1, 8, .inl f_54))] H := hP
  have hD : va_D A [(ne, .inr (6, [.ref q_25, .ref q_26, .ref q_27, .ref q_28, .ref q_29])), (q_25, .inl (cy 0, 8, .inl (fun _ => 0))), (q_26, .inl (cy 0, 8, .inl f_56)), (q_27, .inl (cy 0, 8, .inl (upd f_52 (5 : Int32).toNatClampNeg 50))), (q_28, .inl (cy 0, 8, .inl f_53)), (q_29, .inl (cy 1, 8, .inl f_54))] := hD
  obtain ⟨f_57, ef_57⟩ : ∃ z9, z9 = (upd f_52 (5 : Int32).toNatClampNeg 50) := ⟨_, rfl⟩
  rw [← ef_57] at hP hD
  clear ef_57
  refine lv_aload_n hx hb dX1_init_67 rfl (lv_at hl 1 rfl) ?_
  refine va_get (D := D) (ci := 6) (v := .ref q_28) (C := RX1) (T := TX1) (N := 5) hx hb hts (fun w h => zx_Gc (uz_X1 w h)) hown hK hP 0 rfl rfl 3 (by decide) (hts (.fieldLink RX1 21 "Refereehall$Net" "rejects" "[I") (zx_Gc mm_183)) (fun _ h9 => h9) rfl dX1_init_68 ?_
  refine lv_iload_n hx hb dX1_init_71 rfl (lv_at hl 0 rfl) ?_
  refine lv_bipush (v := 35) hx hb dX1_init_72 (by decide) ?_
  refine va_iast hx hb hK hP hD hS 4 0 rfl rfl (zx_bn (by decide)) dX1_init_74 (fun H locs hP hD hS => ?_)
  have hP : va_P D vwCl [(ne, .inr (6, [.ref q_25, .ref q_26, .ref q_27, .ref q_28, .ref q_29])), (q_25, .inl (cy 0, 8, .inl (fun _ => 0))), (q_26, .inl (cy 0, 8, .inl f_56)), (q_27, .inl (cy 0, 8, .inl f_57)), (q_28, .inl (cy 0, 8, .inl (upd f_53 (5 : Int32).toNatClampNeg 35))), (q_29, .inl (cy 1, 8, .inl f_54))] H := hP
  have hD : va_D A [(ne, .inr (6, [.ref q_25, .ref q_26, .ref q_27, .ref q_28, .ref q_29])), (q_25, .inl (cy 0, 8, .inl (fun _ => 0))), (q_26, .inl (cy 0, 8, .inl f_56)), (q_27, .inl (cy 0, 8, .inl f_57)), (q_28, .inl (cy 0, 8, .inl (upd f_53 (5 : Int32).toNatClampNeg 35))), (q_29, .inl (cy 1, 8, .inl f_54))] := hD
  obtain ⟨f_58, ef_58⟩ : ∃ z9, z9 = (upd f_53 (5 : Int32).toNatClampNeg 35) := ⟨_, rfl⟩
  rw [← ef_58] at hP hD
  clear ef_58
  refine lv_aload_n hx hb dX1_init_75 rfl (lv_at hl 1 rfl) ?_
  refine va_get (D := D) (ci := 6) (v := .ref q_29) (C := RX1) (T := TX1) (N := 5) hx hb hts (fun w h => zx_Gc (uz_X1 w h)) hown hK hP 0 rfl rfl 4 (by decide) (hts (.fieldLink RX1 24 "Refereehall$Net" "way" "[C") (zx_Gc mm_185)) (fun _ h9 => h9) rfl dX1_init_76 ?_
  refine lv_iload_n hx hb dX1_init_79 rfl (lv_at hl 0 rfl) ?_
  refine lv_bipush (v := 115) hx hb dX1_init_80 (by decide) ?_
  refine va_cast hx hb hK hP hD hS 5 1 rfl rfl (zx_bn (by decide)) dX1_init_82 (fun H locs hP hD hS => ?_)
  have hP : va_P D vwCl [(ne, .inr (6, [.ref q_25, .ref q_26, .ref q_27, .ref q_28, .ref q_29])), (q_25, .inl (cy 0, 8, .inl (fun _ => 0))), (q_26, .inl (cy 0, 8, .inl f_56)), (q_27, .inl (cy 0, 8, .inl f_57)), (q_28, .inl (cy 0, 8, .inl f_58)), (q_29, .inl (cy 1, 8, .inl (upd f_54 (5 : Int32).toNatClampNeg 115)))] H := hP
  have hD : va_D A [(ne, .inr (6, [.ref q_25, .ref q_26, .ref q_27, .ref q_28, .ref q_29])), (q_25, .inl (cy 0, 8, .inl (fun _ => 0))), (q_26, .inl (cy 0, 8, .inl f_56)), (q_27, .inl (cy 0, 8, .inl f_57)), (q_28, .inl (cy 0, 8, .inl f_58)), (q_29, .inl (cy 1, 8, .inl (upd f_54 (5 : Int32).toNatClampNeg 115)))] := hD
  obtain ⟨f_59, ef_59⟩ : ∃ z9, z9 = (upd f_54 (5 : Int32).toNatClampNeg 115) := ⟨_, rfl⟩
  rw [← ef_59] at hP hD
  have hf_59 : ∀ j, j < 6 → f_59 j = 115 := by rw [ef_59]; exact (zx_way (i := 5) hf_54)
  clear ef_59
  refine lv_iinc (v := 6) (lv' := [(1, .int 6), (0, .ref ne)]) hx hb dX1_init_83 hl (k := 0) rfl (by decide) (by decide) rfl (fun ls hl => ?_)
  refine lv_goto (tgt := 46) hx hb dX1_init_86 (by decide) ?_
  refine lv_iload_n hx hb dX1_init_46 rfl (lv_at hl 0 rfl) ?_
  refine lv_bipush (v := 8) hx hb dX1_init_47 (by decide) ?_
  refine lv_icmp_ge (tgt := 89) hx hb dX1_init_49 (by decide) (fun c_60 => absurd c_60 (by decide)) (fun _ => ?_)
  refine lv_aload_n hx hb dX1_init_52 rfl (lv_at hl 1 rfl) ?_
  refine va_get (D := D) (ci := 6) (v := .ref q_26) (C := RX1) (T := TX1) (N := 5) hx hb hts (fun w h => zx_Gc (uz_X1 w h)) hown hK hP 0 rfl rfl 1 (by decide) (hts (.fieldLink RX1 15 "Refereehall$Net" "needs" "[I") (zx_Gc mm_179)) (fun _ h9 => h9) rfl dX1_init_53 ?_
  refine lv_iload_n hx hb dX1_init_56 rfl (lv_at hl 0 rfl) ?_
  refine lv_iconst (v := 2) hx hb dX1_init_57 (by decide) ?_
  refine va_iast hx hb hK hP hD hS 2 0 rfl rfl (zx_bn (by decide)) dX1_init_58 (fun H locs hP hD hS => ?_)
  have hP : va_P D vwCl [(ne, .inr (6, [.ref q_25, .ref q_26, .ref q_27, .ref q_28, .ref q_29])), (q_25, .inl (cy 0, 8, .inl (fun _ => 0))), (q_26, .inl (cy 0, 8, .inl (upd f_56 (6 : Int32).toNatClampNeg 2))), (q_27, .inl (cy 0, 8, .inl f_57)), (q_28, .inl (cy 0, 8, .inl f_58)), (q_29, .inl (cy 1, 8, .inl f_59))] H := hP
  have hD : va_D A [(ne, .inr (6, [.ref q_25, .ref q_26, .ref q_27, .ref q_28, .ref q_29])), (q_25, .inl (cy 0, 8, .inl (fun _ => 0))), (q_26, .inl (cy 0, 8, .inl (upd f_56 (6 : Int32).toNatClampNeg 2))), (q_27, .inl (cy 0, 8, .inl f_57)), (q_28, .inl (cy 0, 8, .inl f_58)), (q_29, .inl (cy 1, 8, .inl f_59))] := hD
  obtain ⟨f_61, ef_61⟩ : ∃ z9, z9 = (upd f_56 (6 : Int32).toNatClampNeg 2) := ⟨_, rfl⟩
  rw [← ef_61] at hP hD
  clear ef_61
  refine lv_aload_n hx hb dX1_init_59 rfl (lv_at hl 1 rfl) ?_
  refine va_get (D := D) (ci := 6) (v := .ref q_27) (C := RX1) (T := TX1) (N := 5) hx hb hts (fun w h => zx_Gc (uz_X1 w h)) hown hK hP 0 rfl rfl 2 (by decide) (hts (.fieldLink RX1 18 "Refereehall$Net" "accepts" "[I") (zx_Gc mm_181)) (fun _ h9 => h9) rfl dX1_init_60 ?_
  refine lv_iload_n hx hb dX1_init_63 rfl (lv_at hl 0 rfl) ?_
  refine lv_bipush (v := 50) hx hb dX1_init_64 (by decide) ?_
  refine va_iast hx hb hK hP hD hS 3 0 rfl rfl (zx_bn (by decide)) dX1_init_66 (fun H locs hP hD hS => ?_)
  have hP : va_P D vwCl [(ne, .inr (6, [.ref q_25, .ref q_26, .ref q_27, .ref q_28, .ref q_29])), (q_25, .inl (cy 0, 8, .inl (fun _ => 0))), (q_26, .inl (cy 0, 8, .inl f_61)), (q_27, .inl (cy 0, 8, .inl (upd f_57 (6 : Int32).toNatClampNeg 50))), (q_28, .inl (cy 0, 8, .inl f_58)), (q_29, .inl (cy 1, 8, .inl f_59))] H := hP
  have hD : va_D A [(ne, .inr (6, [.ref q_25, .ref q_26, .ref q_27, .ref q_28, .ref q_29])), (q_25, .inl (cy 0, 8, .inl (fun _ => 0))), (q_26, .inl (cy 0, 8, .inl f_61)), (q_27, .inl (cy 0, 8, .inl (upd f_57 (6 : Int32).toNatClampNeg 50))), (q_28, .inl (cy 0, 8, .inl f_58)), (q_29, .inl (cy 1, 8, .inl f_59))] := hD
  obtain ⟨f_62, ef_62⟩ : ∃ z9, z9 = (upd f_57 (6 : Int32).toNatClampNeg 50) := ⟨_, rfl⟩
  rw [← ef_62] at hP hD
  clear ef_62
  refine lv_aload_n hx hb dX1_init_67 rfl (lv_at hl 1 rfl) ?_
  refine va_get (D := D) (ci := 6) (v := .ref q_28) (C := RX1) (T := TX1) (N := 5) hx hb hts (fun w h => zx_Gc (uz_X1 w h)) hown hK hP 0 rfl rfl 3 (by decide) (hts (.fieldLink RX1 21 "Refereehall$Net" "rejects" "[I") (zx_Gc mm_183)) (fun _ h9 => h9) rfl dX1_init_68 ?_
  refine lv_iload_n hx hb dX1_init_71 rfl (lv_at hl 0 rfl) ?_
  refine lv_bipush (v := 35) hx hb dX1_init_72 (by decide) ?_
  refine va_iast hx hb hK hP hD hS 4 0 rfl rfl (zx_bn (by decide)) dX1_init_74 (fun H locs hP hD hS => ?_)
  have hP : va_P D vwCl [(ne, .inr (6, [.ref q_25, .ref q_26, .ref q_27, .ref q_28, .ref q_29])), (q_25, .inl (cy 0, 8, .inl (fun _ => 0))), (q_26, .inl (cy 0, 8, .inl f_61)), (q_27, .inl (cy 0, 8, .inl f_62)), (q_28, .inl (cy 0, 8, .inl (upd f_58 (6 : Int32).toNatClampNeg 35))), (q_29, .inl (cy 1, 8, .inl f_59))] H := hP
  have hD : va_D A [(ne, .inr (6, [.ref q_25, .ref q_26, .ref q_27, .ref q_28, .ref q_29])), (q_25, .inl (cy 0, 8, .inl (fun _ => 0))), (q_26, .inl (cy 0, 8, .inl f_61)), (q_27, .inl (cy 0, 8, .inl f_62)), (q_28, .inl (cy 0, 8, .inl (upd f_58 (6 : Int32).toNatClampNeg 35))), (q_29, .inl (cy 1, 8, .inl f_59))] := hD
  obtain ⟨f_63, ef_63⟩ : ∃ z9, z9 = (upd f_58 (6 : Int32).toNatClampNeg 35) := ⟨_, rfl⟩
  rw [← ef_63] at hP hD
  clear ef_63
  refine lv_aload_n hx hb dX1_init_75 rfl (lv_at hl 1 rfl) ?_
  refine va_get (D := D) (ci := 6) (v := .ref q_29) (C := RX1) (T := TX1) (N := 5) hx hb hts (fun w h => zx_Gc (uz_X1 w h)) hown hK hP 0 rfl rfl 4 (by decide) (hts (.fieldLink RX1 24 "Refereehall$Net" "way" "[C") (zx_Gc mm_185)) (fun _ h9 => h9) rfl dX1_init_76 ?_
  refine lv_iload_n hx hb dX1_init_79 rfl (lv_at hl 0 rfl) ?_
  refine lv_bipush (v := 115) hx hb dX1_init_80 (by decide) ?_
  refine va_cast hx hb hK hP hD hS 5 1 rfl rfl (zx_bn (by decide)) dX1_init_82 (fun H locs hP hD hS => ?_)
  have hP : va_P D vwCl [(ne, .inr (6, [.ref q_25, .ref q_26, .ref q_27, .ref q_28, .ref q_29])), (q_25, .inl (cy 0, 8, .inl (fun _ => 0))), (q_26, .inl (cy 0, 8, .inl f_61)), (q_27, .inl (cy 0, 8, .inl f_62)), (q_28, .inl (cy 0, 8, .inl f_63)), (q_29, .inl (cy 1, 8, .inl (upd f_59 (6 : Int32).toNatClampNeg 115)))] H := hP
  have hD : va_D A [(ne, .inr (6, [.ref q_25, .ref q_26, .ref q_27, .ref q_28, .ref q_29])), (q_25, .inl (cy 0, 8, .inl (fun _ => 0))), (q_26, .inl (cy 0, 8, .inl f_61)), (q_27, .inl (cy 0, 8, .inl f_62)), (q_28, .inl (cy 0, 8, .inl f_63)), (q_29, .inl (cy 1, 8, .inl (upd f_59 (6 : Int32).toNatClampNeg 115)))] := hD
  obtain ⟨f_64, ef_64⟩ : ∃ z9, z9 = (upd f_59 (6 : Int32).toNatClampNeg 115) := ⟨_, rfl⟩
  rw [← ef_64] at hP hD
  have hf_64 : ∀ j, j < 7 → f_64 j = 115 := by rw [ef_64]; exact (zx_way (i := 6) hf_59)
  clear ef_64
  refine lv_iinc (v := 7) (lv' := [(1, .int 7), (0, .ref ne)]) hx hb dX1_init_83 hl (k := 0) rfl (by decide) (by decide) rfl (fun ls hl => ?_)
  refine lv_goto (tgt := 46) hx hb dX1_init_86 (by decide) ?_
  refine lv_iload_n hx hb dX1_init_46 rfl (lv_at hl 0 rfl) ?_
  refine lv_bipush (v := 8) hx hb dX1_init_47 (by decide) ?_
  refine lv_icmp_ge (tgt := 89) hx hb dX1_init_49 (by decide) (fun c_65 => absurd c_65 (by decide)) (fun _ => ?_)
  refine lv_aload_n hx hb dX1_init_52 rfl (lv_at hl 1 rfl) ?_
  refine va_get (D := D) (ci := 6) (v := .ref q_26) (C := RX1) (T := TX1) (N := 5) hx hb hts (fun w h => zx_Gc (uz_X1 w h)) hown hK hP 0 rfl rfl 1 (by decide) (hts (.fieldLink RX1 15 "Refereehall$Net" "needs" "[I") (zx_Gc mm_179)) (fun _ h9 => h9) rfl dX1_init_53 ?_
  refine lv_iload_n hx hb dX1_init_56 rfl (lv_at hl 0 rfl) ?_
  refine lv_iconst (v := 2) hx hb dX1_init_57 (by decide) ?_
  refine va_iast hx hb hK hP hD hS 2 0 rfl rfl (zx_bn (by decide)) dX1_init_58 (fun H locs hP hD hS => ?_)
  have hP : va_P D vwCl [(ne, .inr (6, [.ref q_25, .ref q_26, .ref q_27, .ref q_28, .ref q_29])), (q_25, .inl (cy 0, 8, .inl (fun _ => 0))), (q_26, .inl (cy 0, 8, .inl (upd f_61 (7 : Int32).toNatClampNeg 2))), (q_27, .inl (cy 0, 8, .inl f_62)), (q_28, .inl (cy 0, 8, .inl f_63)), (q_29, .inl (cy 1, 8, .inl f_64))] H := hP
  have hD : va_D A [(ne, .inr (6, [.ref q_25, .ref q_26, .ref q_27, .ref q_28, .ref q_29])), (q_25, .inl (cy 0, 8, .inl (fun _ => 0))), (q_26, .inl (cy 0, 8, .inl (upd f_61 (7 : Int32).toNatClampNeg 2))), (q_27, .inl (cy 0, 8, .inl f_62)), (q_28, .inl (cy 0, 8, .inl f_63)), (q_29, .inl (cy 1, 8, .inl f_64))] := hD
  obtain ⟨f_66, ef_66⟩ : ∃ z9, z9 = (upd f_61 (7 : Int32).toNatClampNeg 2) := ⟨_, rfl⟩
  rw [← ef_66] at hP hD
  clear ef_66
  refine lv_aload_n hx hb dX1_init_59 rfl (lv_at hl 1 rfl) ?_
  refine va_get (D := D) (ci := 6) (v := .ref q_27) (C := RX1) (T := TX1) (N := 5) hx hb hts (fun w h => zx_Gc (uz_X1 w h)) hown hK hP 0 rfl rfl 2 (by decide) (hts (.fieldLink RX1 18 "Refereehall$Net" "accepts" "[I") (zx_Gc mm_181)) (fun _ h9 => h9) rfl dX1_init_60 ?_
  refine lv_iload_n hx hb dX1_init_63 rfl (lv_at hl 0 rfl) ?_
  refine lv_bipush (v := 50) hx hb dX1_init_64 (by decide) ?_
  refine va_iast hx hb hK hP hD hS 3 0 rfl rfl (zx_bn (by decide)) dX1_init_66 (fun H locs hP hD hS => ?_)
  have hP : va_P D vwCl [(ne, .inr (6, [.ref q_25, .ref q_26, .ref q_27, .ref q_28, .ref q_29])), (q_25, .inl (cy 0, 8, .inl (fun _ => 0))), (q_26, .inl (cy 0, 8, .inl f_66)), (q_27, .inl (cy 0, 8, .inl (upd f_62 (7 : Int32).toNatClampNeg 50))), (q_28, .inl (cy 0, 8, .inl f_63)), (q_29, .inl (cy 1, 8, .inl f_64))] H := hP
  have hD : va_D A [(ne, .inr (6, [.ref q_25, .ref q_26, .ref q_27, .ref q_28, .ref q_29])), (q_25, .inl (cy 0, 8, .inl (fun _ => 0))), (q_26, .inl (cy 0, 8, .inl f_66)), (q_27, .inl (cy 0, 8, .inl (upd f_62 (7 : Int32).toNatClampNeg 50))), (q_28, .inl (cy 0, 8, .inl f_63)), (q_29, .inl (cy 1, 8, .inl f_64))] := hD
  obtain ⟨f_67, ef_67⟩ : ∃ z9, z9 = (upd f_62 (7 : Int32).toNatClampNeg 50) := ⟨_, rfl⟩
  rw [← ef_67] at hP hD
  clear ef_67
  refine lv_aload_n hx hb dX1_init_67 rfl (lv_at hl 1 rfl) ?_
  refine va_get (D := D) (ci := 6) (v := .ref q_28) (C := RX1) (T := TX1) (N := 5) hx hb hts (fun w h => zx_Gc (uz_X1 w h)) hown hK hP 0 rfl rfl 3 (by decide) (hts (.fieldLink RX1 21 "Refereehall$Net" "rejects" "[I") (zx_Gc mm_183)) (fun _ h9 => h9) rfl dX1_init_68 ?_
  refine lv_iload_n hx hb dX1_init_71 rfl (lv_at hl 0 rfl) ?_
  refine lv_bipush (v := 35) hx hb dX1_init_72 (by decide) ?_
  refine va_iast hx hb hK hP hD hS 4 0 rfl rfl (zx_bn (by decide)) dX1_init_74 (fun H locs hP hD hS => ?_)
  have hP : va_P D vwCl [(ne, .inr (6, [.ref q_25, .ref q_26, .ref q_27, .ref q_28, .ref q_29])), (q_25, .inl (cy 0, 8, .inl (fun _ => 0))), (q_26, .inl (cy 0, 8, .inl f_66)), (q_27, .inl (cy 0, 8, .inl f_67)), (q_28, .inl (cy 0, 8, .inl (upd f_63 (7 : Int32).toNatClampNeg 35))), (q_29, .inl (cy 1, 8, .inl f_64))] H := hP
  have hD : va_D A [(ne, .inr (6, [.ref q_25, .ref q_26, .ref q_27, .ref q_28, .ref q_29])), (q_25, .inl (cy 0, 8, .inl (fun _ => 0))), (q_26, .inl (cy 0, 8, .inl f_66)), (q_27, .inl (cy 0, 8, .inl f_67)), (q_28, .inl (cy 0, 8, .inl (upd f_63 (7 : Int32).toNatClampNeg 35))), (q_29, .inl (cy 1, 8, .inl f_64))] := hD
  obtain ⟨f_68, ef_68⟩ : ∃ z9, z9 = (upd f_63 (7 : Int32).toNatClampNeg 35) := ⟨_, rfl⟩
  rw [← ef_68] at hP hD
  clear ef_68
  refine lv_aload_n hx hb dX1_init_75 rfl (lv_at hl 1 rfl) ?_
  refine va_get (D := D) (ci := 6) (v := .ref q_29) (C := RX1) (T := TX1) (N := 5) hx hb hts (fun w h => zx_Gc (uz_X1 w h)) hown hK hP 0 rfl rfl 4 (by decide) (hts (.fieldLink RX1 24 "Refereehall$Net" "way" "[C") (zx_Gc mm_185)) (fun _ h9 => h9) rfl dX1_init_76 ?_
  refine lv_iload_n hx hb dX1_init_79 rfl (lv_at hl 0 rfl) ?_
  refine lv_bipush (v := 115) hx hb dX1_init_80 (by decide) ?_
  refine va_cast hx hb hK hP hD hS 5 1 rfl rfl (zx_bn (by decide)) dX1_init_82 (fun H locs hP hD hS => ?_)
  have hP : va_P D vwCl [(ne, .inr (6, [.ref q_25, .ref q_26, .ref q_27, .ref q_28, .ref q_29])), (q_25, .inl (cy 0, 8, .inl (fun _ => 0))), (q_26, .inl (cy 0, 8, .inl f_66)), (q_27, .inl (cy 0, 8, .inl f_67)), (q_28, .inl (cy 0, 8, .inl f_68)), (q_29, .inl (cy 1, 8, .inl (upd f_64 (7 : Int32).toNatClampNeg 115)))] H := hP
  have hD : va_D A [(ne, .inr (6, [.ref q_25, .ref q_26, .ref q_27, .ref q_28, .ref q_29])), (q_25, .inl (cy 0, 8, .inl (fun _ => 0))), (q_26, .inl (cy 0, 8, .inl f_66)), (q_27, .inl (cy 0, 8, .inl f_67)), (q_28, .inl (cy 0, 8, .inl f_68)), (q_29, .inl (cy 1, 8, .inl (upd f_64 (7 : Int32).toNatClampNeg 115)))] := hD
  obtain ⟨f_69, ef_69⟩ : ∃ z9, z9 = (upd f_64 (7 : Int32).toNatClampNeg 115) := ⟨_, rfl⟩
  rw [← ef_69] at hP hD
  have hf_69 : ∀ j, j < 8 → f_69 j = 115 := by rw [ef_69]; exact (zx_way (i := 7) hf_64)
  clear ef_69
  refine lv_iinc (v := 8) (lv' := [(1, .int 8), (0, .ref ne)]) hx hb dX1_init_83 hl (k := 0) rfl (by decide) (by decide) rfl (fun ls hl => ?_)
  refine lv_goto (tgt := 46) hx hb dX1_init_86 (by decide) ?_
  refine lv_iload_n hx hb dX1_init_46 rfl (lv_at hl 0 rfl) ?_
  refine lv_bipush (v := 8) hx hb dX1_init_47 (by decide) ?_
  refine lv_icmp_ge (tgt := 89) hx hb dX1_init_49 (by decide) (fun _ => ?_) (fun c_70 => absurd (by decide) c_70)
  have hP9 := hP.sub (ws' := [(ne, .inr (6, [.ref q_25, .ref q_26, .ref q_27, .ref q_28, .ref q_29])), (q_25, .inl (cy 0, 8, .inl (fun _ => 0))), (q_26, .inl (cy 0, 8, .inl f_66)), (q_27, .inl (cy 0, 8, .inl f_67)), (q_28, .inl (cy 0, 8, .inl f_68)), (q_29, .inl (cy 1, 8, .inl f_69))]) [0, 1, 2, 3, 4, 5] rfl
  have hD9 := hD.sub (ws' := [(ne, .inr (6, [.ref q_25, .ref q_26, .ref q_27, .ref q_28, .ref q_29])), (q_25, .inl (cy 0, 8, .inl (fun _ => 0))), (q_26, .inl (cy 0, 8, .inl f_66)), (q_27, .inl (cy 0, 8, .inl f_67)), (q_28, .inl (cy 0, 8, .inl f_68)), (q_29, .inl (cy 1, 8, .inl f_69))]) [0, 1, 2, 3, 4, 5] (by decide) rfl
  exact W.vret hx hb hr (fun t ht hW => ⟨⟨⟨q_25, q_26, q_27, q_28, q_29, f_66, f_67, f_68, f_69⟩, rfl, hf_69, zx_fin hP9 hD9 hK ht hW⟩, hS.F ht⟩) hS.2.2 dX1_init_89
set_option maxHeartbeats 4000000 in
set_option maxRecDepth 100000 in
theorem c_X8_init (l : Launch) (hst : l.stackTraces = false) (D : va_G) (cy : Nat → ClassId) (ed sz : Nat) (h : Nat) (dy : Int32) : Met l yX8_init wzX8_init ({ frames := 4, cells := 18, slots := 818, locals := 72 }) (zx_Pc D cy ed sz [.ref h] [(h, .inr (13, [.null, .null, .null, .null, .int dy]))]) (va_Qv (fun (u9 : Nat × Nat × Nat × Nat × Nat × Nat × Nat × Nat × Nat × Nat × Nat × Nat × Nat × Nat × Nat × Nat × Nat × Nat × (Nat → Int32) × (Nat → Int32) × (Nat → Int32) × (Nat → Int32)) => match u9 with | (pe, ne, pa, ro, a1, a2, a3, a4, a5, a6, a7, a8, a9, n1, n2, n3, n4, n5, f2, f3, f4, f5) => ∀ j, j < 8 → f5 j = 115) (fun (u9 : Nat × Nat × Nat × Nat × Nat × Nat × Nat × Nat × Nat × Nat × Nat × Nat × Nat × Nat × Nat × Nat × Nat × Nat × (Nat → Int32) × (Nat → Int32) × (Nat → Int32) × (Nat → Int32)) (t9 : State) => match u9 with | (pe, ne, pa, ro, a1, a2, a3, a4, a5, a6, a7, a8, a9, n1, n2, n3, n4, n5, f2, f3, f4, f5) => zx_At D cy (va_A [(h, .inr (13, [.null, .null, .null, .null, .int dy]))] sz) [(h, .inr (13, [.ref pe, .ref ne, .ref pa, .ref ro, .int 0])), (pe, .inr (9, [.int 0, .ref a1, .ref a2, .ref a3, .ref a4, .ref a5, .ref a6, .ref a7, .ref a8, .ref a9])), (a1, .inl (cy 0, 20, .inl (fun _ => 0))), (a2, .inl (cy 0, 20, .inl (fun _ => 0))), (ne, .inr (6, [.ref n1, .ref n2, .ref n3, .ref n4, .ref n5])), (n1, .inl (cy 0, 8, .inl (fun _ => 0))), (n2, .inl (cy 0, 8, .inl f2)), (n3, .inl (cy 0, 8, .inl f3)), (n4, .inl (cy 0, 8, .inl f4)), (n5, .inl (cy 1, 8, .inl f5)), (pa, .inr (4, [.int 0, .ref ed, .int 0])), (ro, .inl (cy 0, 20, .inl (fun _ => 0)))] t9) (va_A [(h, .inr (13, [.null, .null, .null, .null, .int dy]))] sz)) 18 818 (va_A [(h, .inr (13, [.null, .null, .null, .null, .int dy]))] sz) := by
  refine Met.ofW (cc := cX8_init) (maxL := 1) (ret := none) (by decide) rfl ?_
  intro p e s m args below meth c s₁ B hml hv
  obtain ⟨rfl, hsz, hP, hK, hD0, hZ, hN⟩ := hv
  have hx := B.exec
  have hb := B.bytes
  have hr := B.returns
  have hts := atoms_spec (ws := wzX8_init) B.pre
  have hown : s.vm.findClass RX8 = some m.cls := findClass_of_methodNamed B.named
  have hlocks := B.notSynchronized
  have hin : meth.name = "<init>" := (name_of_methodNamed B.named B.method).1
  subst hsz
  have hD := hD0.self (sz := s.heap.size)
  generalize hAe : va_A [(h, .inr (13, [.null, .null, .null, .null, .int dy]))] s.heap.size = A at hD hZ ⊢
  have hA : ∀ q : Nat, s.heap.size ≤ q → A q := fun q h => by rw [← hAe]; exact Or.inr h
  have hS : va_S A s.heap s.heap [] := va_S.rf
  have hP : va_P D vwCl [(h, .inr (13, [.null, .null, .null, .null, .int dy]))] s.heap := hP
  have hl := lv_entry ([.ref h]) (n := 1) (Nat.le_of_ble_eq_true rfl)
  rw [lg_entry_eq]
  generalize (lg_sl ([.ref h]) ++ List.replicate (1 - (lg_sl ([.ref h])).length) Slot.unset).toArray = ls at hl ⊢
  have hl : lv_has ls 1 [(0, .ref h)] := hl
  refine lv_aload_n hx hb dX8_init_0 rfl (lv_at hl 0 rfl) ?_
  refine W.objInit hx hb hown (hts (.methodLink RX8 1 objectInit) (zx_Gc mm_118)) (hts (.instanceMethod objectInit) (zx_Gc mm_119)) (hts (.code objectInit ⟨#[0xb1]⟩ 1 none) (zx_Gc mm_120)) rfl (by rw [hml]; exact hl.1) rfl dX8_init_1 (Nat.le_of_ble_eq_true rfl) (Nat.le_of_ble_eq_true rfl) ?_
  refine W.eq (g2 := F0 m 4 ls []) rfl ?_
  refine lv_aload_n hx hb dX8_init_4 rfl (lv_at hl 0 rfl) ?_
  refine va_new (ci := 9) (fs := [.int 0, .null, .null, .null, .null, .null, .null, .null, .null, .null]) (C := RX4) (T := TX4) (N := 10) hx hb hts (fun w h => zx_Gc (uz_X4 w h)) tyX4 tyX4_ok hown (hts (.classLink RX8 7 RX4) (zx_Gc mm_121)) (hts (.instantiable RX4 10) (zx_Gc mm_122)) (hts (.initialized RX4) (zx_Gc mm_72)) hK hP hD hS hA rfl (fun j hj => by rcases (show j = 0 ∨ j = 1 ∨ j = 2 ∨ j = 3 ∨ j = 4 ∨ j = 5 ∨ j = 6 ∨ j = 7 ∨ j = 8 ∨ j = 9 by omega) with rfl | rfl | rfl | rfl | rfl | rfl | rfl | rfl | rfl | rfl <;> rfl) (Nat.le_of_ble_eq_true rfl) (Nat.le_of_ble_eq_true rfl) dX8_init_5 (fun q_71 H hP hD hS => ?_)
  have hP : va_P D vwCl [(h, .inr (13, [.null, .null, .null, .null, .int dy])), (q_71, .inr (9, [.int 0, .null, .null, .null, .null, .null, .null, .null, .null, .null]))] H := hP
  have hD : va_D A [(h, .inr (13, [.null, .null, .null, .null, .int dy])), (q_71, .inr (9, [.int 0, .null, .null, .null, .null, .null, .null, .null, .null, .null]))] := hD
  refine W.widen (k := 1) (n := 10) (Nat.le_of_ble_eq_true rfl) (Nat.le_of_ble_eq_true rfl) ?_
  refine lv_dup hx hb dX8_init_8 rfl ?_
  have hPc := hP.sub (ws' := [(q_71, .inr (9, [.int 0, .null, .null, .null, .null, .null, .null, .null, .null, .null]))]) [1] rfl
  have hDc := hD.sub (ws' := [(q_71, .inr (9, [.int 0, .null, .null, .null, .null, .null, .null, .null, .null, .null]))]) [1] (by decide) rfl
  have hFc := va_free (wc := [(q_71, .inr (9, [.int 0, .null, .null, .null, .null, .null, .null, .null, .null, .null]))]) hD hS hA [1] rfl
  refine va_callv (va_runI (As := []) (rest := [.ref q_71, .ref h]) ⟨hx, hb, hml, hown, hts⟩ (c_X4_init l hst D cy ed H.size q_71 0) (cwI 0 hts (zx_GI mm_125) rfl rfl rfl (hts (.initialized RX4) (zx_Gc mm_72)) (hts (.methodLink RX8 9 yX4_init) (zx_Gc mm_123)) (hts (.instanceMethod yX4_init) (zx_Gc mm_124)) rfl (by decide +kernel) ⟨(Nat.le_of_ble_eq_true rfl), (Nat.le_of_ble_eq_true rfl)⟩) ⟨zx_blind, zx_give hPc hK hDc hS hFc hZ hN⟩ rfl rfl hl.1 rfl (lv_room (Nat.le_of_ble_eq_true rfl)) dX8_init_9 ⟨(Nat.le_of_ble_eq_true rfl), (Nat.le_of_ble_eq_true rfl)⟩) hS (fun q _ h => hFc q h) hFc (fun u t H1 locs ht hvm hw hB hz1 hk1 hS => ?_)
  obtain ⟨a1_72, a2_73, a3_74, a4_75, a5_76, a6_77, a7_78, a8_79, a9_80⟩ := u
  obtain ⟨hP, hD⟩ := zx_join (wr := [(h, .inr (13, [.null, .null, .null, .null, .int dy]))]) (w1 := [(q_71, .inr (9, [.int 0, .ref a1_72, .ref a2_73, .ref a3_74, .ref a4_75, .ref a5_76, .ref a6_77, .ref a7_78, .ref a8_79, .ref a9_80])), (a1_72, .inl (cy 0, 20, .inl (fun _ => 0))), (a2_73, .inl (cy 0, 20, .inl (fun _ => 0)))]) [1] [0] rfl rfl (by decide) (by decide) hP hD hk1 hFc hB ht
  generalize H1 = H at hP hS ⊢
  have hP : va_P D vwCl [(h, .inr (13, [.null, .null, .null, .null, .int dy])), (q_71, .inr (9, [.int 0, .ref a1_72, .ref a2_73, .ref a3_74, .ref a4_75, .ref a5_76, .ref a6_77, .ref a7_78, .ref a8_79, .ref a9_80])), (a1_72, .inl (cy 0, 20, .inl (fun _ => 0))), (a2_73, .inl (cy 0, 20, .inl (fun _ => 0)))] H := hP
  have hD : va_D A [(h, .inr (13, [.null, .null, .null, .null, .int dy])), (q_71, .inr (9, [.int 0, .ref a1_72, .ref a2_73, .ref a3_74, .ref a4_75, .ref a5_76, .ref a6_77, .ref a7_78, .ref a8_79, .ref a9_80])), (a1_72, .inl (cy 0, 20, .inl (fun _ => 0))), (a2_73, .inl (cy 0, 20, .inl (fun _ => 0)))] := hD
  refine W.widen (k := 10) (n := 750) (Nat.le_of_ble_eq_true rfl) (Nat.le_of_ble_eq_true rfl) ?_
  refine va_putF (D := D) (ci := 13) (v := .ref q_71) (ty := .object "Refereehall$People") (C := RX8) (T := TX8) (N := 5) hx hb hts (fun w h => zx_Gc (uz_X8 w h)) tyX8 tyX8_ok nmX8 hown hK hP hD hS 0 rfl rfl 0 (by decide) (hts (.fieldLink RX8 10 "Refereehall" "people" "LRefereehall$People;") (zx_Gc mm_228)) (fun _ h9 => h9) rfl hin rfl (by decide +kernel) rfl rfl (Nat.le_of_ble_eq_true rfl) dX8_init_12 (fun H locs hP hD hS => ?_)
  have hP : va_P D vwCl [(h, .inr (13, [.ref q_71, .null, .null, .null, .int dy])), (q_71, .inr (9, [.int 0, .ref a1_72, .ref a2_73, .ref a3_74, .ref a4_75, .ref a5_76, .ref a6_77, .ref a7_78, .ref a8_79, .ref a9_80])), (a1_72, .inl (cy 0, 20, .inl (fun _ => 0))), (a2_73, .inl (cy 0, 20, .inl (fun _ => 0)))] H := hP
  have hD : va_D A [(h, .inr (13, [.ref q_71, .null, .null, .null, .int dy])), (q_71, .inr (9, [.int 0, .ref a1_72, .ref a2_73, .ref a3_74, .ref a4_75, .ref a5_76, .ref a6_77, .ref a7_78, .ref a8_79, .ref a9_80])), (a1_72, .inl (cy 0, 20, .inl (fun _ => 0))), (a2_73, .inl (cy 0, 20, .inl (fun _ => 0)))] := hD
  refine lv_aload_n hx hb dX8_init_15 rfl (lv_at hl 0 rfl) ?_
  refine va_new (ci := 6) (fs := [.null, .null, .null, .null, .null]) (C := RX1) (T := TX1) (N := 5) hx hb hts (fun w h => zx_Gc (uz_X1 w h)) tyX1 tyX1_ok hown (hts (.classLink RX8 16 RX1) (zx_Gc mm_172)) (hts (.instantiable RX1 5) (zx_Gc mm_173)) (hts (.initialized RX1) (zx_Gc mm_74)) hK hP hD hS hA rfl (fun j hj => by rcases (show j = 0 ∨ j = 1 ∨ j = 2 ∨ j = 3 ∨ j = 4 by omega) with rfl | rfl | rfl | rfl | rfl <;> rfl) (Nat.le_of_ble_eq_true rfl) (Nat.le_of_ble_eq_true rfl) dX8_init_16 (fun q_81 H hP hD hS => ?_)
  have hP : va_P D vwCl [(h, .inr (13, [.ref q_71, .null, .null, .null, .int dy])), (q_71, .inr (9, [.int 0, .ref a1_72, .ref a2_73, .ref a3_74, .ref a4_75, .ref a5_76, .ref a6_77, .ref a7_78, .ref a8_79, .ref a9_80])), (a1_72, .inl (cy 0, 20, .inl (fun _ => 0))), (a2_73, .inl (cy 0, 20, .inl (fun _ => 0))), (q_81, .inr (6, [.null, .null, .null, .null, .null]))] H := hP
  have hD : va_D A [(h, .inr (13, [.ref q_71, .null, .null, .null, .int dy])), (q_71, .inr (9, [.int 0, .ref a1_72, .ref a2_73, .ref a3_74, .ref a4_75, .ref a5_76, .ref a6_77, .ref a7_78, .ref a8_79, .ref a9_80])), (a1_72, .inl (cy 0, 20, .inl (fun _ => 0))), (a2_73, .inl (cy 0, 20, .inl (fun _ => 0))), (q_81, .inr (6, [.null, .null, .null, .null, .null]))] := hD
  refine W.widen (k := 11) (n := 755) (Nat.le_of_ble_eq_true rfl) (Nat.le_of_ble_eq_true rfl) ?_
  refine lv_dup hx hb dX8_init_19 rfl ?_
  have hPc := hP.sub (ws' := [(q_81, .inr (6, [.null, .null, .null, .null, .null]))]) [4] rfl
  have hDc := hD.sub (ws' := [(q_81, .inr (6, [.null, .null, .null, .null, .null]))]) [4] (by decide) rfl
  have hFc := va_free (wc := [(q_81, .inr (6, [.null, .null, .null, .null, .null]))]) hD hS hA [4] rfl
  refine va_callv (va_runI (As := []) (rest := [.ref q_81, .ref h]) ⟨hx, hb, hml, hown, hts⟩ (c_X1_init l hst D cy ed H.size q_81) (cwI 0 hts (zx_GI mm_176) rfl rfl rfl (hts (.initialized RX1) (zx_Gc mm_74)) (hts (.methodLink RX8 18 yX1_init) (zx_Gc mm_174)) (hts (.instanceMethod yX1_init) (zx_Gc mm_175)) rfl (by decide +kernel) ⟨(Nat.le_of_ble_eq_true rfl), (Nat.le_of_ble_eq_true rfl)⟩) ⟨zx_blind, zx_give hPc hK hDc hS hFc hZ hN⟩ rfl rfl hl.1 rfl (lv_room (Nat.le_of_ble_eq_true rfl)) dX8_init_20 ⟨(Nat.le_of_ble_eq_true rfl), (Nat.le_of_ble_eq_true rfl)⟩) hS (fun q _ h => hFc q h) hFc (fun u t H1 locs ht hvm hw hB hz1 hk1 hS => ?_)
  obtain ⟨n1_82, n2_83, n3_84, n4_85, n5_86, f2_87, f3_88, f4_89, f5_90⟩ := u
  have h_91 := hw
  obtain ⟨hP, hD⟩ := zx_join (wr := [(h, .inr (13, [.ref q_71, .null, .null, .null, .int dy])), (q_71, .inr (9, [.int 0, .ref a1_72, .ref a2_73, .ref a3_74, .ref a4_75, .ref a5_76, .ref a6_77, .ref a7_78, .ref a8_79, .ref a9_80])), (a1_72, .inl (cy 0, 20, .inl (fun _ => 0))), (a2_73, .inl (cy 0, 20, .inl (fun _ => 0)))]) (w1 := [(q_81, .inr (6, [.ref n1_82, .ref n2_83, .ref n3_84, .ref n4_85, .ref n5_86])), (n1_82, .inl (cy 0, 8, .inl (fun _ => 0))), (n2_83, .inl (cy 0, 8, .inl f2_87)), (n3_84, .inl (cy 0, 8, .inl f3_88)), (n4_85, .inl (cy 0, 8, .inl f4_89)), (n5_86, .inl (cy 1, 8, .inl f5_90))]) [4] [0, 1, 2, 3] rfl rfl (by decide) (by decide) hP hD hk1 hFc hB ht
  generalize H1 = H at hP hS ⊢
  have hP : va_P D vwCl [(h, .inr (13, [.ref q_71, .null, .null, .null, .int dy])), (q_71, .inr (9, [.int 0, .ref a1_72, .ref a2_73, .ref a3_74, .ref a4_75, .ref a5_76, .ref a6_77, .ref a7_78, .ref a8_79, .ref a9_80])), (a1_72, .inl (cy 0, 20, .inl (fun _ => 0))), (a2_73, .inl (cy 0, 20, .inl (fun _ => 0))), (q_81, .inr (6, [.ref n1_82, .ref n2_83, .ref n3_84, .ref n4_85, .ref n5_86])), (n1_82, .inl (cy 0, 8, .inl (fun _ => 0))), (n2_83, .inl (cy 0, 8, .inl f2_87)), (n3_84, .inl (cy 0, 8, .inl f3_88)), (n4_85, .inl (cy 0, 8, .inl f4_89)), (n5_86, .inl (cy 1, 8, .inl f5_90))] H := hP
  have hD : va_D A [(h, .inr (13, [.ref q_71, .null, .null, .null, .int dy])), (q_71, .inr (9, [.int 0, .ref a1_72, .ref a2_73, .ref a3_74, .ref a4_75, .ref a5_76, .ref a6_77, .ref a7_78, .ref a8_79, .ref a9_80])), (a1_72, .inl (cy 0, 20, .inl (fun _ => 0))), (a2_73, .inl (cy 0, 20, .inl (fun _ => 0))), (q_81, .inr (6, [.ref n1_82, .ref n2_83, .ref n3_84, .ref n4_85, .ref n5_86])), (n1_82, .inl (cy 0, 8, .inl (fun _ => 0))), (n2_83, .inl (cy 0, 8, .inl f2_87)), (n3_84, .inl (cy 0, 8, .inl f3_88)), (n4_85, .inl (cy 0, 8, .inl f4_89)), (n5_86, .inl (cy 1, 8, .inl f5_90))] := hD
  refine W.widen (k := 16) (n := 795) (Nat.le_of_ble_eq_true rfl) (Nat.le_of_ble_eq_true rfl) ?_
  refine va_putF (D := D) (ci := 13) (v := .ref q_81) (ty := .object "Refereehall$Net") (C := RX8) (T := TX8) (N := 5) hx hb hts (fun w h => zx_Gc (uz_X8 w h)) tyX8 tyX8_ok nmX8 hown hK hP hD hS 0 rfl rfl 1 (by decide) (hts (.fieldLink RX8 19 "Refereehall" "net" "LRefereehall$Net;") (zx_Gc mm_229)) (fun _ h9 => h9) rfl hin rfl (by decide +kernel) rfl rfl (Nat.le_of_ble_eq_true rfl) dX8_init_23 (fun H locs hP hD hS => ?_)
  have hP : va_P D vwCl [(h, .inr (13, [.ref q_71, .ref q_81, .null, .null, .int dy])), (q_71, .inr (9, [.int 0, .ref a1_72, .ref a2_73, .ref a3_74, .ref a4_75, .ref a5_76, .ref a6_77, .ref a7_78, .ref a8_79, .ref a9_80])), (a1_72, .inl (cy 0, 20, .inl (fun _ => 0))), (a2_73, .inl (cy 0, 20, .inl (fun _ => 0))), (q_81, .inr (6, [.ref n1_82, .ref n2_83, .ref n3_84, .ref n4_85, .ref n5_86])), (n1_82, .inl (cy 0, 8, .inl (fun _ => 0))), (n2_83, .inl (cy 0, 8, .inl f2_87)), (n3_84, .inl (cy 0, 8, .inl f3_88)), (n4_85, .inl (cy 0, 8, .inl f4_89)), (n5_86, .inl (cy 1, 8, .inl f5_90))] H := hP
  have hD : va_D A [(h, .inr (13, [.ref q_71, .ref q_81, .null, .null, .int dy])), (q_71, .inr (9, [.int 0, .ref a1_72, .ref a2_73, .ref a3_74, .ref a4_75, .ref a5_76, .ref a6_77, .ref a7_78, .ref a8_79, .ref a9_80])), (a1_72, .inl (cy 0, 20, .inl (fun _ => 0))), (a2_73, .inl (cy 0, 20, .inl (fun _ => 0))), (q_81, .inr (6, [.ref n1_82, .ref n2_83, .ref n3_84, .ref n4_85, .ref n5_86])), (n1_82, .inl (cy 0, 8, .inl (fun _ => 0))), (n2_83, .inl (cy 0, 8, .inl f2_87)), (n3_84, .inl (cy 0, 8, .inl f3_88)), (n4_85, .inl (cy 0, 8, .inl f4_89)), (n5_86, .inl (cy 1, 8, .inl f5_90))] := hD
  refine lv_aload_n hx hb dX8_init_26 rfl (lv_at hl 0 rfl) ?_
  refine va_new (ci := 4) (fs := [.int 0, .null, .int 0]) (C := RJx4a65c) (T := TJx4a65c) (N := 3) hx hb hts (fun w h => zx_Gc (uz_Jx4a65c w h)) tyJx4a65c tyJx4a65c_ok hown (hts (.classLink RX8 23 RJx4a65c) (zx_Gc mm_199)) (hts (.instantiable RJx4a65c 3) (zx_Gc mm_200)) (hts (.initialized RJx4a65c) (zx_Gc mm_77)) hK hP hD hS hA rfl (fun j hj => by rcases (show j = 0 ∨ j = 1 ∨ j = 2 by omega) with rfl | rfl | rfl <;> rfl) (Nat.le_of_ble_eq_true rfl) (Nat.le_of_ble_eq_true rfl) dX8_init_27 (fun q_92 H hP hD hS => ?_)
  have hP : va_P D vwCl [(h, .inr (13, [.ref q_71, .ref q_81, .null, .null, .int dy])), (q_71, .inr (9, [.int 0, .ref a1_72, .ref a2_73, .ref a3_74, .ref a4_75, .ref a5_76, .ref a6_77, .ref a7_78, .ref a8_79, .ref a9_80])), (a1_72, .inl (cy 0, 20, .inl (fun _ => 0))), (a2_73, .inl (cy 0, 20, .inl (fun _ => 0))), (q_81, .inr (6, [.ref n1_82, .ref n2_83, .ref n3_84, .ref n4_85, .ref n5_86])), (n1_82, .inl (cy 0, 8, .inl (fun _ => 0))), (n2_83, .inl (cy 0, 8, .inl f2_87)), (n3_84, .inl (cy 0, 8, .inl f3_88)), (n4_85, .inl (cy 0, 8, .inl f4_89)), (n5_86, .inl (cy 1, 8, .inl f5_90)), (q_92, .inr (4, [.int 0, .null, .int 0]))] H := hP
  have hD : va_D A [(h, .inr (13, [.ref q_71, .ref q_81, .null, .null, .int dy])), (q_71, .inr (9, [.int 0, .ref a1_72, .ref a2_73, .ref a3_74, .ref a4_75, .ref a5_76, .ref a6_77, .ref a7_78, .ref a8_79, .ref a9_80])), (a1_72, .inl (cy 0, 20, .inl (fun _ => 0))), (a2_73, .inl (cy 0, 20, .inl (fun _ => 0))), (q_81, .inr (6, [.ref n1_82, .ref n2_83, .ref n3_84, .ref n4_85, .ref n5_86])), (n1_82, .inl (cy 0, 8, .inl (fun _ => 0))), (n2_83, .inl (cy 0, 8, .inl f2_87)), (n3_84, .inl (cy 0, 8, .inl f3_88)), (n4_85, .inl (cy 0, 8, .inl f4_89)), (n5_86, .inl (cy 1, 8, .inl f5_90)), (q_92, .inr (4, [.int 0, .null, .int 0]))] := hD
  refine W.widen (k := 17) (n := 798) (Nat.le_of_ble_eq_true rfl) (Nat.le_of_ble_eq_true rfl) ?_
  refine lv_dup hx hb dX8_init_30 rfl ?_
  have hPc := hP.sub (ws' := [(q_92, .inr (4, [.int 0, .null, .int 0]))]) [10] rfl
  have hDc := hD.sub (ws' := [(q_92, .inr (4, [.int 0, .null, .int 0]))]) [10] (by decide) rfl
  have hFc := va_free (wc := [(q_92, .inr (4, [.int 0, .null, .int 0]))]) hD hS hA [10] rfl
  refine va_callv (va_runI (As := []) (rest := [.ref q_92, .ref h]) ⟨hx, hb, hml, hown, hts⟩ (c_AL_init l hst D cy ed H.size q_92 0) (cwI 0 hts (zx_GI mm_203) rfl rfl rfl (hts (.initialized RJx4a65c) (zx_Gc mm_77)) (hts (.methodLink RX8 25 yJx4a65c_init_da8c8) (zx_Gc mm_201)) (hts (.instanceMethod yJx4a65c_init_da8c8) (zx_Gc mm_202)) rfl (by decide +kernel) ⟨(Nat.le_of_ble_eq_true rfl), (Nat.le_of_ble_eq_true rfl)⟩) ⟨zx_blind, zx_give hPc hK hDc hS hFc hZ hN⟩ rfl rfl hl.1 rfl (lv_room (Nat.le_of_ble_eq_true rfl)) dX8_init_31 ⟨(Nat.le_of_ble_eq_true rfl), (Nat.le_of_ble_eq_true rfl)⟩) hS (fun q _ h => hFc q h) hFc (fun u t H1 locs ht hvm hw hB hz1 hk1 hS => ?_)
  obtain ⟨hP, hD⟩ := zx_join (wr := [(h, .inr (13, [.ref q_71, .ref q_81, .null, .null, .int dy])), (q_71, .inr (9, [.int 0, .ref a1_72, .ref a2_73, .ref a3_74, .ref a4_75, .ref a5_76, .ref a6_77, .ref a7_78, .ref a8_79, .ref a9_80])), (a1_72, .inl (cy 0, 20, .inl (fun _ => 0))), (a2_73, .inl (cy 0, 20, .inl (fun _ => 0))), (q_81, .inr (6, [.ref n1_82, .ref n2_83, .ref n3_84, .ref n4_85, .ref n5_86])), (n1_82, .inl (cy 0, 8, .inl (fun _ => 0))), (n2_83, .inl (cy 0, 8, .inl f2_87)), (n3_84, .inl (cy 0, 8, .inl f3_88)), (n4_85, .inl (cy 0, 8, .inl f4_89)), (n5_86, .inl (cy 1, 8, .inl f5_90))]) (w1 := [(q_92, .inr (4, [.int 0, .ref ed, .int 0]))]) [10] [0, 1, 2, 3, 4, 5, 6, 7, 8, 9] rfl rfl (by decide) (by decide) hP hD hk1 hFc hB ht
  generalize H1 = H at hP hS ⊢
  have hP : va_P D vwCl [(h, .inr (13, [.ref q_71, .ref q_81, .null, .null, .int dy])), (q_71, .inr (9, [.int 0, .ref a1_72, .ref a2_73, .ref a3_74, .ref a4_75, .ref a5_76, .ref a6_77, .ref a7_78, .ref a8_79, .ref a9_80])), (a1_72, .inl (cy 0, 20, .inl (fun _ => 0))), (a2_73, .inl (cy 0, 20, .inl (fun _ => 0))), (q_81, .inr (6, [.ref n1_82, .ref n2_83, .ref n3_84, .ref n4_85, .ref n5_86])), (n1_82, .inl (cy 0, 8, .inl (fun _ => 0))), (n2_83, .inl (cy 0, 8, .inl f2_87)), (n3_84, .inl (cy 0, 8, .inl f3_88)), (n4_85, .inl (cy 0, 8, .inl f4_89)), (n5_86, .inl (cy 1, 8, .inl f5_90)), (q_92, .inr (4, [.int 0, .ref ed, .int 0]))] H := hP
  have hD : va_D A [(h, .inr (13, [.ref q_71, .ref q_81, .null, .null, .int dy])), (q_71, .inr (9, [.int 0, .ref a1_72, .ref a2_73, .ref a3_74, .ref a4_75, .ref a5_76, .ref a6_77, .ref a7_78, .ref a8_79, .ref a9_80])), (a1_72, .inl (cy 0, 20, .inl (fun _ => 0))), (a2_73, .inl (cy 0, 20, .inl (fun _ => 0))), (q_81, .inr (6, [.ref n1_82, .ref n2_83, .ref n3_84, .ref n4_85, .ref n5_86])), (n1_82, .inl (cy 0, 8, .inl (fun _ => 0))), (n2_83, .inl (cy 0, 8, .inl f2_87)), (n3_84, .inl (cy 0, 8, .inl f3_88)), (n4_85, .inl (cy 0, 8, .inl f4_89)), (n5_86, .inl (cy 1, 8, .inl f5_90)), (q_92, .inr (4, [.int 0, .ref ed, .int 0]))] := hD
  refine W.widen (k := 17) (n := 798) (Nat.le_of_ble_eq_true rfl) (Nat.le_of_ble_eq_true rfl) ?_
  refine va_putF (D := D) (ci := 13) (v := .ref q_92) (ty := .object "java/util/ArrayList") (C := RX8) (T := TX8) (N := 5) hx hb hts (fun w h => zx_Gc (uz_X8 w h)) tyX8 tyX8_ok nmX8 hown hK hP hD hS 0 rfl rfl 2 (by decide) (hts (.fieldLink RX8 26 "Refereehall" "papers" "Ljava/util/ArrayList;") (zx_Gc mm_230)) (fun _ h9 => h9) rfl hin rfl (by decide +kernel) rfl rfl (Nat.le_of_ble_eq_true rfl) dX8_init_34 (fun H locs hP hD hS => ?_)
  have hP : va_P D vwCl [(h, .inr (13, [.ref q_71, .ref q_81, .ref q_92, .null, .int dy])), (q_71, .inr (9, [.int 0, .ref a1_72, .ref a2_73, .ref a3_74, .ref a4_75, .ref a5_76, .ref a6_77, .ref a7_78, .ref a8_79, .ref a9_80])), (a1_72, .inl (cy 0, 20, .inl (fun _ => 0))), (a2_73, .inl (cy 0, 20, .inl (fun _ => 0))), (q_81, .inr (6, [.ref n1_82, .ref n2_83, .ref n3_84, .ref n4_85, .ref n5_86])), (n1_82, .inl (cy 0, 8, .inl (fun _ => 0))), (n2_83, .inl (cy 0, 8, .inl f2_87)), (n3_84, .inl (cy 0, 8, .inl f3_88)), (n4_85, .inl (cy 0, 8, .inl f4_89)), (n5_86, .inl (cy 1, 8, .inl f5_90)), (q_92, .inr (4, [.int 0, .ref ed, .int 0]))] H := hP
  have hD : va_D A [(h, .inr (13, [.ref q_71, .ref q_81, .ref q_92, .null, .int dy])), (q_71, .inr (9, [.int 0, .ref a1_72, .ref a2_73, .ref a3_74, .ref a4_75, .ref a5_76, .ref a6_77, .ref a7_78, .ref a8_79, .ref a9_80])), (a1_72, .inl (cy 0, 20, .inl (fun _ => 0))), (a2_73, .inl (cy 0, 20, .inl (fun _ => 0))), (q_81, .inr (6, [.ref n1_82, .ref n2_83, .ref n3_84, .ref n4_85, .ref n5_86])), (n1_82, .inl (cy 0, 8, .inl (fun _ => 0))), (n2_83, .inl (cy 0, 8, .inl f2_87)), (n3_84, .inl (cy 0, 8, .inl f3_88)), (n4_85, .inl (cy 0, 8, .inl f4_89)), (n5_86, .inl (cy 1, 8, .inl f5_90)), (q_92, .inr (4, [.int 0, .ref ed, .int 0]))] := hD
  refine lv_aload_n hx hb dX8_init_37 rfl (lv_at hl 0 rfl) ?_
  refine lv_bipush (v := 20) hx hb dX8_init_38 (by decide) ?_
  refine va_newa (atype := .int) (a0 := (20, .inl (fun _ => 0))) (N' := 20) hx hb (hts (.arrayClass .int) (zx_Gc mm_171)) rfl hK hP hD hS hA (fun _ => rfl) (by decide) (by decide) (Nat.le_of_ble_eq_true rfl) (Nat.le_of_ble_eq_true rfl) (Nat.le_of_ble_eq_true rfl) dX8_init_40 (fun q_93 cA9 H hK9 hP hD hS => ?_)
  obtain rfl := zx_same (c0 := cy 0) 0 rfl hK9
  have hP : va_P D vwCl [(h, .inr (13, [.ref q_71, .ref q_81, .ref q_92, .null, .int dy])), (q_71, .inr (9, [.int 0, .ref a1_72, .ref a2_73, .ref a3_74, .ref a4_75, .ref a5_76, .ref a6_77, .ref a7_78, .ref a8_79, .ref a9_80])), (a1_72, .inl (cy 0, 20, .inl (fun _ => 0))), (a2_73, .inl (cy 0, 20, .inl (fun _ => 0))), (q_81, .inr (6, [.ref n1_82, .ref n2_83, .ref n3_84, .ref n4_85, .ref n5_86])), (n1_82, .inl (cy 0, 8, .inl (fun _ => 0))), (n2_83, .inl (cy 0, 8, .inl f2_87)), (n3_84, .inl (cy 0, 8, .inl f3_88)), (n4_85, .inl (cy 0, 8, .inl f4_89)), (n5_86, .inl (cy 1, 8, .inl f5_90)), (q_92, .inr (4, [.int 0, .ref ed, .int 0])), (q_93, .inl (cy 0, 20, .inl (fun _ => 0)))] H := hP
  have hD : va_D A [(h, .inr (13, [.ref q_71, .ref q_81, .ref q_92, .null, .int dy])), (q_71, .inr (9, [.int 0, .ref a1_72, .ref a2_73, .ref a3_74, .ref a4_75, .ref a5_76, .ref a6_77, .ref a7_78, .ref a8_79, .ref a9_80])), (a1_72, .inl (cy 0, 20, .inl (fun _ => 0))), (a2_73, .inl (cy 0, 20, .inl (fun _ => 0))), (q_81, .inr (6, [.ref n1_82, .ref n2_83, .ref n3_84, .ref n4_85, .ref n5_86])), (n1_82, .inl (cy 0, 8, .inl (fun _ => 0))), (n2_83, .inl (cy 0, 8, .inl f2_87)), (n3_84, .inl (cy 0, 8, .inl f3_88)), (n4_85, .inl (cy 0, 8, .inl f4_89)), (n5_86, .inl (cy 1, 8, .inl f5_90)), (q_92, .inr (4, [.int 0, .ref ed, .int 0])), (q_93, .inl (cy 0, 20, .inl (fun _ => 0)))] := hD
  refine W.widen (k := 18) (n := 818) (Nat.le_of_ble_eq_true rfl) (Nat.le_of_ble_eq_true rfl) ?_
  refine va_putF (D := D) (ci := 13) (v := .ref q_93) (ty := .array .int) (C := RX8) (T := TX8) (N := 5) hx hb hts (fun w h => zx_Gc (uz_X8 w h)) tyX8 tyX8_ok nmX8 hown hK hP hD hS 0 rfl rfl 3 (by decide) (hts (.fieldLink RX8 30 "Refereehall" "row" "[I") (zx_Gc mm_231)) (fun _ h9 => h9) rfl hin rfl (by decide +kernel) rfl rfl (Nat.le_of_ble_eq_true rfl) dX8_init_42 (fun H locs hP hD hS => ?_)
  have hP : va_P D vwCl [(h, .inr (13, [.ref q_71, .ref q_81, .ref q_92, .ref q_93, .int dy])), (q_71, .inr (9, [.int 0, .ref a1_72, .ref a2_73, .ref a3_74, .ref a4_75, .ref a5_76, .ref a6_77, .ref a7_78, .ref a8_79, .ref a9_80])), (a1_72, .inl (cy 0, 20, .inl (fun _ => 0))), (a2_73, .inl (cy 0, 20, .inl (fun _ => 0))), (q_81, .inr (6, [.ref n1_82, .ref n2_83, .ref n3_84, .ref n4_85, .ref n5_86])), (n1_82, .inl (cy 0, 8, .inl (fun _ => 0))), (n2_83, .inl (cy 0, 8, .inl f2_87)), (n3_84, .inl (cy 0, 8, .inl f3_88)), (n4_85, .inl (cy 0, 8, .inl f4_89)), (n5_86, .inl (cy 1, 8, .inl f5_90)), (q_92, .inr (4, [.int 0, .ref ed, .int 0])), (q_93, .inl (cy 0, 20, .inl (fun _ => 0)))] H := hP
  have hD : va_D A [(h, .inr (13, [.ref q_71, .ref q_81, .ref q_92, .ref q_93, .int dy])), (q_71, .inr (9, [.int 0, .ref a1_72, .ref a2_73, .ref a3_74, .ref a4_75, .ref a5_76, .ref a6_77, .ref a7_78, .ref a8_79, .ref a9_80])), (a1_72, .inl (cy 0, 20, .inl (fun _ => 0))), (a2_73, .inl (cy 0, 20, .inl (fun _ => 0))), (q_81, .inr (6, [.ref n1_82, .ref n2_83, .ref n3_84, .ref n4_85, .ref n5_86])), (n1_82, .inl (cy 0, 8, .inl (fun _ => 0))), (n2_83, .inl (cy 0, 8, .inl f2_87)), (n3_84, .inl (cy 0, 8, .inl f3_88)), (n4_85, .inl (cy 0, 8, .inl f4_89)), (n5_86, .inl (cy 1, 8, .inl f5_90)), (q_92, .inr (4, [.int 0, .ref ed, .int 0])), (q_93, .inl (cy 0, 20, .inl (fun _ => 0)))] := hD
  refine lv_aload_n hx hb dX8_init_45 rfl (lv_at hl 0 rfl) ?_
  refine lv_iconst (v := 0) hx hb dX8_init_46 (by decide) ?_
  refine va_put (D := D) (ci := 13) (v := .int 0) (ty := .int) (C := RX8) (T := TX8) (N := 5) hx hb hts (fun w h => zx_Gc (uz_X8 w h)) tyX8 tyX8_ok nmX8 hown hK hP hD hS 0 rfl rfl 4 (by decide) (hts (.fieldLink RX8 34 "Refereehall" "day" "I") (zx_Gc mm_232)) (fun _ h9 => h9) rfl (by decide +kernel) rfl rfl (Nat.le_of_ble_eq_true rfl) dX8_init_47 (fun H locs hP hD hS => ?_)
  have hP : va_P D vwCl [(h, .inr (13, [.ref q_71, .ref q_81, .ref q_92, .ref q_93, .int 0])), (q_71, .inr (9, [.int 0, .ref a1_72, .ref a2_73, .ref a3_74, .ref a4_75, .ref a5_76, .ref a6_77, .ref a7_78, .ref a8_79, .ref a9_80])), (a1_72, .inl (cy 0, 20, .inl (fun _ => 0))), (a2_73, .inl (cy 0, 20, .inl (fun _ => 0))), (q_81, .inr (6, [.ref n1_82, .ref n2_83, .ref n3_84, .ref n4_85, .ref n5_86])), (n1_82, .inl (cy 0, 8, .inl (fun _ => 0))), (n2_83, .inl (cy 0, 8, .inl f2_87)), (n3_84, .inl (cy 0, 8, .inl f3_88)), (n4_85, .inl (cy 0, 8, .inl f4_89)), (n5_86, .inl (cy 1, 8, .inl f5_90)), (q_92, .inr (4, [.int 0, .ref ed, .int 0])), (q_93, .inl (cy 0, 20, .inl (fun _ => 0)))] H := hP
  have hD : va_D A [(h, .inr (13, [.ref q_71, .ref q_81, .ref q_92, .ref q_93, .int 0])), (q_71, .inr (9, [.int 0, .ref a1_72, .ref a2_73, .ref a3_74, .ref a4_75, .ref a5_76, .ref a6_77, .ref a7_78, .ref a8_79, .ref a9_80])), (a1_72, .inl (cy 0, 20, .inl (fun _ => 0))), (a2_73, .inl (cy 0, 20, .inl (fun _ => 0))), (q_81, .inr (6, [.ref n1_82, .ref n2_83, .ref n3_84, .ref n4_85, .ref n5_86])), (n1_82, .inl (cy 0, 8, .inl (fun _ => 0))), (n2_83, .inl (cy 0, 8, .inl f2_87)), (n3_84, .inl (cy 0, 8, .inl f3_88)), (n4_85, .inl (cy 0, 8, .inl f4_89)), (n5_86, .inl (cy 1, 8, .inl f5_90)), (q_92, .inr (4, [.int 0, .ref ed, .int 0])), (q_93, .inl (cy 0, 20, .inl (fun _ => 0)))] := hD
  have hP9 := hP.sub (ws' := [(h, .inr (13, [.ref q_71, .ref q_81, .ref q_92, .ref q_93, .int 0])), (q_71, .inr (9, [.int 0, .ref a1_72, .ref a2_73, .ref a3_74, .ref a4_75, .ref a5_76, .ref a6_77, .ref a7_78, .ref a8_79, .ref a9_80])), (a1_72, .inl (cy 0, 20, .inl (fun _ => 0))), (a2_73, .inl (cy 0, 20, .inl (fun _ => 0))), (q_81, .inr (6, [.ref n1_82, .ref n2_83, .ref n3_84, .ref n4_85, .ref n5_86])), (n1_82, .inl (cy 0, 8, .inl (fun _ => 0))), (n2_83, .inl (cy 0, 8, .inl f2_87)), (n3_84, .inl (cy 0, 8, .inl f3_88)), (n4_85, .inl (cy 0, 8, .inl f4_89)), (n5_86, .inl (cy 1, 8, .inl f5_90)), (q_92, .inr (4, [.int 0, .ref ed, .int 0])), (q_93, .inl (cy 0, 20, .inl (fun _ => 0)))]) [0, 1, 2, 3, 4, 5, 6, 7, 8, 9, 10, 11] rfl
  have hD9 := hD.sub (ws' := [(h, .inr (13, [.ref q_71, .ref q_81, .ref q_92, .ref q_93, .int 0])), (q_71, .inr (9, [.int 0, .ref a1_72, .ref a2_73, .ref a3_74, .ref a4_75, .ref a5_76, .ref a6_77, .ref a7_78, .ref a8_79, .ref a9_80])), (a1_72, .inl (cy 0, 20, .inl (fun _ => 0))), (a2_73, .inl (cy 0, 20, .inl (fun _ => 0))), (q_81, .inr (6, [.ref n1_82, .ref n2_83, .ref n3_84, .ref n4_85, .ref n5_86])), (n1_82, .inl (cy 0, 8, .inl (fun _ => 0))), (n2_83, .inl (cy 0, 8, .inl f2_87)), (n3_84, .inl (cy 0, 8, .inl f3_88)), (n4_85, .inl (cy 0, 8, .inl f4_89)), (n5_86, .inl (cy 1, 8, .inl f5_90)), (q_92, .inr (4, [.int 0, .ref ed, .int 0])), (q_93, .inl (cy 0, 20, .inl (fun _ => 0)))]) [0, 1, 2, 3, 4, 5, 6, 7, 8, 9, 10, 11] (by decide) rfl
  exact W.vret hx hb hr (fun t ht hW => ⟨⟨⟨q_71, q_81, q_92, q_93, a1_72, a2_73, a3_74, a4_75, a5_76, a6_77, a7_78, a8_79, a9_80, n1_82, n2_83, n3_84, n4_85, n5_86, f2_87, f3_88, f4_89, f5_90⟩, rfl, h_91, zx_fin hP9 hD9 hK ht hW⟩, hS.F ht⟩) hS.2.2 dX8_init_50
set_option maxHeartbeats 4000000 in
set_option maxRecDepth 100000 in
theorem c_X15_init (l : Launch) (hst : l.stackTraces = false) (D : va_G) (cy : Nat → ClassId) (ed sz : Nat) (m0 : Nat) (th : Int32) (md : Int32) : Met l yX15_init wzX15_init ({ frames := 4, cells := 7, slots := 46, locals := 72 }) (zx_Pc D cy ed sz [.ref m0] [(m0, .inr (20, [.int th, .null, .int md, .null, .null, .null, .null, .null, .null]))]) (va_Qv (fun (u9 : Nat × Nat × Nat × Nat × Nat × Nat × Nat × (Nat → Int32) × (Nat → Int32) × (Nat → Int32) × (Nat → Int32)) => match u9 with | (mp, b1, b2, b3, b4, b5, mq, g2, g3, g4, g5) => ∀ j, j < 8 → g5 j = 115) (fun (u9 : Nat × Nat × Nat × Nat × Nat × Nat × Nat × (Nat → Int32) × (Nat → Int32) × (Nat → Int32) × (Nat → Int32)) (t9 : State) => match u9 with | (mp, b1, b2, b3, b4, b5, mq, g2, g3, g4, g5) => zx_At D cy (va_A [(m0, .inr (20, [.int th, .null, .int md, .null, .null, .null, .null, .null, .null]))] sz) [(m0, .inr (20, [.int th, .ref mp, .int md, .ref b1, .ref b2, .ref b3, .ref b4, .ref b5, .ref mq])), (b1, .inl (cy 0, 8, .inl (fun _ => 0))), (b2, .inl (cy 0, 8, .inl g2)), (b3, .inl (cy 0, 8, .inl g3)), (b4, .inl (cy 0, 8, .inl g4)), (b5, .inl (cy 1, 8, .inl g5)), (mp, .inr (4, [.int 0, .ref ed, .int 0])), (mq, .inr (4, [.int 0, .ref ed, .int 0]))] t9) (va_A [(m0, .inr (20, [.int th, .null, .int md, .null, .null, .null, .null, .null, .null]))] sz)) 7 46 (va_A [(m0, .inr (20, [.int th, .null, .int md, .null, .null, .null, .null, .null, .null]))] sz) := by
  refine Met.ofW (cc := cX15_init) (maxL := 2) (ret := none) (by decide) rfl ?_
  intro p e s m args below meth c s₁ B hml hv
  obtain ⟨rfl, hsz, hP, hK, hD0, hZ, hN⟩ := hv
  have hx := B.exec
  have hb := B.bytes
  have hr := B.returns
  have hts := atoms_spec (ws := wzX15_init) B.pre
  have hown : s.vm.findClass RX15 = some m.cls := findClass_of_methodNamed B.named
  have hlocks := B.notSynchronized
  have hin : meth.name = "<init>" := (name_of_methodNamed B.named B.method).1
  subst hsz
  have hD := hD0.self (sz := s.heap.size)
  generalize hAe : va_A [(m0, .inr (20, [.int th, .null, .int md, .null, .null, .null, .null, .null, .null]))] s.heap.size = A at hD hZ ⊢
  have hA : ∀ q : Nat, s.heap.size ≤ q → A q := fun q h => by rw [← hAe]; exact Or.inr h
  have hS : va_S A s.heap s.heap [] := va_S.rf
  have hP : va_P D vwCl [(m0, .inr (20, [.int th, .null, .int md, .null, .null, .null, .null, .null, .null]))] s.heap := hP
  have hl := lv_entry ([.ref m0]) (n := 2) (Nat.le_of_ble_eq_true rfl)
  rw [lg_entry_eq]
  generalize (lg_sl ([.ref m0]) ++ List.replicate (2 - (lg_sl ([.ref m0])).length) Slot.unset).toArray = ls at hl ⊢
  have hl : lv_has ls 2 [(0, .ref m0)] := hl
  refine lv_aload_n hx hb dX15_init_0 rfl (lv_at hl 0 rfl) ?_
  refine W.objInit hx hb hown (hts (.methodLink RX15 1 objectInit) (zx_Gc mm_1568)) (hts (.instanceMethod objectInit) (zx_Gc mm_119)) (hts (.code objectInit ⟨#[0xb1]⟩ 1 none) (zx_Gc mm_120)) rfl (by rw [hml]; exact hl.1) rfl dX15_init_1 (Nat.le_of_ble_eq_true rfl) (Nat.le_of_ble_eq_true rfl) ?_
  refine W.eq (g2 := F0 m 4 ls []) rfl ?_
  refine lv_aload_n hx hb dX15_init_4 rfl (lv_at hl 0 rfl) ?_
  refine va_new (ci := 4) (fs := [.int 0, .null, .int 0]) (C := RJx4a65c) (T := TJx4a65c) (N := 3) hx hb hts (fun w h => zx_Gc (uz_Jx4a65c w h)) tyJx4a65c tyJx4a65c_ok hown (hts (.classLink RX15 7 RJx4a65c) (zx_Gc mm_1569)) (hts (.instantiable RJx4a65c 3) (zx_Gc mm_200)) (hts (.initialized RJx4a65c) (zx_Gc mm_77)) hK hP hD hS hA rfl (fun j hj => by rcases (show j = 0 ∨ j = 1 ∨ j = 2 by omega) with rfl | rfl | rfl <;> rfl) (Nat.le_of_ble_eq_true rfl) (Nat.le_of_ble_eq_true rfl) dX15_init_5 (fun q_94 H hP hD hS => ?_)
  have hP : va_P D vwCl [(m0, .inr (20, [.int th, .null, .int md, .null, .null, .null, .null, .null, .null])), (q_94, .inr (4, [.int 0, .null, .int 0]))] H := hP
  have hD : va_D A [(m0, .inr (20, [.int th, .null, .int md, .null, .null, .null, .null, .null, .null])), (q_94, .inr (4, [.int 0, .null, .int 0]))] := hD
  refine W.widen (k := 1) (n := 3) (Nat.le_of_ble_eq_true rfl) (Nat.le_of_ble_eq_true rfl) ?_
  refine lv_dup hx hb dX15_init_8 rfl ?_
  have hPc := hP.sub (ws' := [(q_94, .inr (4, [.int 0, .null, .int 0]))]) [1] rfl
  have hDc := hD.sub (ws' := [(q_94, .inr (4, [.int 0, .null, .int 0]))]) [1] (by decide) rfl
  have hFc := va_free (wc := [(q_94, .inr (4, [.int 0, .null, .int 0]))]) hD hS hA [1] rfl
  refine va_callv (va_runI (As := []) (rest := [.ref q_94, .ref m0]) ⟨hx, hb, hml, hown, hts⟩ (c_AL_init l hst D cy ed H.size q_94 0) (cwI 0 hts (zx_GI mm_203) rfl rfl rfl (hts (.initialized RJx4a65c) (zx_Gc mm_77)) (hts (.methodLink RX15 9 yJx4a65c_init_da8c8) (zx_Gc mm_1570)) (hts (.instanceMethod yJx4a65c_init_da8c8) (zx_Gc mm_202)) rfl (by decide +kernel) ⟨(Nat.le_of_ble_eq_true rfl), (Nat.le_of_ble_eq_true rfl)⟩) ⟨zx_blind, zx_give hPc hK hDc hS hFc hZ hN⟩ rfl rfl hl.1 rfl (lv_room (Nat.le_of_ble_eq_true rfl)) dX15_init_9 ⟨(Nat.le_of_ble_eq_true rfl), (Nat.le_of_ble_eq_true rfl)⟩) hS (fun q _ h => hFc q h) hFc (fun u t H1 locs ht hvm hw hB hz1 hk1 hS => ?_)
  obtain ⟨hP, hD⟩ := zx_join (wr := [(m0, .inr (20, [.int th, .null, .int md, .null, .null, .null, .null, .null, .null]))]) (w1 := [(q_94, .inr (4, [.int 0, .ref ed, .int 0]))]) [1] [0] rfl rfl (by decide) (by decide) hP hD hk1 hFc hB ht
  generalize H1 = H at hP hS ⊢
  have hP : va_P D vwCl [(m0, .inr (20, [.int th, .null, .int md, .null, .null, .null, .null, .null, .null])), (q_94, .inr (4, [.int 0, .ref ed, .int 0]))] H := hP
  have hD : va_D A [(m0, .inr (20, [.int th, .null, .int md, .null, .null, .null, .null, .null, .null])), (q_94, .inr (4, [.int 0, .ref ed, .int 0]))] := hD
  refine W.widen (k := 1) (n := 3) (Nat.le_of_ble_eq_true rfl) (Nat.le_of_ble_eq_true rfl) ?_
  refine va_putF (D := D) (ci := 20) (v := .ref q_94) (ty := .object "java/util/ArrayList") (C := RX15) (T := TX15) (N := 9) hx hb hts (fun w h => zx_Gc (uz_X15 w h)) tyX15 tyX15_ok nmX15 hown hK hP hD hS 0 rfl rfl 1 (by decide) (hts (.fieldLink RX15 10 "RefereehallModel" "people" "Ljava/util/ArrayList;") (zx_Gc mm_1572)) (fun _ h9 => h9) rfl hin rfl (by decide +kernel) rfl rfl (Nat.le_of_ble_eq_true rfl) dX15_init_12 (fun H locs hP hD hS => ?_)
  have hP : va_P D vwCl [(m0, .inr (20, [.int th, .ref q_94, .int md, .null, .null, .null, .null, .null, .null])), (q_94, .inr (4, [.int 0, .ref ed, .int 0]))] H := hP
  have hD : va_D A [(m0, .inr (20, [.int th, .ref q_94, .int md, .null, .null, .null, .null, .null, .null])), (q_94, .inr (4, [.int 0, .ref ed, .int 0]))] := hD
  refine lv_aload_n hx hb dX15_init_15 rfl (lv_at hl 0 rfl) ?_
  refine lv_bipush (v := 8) hx hb dX15_init_16 (by decide) ?_
  refine va_newa (atype := .int) (a0 := (8, .inl (fun _ => 0))) (N' := 8) hx hb (hts (.arrayClass .int) (zx_Gc mm_171)) rfl hK hP hD hS hA (fun _ => rfl) (by decide) (by decide) (Nat.le_of_ble_eq_true rfl) (Nat.le_of_ble_eq_true rfl) (Nat.le_of_ble_eq_true rfl) dX15_init_18 (fun q_95 cA9 H hK9 hP hD hS => ?_)
  obtain rfl := zx_same (c0 := cy 0) 0 rfl hK9
  have hP : va_P D vwCl [(m0, .inr (20, [.int th, .ref q_94, .int md, .null, .null, .null, .null, .null, .null])), (q_94, .inr (4, [.int 0, .ref ed, .int 0])), (q_95, .inl (cy 0, 8, .inl (fun _ => 0)))] H := hP
  have hD : va_D A [(m0, .inr (20, [.int th, .ref q_94, .int md, .null, .null, .null, .null, .null, .null])), (q_94, .inr (4, [.int 0, .ref ed, .int 0])), (q_95, .inl (cy 0, 8, .inl (fun _ => 0)))] := hD
  refine W.widen (k := 2) (n := 11) (Nat.le_of_ble_eq_true rfl) (Nat.le_of_ble_eq_true rfl) ?_
  refine va_putF (D := D) (ci := 20) (v := .ref q_95) (ty := .array .int) (C := RX15) (T := TX15) (N := 9) hx hb hts (fun w h => zx_Gc (uz_X15 w h)) tyX15 tyX15_ok nmX15 hown hK hP hD hS 0 rfl rfl 3 (by decide) (hts (.fieldLink RX15 16 "RefereehallModel" "ties" "[I") (zx_Gc mm_1574)) (fun _ h9 => h9) rfl hin rfl (by decide +kernel) rfl rfl (Nat.le_of_ble_eq_true rfl) dX15_init_20 (fun H locs hP hD hS => ?_)
  have hP : va_P D vwCl [(m0, .inr (20, [.int th, .ref q_94, .int md, .ref q_95, .null, .null, .null, .null, .null])), (q_94, .inr (4, [.int 0, .ref ed, .int 0])), (q_95, .inl (cy 0, 8, .inl (fun _ => 0)))] H := hP
  have hD : va_D A [(m0, .inr (20, [.int th, .ref q_94, .int md, .ref q_95, .null, .null, .null, .null, .null])), (q_94, .inr (4, [.int 0, .ref ed, .int 0])), (q_95, .inl (cy 0, 8, .inl (fun _ => 0)))] := hD
  refine lv_aload_n hx hb dX15_init_23 rfl (lv_at hl 0 rfl) ?_
  refine lv_bipush (v := 8) hx hb dX15_init_24 (by decide) ?_
  refine va_newa (atype := .int) (a0 := (8, .inl (fun _ => 0))) (N' := 8) hx hb (hts (.arrayClass .int) (zx_Gc mm_171)) rfl hK hP hD hS hA (fun _ => rfl) (by decide) (by decide) (Nat.le_of_ble_eq_true rfl) (Nat.le_of_ble_eq_true rfl) (Nat.le_of_ble_eq_true rfl) dX15_init_26 (fun q_96 cA9 H hK9 hP hD hS => ?_)
  obtain rfl := zx_same (c0 := cy 0) 0 rfl hK9
  have hP : va_P D vwCl [(m0, .inr (20, [.int th, .ref q_94, .int md, .ref q_95, .null, .null, .null, .null, .null])), (q_94, .inr (4, [.int 0, .ref ed, .int 0])), (q_95, .inl (cy 0, 8, .inl (fun _ => 0))), (q_96, .inl (cy 0, 8, .inl (fun _ => 0)))] H := hP
  have hD : va_D A [(m0, .inr (20, [.int th, .ref q_94, .int md, .ref q_95, .null, .null, .null, .null, .null])), (q_94, .inr (4, [.int 0, .ref ed, .int 0])), (q_95, .inl (cy 0, 8, .inl (fun _ => 0))), (q_96, .inl (cy 0, 8, .inl (fun _ => 0)))] := hD
  refine W.widen (k := 3) (n := 19) (Nat.le_of_ble_eq_true rfl) (Nat.le_of_ble_eq_true rfl) ?_
  refine va_putF (D := D) (ci := 20) (v := .ref q_96) (ty := .array .int) (C := RX15) (T := TX15) (N := 9) hx hb hts (fun w h => zx_Gc (uz_X15 w h)) tyX15 tyX15_ok nmX15 hown hK hP hD hS 0 rfl rfl 4 (by decide) (hts (.fieldLink RX15 20 "RefereehallModel" "needs" "[I") (zx_Gc mm_1575)) (fun _ h9 => h9) rfl hin rfl (by decide +kernel) rfl rfl (Nat.le_of_ble_eq_true rfl) dX15_init_28 (fun H locs hP hD hS => ?_)
  have hP : va_P D vwCl [(m0, .inr (20, [.int th, .ref q_94, .int md, .ref q_95, .ref q_96, .null, .null, .null, .null])), (q_94, .inr (4, [.int 0, .ref ed, .int 0])), (q_95, .inl (cy 0, 8, .inl (fun _ => 0))), (q_96, .inl (cy 0, 8, .inl (fun _ => 0)))] H := hP
  have hD : va_D A [(m0, .inr (20, [.int th, .ref q_94, .int md, .ref q_95, .ref q_96, .null, .null, .null, .null])), (q_94, .inr (4, [.int 0, .ref ed, .int 0])), (q_95, .inl (cy 0, 8, .inl (fun _ => 0))), (q_96, .inl (cy 0, 8, .inl (fun _ => 0)))] := hD
  refine lv_aload_n hx hb dX15_init_31 rfl (lv_at hl 0 rfl) ?_
  refine lv_bipush (v := 8) hx hb dX15_init_32 (by decide) ?_
  refine va_newa (atype := .int) (a0 := (8, .inl (fun _ => 0))) (N' := 8) hx hb (hts (.arrayClass .int) (zx_Gc mm_171)) rfl hK hP hD hS hA (fun _ => rfl) (by decide) (by decide) (Nat.le_of_ble_eq_true rfl) (Nat.le_of_ble_eq_true rfl) (Nat.le_of_ble_eq_true rfl) dX15_init_34 (fun q_97 cA9 H hK9 hP hD hS => ?_)
  obtain rfl := zx_same (c0 := cy 0) 0 rfl hK9
  have hP : va_P D vwCl [(m0, .inr (20, [.int th, .ref q_94, .int md, .ref q_95, .ref q_96, .null, .null, .null, .null])), (q_94, .inr (4, [.int 0, .ref ed, .int 0])), (q_95, .inl (cy 0, 8, .inl (fun _ => 0))), (q_96, .inl (cy 0, 8, .inl (fun _ => 0))), (q_97, .inl (cy 0, 8, .inl (fun _ => 0)))] H := hP
  have hD : va_D A [(m0, .inr (20, [.int th, .ref q_94, .int md, .ref q_95, .ref q_96, .null, .null, .null, .null])), (q_94, .inr (4, [.int 0, .ref ed, .int 0])), (q_95, .inl (cy 0, 8, .inl (fun _ => 0))), (q_96, .inl (cy 0, 8, .inl (fun _ => 0))), (q_97, .inl (cy 0, 8, .inl (fun _ => 0)))] := hD
  refine W.widen (k := 4) (n := 27) (Nat.le_of_ble_eq_true rfl) (Nat.le_of_ble_eq_true rfl) ?_
  refine va_putF (D := D) (ci := 20) (v := .ref q_97) (ty := .array .int) (C := RX15) (T := TX15) (N := 9) hx hb hts (fun w h => zx_Gc (uz_X15 w h)) tyX15 tyX15_ok nmX15 hown hK hP hD hS 0 rfl rfl 5 (by decide) (hts (.fieldLink RX15 23 "RefereehallModel" "accepts" "[I") (zx_Gc mm_1576)) (fun _ h9 => h9) rfl hin rfl (by decide +kernel) rfl rfl (Nat.le_of_ble_eq_true rfl) dX15_init_36 (fun H locs hP hD hS => ?_)
  have hP : va_P D vwCl [(m0, .inr (20, [.int th, .ref q_94, .int md, .ref q_95, .ref q_96, .ref q_97, .null, .null, .null])), (q_94, .inr (4, [.int 0, .ref ed, .int 0])), (q_95, .inl (cy 0, 8, .inl (fun _ => 0))), (q_96, .inl (cy 0, 8, .inl (fun _ => 0))), (q_97, .inl (cy 0, 8, .inl (fun _ => 0)))] H := hP
  have hD : va_D A [(m0, .inr (20, [.int th, .ref q_94, .int md, .ref q_95, .ref q_96, .ref q_97, .null, .null, .null])), (q_94, .inr (4, [.int 0, .ref ed, .int 0])), (q_95, .inl (cy 0, 8, .inl (fun _ => 0))), (q_96, .inl (cy 0, 8, .inl (fun _ => 0))), (q_97, .inl (cy 0, 8, .inl (fun _ => 0)))] := hD
  refine lv_aload_n hx hb dX15_init_39 rfl (lv_at hl 0 rfl) ?_
  refine lv_bipush (v := 8) hx hb dX15_init_40 (by decide) ?_
  refine va_newa (atype := .int) (a0 := (8, .inl (fun _ => 0))) (N' := 8) hx hb (hts (.arrayClass .int) (zx_Gc mm_171)) rfl hK hP hD hS hA (fun _ => rfl) (by decide) (by decide) (Nat.le_of_ble_eq_true rfl) (Nat.le_of_ble_eq_true rfl) (Nat.le_of_ble_eq_true rfl) dX15_init_42 (fun q_98 cA9 H hK9 hP hD hS => ?_)
  obtain rfl := zx_same (c0 := cy 0) 0 rfl hK9
  have hP : va_P D vwCl [(m0, .inr (20, [.int th, .ref q_94, .int md, .ref q_95, .ref q_96, .ref q_97, .null, .null, .null])), (q_94, .inr (4, [.int 0, .ref ed, .int 0])), (q_95, .inl (cy 0, 8, .inl (fun _ => 0))), (q_96, .inl (cy 0, 8, .inl (fun _ => 0))), (q_97, .inl (cy 0, 8, .inl (fun _ => 0))), (q_98, .inl (cy 0, 8, .inl (fun _ => 0)))] H := hP
  have hD : va_D A [(m0, .inr (20, [.int th, .ref q_94, .int md, .ref q_95, .ref q_96, .ref q_97, .null, .null, .null])), (q_94, .inr (4, [.int 0, .ref ed, .int 0])), (q_95, .inl (cy 0, 8, .inl (fun _ => 0))), (q_96, .inl (cy 0, 8, .inl (fun _ => 0))), (q_97, .inl (cy 0, 8, .inl (fun _ => 0))), (q_98, .inl (cy 0, 8, .inl (fun _ => 0)))] := hD
  refine W.widen (k := 5) (n := 35) (Nat.le_of_ble_eq_true rfl) (Nat.le_of_ble_eq_true rfl) ?_
  refine va_putF (D := D) (ci := 20) (v := .ref q_98) (ty := .array .int) (C := RX15) (T := TX15) (N := 9) hx hb hts (fun w h => zx_Gc (uz_X15 w h)) tyX15 tyX15_ok nmX15 hown hK hP hD hS 0 rfl rfl 6 (by decide) (hts (.fieldLink RX15 26 "RefereehallModel" "rejects" "[I") (zx_Gc mm_1577)) (fun _ h9 => h9) rfl hin rfl (by decide +kernel) rfl rfl (Nat.le_of_ble_eq_true rfl) dX15_init_44 (fun H locs hP hD hS => ?_)
  have hP : va_P D vwCl [(m0, .inr (20, [.int th, .ref q_94, .int md, .ref q_95, .ref q_96, .ref q_97, .ref q_98, .null, .null])), (q_94, .inr (4, [.int 0, .ref ed, .int 0])), (q_95, .inl (cy 0, 8, .inl (fun _ => 0))), (q_96, .inl (cy 0, 8, .inl (fun _ => 0))), (q_97, .inl (cy 0, 8, .inl (fun _ => 0))), (q_98, .inl (cy 0, 8, .inl (fun _ => 0)))] H := hP
  have hD : va_D A [(m0, .inr (20, [.int th, .ref q_94, .int md, .ref q_95, .ref q_96, .ref q_97, .ref q_98, .null, .null])), (q_94, .inr (4, [.int 0, .ref ed, .int 0])), (q_95, .inl (cy 0, 8, .inl (fun _ => 0))), (q_96, .inl (cy 0, 8, .inl (fun _ => 0))), (q_97, .inl (cy 0, 8, .inl (fun _ => 0))), (q_98, .inl (cy 0, 8, .inl (fun _ => 0)))] := hD
  refine lv_aload_n hx hb dX15_init_47 rfl (lv_at hl 0 rfl) ?_
  refine lv_bipush (v := 8) hx hb dX15_init_48 (by decide) ?_
  refine va_newa (atype := .char) (a0 := (8, .inl (fun _ => 0))) (N' := 8) hx hb (hts (.arrayClass .char) (zx_Gc mm_198)) rfl hK hP hD hS hA (fun _ => rfl) (by decide) (by decide) (Nat.le_of_ble_eq_true rfl) (Nat.le_of_ble_eq_true rfl) (Nat.le_of_ble_eq_true rfl) dX15_init_50 (fun q_99 cA9 H hK9 hP hD hS => ?_)
  obtain rfl := zx_same (c0 := cy 1) 1 rfl hK9
  have hP : va_P D vwCl [(m0, .inr (20, [.int th, .ref q_94, .int md, .ref q_95, .ref q_96, .ref q_97, .ref q_98, .null, .null])), (q_94, .inr (4, [.int 0, .ref ed, .int 0])), (q_95, .inl (cy 0, 8, .inl (fun _ => 0))), (q_96, .inl (cy 0, 8, .inl (fun _ => 0))), (q_97, .inl (cy 0, 8, .inl (fun _ => 0))), (q_98, .inl (cy 0, 8, .inl (fun _ => 0))), (q_99, .inl (cy 1, 8, .inl (fun _ => 0)))] H := hP
  have hD : va_D A [(m0, .inr (20, [.int th, .ref q_94, .int md, .ref q_95, .ref q_96, .ref q_97, .ref q_98, .null, .null])), (q_94, .inr (4, [.int 0, .ref ed, .int 0])), (q_95, .inl (cy 0, 8, .inl (fun _ => 0))), (q_96, .inl (cy 0, 8, .inl (fun _ => 0))), (q_97, .inl (cy 0, 8, .inl (fun _ => 0))), (q_98, .inl (cy 0, 8, .inl (fun _ => 0))), (q_99, .inl (cy 1, 8, .inl (fun _ => 0)))] := hD
  refine W.widen (k := 6) (n := 43) (Nat.le_of_ble_eq_true rfl) (Nat.le_of_ble_eq_true rfl) ?_
  refine va_putF (D := D) (ci := 20) (v := .ref q_99) (ty := .array .char) (C := RX15) (T := TX15) (N := 9) hx hb hts (fun w h => zx_Gc (uz_X15 w h)) tyX15 tyX15_ok nmX15 hown hK hP hD hS 0 rfl rfl 7 (by decide) (hts (.fieldLink RX15 29 "RefereehallModel" "way" "[C") (zx_Gc mm_1578)) (fun _ h9 => h9) rfl hin rfl (by decide +kernel) rfl rfl (Nat.le_of_ble_eq_true rfl) dX15_init_52 (fun H locs hP hD hS => ?_)
  have hP : va_P D vwCl [(m0, .inr (20, [.int th, .ref q_94, .int md, .ref q_95, .ref q_96, .ref q_97, .ref q_98, .ref q_99, .null])), (q_94, .inr (4, [.int 0, .ref ed, .int 0])), (q_95, .inl (cy 0, 8, .inl (fun _ => 0))), (q_96, .inl (cy 0, 8, .inl (fun _ => 0))), (q_97, .inl (cy 0, 8, .inl (fun _ => 0))), (q_98, .inl (cy 0, 8, .inl (fun _ => 0))), (q_99, .inl (cy 1, 8, .inl (fun _ => 0)))] H := hP
  have hD : va_D A [(m0, .inr (20, [.int th, .ref q_94, .int md, .ref q_95, .ref q_96, .ref q_97, .ref q_98, .ref q_99, .null])), (q_94, .inr (4, [.int 0, .ref ed, .int 0])), (q_95, .inl (cy 0, 8, .inl (fun _ => 0))), (q_96, .inl (cy 0, 8, .inl (fun _ => 0))), (q_97, .inl (cy 0, 8, .inl (fun _ => 0))), (q_98, .inl (cy 0, 8, .inl (fun _ => 0))), (q_99, .inl (cy 1, 8, .inl (fun _ => 0)))] := hD
  refine lv_aload_n hx hb dX15_init_55 rfl (lv_at hl 0 rfl) ?_
  refine va_new (ci := 4) (fs := [.int 0, .null, .int 0]) (C := RJx4a65c) (T := TJx4a65c) (N := 3) hx hb hts (fun w h => zx_Gc (uz_Jx4a65c w h)) tyJx4a65c tyJx4a65c_ok hown (hts (.classLink RX15 7 RJx4a65c) (zx_Gc mm_1569)) (hts (.instantiable RJx4a65c 3) (zx_Gc mm_200)) (hts (.initialized RJx4a65c) (zx_Gc mm_77)) hK hP hD hS hA rfl (fun j hj => by rcases (show j = 0 ∨ j = 1 ∨ j = 2 by omega) with rfl | rfl | rfl <;> rfl) (Nat.le_of_ble_eq_true rfl) (Nat.le_of_ble_eq_true rfl) dX15_init_56 (fun q_100 H hP hD hS => ?_)
  have hP : va_P D vwCl [(m0, .inr (20, [.int th, .ref q_94, .int md, .ref q_95, .ref q_96, .ref q_97, .ref q_98, .ref q_99, .null])), (q_94, .inr (4, [.int 0, .ref ed, .int 0])), (q_95, .inl (cy 0, 8, .inl (fun _ => 0))), (q_96, .inl (cy 0, 8, .inl (fun _ => 0))), (q_97, .inl (cy 0, 8, .inl (fun _ => 0))), (q_98, .inl (cy 0, 8, .inl (fun _ => 0))), (q_99, .inl (cy 1, 8, .inl (fun _ => 0))), (q_100, .inr (4, [.int 0, .null, .int 0]))] H := hP
  have hD : va_D A [(m0, .inr (20, [.int th, .ref q_94, .int md, .ref q_95, .ref q_96, .ref q_97, .ref q_98, .ref q_99, .null])), (q_94, .inr (4, [.int 0, .ref ed, .int 0])), (q_95, .inl (cy 0, 8, .inl (fun _ => 0))), (q_96, .inl (cy 0, 8, .inl (fun _ => 0))), (q_97, .inl (cy 0, 8, .inl (fun _ => 0))), (q_98, .inl (cy 0, 8, .inl (fun _ => 0))), (q_99, .inl (cy 1, 8, .inl (fun _ => 0))), (q_100, .inr (4, [.int 0, .null, .int 0]))] := hD
  refine W.widen (k := 7) (n := 46) (Nat.le_of_ble_eq_true rfl) (Nat.le_of_ble_eq_true rfl) ?_
  refine lv_dup hx hb dX15_init_59 rfl ?_
  have hPc := hP.sub (ws' := [(q_100, .inr (4, [.int 0, .null, .int 0]))]) [7] rfl
  have hDc := hD.sub (ws' := [(q_100, .inr (4, [.int 0, .null, .int 0]))]) [7] (by decide) rfl
  have hFc := va_free (wc := [(q_100, .inr (4, [.int 0, .null, .int 0]))]) hD hS hA [7] rfl
  refine va_callv (va_runI (As := []) (rest := [.ref q_100, .ref m0]) ⟨hx, hb, hml, hown, hts⟩ (c_AL_init l hst D cy ed H.size q_100 0) (cwI 0 hts (zx_GI mm_203) rfl rfl rfl (hts (.initialized RJx4a65c) (zx_Gc mm_77)) (hts (.methodLink RX15 9 yJx4a65c_init_da8c8) (zx_Gc mm_1570)) (hts (.instanceMethod yJx4a65c_init_da8c8) (zx_Gc mm_202)) rfl (by decide +kernel) ⟨(Nat.le_of_ble_eq_true rfl), (Nat.le_of_ble_eq_true rfl)⟩) ⟨zx_blind, zx_give hPc hK hDc hS hFc hZ hN⟩ rfl rfl hl.1 rfl (lv_room (Nat.le_of_ble_eq_true rfl)) dX15_init_60 ⟨(Nat.le_of_ble_eq_true rfl), (Nat.le_of_ble_eq_true rfl)⟩) hS (fun q _ h => hFc q h) hFc (fun u t H1 locs ht hvm hw hB hz1 hk1 hS => ?_)
  obtain ⟨hP, hD⟩ := zx_join (wr := [(m0, .inr (20, [.int th, .ref q_94, .int md, .ref q_95, .ref q_96, .ref q_97, .ref q_98, .ref q_99, .null])), (q_94, .inr (4, [.int 0, .ref ed, .int 0])), (q_95, .inl (cy 0, 8, .inl (fun _ => 0))), (q_96, .inl (cy 0, 8, .inl (fun _ => 0))), (q_97, .inl (cy 0, 8, .inl (fun _ => 0))), (q_98, .inl (cy 0, 8, .inl (fun _ => 0))), (q_99, .inl (cy 1, 8, .inl (fun _ => 0)))]) (w1 := [(q_100, .inr (4, [.int 0, .ref ed, .int 0]))]) [7] [0, 1, 2, 3, 4, 5, 6] rfl rfl (by decide) (by decide) hP hD hk1 hFc hB ht
  generalize H1 = H at hP hS ⊢
  have hP : va_P D vwCl [(m0, .inr (20, [.int th, .ref q_94, .int md, .ref q_95, .ref q_96, .ref q_97, .ref q_98, .ref q_99, .null])), (q_94, .inr (4, [.int 0, .ref ed, .int 0])), (q_95, .inl (cy 0, 8, .inl (fun _ => 0))), (q_96, .inl (cy 0, 8, .inl (fun _ => 0))), (q_97, .inl (cy 0, 8, .inl (fun _ => 0))), (q_98, .inl (cy 0, 8, .inl (fun _ => 0))), (q_99, .inl (cy 1, 8, .inl (fun _ => 0))), (q_100, .inr (4, [.int 0, .ref ed, .int 0]))] H := hP
  have hD : va_D A [(m0, .inr (20, [.int th, .ref q_94, .int md, .ref q_95, .ref q_96, .ref q_97, .ref q_98, .ref q_99, .null])), (q_94, .inr (4, [.int 0, .ref ed, .int 0])), (q_95, .inl (cy 0, 8, .inl (fun _ => 0))), (q_96, .inl (cy 0, 8, .inl (fun _ => 0))), (q_97, .inl (cy 0, 8, .inl (fun _ => 0))), (q_98, .inl (cy 0, 8, .inl (fun _ => 0))), (q_99, .inl (cy 1, 8, .inl (fun _ => 0))), (q_100, .inr (4, [.int 0, .ref ed, .int 0]))] := hD
  refine W.widen (k := 7) (n := 46) (Nat.le_of_ble_eq_true rfl) (Nat.le_of_ble_eq_true rfl) ?_
  refine va_putF (D := D) (ci := 20) (v := .ref q_100) (ty := .object "java/util/ArrayList") (C := RX15) (T := TX15) (N := 9) hx hb hts (fun w h => zx_Gc (uz_X15 w h)) tyX15 tyX15_ok nmX15 hown hK hP hD hS 0 rfl rfl 8 (by decide) (hts (.fieldLink RX15 33 "RefereehallModel" "papers" "Ljava/util/ArrayList;") (zx_Gc mm_1579)) (fun _ h9 => h9) rfl hin rfl (by decide +kernel) rfl rfl (Nat.le_of_ble_eq_true rfl) dX15_init_63 (fun H locs hP hD hS => ?_)
  have hP : va_P D vwCl [(m0, .inr (20, [.int th, .ref q_94, .int md, .ref q_95, .ref q_96, .ref q_97, .ref q_98, .ref q_99, .ref q_100])), (q_94, .inr (4, [.int 0, .ref ed, .int 0])), (q_95, .inl (cy 0, 8, .inl (fun _ => 0))), (q_96, .inl (cy 0, 8, .inl (fun _ => 0))), (q_97, .inl (cy 0, 8, .inl (fun _ => 0))), (q_98, .inl (cy 0, 8, .inl (fun _ => 0))), (q_99, .inl (cy 1, 8, .inl (fun _ => 0))), (q_100, .inr (4, [.int 0, .ref ed, .int 0]))] H := hP
  have hD : va_D A [(m0, .inr (20, [.int th, .ref q_94, .int md, .ref q_95, .ref q_96, .ref q_97, .ref q_98, .ref q_99, .ref q_100])), (q_94, .inr (4, [.int 0, .ref ed, .int 0])), (q_95, .inl (cy 0, 8, .inl (fun _ => 0))), (q_96, .inl (cy 0, 8, .inl (fun _ => 0))), (q_97, .inl (cy 0, 8, .inl (fun _ => 0))), (q_98, .inl (cy 0, 8, .inl (fun _ => 0))), (q_99, .inl (cy 1, 8, .inl (fun _ => 0))), (q_100, .inr (4, [.int 0, .ref ed, .int 0]))] := hD
  refine lv_iconst (v := 0) hx hb dX15_init_66 (by decide) ?_
  refine lv_istore_n (lv' := [(1, .int 0), (0, .ref m0)]) hx hb dX15_init_67 rfl hl (by decide) rfl (fun ls hl => ?_)
  refine lv_iload_n hx hb dX15_init_68 rfl (lv_at hl 0 rfl) ?_
  refine lv_bipush (v := 8) hx hb dX15_init_69 (by decide) ?_
  refine lv_icmp_ge (tgt := 111) hx hb dX15_init_71 (by decide) (fun c_101 => absurd c_101 (by decide)) (fun _ => ?_)
  refine lv_aload_n hx hb dX15_init_74 rfl (lv_at hl 1 rfl) ?_
  refine va_get (D := D) (ci := 20) (v := .ref q_96) (C := RX15) (T := TX15) (N := 9) hx hb hts (fun w h => zx_Gc (uz_X15 w h)) hown hK hP 0 rfl rfl 4 (by decide) (hts (.fieldLink RX15 20 "RefereehallModel" "needs" "[I") (zx_Gc mm_1575)) (fun _ h9 => h9) rfl dX15_init_75 ?_
  refine lv_iload_n hx hb dX15_init_78 rfl (lv_at hl 0 rfl) ?_
  refine lv_iconst (v := 2) hx hb dX15_init_79 (by decide) ?_
  refine va_iast hx hb hK hP hD hS 3 0 rfl rfl (zx_bn (by decide)) dX15_init_80 (fun H locs hP hD hS => ?_)
  have hP : va_P D vwCl [(m0, .inr (20, [.int th, .ref q_94, .int md, .ref q_95, .ref q_96, .ref q_97, .ref q_98, .ref q_99, .ref q_100])), (q_94, .inr (4, [.int 0, .ref ed, .int 0])), (q_95, .inl (cy 0, 8, .inl (fun _ => 0))), (q_96, .inl (cy 0, 8, .inl (upd (fun _ => 0) (0 : Int32).toNatClampNeg 2))), (q_97, .inl (cy 0, 8, .inl (fun _ => 0))), (q_98, .inl (cy 0, 8, .inl (fun _ => 0))), (q_99, .inl (cy 1, 8, .inl (fun _ => 0))), (q_100, .inr (4, [.int 0, .ref ed, .int 0]))] H := hP
  have hD : va_D A [(m0, .inr (20, [.int th, .ref q_94, .int md, .ref q_95, .ref q_96, .ref q_97, .ref q_98, .ref q_99, .ref q_100])), (q_94, .inr (4, [.int 0, .ref ed, .int 0])), (q_95, .inl (cy 0, 8, .inl (fun _ => 0))), (q_96, .inl (cy 0, 8, .inl (upd (fun _ => 0) (0 : Int32).toNatClampNeg 2))), (q_97, .inl (cy 0, 8, .inl (fun _ => 0))), (q_98, .inl (cy 0, 8, .inl (fun _ => 0))), (q_99, .inl (cy 1, 8, .inl (fun _ => 0))), (q_100, .inr (4, [.int 0, .ref ed, .int 0]))] := hD
  obtain ⟨f_102, ef_102⟩ : ∃ z9, z9 = (upd (fun _ => 0) (0 : Int32).toNatClampNeg 2) := ⟨_, rfl⟩
  rw [← ef_102] at hP hD
  clear ef_102
  refine lv_aload_n hx hb dX15_init_81 rfl (lv_at hl 1 rfl) ?_
  refine va_get (D := D) (ci := 20) (v := .ref q_97) (C := RX15) (T := TX15) (N := 9) hx hb hts (fun w h => zx_Gc (uz_X15 w h)) hown hK hP 0 rfl rfl 5 (by decide) (hts (.fieldLink RX15 23 "RefereehallModel" "accepts" "[I") (zx_Gc mm_1576)) (fun _ h9 => h9) rfl dX15_init_82 ?_
  refine lv_iload_n hx hb dX15_init_85 rfl (lv_at hl 0 rfl) ?_
  refine lv_bipush (v := 50) hx hb dX15_init_86 (by decide) ?_
  refine va_iast hx hb hK hP hD hS 4 0 rfl rfl (zx_bn (by decide)) dX15_init_88 (fun H locs hP hD hS => ?_)
  have hP : va_P D vwCl [(m0, .inr (20, [.int th, .ref q_94, .int md, .ref q_95, .ref q_96, .ref q_97, .ref q_98, .ref q_99, .ref q_100])), (q_94, .inr (4, [.int 0, .ref ed, .int 0])), (q_95, .inl (cy 0, 8, .inl (fun _ => 0))), (q_96, .inl (cy 0, 8, .inl f_102)), (q_97, .inl (cy 0, 8, .inl (upd (fun _ => 0) (0 : Int32).toNatClampNeg 50))), (q_98, .inl (cy 0, 8, .inl (fun _ => 0))), (q_99, .inl (cy 1, 8, .inl (fun _ => 0))), (q_100, .inr (4, [.int 0, .ref ed, .int 0]))] H := hP
  have hD : va_D A [(m0, .inr (20, [.int th, .ref q_94, .int md, .ref q_95, .ref q_96, .ref q_97, .ref q_98, .ref q_99, .ref q_100])), (q_94, .inr (4, [.int 0, .ref ed, .int 0])), (q_95, .inl (cy 0, 8, .inl (fun _ => 0))), (q_96, .inl (cy 0, 8, .inl f_102)), (q_97, .inl (cy 0, 8, .inl (upd (fun _ => 0) (0 : Int32).toNatClampNeg 50))), (q_98, .inl (cy 0, 8, .inl (fun _ => 0))), (q_99, .inl (cy 1, 8, .inl (fun _ => 0))), (q_100, .inr (4, [.int 0, .ref ed, .int 0]))] := hD
  obtain ⟨f_103, ef_103⟩ : ∃ z9, z9 = (upd (fun _ => 0) (0 : Int32).toNatClampNeg 50) := ⟨_, rfl⟩
  rw [← ef_103] at hP hD
  clear ef_103
  refine lv_aload_n hx hb dX15_init_89 rfl (lv_at hl 1 rfl) ?_
  refine va_get (D := D) (ci := 20) (v := .ref q_98) (C := RX15) (T := TX15) (N := 9) hx hb hts (fun w h => zx_Gc (uz_X15 w h)) hown hK hP 0 rfl rfl 6 (by decide) (hts (.fieldLink RX15 26 "RefereehallModel" "rejects" "[I") (zx_Gc mm_1577)) (fun _ h9 => h9) rfl dX15_init_90 ?_
  refine lv_iload_n hx hb dX15_init_93 rfl (lv_at hl 0 rfl) ?_
  refine lv_bipush (v := 35) hx hb dX15_init_94 (by decide) ?_
  refine va_iast hx hb hK hP hD hS 5 0 rfl rfl (zx_bn (by decide)) dX15_init_96 (fun H locs hP hD hS => ?_)
  have hP : va_P D vwCl [(m0, .inr (20, [.int th, .ref q_94, .int md, .ref q_95, .ref q_96, .ref q_97, .ref q_98, .ref q_99, .ref q_100])), (q_94, .inr (4, [.int 0, .ref ed, .int 0])), (q_95, .inl (cy 0, 8, .inl (fun _ => 0))), (q_96, .inl (cy 0, 8, .inl f_102)), (q_97, .inl (cy 0, 8, .inl f_103)), (q_98, .inl (cy 0, 8, .inl (upd (fun _ => 0) (0 : Int32).toNatClampNeg 35))), (q_99, .inl (cy 1, 8, .inl (fun _ => 0))), (q_100, .inr (4, [.int 0, .ref ed, .int 0]))] H := hP
  have hD : va_D A [(m0, .inr (20, [.int th, .ref q_94, .int md, .ref q_95, .ref q_96, .ref q_97, .ref q_98, .ref q_99, .ref q_100])), (q_94, .inr (4, [.int 0, .ref ed, .int 0])), (q_95, .inl (cy 0, 8, .inl (fun _ => 0))), (q_96, .inl (cy 0, 8, .inl f_102)), (q_97, .inl (cy 0, 8, .inl f_103)), (q_98, .inl (cy 0, 8, .inl (upd (fun _ => 0) (0 : Int32).toNatClampNeg 35))), (q_99, .inl (cy 1, 8, .inl (fun _ => 0))), (q_100, .inr (4, [.int 0, .ref ed, .int 0]))] := hD
  obtain ⟨f_104, ef_104⟩ : ∃ z9, z9 = (upd (fun _ => 0) (0 : Int32).toNatClampNeg 35) := ⟨_, rfl⟩
  rw [← ef_104] at hP hD
  clear ef_104
  refine lv_aload_n hx hb dX15_init_97 rfl (lv_at hl 1 rfl) ?_
  refine va_get (D := D) (ci := 20) (v := .ref q_99) (C := RX15) (T := TX15) (N := 9) hx hb hts (fun w h => zx_Gc (uz_X15 w h)) hown hK hP 0 rfl rfl 7 (by decide) (hts (.fieldLink RX15 29 "RefereehallModel" "way" "[C") (zx_Gc mm_1578)) (fun _ h9 => h9) rfl dX15_init_98 ?_
  refine lv_iload_n hx hb dX15_init_101 rfl (lv_at hl 0 rfl) ?_
  refine lv_bipush (v := 115) hx hb dX15_init_102 (by decide) ?_
  refine va_cast hx hb hK hP hD hS 6 1 rfl rfl (zx_bn (by decide)) dX15_init_104 (fun H locs hP hD hS => ?_)
  have hP : va_P D vwCl [(m0, .inr (20, [.int th, .ref q_94, .int md, .ref q_95, .ref q_96, .ref q_97, .ref q_98, .ref q_99, .ref q_100])), (q_94, .inr (4, [.int 0, .ref ed, .int 0])), (q_95, .inl (cy 0, 8, .inl (fun _ => 0))), (q_96, .inl (cy 0, 8, .inl f_102)), (q_97, .inl (cy 0, 8, .inl f_103)), (q_98, .inl (cy 0, 8, .inl f_104)), (q_99, .inl (cy 1, 8, .inl (upd (fun _ => 0) (0 : Int32).toNatClampNeg 115))), (q_100, .inr (4, [.int 0, .ref ed, .int 0]))] H := hP
  have hD : va_D A [(m0, .inr (20, [.int th, .ref q_94, .int md, .ref q_95, .ref q_96, .ref q_97, .ref q_98, .ref q_99, .ref q_100])), (q_94, .inr (4, [.int 0, .ref ed, .int 0])), (q_95, .inl (cy 0, 8, .inl (fun _ => 0))), (q_96, .inl (cy 0, 8, .inl f_102)), (q_97, .inl (cy 0, 8, .inl f_103)), (q_98, .inl (cy 0, 8, .inl f_104)), (q_99, .inl (cy 1, 8, .inl (upd (fun _ => 0) (0 : Int32).toNatClampNeg 115))), (q_100, .inr (4, [.int 0, .ref ed, .int 0]))] := hD
  obtain ⟨f_105, ef_105⟩ : ∃ z9, z9 = (upd (fun _ => 0) (0 : Int32).toNatClampNeg 115) := ⟨_, rfl⟩
  rw [← ef_105] at hP hD
  have hf_105 : ∀ j, j < 1 → f_105 j = 115 := by rw [ef_105]; exact (zx_way (i := 0) (fun j9 h9 => absurd h9 (Nat.not_lt_zero _)))
  clear ef_105
  refine lv_iinc (v := 1) (lv' := [(1, .int 1), (0, .ref m0)]) hx hb dX15_init_105 hl (k := 0) rfl (by decide) (by decide) rfl (fun ls hl => ?_)
  refine lv_goto (tgt := 68) hx hb dX15_init_108 (by decide) ?_
  refine lv_iload_n hx hb dX15_init_68 rfl (lv_at hl 0 rfl) ?_
  refine lv_bipush (v := 8) hx hb dX15_init_69 (by decide) ?_
  refine lv_icmp_ge (tgt := 111) hx hb dX15_init_71 (by decide) (fun c_106 => absurd c_106 (by decide)) (fun _ => ?_)
  refine lv_aload_n hx hb dX15_init_74 rfl (lv_at hl 1 rfl) ?_
  refine va_get (D := D) (ci := 20) (v := .ref q_96) (C := RX15) (T := TX15) (N := 9) hx hb hts (fun w h => zx_Gc (uz_X15 w h)) hown hK hP 0 rfl rfl 4 (by decide) (hts (.fieldLink RX15 20 "RefereehallModel" "needs" "[I") (zx_Gc mm_1575)) (fun _ h9 => h9) rfl dX15_init_75 ?_
  refine lv_iload_n hx hb dX15_init_78 rfl (lv_at hl 0 rfl) ?_
  refine lv_iconst (v := 2) hx hb dX15_init_79 (by decide) ?_
  refine va_iast hx hb hK hP hD hS 3 0 rfl rfl (zx_bn (by decide)) dX15_init_80 (fun H locs hP hD hS => ?_)
  have hP : va_P D vwCl [(m0, .inr (20, [.int th, .ref q_94, .int md, .ref q_95, .ref q_96, .ref q_97, .ref q_98, .ref q_99, .ref q_100])), (q_94, .inr (4, [.int 0, .ref ed, .int 0])), (q_95, .inl (cy 0, 8, .inl (fun _ => 0))), (q_96, .inl (cy 0, 8, .inl (upd f_102 (1 : Int32).toNatClampNeg 2))), (q_97, .inl (cy 0, 8, .inl f_103)), (q_98, .inl (cy 0, 8, .inl f_104)), (q_99, .inl (cy 1, 8, .inl f_105)), (q_100, .inr (4, [.int 0, .ref ed, .int 0]))] H := hP
  have hD : va_D A [(m0, .inr (20, [.int th, .ref q_94, .int md, .ref q_95, .ref q_96, .ref q_97, .ref q_98, .ref q_99, .ref q_100])), (q_94, .inr (4, [.int 0, .ref ed, .int 0])), (q_95, .inl (cy 0, 8, .inl (fun _ => 0))), (q_96, .inl (cy 0, 8, .inl (upd f_102 (1 : Int32).toNatClampNeg 2))), (q_97, .inl (cy 0, 8, .inl f_103)), (q_98, .inl (cy 0, 8, .inl f_104)), (q_99, .inl (cy 1, 8, .inl f_105)), (q_100, .inr (4, [.int 0, .ref ed, .int 0]))] := hD
  obtain ⟨f_107, ef_107⟩ : ∃ z9, z9 = (upd f_102 (1 : Int32).toNatClampNeg 2) := ⟨_, rfl⟩
  rw [← ef_107] at hP hD
  clear ef_107
  refine lv_aload_n hx hb dX15_init_81 rfl (lv_at hl 1 rfl) ?_
  refine va_get (D := D) (ci := 20) (v := .ref q_97) (C := RX15) (T := TX15) (N := 9) hx hb hts (fun w h => zx_Gc (uz_X15 w h)) hown hK hP 0 rfl rfl 5 (by decide) (hts (.fieldLink RX15 23 "RefereehallModel" "accepts" "[I") (zx_Gc mm_1576)) (fun _ h9 => h9) rfl dX15_init_82 ?_
  refine lv_iload_n hx hb dX15_init_85 rfl (lv_at hl 0 rfl) ?_
  refine lv_bipush (v := 50) hx hb dX15_init_86 (by decide) ?_
  refine va_iast hx hb hK hP hD hS 4 0 rfl rfl (zx_bn (by decide)) dX15_init_88 (fun H locs hP hD hS => ?_)
  have hP : va_P D vwCl [(m0, .inr (20, [.int th, .ref q_94, .int md, .ref q_95, .ref q_96, .ref q_97, .ref q_98, .ref q_99, .ref q_100])), (q_94, .inr (4, [.int 0, .ref ed, .int 0])), (q_95, .inl (cy 0, 8, .inl (fun _ => 0))), (q_96, .inl (cy 0, 8, .inl f_107)), (q_97, .inl (cy 0, 8, .inl (upd f_103 (1 : Int32).toNatClampNeg 50))), (q_98, .inl (cy 0, 8, .inl f_104)), (q_99, .inl (cy 1, 8, .inl f_105)), (q_100, .inr (4, [.int 0, .ref ed, .int 0]))] H := hP
  have hD : va_D A [(m0, .inr (20, [.int th, .ref q_94, .int md, .ref q_95, .ref q_96, .ref q_97, .ref q_98, .ref q_99, .ref q_100])), (q_94, .inr (4, [.int 0, .ref ed, .int 0])), (q_95, .inl (cy 0, 8, .inl (fun _ => 0))), (q_96, .inl (cy 0, 8, .inl f_107)), (q_97, .inl (cy 0, 8, .inl (upd f_103 (1 : Int32).toNatClampNeg 50))), (q_98, .inl (cy 0, 8, .inl f_104)), (q_99, .inl (cy 1, 8, .inl f_105)), (q_100, .inr (4, [.int 0, .ref ed, .int 0]))] := hD
  obtain ⟨f_108, ef_108⟩ : ∃ z9, z9 = (upd f_103 (1 : Int32).toNatClampNeg 50) := ⟨_, rfl⟩
  rw [← ef_108] at hP hD
  clear ef_108
  refine lv_aload_n hx hb dX15_init_89 rfl (lv_at hl 1 rfl) ?_
  refine va_get (D := D) (ci := 20) (v := .ref q_98) (C := RX15) (T := TX15) (N := 9) hx hb hts (fun w h => zx_Gc (uz_X15 w h)) hown hK hP 0 rfl rfl 6 (by decide) (hts (.fieldLink RX15 26 "RefereehallModel" "rejects" "[I") (zx_Gc mm_1577)) (fun _ h9 => h9) rfl dX15_init_90 ?_
  refine lv_iload_n hx hb dX15_init_93 rfl (lv_at hl 0 rfl) ?_
  refine lv_bipush (v := 35) hx hb dX15_init_94 (by decide) ?_
  refine va_iast hx hb hK hP hD hS 5 0 rfl rfl (zx_bn (by decide)) dX15_init_96 (fun H locs hP hD hS => ?_)
  have hP : va_P D vwCl [(m0, .inr (20, [.int th, .ref q_94, .int md, .ref q_95, .ref q_96, .ref q_97, .ref q_98, .ref q_99, .ref q_100])), (q_94, .inr (4, [.int 0, .ref ed, .int 0])), (q_95, .inl (cy 0, 8, .inl (fun _ => 0))), (q_96, .inl (cy 0, 8, .inl f_107)), (q_97, .inl (cy 0, 8, .inl f_108)), (q_98, .inl (cy 0, 8, .inl (upd f_104 (1 : Int32).toNatClampNeg 35))), (q_99, .inl (cy 1, 8, .inl f_105)), (q_100, .inr (4, [.int 0, .ref ed, .int 0]))] H := hP
  have hD : va_D A [(m0, .inr (20, [.int th, .ref q_94, .int md, .ref q_95, .ref q_96, .ref q_97, .ref q_98, .ref q_99, .ref q_100])), (q_94, .inr (4, [.int 0, .ref ed, .int 0])), (q_95, .inl (cy 0, 8, .inl (fun _ => 0))), (q_96, .inl (cy 0, 8, .inl f_107)), (q_97, .inl (cy 0, 8, .inl f_108)), (q_98, .inl (cy 0, 8, .inl (upd f_104 (1 : Int32).toNatClampNeg 35))), (q_99, .inl (cy 1, 8, .inl f_105)), (q_100, .inr (4, [.int 0, .ref ed, .int 0]))] := hD
  obtain ⟨f_109, ef_109⟩ : ∃ z9, z9 = (upd f_104 (1 : Int32).toNatClampNeg 35) := ⟨_, rfl⟩
  rw [← ef_109] at hP hD
  clear ef_109
  refine lv_aload_n hx hb dX15_init_97 rfl (lv_at hl 1 rfl) ?_
  refine va_get (D := D) (ci := 20) (v := .ref q_99) (C := RX15) (T := TX15) (N := 9) hx hb hts (fun w h => zx_Gc (uz_X15 w h)) hown hK hP 0 rfl rfl 7 (by decide) (hts (.fieldLink RX15 29 "RefereehallModel" "way" "[C") (zx_Gc mm_1578)) (fun _ h9 => h9) rfl dX15_init_98 ?_
  refine lv_iload_n hx hb dX15_init_101 rfl (lv_at hl 0 rfl) ?_
  refine lv_bipush (v := 115) hx hb dX15_init_102 (by decide) ?_
  refine va_cast hx hb hK hP hD hS 6 1 rfl rfl (zx_bn (by decide)) dX15_init_104 (fun H locs hP hD hS => ?_)
  have hP : va_P D vwCl [(m0, .inr (20, [.int th, .ref q_94, .int md, .ref q_95, .ref q_96, .ref q_97, .ref q_98, .ref q_99, .ref q_100])), (q_94, .inr (4, [.int 0, .ref ed, .int 0])), (q_95, .inl (cy 0, 8, .inl (fun _ => 0))), (q_96, .inl (cy 0, 8, .inl f_107)), (q_97, .inl (cy 0, 8, .inl f_108)), (q_98, .inl (cy 0, 8, .inl f_109)), (q_99, .inl (cy 1, 8, .inl (upd f_105 (1 : Int32).toNatClampNeg 115))), (q_100, .inr (4, [.int 0, .ref ed, .int 0]))] H := hP
  have hD : va_D A [(m0, .inr (20, [.int th, .ref q_94, .int md, .ref q_95, .ref q_96, .ref q_97, .ref q_98, .ref q_99, .ref q_100])), (q_94, .inr (4, [.int 0, .ref ed, .int 0])), (q_95, .inl (cy 0, 8, .inl (fun _ => 0))), (q_96, .inl (cy 0, 8, .inl f_107)), (q_97, .inl (cy 0, 8, .inl f_108)), (q_98, .inl (cy 0, 8, .inl f_109)), (q_99, .inl (cy 1, 8, .inl (upd f_105 (1 : Int32).toNatClampNeg 115))), (q_100, .inr (4, [.int 0, .ref ed, .int 0]))] := hD
  obtain ⟨f_110, ef_110⟩ : ∃ z9, z9 = (upd f_105 (1 : Int32).toNatClampNeg 115) := ⟨_, rfl⟩
  rw [← ef_110] at hP hD
  have hf_110 : ∀ j, j < 2 → f_110 j = 115 := by rw [ef_110]; exact (zx_way (i := 1) hf_105)
  clear ef_110
  refine lv_iinc (v := 2) (lv' := [(1, .int 2), (0, .ref m0)]) hx hb dX15_init_105 hl (k := 0) rfl (by decide) (by decide) rfl (fun ls hl => ?_)
  refine lv_goto (tgt := 68) hx hb dX15_init_108 (by decide) ?_
  refine lv_iload_n hx hb dX15_init_68 rfl (lv_at hl 0 rfl) ?_
  refine lv_bipush (v := 8) hx hb dX15_init_69 (by decide) ?_
  refine lv_icmp_ge (tgt := 111) hx hb dX15_init_71 (by decide) (fun c_111 => absurd c_111 (by decide)) (fun _ => ?_)
  refine lv_aload_n hx hb dX15_init_74 rfl (lv_at hl 1 rfl) ?_
  refine va_get (D := D) (ci := 20) (v := .ref q_96) (C := RX15) (T := TX15) (N := 9) hx hb hts (fun w h => zx_Gc (uz_X15 w h)) hown hK hP 0 rfl rfl 4 (by decide) (hts (.fieldLink RX15 20 "RefereehallModel" "needs" "[I") (zx_Gc mm_1575)) (fun _ h9 => h9) rfl dX15_init_75 ?_
  refine lv_iload_n hx hb dX15_init_78 rfl (lv_at hl 0 rfl) ?_
  refine lv_iconst (v := 2) hx hb dX15_init_79 (by decide) ?_
  refine va_iast hx hb hK hP hD hS 3 0 rfl rfl (zx_bn (by decide)) dX15_init_80 (fun H locs hP hD hS => ?_)
  have hP : va_P D vwCl [(m0, .inr (20, [.int th, .ref q_94, .int md, .ref q_95, .ref q_96, .ref q_97, .ref q_98, .ref q_99, .ref q_100])), (q_94, .inr (4, [.int 0, .ref ed, .int 0])), (q_95, .inl (cy 0, 8, .inl (fun _ => 0))), (q_96, .inl (cy 0, 8, .inl (upd f_107 (2 : Int32).toNatClampNeg 2))), (q_97, .inl (cy 0, 8, .inl f_108)), (q_98, .inl (cy 0, 8, .inl f_109)), (q_99, .inl (cy 1, 8, .inl f_110)), (q_100, .inr (4, [.int 0, .ref ed, .int 0]))] H := hP
  have hD : va_D A [(m0, .inr (20, [.int th, .ref q_94, .int md, .ref q_95, .ref q_96, .ref q_97, .ref q_98, .ref q_99, .ref q_100])), (q_94, .inr (4, [.int 0, .ref ed, .int 0])), (q_95, .inl (cy 0, 8, .inl (fun _ => 0))), (q_96, .inl (cy 0, 8, .inl (upd f_107 (2 : Int32).toNatClampNeg 2))), (q_97, .inl (cy 0, 8, .inl f_108)), (q_98, .inl (cy 0, 8, .inl f_109)), (q_99, .inl (cy 1, 8, .inl f_110)), (q_100, .inr (4, [.int 0, .ref ed, .int 0]))] := hD
  obtain ⟨f_112, ef_112⟩ : ∃ z9, z9 = (upd f_107 (2 : Int32).toNatClampNeg 2) := ⟨_, rfl⟩
  rw [← ef_112] at hP hD
  clear ef_112
  refine lv_aload_n hx hb dX15_init_81 rfl (lv_at hl 1 rfl) ?_
  refine va_get (D := D) (ci := 20) (v := .ref q_97) (C := RX15) (T := TX15) (N := 9) hx hb hts (fun w h => zx_Gc (uz_X15 w h)) hown hK hP 0 rfl rfl 5 (by decide) (hts (.fieldLink RX15 23 "RefereehallModel" "accepts" "[I") (zx_Gc mm_1576)) (fun _ h9 => h9) rfl dX15_init_82 ?_
  refine lv_iload_n hx hb dX15_init_85 rfl (lv_at hl 0 rfl) ?_
  refine lv_bipush (v := 50) hx hb dX15_init_86 (by decide) ?_
  refine va_iast hx hb hK hP hD hS 4 0 rfl rfl (zx_bn (by decide)) dX15_init_88 (fun H locs hP hD hS => ?_)
  have hP : va_P D vwCl [(m0, .inr (20, [.int th, .ref q_94, .int md, .ref q_95, .ref q_96, .ref q_97, .ref q_98, .ref q_99, .ref q_100])), (q_94, .inr (4, [.int 0, .ref ed, .int 0])), (q_95, .inl (cy 0, 8, .inl (fun _ => 0))), (q_96, .inl (cy 0, 8, .inl f_112)), (q_97, .inl (cy 0, 8, .inl (upd f_108 (2 : Int32).toNatClampNeg 50))), (q_98, .inl (cy 0, 8, .inl f_109)), (q_99, .inl (cy 1, 8, .inl f_110)), (q_100, .inr (4, [.int 0, .ref ed, .int 0]))] H := hP
  have hD : va_D A [(m0, .inr (20, [.int th, .ref q_94, .int md, .ref q_95, .ref q_96, .ref q_97, .ref q_98, .ref q_99, .ref q_100])), (q_94, .inr (4, [.int 0, .ref ed, .int 0])), (q_95, .inl (cy 0, 8, .inl (fun _ => 0))), (q_96, .inl (cy 0, 8, .inl f_112)), (q_97, .inl (cy 0, 8, .inl (upd f_108 (2 : Int32).toNatClampNeg 50))), (q_98, .inl (cy 0, 8, .inl f_109)), (q_99, .inl (cy 1, 8, .inl f_110)), (q_100, .inr (4, [.int 0, .ref ed, .int 0]))] := hD
  obtain ⟨f_113, ef_113⟩ : ∃ z9, z9 = (upd f_108 (2 : Int32).toNatClampNeg 50) := ⟨_, rfl⟩
  rw [← ef_113] at hP hD
  clear ef_113
  refine lv_aload_n hx hb dX15_init_89 rfl (lv_at hl 1 rfl) ?_
  refine va_get (D := D) (ci := 20) (v := .ref q_98) (C := RX15) (T := TX15) (N := 9) hx hb hts (fun w h => zx_Gc (uz_X15 w h)) hown hK hP 0 rfl rfl 6 (by decide) (hts (.fieldLink RX15 26 "RefereehallModel" "rejects" "[I") (zx_Gc mm_1577)) (fun _ h9 => h9) rfl dX15_init_90 ?_
  refine lv_iload_n hx hb dX15_init_93 rfl (lv_at hl 0 rfl) ?_
  refine lv_bipush (v := 35) hx hb dX15_init_94 (by decide) ?_
  refine va_iast hx hb hK hP hD hS 5 0 rfl rfl (zx_bn (by decide)) dX15_init_96 (fun H locs hP hD hS => ?_)
  have hP : va_P D vwCl [(m0, .inr (20, [.int th, .ref q_94, .int md, .ref q_95, .ref q_96, .ref q_97, .ref q_98, .ref q_99, .ref q_100])), (q_94, .inr (4, [.int 0, .ref ed, .int 0])), (q_95, .inl (cy 0, 8, .inl (fun _ => 0))), (q_96, .inl (cy 0, 8, .inl f_112)), (q_97, .inl (cy 0, 8, .inl f_113)), (q_98, .inl (cy 0, 8, .inl (upd f_109 (2 : Int32).toNatClampNeg 35))), (q_99, .inl (cy 1, 8, .inl f_110)), (q_100, .inr (4, [.int 0, .ref ed, .int 0]))] H := hP
  have hD : va_D A [(m0, .inr (20, [.int th, .ref q_94, .int md, .ref q_95, .ref q_96, .ref q_97, .ref q_98, .ref q_99, .ref q_100])), (q_94, .inr (4, [.int 0, .ref ed, .int 0])), (q_95, .inl (cy 0, 8, .inl (fun _ => 0))), (q_96, .inl (cy 0, 8, .inl f_112)), (q_97, .inl (cy 0, 8, .inl f_113)), (q_98, .inl (cy 0, 8, .inl (upd f_109 (2 : Int32).toNatClampNeg 35))), (q_99, .inl (cy 1, 8, .inl f_110)), (q_100, .inr (4, [.int 0, .ref ed, .int 0]))] := hD
  obtain ⟨f_114, ef_114⟩ : ∃ z9, z9 = (upd f_109 (2 : Int32).toNatClampNeg 35) := ⟨_, rfl⟩
  rw [← ef_114] at hP hD
  clear ef_114
  refine lv_aload_n hx hb dX15_init_97 rfl (lv_at hl 1 rfl) ?_
  refine va_get (D := D) (ci := 20) (v := .ref q_99) (C := RX15) (T := TX15) (N := 9) hx hb hts (fun w h => zx_Gc (uz_X15 w h)) hown hK hP 0 rfl rfl 7 (by decide) (hts (.fieldLink RX15 29 "RefereehallModel" "way" "[C") (zx_Gc mm_1578)) (fun _ h9 => h9) rfl dX15_init_98 ?_
  refine lv_iload_n hx hb dX15_init_101 rfl (lv_at hl 0 rfl) ?_
  refine lv_bipush (v := 115) hx hb dX15_init_102 (by decide) ?_
  refine va_cast hx hb hK hP hD hS 6 1 rfl rfl (zx_bn (by decide)) dX15_init_104 (fun H locs hP hD hS => ?_)
  have hP : va_P D vwCl [(m0, .inr (20, [.int th, .ref q_94, .int md, .ref q_95, .ref q_96, .ref q_97, .ref q_98, .ref q_99, .ref q_100])), (q_94, .inr (4, [.int 0, .ref ed, .int 0])), (q_95, .inl (cy 0, 8, .inl (fun _ => 0))), (q_96, .inl (cy 0, 8, .inl f_112)), (q_97, .inl (cy 0, 8, .inl f_113)), (q_98, .inl (cy 0, 8, .inl f_114)), (q_99, .inl (cy 1, 8, .inl (upd f_110 (2 : Int32).toNatClampNeg 115))), (q_100, .inr (4, [.int 0, .ref ed, .int 0]))] H := hP
  have hD : va_D A [(m0, .inr (20, [.int th, .ref q_94, .int md, .ref q_95, .ref q_96, .ref q_97, .ref q_98, .ref q_99, .ref q_100])), (q_94, .inr (4, [.int 0, .ref ed, .int 0])), (q_95, .inl (cy 0, 8, .inl (fun _ => 0))), (q_96, .inl (cy 0, 8, .inl f_112)), (q_97, .inl (cy 0, 8, .inl f_113)), (q_98, .inl (cy 0, 8, .inl f_114)), (q_99, .inl (cy 1, 8, .inl (upd f_110 (2 : Int32).toNatClampNeg 115))), (q_100, .inr (4, [.int 0, .ref ed, .int 0]))] := hD
  obtain ⟨f_115, ef_115⟩ : ∃ z9, z9 = (upd f_110 (2 : Int32).toNatClampNeg 115) := ⟨_, rfl⟩
  rw [← ef_115] at hP hD
  have hf_115 : ∀ j, j < 3 → f_115 j = 115 := by rw [ef_115]; exact (zx_way (i := 2) hf_110)
  clear ef_115
  refine lv_iinc (v := 3) (lv' := [(1, .int 3), (0, .ref m0)]) hx hb dX15_init_105 hl (k := 0) rfl (by decide) (by decide) rfl (fun ls hl => ?_)
  refine lv_goto (tgt := 68) hx hb dX15_init_108 (by decide) ?_
  refine lv_iload_n hx hb dX15_init_68 rfl (lv_at hl 0 rfl) ?_
  refine lv_bipush (v := 8) hx hb dX15_init_69 (by decide) ?_
  refine lv_icmp_ge (tgt := 111) hx hb dX15_init_71 (by decide) (fun c_116 => absurd c_116 (by decide)) (fun _ => ?_)
  refine lv_aload_n hx hb dX15_init_74 rfl (lv_at hl 1 rfl) ?_
  refine va_get (D := D) (ci := 20) (v := .ref q_96) (C := RX15) (T := TX15) (N := 9) hx hb hts (fun w h => zx_Gc (uz_X15 w h)) hown hK hP 0 rfl rfl 4 (by decide) (hts (.fieldLink RX15 20 "RefereehallModel" "needs" "[I") (zx_Gc mm_1575)) (fun _ h9 => h9) rfl dX15_init_75 ?_
  refine lv_iload_n hx hb dX15_init_78 rfl (lv_at hl 0 rfl) ?_
  refine lv_iconst (v := 2) hx hb dX15_init_79 (by decide) ?_
  refine va_iast hx hb hK hP hD hS 3 0 rfl rfl (zx_bn (by decide)) dX15_init_80 (fun H locs hP hD hS => ?_)
  have hP : va_P D vwCl [(m0, .inr (20, [.int th, .ref q_94, .int md, .ref q_95, .ref q_96, .ref q_97, .ref q_98, .ref q_99, .ref q_100])), (q_94, .inr (4, [.int 0, .ref ed, .int 0])), (q_95, .inl (cy 0, 8, .inl (fun _ => 0))), (q_96, .inl (cy 0, 8, .inl (upd f_112 (3 : Int32).toNatClampNeg 2))), (q_97, .inl (cy 0, 8, .inl f_113)), (q_98, .inl (cy 0, 8, .inl f_114)), (q_99, .inl (cy 1, 8, .inl f_115)), (q_100, .inr (4, [.int 0, .ref ed, .int 0]))] H := hP
  have hD : va_D A [(m0, .inr (20, [.int th, .ref q_94, .int md, .ref q_95, .ref q_96, .ref q_97, .ref q_98, .ref q_99, .ref q_100])), (q_94, .inr (4, [.int 0, .ref ed, .int 0])), (q_95, .inl (cy 0, 8, .inl (fun _ => 0))), (q_96, .inl (cy 0, 8, .inl (upd f_112 (3 : Int32).toNatClampNeg 2))), (q_97, .inl (cy 0, 8, .inl f_113)), (q_98, .inl (cy 0, 8, .inl f_114)), (q_99, .inl (cy 1, 8, .inl f_115)), (q_100, .inr (4, [.int 0, .ref ed, .int 0]))] := hD
  obtain ⟨f_117, ef_117⟩ : ∃ z9, z9 = (upd f_112 (3 : Int32).toNatClampNeg 2) := ⟨_, rfl⟩
  rw [← ef_117] at hP hD
  clear ef_117
  refine lv_aload_n hx hb dX15_init_81 rfl (lv_at hl 1 rfl) ?_
  refine va_get (D := D) (ci := 20) (v := .ref q_97) (C := RX15) (T := TX15) (N := 9) hx hb hts (fun w h => zx_Gc (uz_X15 w h)) hown hK hP 0 rfl rfl 5 (by decide) (hts (.fieldLink RX15 23 "RefereehallModel" "accepts" "[I") (zx_Gc mm_1576)) (fun _ h9 => h9) rfl dX15_init_82 ?_
  refine lv_iload_n hx hb dX15_init_85 rfl (lv_at hl 0 rfl) ?_
  refine lv_bipush (v := 50) hx hb dX15_init_86 (by decide) ?_
  refine va_iast hx hb hK hP hD hS 4 0 rfl rfl (zx_bn (by decide)) dX15_init_88 (fun H locs hP hD hS => ?_)
  have hP : va_P D vwCl [(m0, .inr (20, [.int th, .ref q_94, .int md, .ref q_95, .ref q_96, .ref q_97, .ref q_98, .ref q_99, .ref q_100])), (q_94, .inr (4, [.int 0, .ref ed, .int 0])), (q_95, .inl (cy 0, 8, .inl (fun _ => 0))), (q_96, .inl (cy 0, 8, .inl f_117)), (q_97, .inl (cy 0, 8, .inl (upd f_113 (3 : Int32).toNatClampNeg 50))), (q_98, .inl (cy 0, 8, .inl f_114)), (q_99, .inl (cy 1, 8, .inl f_115)), (q_100, .inr (4, [.int 0, .ref ed, .int 0]))] H := hP
  have hD : va_D A [(m0, .inr (20, [.int th, .ref q_94, .int md, .ref q_95, .ref q_96, .ref q_97, .ref q_98, .ref q_99, .ref q_100])), (q_94, .inr (4, [.int 0, .ref ed, .int 0])), (q_95, .inl (cy 0, 8, .inl (fun _ => 0))), (q_96, .inl (cy 0, 8, .inl f_117)), (q_97, .inl (cy 0, 8, .inl (upd f_113 (3 : Int32).toNatClampNeg 50))), (q_98, .inl (cy 0, 8, .inl f_114)), (q_99, .inl (cy 1, 8, .inl f_115)), (q_100, .inr (4, [.int 0, .ref ed, .int 0]))] := hD
  obtain ⟨f_118, ef_118⟩ : ∃ z9, z9 = (upd f_113 (3 : Int32).toNatClampNeg 50) := ⟨_, rfl⟩
  rw [← ef_118] at hP hD
  clear ef_118
  refine lv_aload_n hx hb dX15_init_89 rfl (lv_at hl 1 rfl) ?_
  refine va_get (D := D) (ci := 20) (v := .ref q_98) (C := RX15) (T := TX15) (N := 9) hx hb hts (fun w h => zx_Gc (uz_X15 w h)) hown hK hP 0 rfl rfl 6 (by decide) (hts (.fieldLink RX15 26 "RefereehallModel" "rejects" "[I") (zx_Gc mm_1577)) (fun _ h9 => h9) rfl dX15_init_90 ?_
  refine lv_iload_n hx hb dX15_init_93 rfl (lv_at hl 0 rfl) ?_
  refine lv_bipush (v := 35) hx hb dX15_init_94 (by decide) ?_
  refine va_iast hx hb hK hP hD hS 5 0 rfl rfl (zx_bn (by decide)) dX15_init_96 (fun H locs hP hD hS => ?_)
  have hP : va_P D vwCl [(m0, .inr (20, [.int th, .ref q_94, .int md, .ref q_95, .ref q_96, .ref q_97, .ref q_98, .ref q_99, .ref q_100])), (q_94, .inr (4, [.int 0, .ref ed, .int 0])), (q_95, .inl (cy 0, 8, .inl (fun _ => 0))), (q_96, .inl (cy 0, 8, .inl f_117)), (q_97, .inl (cy 0, 8, .inl f_118)), (q_98, .inl (cy 0, 8, .inl (upd f_114 (3 : Int32).toNatClampNeg 35))), (q_99, .inl (cy 1, 8, .inl f_115)), (q_100, .inr (4, [.int 0, .ref ed, .int 0]))] H := hP
  have hD : va_D A [(m0, .inr (20, [.int th, .ref q_94, .int md, .ref q_95, .ref q_96, .ref q_97, .ref q_98, .ref q_99, .ref q_100])), (q_94, .inr (4, [.int 0, .ref ed, .int 0])), (q_95, .inl (cy 0, 8, .inl (fun _ => 0))), (q_96, .inl (cy 0, 8, .inl f_117)), (q_97, .inl (cy 0, 8, .inl f_118)), (q_98, .inl (cy 0, 8, .inl (upd f_114 (3 : Int32).toNatClampNeg 35))), (q_99, .inl (cy 1, 8, .inl f_115)), (q_100, .inr (4, [.int 0, .ref ed, .int 0]))] := hD
  obtain ⟨f_119, ef_119⟩ : ∃ z9, z9 = (upd f_114 (3 : Int32).toNatClampNeg 35) := ⟨_, rfl⟩
  rw [← ef_119] at hP hD
  clear ef_119
  refine lv_aload_n hx hb dX15_init_97 rfl (lv_at hl 1 rfl) ?_
  refine va_get (D := D) (ci := 20) (v := .ref q_99) (C := RX15) (T := TX15) (N := 9) hx hb hts (fun w h => zx_Gc (uz_X15 w h)) hown hK hP 0 rfl rfl 7 (by decide) (hts (.fieldLink RX15 29 "RefereehallModel" "way" "[C") (zx_Gc mm_1578)) (fun _ h9 => h9) rfl dX15_init_98 ?_
  refine lv_iload_n hx hb dX15_init_101 rfl (lv_at hl 0 rfl) ?_
  refine lv_bipush (v := 115) hx hb dX15_init_102 (by decide) ?_
  refine va_cast hx hb hK hP hD hS 6 1 rfl rfl (zx_bn (by decide)) dX15_init_104 (fun H locs hP hD hS => ?_)
  have hP : va_P D vwCl [(m0, .inr (20, [.int th, .ref q_94, .int md, .ref q_95, .ref q_96, .ref q_97, .ref q_98, .ref q_99, .ref q_100])), (q_94, .inr (4, [.int 0, .ref ed, .int 0])), (q_95, .inl (cy 0, 8, .inl (fun _ => 0))), (q_96, .inl (cy 0, 8, .inl f_117)), (q_97, .inl (cy 0, 8, .inl f_118)), (q_98, .inl (cy 0, 8, .inl f_119)), (q_99, .inl (cy 1, 8, .inl (upd f_115 (3 : Int32).toNatClampNeg 115))), (q_100, .inr (4, [.int 0, .ref ed, .int 0]))] H := hP
  have hD : va_D A [(m0, .inr (20, [.int th, .ref q_94, .int md, .ref q_95, .ref q_96, .ref q_97, .ref q_98, .ref q_99, .ref q_100])), (q_94, .inr (4, [.int 0, .ref ed, .int 0])), (q_95, .inl (cy 0, 8, .inl (fun _ => 0))), (q_96, .inl (cy 0, 8, .inl f_117)), (q_97, .inl (cy 0, 8, .inl f_118)), (q_98, .inl (cy 0, 8, .inl f_119)), (q_99, .inl (cy 1, 8, .inl (upd f_115 (3 : Int32).toNatClampNeg 115))), (q_100, .inr (4, [.int 0, .ref ed, .int 0]))] := hD
  obtain ⟨f_120, ef_120⟩ : ∃ z9, z9 = (upd f_115 (3 : Int32).toNatClampNeg 115) := ⟨_, rfl⟩
  rw [← ef_120] at hP hD
  have hf_120 : ∀ j, j < 4 → f_120 j = 115 := by rw [ef_120]; exact (zx_way (i := 3) hf_115)
  clear ef_120
  refine lv_iinc (v := 4) (lv' := [(1, .int 4), (0, .ref m0)]) hx hb dX15_init_105 hl (k := 0) rfl (by decide) (by decide) rfl (fun ls hl => ?_)
  refine lv_goto (tgt := 68) hx hb dX15_init_108 (by decide) ?_
  refine lv_iload_n hx hb dX15_init_68 rfl (lv_at hl 0 rfl) ?_
  refine lv_bipush (v := 8) hx hb dX15_init_69 (by decide) ?_
  refine lv_icmp_ge (tgt := 111) hx hb dX15_init_71 (by decide) (fun c_121 => absurd c_121 (by decide)) (fun _ => ?_)
  refine lv_aload_n hx hb dX15_init_74 rfl (lv_at hl 1 rfl) ?_
  refine va_get (D := D) (ci := 20) (v := .ref q_96) (C := RX15) (T := TX15) (N := 9) hx hb hts (fun w h => zx_Gc (uz_X15 w h)) hown hK hP 0 rfl rfl 4 (by decide) (hts (.fieldLink RX15 20 "RefereehallModel" "needs" "[I") (zx_Gc mm_1575)) (fun _ h9 => h9) rfl dX15_init_75 ?_
  refine lv_iload_n hx hb dX15_init_78 rfl (lv_at hl 0 rfl) ?_
  refine lv_iconst (v := 2) hx hb dX15_init_79 (by decide) ?_
  refine va_iast hx hb hK hP hD hS 3 0 rfl rfl (zx_bn (by decide)) dX15_init_80 (fun H locs hP hD hS => ?_)
  have hP : va_P D vwCl [(m0, .inr (20, [.int th, .ref q_94, .int md, .ref q_95, .ref q_96, .ref q_97, .ref q_98, .ref q_99, .ref q_100])), (q_94, .inr (4, [.int 0, .ref ed, .int 0])), (q_95, .inl (cy 0, 8, .inl (fun _ => 0))), (q_96, .inl (cy 0, 8, .inl (upd f_117 (4 : Int32).toNatClampNeg 2))), (q_97, .inl (cy 0, 8, .inl f_118)), (q_98, .inl (cy 0, 8, .inl f_119)), (q_99, .inl (cy 1, 8, .inl f_120)), (q_100, .inr (4, [.int 0, .ref ed, .int 0]))] H := hP
  have hD : va_D A [(m0, .inr (20, [.int th, .ref q_94, .int md, .ref q_95, .ref q_96, .ref q_97, .ref q_98, .ref q_99, .ref q_100])), (q_94, .inr (4, [.int 0, .ref ed, .int 0])), (q_95, .inl (cy 0, 8, .inl (fun _ => 0))), (q_96, .inl (cy 0, 8, .inl (upd f_117 (4 : Int32).toNatClampNeg 2))), (q_97, .inl (cy 0, 8, .inl f_118)), (q_98, .inl (cy 0, 8, .inl f_119)), (q_99, .inl (cy 1, 8, .inl f_120)), (q_100, .inr (4, [.int 0, .ref ed, .int 0]))] := hD
  obtain ⟨f_122, ef_122⟩ : ∃ z9, z9 = (upd f_117 (4 : Int32).toNatClampNeg 2) := ⟨_, rfl⟩
  rw [← ef_122] at hP hD
  clear ef_122
  refine lv_aload_n hx hb dX15_init_81 rfl (lv_at hl 1 rfl) ?_
  refine va_get (D := D) (ci := 20) (v := .ref q_97) (C := RX15) (T := TX15) (N := 9) hx hb hts (fun w h => zx_Gc (uz_X15 w h)) hown hK hP 0 rfl rfl 5 (by decide) (hts (.fieldLink RX15 23 "RefereehallModel" "accepts" "[I") (zx_Gc mm_1576)) (fun _ h9 => h9) rfl dX15_init_82 ?_
  refine lv_iload_n hx hb dX15_init_85 rfl (lv_at hl 0 rfl) ?_
  refine lv_bipush (v := 50) hx hb dX15_init_86 (by decide) ?_
  refine va_iast hx hb hK hP hD hS 4 0 rfl rfl (zx_bn (by decide)) dX15_init_88 (fun H locs hP hD hS => ?_)
  have hP : va_P D vwCl [(m0, .inr (20, [.int th, .ref q_94, .int md, .ref q_95, .ref q_96, .ref q_97, .ref q_98, .ref q_99, .ref q_100])), (q_94, .inr (4, [.int 0, .ref ed, .int 0])), (q_95, .inl (cy 0, 8, .inl (fun _ => 0))), (q_96, .inl (cy 0, 8, .inl f_122)), (q_97, .inl (cy 0, 8, .inl (upd f_118 (4 : Int32).toNatClampNeg 50))), (q_98, .inl (cy 0, 8, .inl f_119)), (q_99, .inl (cy 1, 8, .inl f_120)), (q_100, .inr (4, [.int 0, .ref ed, .int 0]))] H := hP
  have hD : va_D A [(m0, .inr (20, [.int th, .ref q_94, .int md, .ref q_95, .ref q_96, .ref q_97, .ref q_98, .ref q_99, .ref q_100])), (q_94, .inr (4, [.int 0, .ref ed, .int 0])), (q_95, .inl (cy 0, 8, .inl (fun _ => 0))), (q_96, .inl (cy 0, 8, .inl f_122)), (q_97, .inl (cy 0, 8, .inl (upd f_118 (4 : Int32).toNatClampNeg 50))), (q_98, .inl (cy 0, 8, .inl f_119)), (q_99, .inl (cy 1, 8, .inl f_120)), (q_100, .inr (4, [.int 0, .ref ed, .int 0]))] := hD
  obtain ⟨f_123, ef_123⟩ : ∃ z9, z9 = (upd f_118 (4 : Int32).toNatClampNeg 50) := ⟨_, rfl⟩
  rw [← ef_123] at hP hD
  clear ef_123
  refine lv_aload_n hx hb dX15_init_89 rfl (lv_at hl 1 rfl) ?_
  refine va_get (D := D) (ci := 20) (v := .ref q_98) (C := RX15) (T := TX15) (N := 9) hx hb hts (fun w h => zx_Gc (uz_X15 w h)) hown hK hP 0 rfl rfl 6 (by decide) (hts (.fieldLink RX15 26 "RefereehallModel" "rejects" "[I") (zx_Gc mm_1577)) (fun _ h9 => h9) rfl dX15_init_90 ?_
  refine lv_iload_n hx hb dX15_init_93 rfl (lv_at hl 0 rfl) ?_
  refine lv_bipush (v := 35) hx hb dX15_init_94 (by decide) ?_
  refine va_iast hx hb hK hP hD hS 5 0 rfl rfl (zx_bn (by decide)) dX15_init_96 (fun H locs hP hD hS => ?_)
  have hP : va_P D vwCl [(m0, .inr (20, [.int th, .ref q_94, .int md, .ref q_95, .ref q_96, .ref q_97, .ref q_98, .ref q_99, .ref q_100])), (q_94, .inr (4, [.int 0, .ref ed, .int 0])), (q_95, .inl (cy 0, 8, .inl (fun _ => 0))), (q_96, .inl (cy 0, 8, .inl f_122)), (q_97, .inl (cy 0, 8, .inl f_123)), (q_98, .inl (cy 0, 8, .inl (upd f_119 (4 : Int32).toNatClampNeg 35))), (q_99, .inl (cy 1, 8, .inl f_120)), (q_100, .inr (4, [.int 0, .ref ed, .int 0]))] H := hP
  have hD : va_D A [(m0, .inr (20, [.int th, .ref q_94, .int md, .ref q_95, .ref q_96, .ref q_97, .ref q_98, .ref q_99, .ref q_100])), (q_94, .inr (4, [.int 0, .ref ed, .int 0])), (q_95, .inl (cy 0, 8, .inl (fun _ => 0))), (q_96, .inl (cy 0, 8, .inl f_122)), (q_97, .inl (cy 0, 8, .inl f_123)), (q_98, .inl (cy 0, 8, .inl (upd f_119 (4 : Int32).toNatClampNeg 35))), (q_99, .inl (cy 1, 8, .inl f_120)), (q_100, .inr (4, [.int 0, .ref ed, .int 0]))] := hD
  obtain ⟨f_124, ef_124⟩ : ∃ z9, z9 = (upd f_119 (4 : Int32).toNatClampNeg 35) := ⟨_, rfl⟩
  rw [← ef_124] at hP hD
  clear ef_124
  refine lv_aload_n hx hb dX15_init_97 rfl (lv_at hl 1 rfl) ?_
  refine va_get (D := D) (ci := 20) (v := .ref q_99) (C := RX15) (T := TX15) (N := 9) hx hb hts (fun w h => zx_Gc (uz_X15 w h)) hown hK hP 0 rfl rfl 7 (by decide) (hts (.fieldLink RX15 29 "RefereehallModel" "way" "[C") (zx_Gc mm_1578)) (fun _ h9 => h9) rfl dX15_init_98 ?_
  refine lv_iload_n hx hb dX15_init_101 rfl (lv_at hl 0 rfl) ?_
  refine lv_bipush (v := 115) hx hb dX15_init_102 (by decide) ?_
  refine va_cast hx hb hK hP hD hS 6 1 rfl rfl (zx_bn (by decide)) dX15_init_104 (fun H locs hP hD hS => ?_)
  have hP : va_P D vwCl [(m0, .inr (20, [.int th, .ref q_94, .int md, .ref q_95, .ref q_96, .ref q_97, .ref q_98, .ref q_99, .ref q_100])), (q_94, .inr (4, [.int 0, .ref ed, .int 0])), (q_95, .inl (cy 0, 8, .inl (fun _ => 0))), (q_96, .inl (cy 0, 8, .inl f_122)), (q_97, .inl (cy 0, 8, .inl f_123)), (q_98, .inl (cy 0, 8, .inl f_124)), (q_99, .inl (cy 1, 8, .inl (upd f_120 (4 : Int32).toNatClampNeg 115))), (q_100, .inr (4, [.int 0, .ref ed, .int 0]))] H := hP
  have hD : va_D A [(m0, .inr (20, [.int th, .ref q_94, .int md, .ref q_95, .ref q_96, .ref q_97, .ref q_98, .ref q_99, .ref q_100])), (q_94, .inr (4, [.int 0, .ref ed, .int 0])), (q_95, .inl (cy 0, 8, .inl (fun _ => 0))), (q_96, .inl (cy 0, 8, .inl f_122)), (q_97, .inl (cy 0, 8, .inl f_123)), (q_98, .inl (cy 0, 8, .inl f_124)), (q_99, .inl (cy 1, 8, .inl (upd f_120 (4 : Int32).toNatClampNeg 115))), (q_100, .inr (4, [.int 0, .ref ed, .int 0]))] := hD
  obtain ⟨f_125, ef_125⟩ : ∃ z9, z9 = (upd f_120 (4 : Int32).toNatClampNeg 115) := ⟨_, rfl⟩
  rw [← ef_125] at hP hD
  have hf_125 : ∀ j, j < 5 → f_125 j = 115 := by rw [ef_125]; exact (zx_way (i := 4) hf_120)
  clear ef_125
  refine lv_iinc (v := 5) (lv' := [(1, .int 5), (0, .ref m0)]) hx hb dX15_init_105 hl (k := 0) rfl (by decide) (by decide) rfl (fun ls hl => ?_)
  refine lv_goto (tgt := 68) hx hb dX15_init_108 (by decide) ?_
  refine lv_iload_n hx hb dX15_init_68 rfl (lv_at hl 0 rfl) ?_
  refine lv_bipush (v := 8) hx hb dX15_init_69 (by decide) ?_
  refine lv_icmp_ge (tgt := 111) hx hb dX15_init_71 (by decide) (fun c_126 => absurd c_126 (by decide)) (fun _ => ?_)
  refine lv_aload_n hx hb dX15_init_74 rfl (lv_at hl 1 rfl) ?_
  refine va_get (D := D) (ci := 20) (v := .ref q_96) (C := RX15) (T := TX15) (N := 9) hx hb hts (fun w h => zx_Gc (uz_X15 w h)) hown hK hP 0 rfl rfl 4 (by decide) (hts (.fieldLink RX15 20 "RefereehallModel" "needs" "[I") (zx_Gc mm_1575)) (fun _ h9 => h9) rfl dX15_init_75 ?_
  refine lv_iload_n hx hb dX15_init_78 rfl (lv_at hl 0 rfl) ?_
  refine lv_iconst (v := 2) hx hb dX15_init_79 (by decide) ?_
  refine va_iast hx hb hK hP hD hS 3 0 rfl rfl (zx_bn (by decide)) dX15_init_80 (fun H locs hP hD hS => ?_)
  have hP : va_P D vwCl [(m0, .inr (20, [.int th, .ref q_94, .int md, .ref q_95, .ref q_96, .ref q_97, .ref q_98, .ref q_99, .ref q_100])), (q_94, .inr (4, [.int 0, .ref ed, .int 0])), (q_95, .inl (cy 0, 8, .inl (fun _ => 0))), (q_96, .inl (cy 0, 8, .inl (upd f_122 (5 : Int32).toNatClampNeg 2))), (q_97, .inl (cy 0, 8, .inl f_123)), (q_98, .inl (cy 0, 8, .inl f_124)), (q_99, .inl (cy 1, 8, .inl f_125)), (q_100, .inr (4, [.int 0, .ref ed, .int 0]))] H := hP
  have hD : va_D A [(m0, .inr (20, [.int th, .ref q_94, .int md, .ref q_95, .ref q_96, .ref q_97, .ref q_98, .ref q_99, .ref q_100])), (q_94, .inr (4, [.int 0, .ref ed, .int 0])), (q_95, .inl (cy 0, 8, .inl (fun _ => 0))), (q_96, .inl (cy 0, 8, .inl (upd f_122 (5 : Int32).toNatClampNeg 2))), (q_97, .inl (cy 0, 8, .inl f_123)), (q_98, .inl (cy 0, 8, .inl f_124)), (q_99, .inl (cy 1, 8, .inl f_125)), (q_100, .inr (4, [.int 0, .ref ed, .int 0]))] := hD
  obtain ⟨f_127, ef_127⟩ : ∃ z9, z9 = (upd f_122 (5 : Int32).toNatClampNeg 2) := ⟨_, rfl⟩
  rw [← ef_127] at hP hD
  clear ef_127
  refine lv_aload_n hx hb dX15_init_81 rfl (lv_at hl 1 rfl) ?_
  refine va_get (D := D) (ci := 20) (v := .ref q_97) (C := RX15) (T := TX15) (N := 9) hx hb hts (fun w h => zx_Gc (uz_X15 w h)) hown hK hP 0 rfl rfl 5 (by decide) (hts (.fieldLink RX15 23 "RefereehallModel" "accepts" "[I") (zx_Gc mm_1576)) (fun _ h9 => h9) rfl dX15_init_82 ?_
  refine lv_iload_n hx hb dX15_init_85 rfl (lv_at hl 0 rfl) ?_
  refine lv_bipush (v := 50) hx hb dX15_init_86 (by decide) ?_
  refine va_iast hx hb hK hP hD hS 4 0 rfl rfl (zx_bn (by decide)) dX15_init_88 (fun H locs hP hD hS => ?_)
  have hP : va_P D vwCl [(m0, .inr (20, [.int th, .ref q_94, .int md, .ref q_95, .ref q_96, .ref q_97, .ref q_98, .ref q_99, .ref q_100])), (q_94, .inr (4, [.int 0, .ref ed, .int 0])), (q_95, .inl (cy 0, 8, .inl (fun _ => 0))), (q_96, .inl (cy 0, 8, .inl f_127)), (q_97, .inl (cy 0, 8, .inl (upd f_123 (5 : Int32).toNatClampNeg 50))), (q_98, .inl (cy 0, 8, .inl f_124)), (q_99, .inl (cy 1, 8, .inl f_125)), (q_100, .inr (4, [.int 0, .ref ed, .int 0]))] H := hP
  have hD : va_D A [(m0, .inr (20, [.int th, .ref q_94, .int md, .ref q_95, .ref q_96, .ref q_97, .ref q_98, .ref q_99, .ref q_100])), (q_94, .inr (4, [.int 0, .ref ed, .int 0])), (q_95, .inl (cy 0, 8, .inl (fun _ => 0))), (q_96, .inl (cy 0, 8, .inl f_127)), (q_97, .inl (cy 0, 8, .inl (upd f_123 (5 : Int32).toNatClampNeg 50))), (q_98, .inl (cy 0, 8, .inl f_124)), (q_99, .inl (cy 1, 8, .inl f_125)), (q_100, .inr (4, [.int 0, .ref ed, .int 0]))] := hD
  obtain ⟨f_128, ef_128⟩ : ∃ z9, z9 = (upd f_123 (5 : Int32).toNatClampNeg 50) := ⟨_, rfl⟩
  rw [← ef_128] at hP hD
  clear ef_128
  refine lv_aload_n hx hb dX15_init_89 rfl (lv_at hl 1 rfl) ?_
  refine va_get (D := D) (ci := 20) (v := .ref q_98) (C := RX15) (T := TX15) (N := 9) hx hb hts (fun w h => zx_Gc (uz_X15 w h)) hown hK hP 0 rfl rfl 6 (by decide) (hts (.fieldLink RX15 26 "RefereehallModel" "rejects" "[I") (zx_Gc mm_1577)) (fun _ h9 => h9) rfl dX15_init_90 ?_
  refine lv_iload_n hx hb dX15_init_93 rfl (lv_at hl 0 rfl) ?_
  refine lv_bipush (v := 35) hx hb dX15_init_94 (by decide) ?_
  refine va_iast hx hb hK hP hD hS 5 0 rfl rfl (zx_bn (by decide)) dX15_init_96 (fun H locs hP hD hS => ?_)
  have hP : va_P D vwCl [(m0, .inr (20, [.int th, .ref q_94, .int md, .ref q_95, .ref q_96, .ref q_97, .ref q_98, .ref q_99, .ref q_100])), (q_94, .inr (4, [.int 0, .ref ed, .int 0])), (q_95, .inl (cy 0, 8, .inl (fun _ => 0))), (q_96, .inl (cy 0, 8, .inl f_127)), (q_97, .inl (cy 0, 8, .inl f_128)), (q_98, .inl (cy 0, 8, .inl (upd f_124 (5 : Int32).toNatClampNeg 35))), (q_99, .inl (cy 1, 8, .inl f_125)), (q_100, .inr (4, [.int 0, .ref ed, .int 0]))] H := hP
  have hD : va_D A [(m0, .inr (20, [.int th, .ref q_94, .int md, .ref q_95, .ref q_96, .ref q_97, .ref q_98, .ref q_99, .ref q_100])), (q_94, .inr (4, [.int 0, .ref ed, .int 0])), (q_95, .inl (cy 0, 8, .inl (fun _ => 0))), (q_96, .inl (cy 0, 8, .inl f_127)), (q_97, .inl (cy 0, 8, .inl f_128)), (q_98, .inl (cy 0, 8, .inl (upd f_124 (5 : Int32).toNatClampNeg 35))), (q_99, .inl (cy 1, 8, .inl f_125)), (q_100, .inr (4, [.int 0, .ref ed, .int 0]))] := hD
  obtain ⟨f_129, ef_129⟩ : ∃ z9, z9 = (upd f_124 (5 : Int32).toNatClampNeg 35) := ⟨_, rfl⟩
  rw [← ef_129] at hP hD
  clear ef_129
  refine lv_aload_n hx hb dX15_init_97 rfl (lv_at hl 1 rfl) ?_
  refine va_get (D := D) (ci := 20) (v := .ref q_99) (C := RX15) (T := TX15) (N := 9) hx hb hts (fun w h => zx_Gc (uz_X15 w h)) hown hK hP 0 rfl rfl 7 (by decide) (hts (.fieldLink RX15 29 "RefereehallModel" "way" "[C") (zx_Gc mm_1578)) (fun _ h9 => h9) rfl dX15_init_98 ?_
  refine lv_iload_n hx hb dX15_init_101 rfl (lv_at hl 0 rfl) ?_
  refine lv_bipush (v := 115) hx hb dX15_init_102 (by decide) ?_
  refine va_cast hx hb hK hP hD hS 6 1 rfl rfl (zx_bn (by decide)) dX15_init_104 (fun H locs hP hD hS => ?_)
  have hP : va_P D vwCl [(m0, .inr (20, [.int th, .ref q_94, .int md, .ref q_95, .ref q_96, .ref q_97, .ref q_98, .ref q_99, .ref q_100])), (q_94, .inr (4, [.int 0, .ref ed, .int 0])), (q_95, .inl (cy 0, 8, .inl (fun _ => 0))), (q_96, .inl (cy 0, 8, .inl f_127)), (q_97, .inl (cy 0, 8, .inl f_128)), (q_98, .inl (cy 0, 8, .inl f_129)), (q_99, .inl (cy 1, 8, .inl (upd f_125 (5 : Int32).toNatClampNeg 115))), (q_100, .inr (4, [.int 0, .ref ed, .int 0]))] H := hP
  have hD : va_D A [(m0, .inr (20, [.int th, .ref q_94, .int md, .ref q_95, .ref q_96, .ref q_97, .ref q_98, .ref q_99, .ref q_100])), (q_94, .inr (4, [.int 0, .ref ed, .int 0])), (q_95, .inl (cy 0, 8, .inl (fun _ => 0))), (q_96, .inl (cy 0, 8, .inl f_127)), (q_97, .inl (cy 0, 8, .inl f_128)), (q_98, .inl (cy 0, 8, .inl f_129)), (q_99, .inl (cy 1, 8, .inl (upd f_125 (5 : Int32).toNatClampNeg 115))), (q_100, .inr (4, [.int 0, .ref ed, .int 0]))] := hD
  obtain ⟨f_130, ef_130⟩ : ∃ z9, z9 = (upd f_125 (5 : Int32).toNatClampNeg 115) := ⟨_, rfl⟩
  rw [← ef_130] at hP hD
  have hf_130 : ∀ j, j < 6 → f_130 j = 115 := by rw [ef_130]; exact (zx_way (i := 5) hf_125)
  clear ef_130
  refine lv_iinc (v := 6) (lv' := [(1, .int 6), (0, .ref m0)]) hx hb dX15_init_105 hl (k := 0) rfl (by decide) (by decide) rfl (fun ls hl => ?_)
  refine lv_goto (tgt := 68) hx hb dX15_init_108 (by decide) ?_
  refine lv_iload_n hx hb dX15_init_68 rfl (lv_at hl 0 rfl) ?_
  refine lv_bipush (v := 8) hx hb dX15_init_69 (by decide) ?_
  refine lv_icmp_ge (tgt := 111) hx hb dX15_init_71 (by decide) (fun c_131 => absurd c_131 (by decide)) (fun _ => ?_)
  refine lv_aload_n hx hb dX15_init_74 rfl (lv_at hl 1 rfl) ?_
  refine va_get (D := D) (ci := 20) (v := .ref q_96) (C := RX15) (T := TX15) (N := 9) hx hb hts (fun w h => zx_Gc (uz_X15 w h)) hown hK hP 0 rfl rfl 4 (by decide) (hts (.fieldLink RX15 20 "RefereehallModel" "needs" "[I") (zx_Gc mm_1575)) (fun _ h9 => h9) rfl dX15_init_75 ?_
  refine lv_iload_n hx hb dX15_init_78 rfl (lv_at hl 0 rfl) ?_
  refine lv_iconst (v := 2) hx hb dX15_init_79 (by decide) ?_
  refine va_iast hx hb hK hP hD hS 3 0 rfl rfl (zx_bn (by decide)) dX15_init_80 (fun H locs hP hD hS => ?_)
  have hP : va_P D vwCl [(m0, .inr (20, [.int th, .ref q_94, .int md, .ref q_95, .ref q_96, .ref q_97, .ref q_98, .ref q_99, .ref q_100])), (q_94, .inr (4, [.int 0, .ref ed, .int 0])), (q_95, .inl (cy 0, 8, .inl (fun _ => 0))), (q_96, .inl (cy 0, 8, .inl (upd f_127 (6 : Int32).toNatClampNeg 2))), (q_97, .inl (cy 0, 8, .inl f_128)), (q_98, .inl (cy 0, 8, .inl f_129)), (q_99, .inl (cy 1, 8, .inl f_130)), (q_100, .inr (4, [.int 0, .ref ed, .int 0]))] H := hP
  have hD : va_D A [(m0, .inr (20, [.int th, .ref q_94, .int md, .ref q_95, .ref q_96, .ref q_97, .ref q_98, .ref q_99, .ref q_100])), (q_94, .inr (4, [.int 0, .ref ed, .int 0])), (q_95, .inl (cy 0, 8, .inl (fun _ => 0))), (q_96, .inl (cy 0, 8, .inl (upd f_127 (6 : Int32).toNatClampNeg 2))), (q_97, .inl (cy 0, 8, .inl f_128)), (q_98, .inl (cy 0, 8, .inl f_129)), (q_99, .inl (cy 1, 8, .inl f_130)), (q_100, .inr (4, [.int 0, .ref ed, .int 0]))] := hD
  obtain ⟨f_132, ef_132⟩ : ∃ z9, z9 = (upd f_127 (6 : Int32).toNatClampNeg 2) := ⟨_, rfl⟩
  rw [← ef_132] at hP hD
  clear ef_132
  refine lv_aload_n hx hb dX15_init_81 rfl (lv_at hl 1 rfl) ?_
  refine va_get (D := D) (ci := 20) (v := .ref q_97) (C := RX15) (T := TX15) (N := 9) hx hb hts (fun w h => zx_Gc (uz_X15 w h)) hown hK hP 0 rfl rfl 5 (by decide) (hts (.fieldLink RX15 23 "RefereehallModel" "accepts" "[I") (zx_Gc mm_1576)) (fun _ h9 => h9) rfl dX15_init_82 ?_
  refine lv_iload_n hx hb dX15_init_85 rfl (lv_at hl 0 rfl) ?_
  refine lv_bipush (v := 50) hx hb dX15_init_86 (by decide) ?_
  refine va_iast hx hb hK hP hD hS 4 0 rfl rfl (zx_bn (by decide)) dX15_init_88 (fun H locs hP hD hS => ?_)
  have hP : va_P D vwCl [(m0, .inr (20, [.int th, .ref q_94, .int md, .ref q_95, .ref q_96, .ref q_97, .ref q_98, .ref q_99, .ref q_100])), (q_94, .inr (4, [.int 0, .ref ed, .int 0])), (q_95, .inl (cy 0, 8, .inl (fun _ => 0))), (q_96, .inl (cy 0, 8, .inl f_132)), (q_97, .inl (cy 0, 8, .inl (upd f_128 (6 : Int32).toNatClampNeg 50))), (q_98, .inl (cy 0, 8, .inl f_129)), (q_99, .inl (cy 1, 8, .inl f_130)), (q_100, .inr (4, [.int 0, .ref ed, .int 0]))] H := hP
  have hD : va_D A [(m0, .inr (20, [.int th, .ref q_94, .int md, .ref q_95, .ref q_96, .ref q_97, .ref q_98, .ref q_99, .ref q_100])), (q_94, .inr (4, [.int 0, .ref ed, .int 0])), (q_95, .inl (cy 0, 8, .inl (fun _ => 0))), (q_96, .inl (cy 0, 8, .inl f_132)), (q_97, .inl (cy 0, 8, .inl (upd f_128 (6 : Int32).toNatClampNeg 50))), (q_98, .inl (cy 0, 8, .inl f_129)), (q_99, .inl (cy 1, 8, .inl f_130)), (q_100, .inr (4, [.int 0, .ref ed, .int 0]))] := hD
  obtain ⟨f_133, ef_133⟩ : ∃ z9, z9 = (upd f_128 (6 : Int32).toNatClampNeg 50) := ⟨_, rfl⟩
  rw [← ef_133] at hP hD
  clear ef_133
  refine lv_aload_n hx hb dX15_init_89 rfl (lv_at hl 1 rfl) ?_
  refine va_get (D := D) (ci := 20) (v := .ref q_98) (C := RX15) (T := TX15) (N := 9) hx hb hts (fun w h => zx_Gc (uz_X15 w h)) hown hK hP 0 rfl rfl 6 (by decide) (hts (.fieldLink RX15 26 "RefereehallModel" "rejects" "[I") (zx_Gc mm_1577)) (fun _ h9 => h9) rfl dX15_init_90 ?_
  refine lv_iload_n hx hb dX15_init_93 rfl (lv_at hl 0 rfl) ?_
  refine lv_bipush (v := 35) hx hb dX15_init_94 (by decide) ?_
  refine va_iast hx hb hK hP hD hS 5 0 rfl rfl (zx_bn (by decide)) dX15_init_96 (fun H locs hP hD hS => ?_)
  have hP : va_P D vwCl [(m0, .inr (20, [.int th, .ref q_94, .int md, .ref q_95, .ref q_96, .ref q_97, .ref q_98, .ref q_99, .ref q_100])), (q_94, .inr (4, [.int 0, .ref ed, .int 0])), (q_95, .inl (cy 0, 8, .inl (fun _ => 0))), (q_96, .inl (cy 0, 8, .inl f_132)), (q_97, .inl (cy 0, 8, .inl f_133)), (q_98, .inl (cy 0, 8, .inl (upd f_129 (6 : Int32).toNatClampNeg 35))), (q_99, .inl (cy 1, 8, .inl f_130)), (q_100, .inr (4, [.int 0, .ref ed, .int 0]))] H := hP
  have hD : va_D A [(m0, .inr (20, [.int th, .ref q_94, .int md, .ref q_95, .ref q_96, .ref q_97, .ref q_98, .ref q_99, .ref q_100])), (q_94, .inr (4, [.int 0, .ref ed, .int 0])), (q_95, .inl (cy 0, 8, .inl (fun _ => 0))), (q_96, .inl (cy 0, 8, .inl f_132)), (q_97, .inl (cy 0, 8, .inl f_133)), (q_98, .inl (cy 0, 8, .inl (upd f_129 (6 : Int32).toNatClampNeg 35))), (q_99, .inl (cy 1, 8, .inl f_130)), (q_100, .inr (4, [.int 0, .ref ed, .int 0]))] := hD
  obtain ⟨f_134, ef_134⟩ : ∃ z9, z9 = (upd f_129 (6 : Int32).toNatClampNeg 35) := ⟨_, rfl⟩
  rw [← ef_134] at hP hD
  clear ef_134
  refine lv_aload_n hx hb dX15_init_97 rfl (lv_at hl 1 rfl) ?_
  refine va_get (D := D) (ci := 20) (v := .ref q_99) (C := RX15) (T := TX15) (N := 9) hx hb hts (fun w h => zx_Gc (uz_X15 w h)) hown hK hP 0 rfl rfl 7 (by decide) (hts (.fieldLink RX15 29 "RefereehallModel" "way" "[C") (zx_Gc mm_1578)) (fun _ h9 => h9) rfl dX15_init_98 ?_
  refine lv_iload_n hx hb dX15_init_101 rfl (lv_at hl 0 rfl) ?_
  refine lv_bipush (v := 115) hx hb dX15_init_102 (by decide) ?_
  refine va_cast hx hb hK hP hD hS 6 1 rfl rfl (zx_bn (by decide)) dX15_init_104 (fun H locs hP hD hS => ?_)
  have hP : va_P D vwCl [(m0, .inr (20, [.int th, .ref q_94, .int md, .ref q_95, .ref q_96, .ref q_97, .ref q_98, .ref q_99, .ref q_100])), (q_94, .inr (4, [.int 0, .ref ed, .int 0])), (q_95, .inl (cy 0, 8, .inl (fun _ => 0))), (q_96, .inl (cy 0, 8, .inl f_132)), (q_97, .inl (cy 0, 8, .inl f_133)), (q_98, .inl (cy 0, 8, .inl f_134)), (q_99, .inl (cy 1, 8, .inl (upd f_130 (6 : Int32).toNatClampNeg 115))), (q_100, .inr (4, [.int 0, .ref ed, .int 0]))] H := hP
  have hD : va_D A [(m0, .inr (20, [.int th, .ref q_94, .int md, .ref q_95, .ref q_96, .ref q_97, .ref q_98, .ref q_99, .ref q_100])), (q_94, .inr (4, [.int 0, .ref ed, .int 0])), (q_95, .inl (cy 0, 8, .inl (fun _ => 0))), (q_96, .inl (cy 0, 8, .inl f_132)), (q_97, .inl (cy 0, 8, .inl f_133)), (q_98, .inl (cy 0, 8, .inl f_134)), (q_99, .inl (cy 1, 8, .inl (upd f_130 (6 : Int32).toNatClampNeg 115))), (q_100, .inr (4, [.int 0, .ref ed, .int 0]))] := hD
  obtain ⟨f_135, ef_135⟩ : ∃ z9, z9 = (upd f_130 (6 : Int32).toNatClampNeg 115) := ⟨_, rfl⟩
  rw [← ef_135] at hP hD
  have hf_135 : ∀ j, j < 7 → f_135 j = 115 := by rw [ef_135]; exact (zx_way (i := 6) hf_130)
  clear ef_135
  refine lv_iinc (v := 7) (lv' := [(1, .int 7), (0, .ref m0)]) hx hb dX15_init_105 hl (k := 0) rfl (by decide) (by decide) rfl (fun ls hl => ?_)
  refine lv_goto (tgt := 68) hx hb dX15_init_108 (by decide) ?_
  refine lv_iload_n hx hb dX15_init_68 rfl (lv_at hl 0 rfl) ?_
  refine lv_bipush (v := 8) hx hb dX15_init_69 (by decide) ?_
  refine lv_icmp_ge (tgt := 111) hx hb dX15_init_71 (by decide) (fun c_136 => absurd c_136 (by decide)) (fun _ => ?_)
  refine lv_aload_n hx hb dX15_init_74 rfl (lv_at hl 1 rfl) ?_
  refine va_get (D := D) (ci := 20) (v := .ref q_96) (C := RX15) (T := TX15) (N := 9) hx hb hts (fun w h => zx_Gc (uz_X15 w h)) hown hK hP 0 rfl rfl 4 (by decide) (hts (.fieldLink RX15 20 "RefereehallModel" "needs" "[I") (zx_Gc mm_1575)) (fun _ h9 => h9) rfl dX15_init_75 ?_
  refine lv_iload_n hx hb dX15_init_78 rfl (lv_at hl 0 rfl) ?_
  refine lv_iconst (v := 2) hx hb dX15_init_79 (by decide) ?_
  refine va_iast hx hb hK hP hD hS 3 0 rfl rfl (zx_bn (by decide)) dX15_init_80 (fun H locs hP hD hS => ?_)
  have hP : va_P D vwCl [(m0, .inr (20, [.int th, .ref q_94, .int md, .ref q_95, .ref q_96, .ref q_97, .ref q_98, .ref q_99, .ref q_100])), (q_94, .inr (4, [.int 0, .ref ed, .int 0])), (q_95, .inl (cy 0, 8, .inl (fun _ => 0))), (q_96, .inl (cy 0, 8, .inl (upd f_132 (7 : Int32).toNatClampNeg 2))), (q_97, .inl (cy 0, 8, .inl f_133)), (q_98, .inl (cy 0, 8, .inl f_134)), (q_99, .inl (cy 1, 8, .inl f_135)), (q_100, .inr (4, [.int 0, .ref ed, .int 0]))] H := hP
  have hD : va_D A [(m0, .inr (20, [.int th, .ref q_94, .int md, .ref q_95, .ref q_96, .ref q_97, .ref q_98, .ref q_99, .ref q_100])), (q_94, .inr (4, [.int 0, .ref ed, .int 0])), (q_95, .inl (cy 0, 8, .inl (fun _ => 0))), (q_96, .inl (cy 0, 8, .inl (upd f_132 (7 : Int32).toNatClampNeg 2))), (q_97, .inl (cy 0, 8, .inl f_133)), (q_98, .inl (cy 0, 8, .inl f_134)), (q_99, .inl (cy 1, 8, .inl f_135)), (q_100, .inr (4, [.int 0, .ref ed, .int 0]))] := hD
  obtain ⟨f_137, ef_137⟩ : ∃ z9, z9 = (upd f_132 (7 : Int32).toNatClampNeg 2) := ⟨_, rfl⟩
  rw [← ef_137] at hP hD
  clear ef_137
  refine lv_aload_n hx hb dX15_init_81 rfl (lv_at hl 1 rfl) ?_
  refine va_get (D := D) (ci := 20) (v := .ref q_97) (C := RX15) (T := TX15) (N := 9) hx hb hts (fun w h => zx_Gc (uz_X15 w h)) hown hK hP 0 rfl rfl 5 (by decide) (hts (.fieldLink RX15 23 "RefereehallModel" "accepts" "[I") (zx_Gc mm_1576)) (fun _ h9 => h9) rfl dX15_init_82 ?_
  refine lv_iload_n hx hb dX15_init_85 rfl (lv_at hl 0 rfl) ?_
  refine lv_bipush (v := 50) hx hb dX15_init_86 (by decide) ?_
  refine va_iast hx hb hK hP hD hS 4 0 rfl rfl (zx_bn (by decide)) dX15_init_88 (fun H locs hP hD hS => ?_)
  have hP : va_P D vwCl [(m0, .inr (20, [.int th, .ref q_94, .int md, .ref q_95, .ref q_96, .ref q_97, .ref q_98, .ref q_99, .ref q_100])), (q_94, .inr (4, [.int 0, .ref ed, .int 0])), (q_95, .inl (cy 0, 8, .inl (fun _ => 0))), (q_96, .inl (cy 0, 8, .inl f_137)), (q_97, .inl (cy 0, 8, .inl (upd f_133 (7 : Int32).toNatClampNeg 50))), (q_98, .inl (cy 0, 8, .inl f_134)), (q_99, .inl (cy 1, 8, .inl f_135)), (q_100, .inr (4, [.int 0, .ref ed, .int 0]))] H := hP
  have hD : va_D A [(m0, .inr (20, [.int th, .ref q_94, .int md, .ref q_95, .ref q_96, .ref q_97, .ref q_98, .ref q_99, .ref q_100])), (q_94, .inr (4, [.int 0, .ref ed, .int 0])), (q_95, .inl (cy 0, 8, .inl (fun _ => 0))), (q_96, .inl (cy 0, 8, .inl f_137)), (q_97, .inl (cy 0, 8, .inl (upd f_133 (7 : Int32).toNatClampNeg 50))), (q_98, .inl (cy 0, 8, .inl f_134)), (q_99, .inl (cy 1, 8, .inl f_135)), (q_100, .inr (4, [.int 0, .ref ed, .int 0]))] := hD
  obtain ⟨f_138, ef_138⟩ : ∃ z9, z9 = (upd f_133 (7 : Int32).toNatClampNeg 50) := ⟨_, rfl⟩
  rw [← ef_138] at hP hD
  clear ef_138
  refine lv_aload_n hx hb dX15_init_89 rfl (lv_at hl 1 rfl) ?_
  refine va_get (D := D) (ci := 20) (v := .ref q_98) (C := RX15) (T := TX15) (N := 9) hx hb hts (fun w h => zx_Gc (uz_X15 w h)) hown hK hP 0 rfl rfl 6 (by decide) (hts (.fieldLink RX15 26 "RefereehallModel" "rejects" "[I") (zx_Gc mm_1577)) (fun _ h9 => h9) rfl dX15_init_90 ?_
  refine lv_iload_n hx hb dX15_init_93 rfl (lv_at hl 0 rfl) ?_
  refine lv_bipush (v := 35) hx hb dX15_init_94 (by decide) ?_
  refine va_iast hx hb hK hP hD hS 5 0 rfl rfl (zx_bn (by decide)) dX15_init_96 (fun H locs hP hD hS => ?_)
  have hP : va_P D vwCl [(m0, .inr (20, [.int th, .ref q_94, .int md, .ref q_95, .ref q_96, .ref q_97, .ref q_98, .ref q_99, .ref q_100])), (q_94, .inr (4, [.int 0, .ref ed, .int 0])), (q_95, .inl (cy 0, 8, .inl (fun _ => 0))), (q_96, .inl (cy 0, 8, .inl f_137)), (q_97, .inl (cy 0, 8, .inl f_138)), (q_98, .inl (cy 0, 8, .inl (upd f_134 (7 : Int32).toNatClampNeg 35))), (q_99, .inl (cy 1, 8, .inl f_135)), (q_100, .inr (4, [.int 0, .ref ed, .int 0]))] H := hP
  have hD : va_D A [(m0, .inr (20, [.int th, .ref q_94, .int md, .ref q_95, .ref q_96, .ref q_97, .ref q_98, .ref q_99, .ref q_100])), (q_94, .inr (4, [.int 0, .ref ed, .int 0])), (q_95, .inl (cy 0, 8, .inl (fun _ => 0))), (q_96, .inl (cy 0, 8, .inl f_137)), (q_97, .inl (cy 0, 8, .inl f_138)), (q_98, .inl (cy 0, 8, .inl (upd f_134 (7 : Int32).toNatClampNeg 35))), (q_99, .inl (cy 1, 8, .inl f_135)), (q_100, .inr (4, [.int 0, .ref ed, .int 0]))] := hD
  obtain ⟨f_139, ef_139⟩ : ∃ z9, z9 = (upd f_134 (7 : Int32).toNatClampNeg 35) := ⟨_, rfl⟩
  rw [← ef_139] at hP hD
  clear ef_139
  refine lv_aload_n hx hb dX15_init_97 rfl (lv_at hl 1 rfl) ?_
  refine va_get (D := D) (ci := 20) (v := .ref q_99) (C := RX15) (T := TX15) (N := 9) hx hb hts (fun w h => zx_Gc (uz_X15 w h)) hown hK hP 0 rfl rfl 7 (by decide) (hts (.fieldLink RX15 29 "RefereehallModel" "way" "[C") (zx_Gc mm_1578)) (fun _ h9 => h9) rfl dX15_init_98 ?_
  refine lv_iload_n hx hb dX15_init_101 rfl (lv_at hl 0 rfl) ?_
  refine lv_bipush (v := 115) hx hb dX15_init_102 (by decide) ?_
  refine va_cast hx hb hK hP hD hS 6 1 rfl rfl (zx_bn (by decide)) dX15_init_104 (fun H locs hP hD hS => ?_)
  have hP : va_P D vwCl [(m0, .inr (20, [.int th, .ref q_94, .int md, .ref q_95, .ref q_96, .ref q_97, .ref q_98, .ref q_99, .ref q_100])), (q_94, .inr (4, [.int 0, .ref ed, .int 0])), (q_95, .inl (cy 0, 8, .inl (fun _ => 0))), (q_96, .inl (cy 0, 8, .inl f_137)), (q_97, .inl (cy 0, 8, .inl f_138)), (q_98, .inl (cy 0, 8, .inl f_139)), (q_99, .inl (cy 1, 8, .inl (upd f_135 (7 : Int32).toNatClampNeg 115))), (q_100, .inr (4, [.int 0, .ref ed, .int 0]))] H := hP
  have hD : va_D A [(m0, .inr (20, [.int th, .ref q_94, .int md, .ref q_95, .ref q_96, .ref q_97, .ref q_98, .ref q_99, .ref q_100])), (q_94, .inr (4, [.int 0, .ref ed, .int 0])), (q_95, .inl (cy 0, 8, .inl (fun _ => 0))), (q_96, .inl (cy 0, 8, .inl f_137)), (q_97, .inl (cy 0, 8, .inl f_138)), (q_98, .inl (cy 0, 8, .inl f_139)), (q_99, .inl (cy 1, 8, .inl (upd f_135 (7 : Int32).toNatClampNeg 115))), (q_100, .inr (4, [.int 0, .ref ed, .int 0]))] := hD
  obtain ⟨f_140, ef_140⟩ : ∃ z9, z9 = (upd f_135 (7 : Int32).toNatClampNeg 115) := ⟨_, rfl⟩
  rw [← ef_140] at hP hD
  have hf_140 : ∀ j, j < 8 → f_140 j = 115 := by rw [ef_140]; exact (zx_way (i := 7) hf_135)
  clear ef_140
  refine lv_iinc (v := 8) (lv' := [(1, .int 8), (0, .ref m0)]) hx hb dX15_init_105 hl (k := 0) rfl (by decide) (by decide) rfl (fun ls hl => ?_)
  refine lv_goto (tgt := 68) hx hb dX15_init_108 (by decide) ?_
  refine lv_iload_n hx hb dX15_init_68 rfl (lv_at hl 0 rfl) ?_
  refine lv_bipush (v := 8) hx hb dX15_init_69 (by decide) ?_
  refine lv_icmp_ge (tgt := 111) hx hb dX15_init_71 (by decide) (fun _ => ?_) (fun c_141 => absurd (by decide) c_141)
  have hP9 := hP.sub (ws' := [(m0, .inr (20, [.int th, .ref q_94, .int md, .ref q_95, .ref q_96, .ref q_97, .ref q_98, .ref q_99, .ref q_100])), (q_95, .inl (cy 0, 8, .inl (fun _ => 0))), (q_96, .inl (cy 0, 8, .inl f_137)), (q_97, .inl (cy 0, 8, .inl f_138)), (q_98, .inl (cy 0, 8, .inl f_139)), (q_99, .inl (cy 1, 8, .inl f_140)), (q_94, .inr (4, [.int 0, .ref ed, .int 0])), (q_100, .inr (4, [.int 0, .ref ed, .int 0]))]) [0, 2, 3, 4, 5, 6, 1, 7] rfl
  have hD9 := hD.sub (ws' := [(m0, .inr (20, [.int th, .ref q_94, .int md, .ref q_95, .ref q_96, .ref q_97, .ref q_98, .ref q_99, .ref q_100])), (q_95, .inl (cy 0, 8, .inl (fun _ => 0))), (q_96, .inl (cy 0, 8, .inl f_137)), (q_97, .inl (cy 0, 8, .inl f_138)), (q_98, .inl (cy 0, 8, .inl f_139)), (q_99, .inl (cy 1, 8, .inl f_140)), (q_94, .inr (4, [.int 0, .ref ed, .int 0])), (q_100, .inr (4, [.int 0, .ref ed, .int 0]))]) [0, 2, 3, 4, 5, 6, 1, 7] (by decide) rfl
  exact W.vret hx hb hr (fun t ht hW => ⟨⟨⟨q_94, q_95, q_96, q_97, q_98, q_99, q_100, f_137, f_138, f_139, f_140⟩, rfl, hf_140, zx_fin hP9 hD9 hK ht hW⟩, hS.F ht⟩) hS.2.2 dX15_init_111
