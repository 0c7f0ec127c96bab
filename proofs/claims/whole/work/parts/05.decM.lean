theorem d_M_init_0 : decode m_M_init.2.1 0 = .ok (.aload_n 0, 1) := by decide +kernel
theorem d_M_init_1 : decode m_M_init.2.1 1 = .ok (.invokespecial 1, 3) := by decide +kernel
theorem d_M_init_4 : decode m_M_init.2.1 4 = .ok (.aload_n 0, 1) := by decide +kernel
theorem d_M_init_5 : decode m_M_init.2.1 5 = .ok (.bipush 16, 2) := by decide +kernel
theorem d_M_init_7 : decode m_M_init.2.1 7 = .ok (.newarray .int, 2) := by decide +kernel
theorem d_M_init_9 : decode m_M_init.2.1 9 = .ok (.putfield 7, 3) := by decide +kernel
theorem d_M_init_12 : decode m_M_init.2.1 12 = .ok (.aload_n 0, 1) := by decide +kernel
theorem d_M_init_13 : decode m_M_init.2.1 13 = .ok (.bipush 16, 2) := by decide +kernel
theorem d_M_init_15 : decode m_M_init.2.1 15 = .ok (.newarray .int, 2) := by decide +kernel
theorem d_M_init_17 : decode m_M_init.2.1 17 = .ok (.putfield 13, 3) := by decide +kernel
theorem d_M_init_20 : decode m_M_init.2.1 20 = .ok (.aload_n 0, 1) := by decide +kernel
theorem d_M_init_21 : decode m_M_init.2.1 21 = .ok (.bipush 11, 2) := by decide +kernel
theorem d_M_init_23 : decode m_M_init.2.1 23 = .ok (.newarray .int, 2) := by decide +kernel
theorem d_M_init_25 : decode m_M_init.2.1 25 = .ok (.putfield 16, 3) := by decide +kernel
theorem d_M_init_28 : decode m_M_init.2.1 28 = .ok (.aload_n 0, 1) := by decide +kernel
theorem d_M_init_29 : decode m_M_init.2.1 29 = .ok (.iconst 4, 1) := by decide +kernel
theorem d_M_init_30 : decode m_M_init.2.1 30 = .ok (.putfield 19, 3) := by decide +kernel
theorem d_M_init_33 : decode m_M_init.2.1 33 = .ok (.aload_n 0, 1) := by decide +kernel
theorem d_M_init_34 : decode m_M_init.2.1 34 = .ok (.bipush 24, 2) := by decide +kernel
theorem d_M_init_36 : decode m_M_init.2.1 36 = .ok (.newarray .int, 2) := by decide +kernel
theorem d_M_init_38 : decode m_M_init.2.1 38 = .ok (.putfield 23, 3) := by decide +kernel
theorem d_M_init_41 : decode m_M_init.2.1 41 = .ok (.aload_n 0, 1) := by decide +kernel
theorem d_M_init_42 : decode m_M_init.2.1 42 = .ok (.bipush 16, 2) := by decide +kernel
theorem d_M_init_44 : decode m_M_init.2.1 44 = .ok (.newarray .int, 2) := by decide +kernel
theorem d_M_init_46 : decode m_M_init.2.1 46 = .ok (.putfield 26, 3) := by decide +kernel
theorem d_M_init_49 : decode m_M_init.2.1 49 = .ok (.aload_n 0, 1) := by decide +kernel
theorem d_M_init_50 : decode m_M_init.2.1 50 = .ok (.bipush 60, 2) := by decide +kernel
theorem d_M_init_52 : decode m_M_init.2.1 52 = .ok (.newarray .int, 2) := by decide +kernel
theorem d_M_init_54 : decode m_M_init.2.1 54 = .ok (.putfield 29, 3) := by decide +kernel
theorem d_M_init_57 : decode m_M_init.2.1 57 = .ok (.aload_n 0, 1) := by decide +kernel
theorem d_M_init_58 : decode m_M_init.2.1 58 = .ok (.bipush 12, 2) := by decide +kernel
theorem d_M_init_60 : decode m_M_init.2.1 60 = .ok (.newarray .int, 2) := by decide +kernel
theorem d_M_init_62 : decode m_M_init.2.1 62 = .ok (.putfield 32, 3) := by decide +kernel
theorem d_M_init_65 : decode m_M_init.2.1 65 = .ok (.aload_n 0, 1) := by decide +kernel
theorem d_M_init_66 : decode m_M_init.2.1 66 = .ok (.bipush 12, 2) := by decide +kernel
theorem d_M_init_68 : decode m_M_init.2.1 68 = .ok (.newarray .int, 2) := by decide +kernel
theorem d_M_init_70 : decode m_M_init.2.1 70 = .ok (.putfield 35, 3) := by decide +kernel
theorem d_M_init_73 : decode m_M_init.2.1 73 = .ok (.aload_n 0, 1) := by decide +kernel
theorem d_M_init_74 : decode m_M_init.2.1 74 = .ok (.bipush 12, 2) := by decide +kernel
theorem d_M_init_76 : decode m_M_init.2.1 76 = .ok (.newarray .long, 2) := by decide +kernel
theorem d_M_init_78 : decode m_M_init.2.1 78 = .ok (.putfield 38, 3) := by decide +kernel
theorem d_M_init_81 : decode m_M_init.2.1 81 = .ok (.aload_n 0, 1) := by decide +kernel
theorem d_M_init_82 : decode m_M_init.2.1 82 = .ok (.sipush 160, 3) := by decide +kernel
theorem d_M_init_85 : decode m_M_init.2.1 85 = .ok (.newarray .int, 2) := by decide +kernel
theorem d_M_init_87 : decode m_M_init.2.1 87 = .ok (.putfield 42, 3) := by decide +kernel
theorem d_M_init_90 : decode m_M_init.2.1 90 = .ok (.aload_n 0, 1) := by decide +kernel
theorem d_M_init_91 : decode m_M_init.2.1 91 = .ok (.iconst 2, 1) := by decide +kernel
theorem d_M_init_92 : decode m_M_init.2.1 92 = .ok (.newarray .boolean, 2) := by decide +kernel
theorem d_M_init_94 : decode m_M_init.2.1 94 = .ok (.putfield 45, 3) := by decide +kernel
theorem d_M_init_97 : decode m_M_init.2.1 97 = .ok (.aload_n 0, 1) := by decide +kernel
theorem d_M_init_98 : decode m_M_init.2.1 98 = .ok (.iconst 0, 1) := by decide +kernel
theorem d_M_init_99 : decode m_M_init.2.1 99 = .ok (.putfield 49, 3) := by decide +kernel
theorem d_M_init_102 : decode m_M_init.2.1 102 = .ok (.return_, 1) := by decide +kernel
theorem d_M_in_0 : decode m_M_in.2.1 0 = .ok (.iload_n 0, 1) := by decide +kernel
theorem d_M_in_1 : decode m_M_in.2.1 1 = .ok (.iload_n 1, 1) := by decide +kernel
theorem d_M_in_2 : decode m_M_in.2.1 2 = .ok (.if_icmp .lt 12, 3) := by decide +kernel
theorem d_M_in_5 : decode m_M_in.2.1 5 = .ok (.iload_n 0, 1) := by decide +kernel
theorem d_M_in_6 : decode m_M_in.2.1 6 = .ok (.iload_n 2, 1) := by decide +kernel
theorem d_M_in_7 : decode m_M_in.2.1 7 = .ok (.if_icmp .gt 7, 3) := by decide +kernel
theorem d_M_in_10 : decode m_M_in.2.1 10 = .ok (.iconst 1, 1) := by decide +kernel
theorem d_M_in_11 : decode m_M_in.2.1 11 = .ok (.goto 4, 3) := by decide +kernel
theorem d_M_in_14 : decode m_M_in.2.1 14 = .ok (.iconst 0, 1) := by decide +kernel
theorem d_M_in_15 : decode m_M_in.2.1 15 = .ok (.ireturn, 1) := by decide +kernel
theorem d_M_has_0 : decode m_M_has.2.1 0 = .ok (.iload_n 0, 1) := by decide +kernel
theorem d_M_has_1 : decode m_M_has.2.1 1 = .ok (.iload_n 1, 1) := by decide +kernel
theorem d_M_has_2 : decode m_M_has.2.1 2 = .ok (.ishr, 1) := by decide +kernel
theorem d_M_has_3 : decode m_M_has.2.1 3 = .ok (.iconst 1, 1) := by decide +kernel
theorem d_M_has_4 : decode m_M_has.2.1 4 = .ok (.iand, 1) := by decide +kernel
theorem d_M_has_5 : decode m_M_has.2.1 5 = .ok (.iconst 1, 1) := by decide +kernel
theorem d_M_has_6 : decode m_M_has.2.1 6 = .ok (.if_icmp .ne 7, 3) := by decide +kernel
theorem d_M_has_9 : decode m_M_has.2.1 9 = .ok (.iconst 1, 1) := by decide +kernel
theorem d_M_has_10 : decode m_M_has.2.1 10 = .ok (.goto 4, 3) := by decide +kernel
theorem d_M_has_13 : decode m_M_has.2.1 13 = .ok (.iconst 0, 1) := by decide +kernel
theorem d_M_has_14 : decode m_M_has.2.1 14 = .ok (.ireturn, 1) := by decide +kernel
theorem d_M_bits_0 : decode m_M_bits.2.1 0 = .ok (.iconst 0, 1) := by decide +kernel
theorem d_M_bits_1 : decode m_M_bits.2.1 1 = .ok (.istore_n 1, 1) := by decide +kernel
theorem d_M_bits_2 : decode m_M_bits.2.1 2 = .ok (.iconst 0, 1) := by decide +kernel
theorem d_M_bits_3 : decode m_M_bits.2.1 3 = .ok (.istore_n 2, 1) := by decide +kernel
theorem d_M_bits_4 : decode m_M_bits.2.1 4 = .ok (.iload_n 2, 1) := by decide +kernel
theorem d_M_bits_5 : decode m_M_bits.2.1 5 = .ok (.bipush 12, 2) := by decide +kernel
theorem d_M_bits_7 : decode m_M_bits.2.1 7 = .ok (.if_icmp .ge 17, 3) := by decide +kernel
theorem d_M_bits_10 : decode m_M_bits.2.1 10 = .ok (.iload_n 1, 1) := by decide +kernel
theorem d_M_bits_11 : decode m_M_bits.2.1 11 = .ok (.iload_n 0, 1) := by decide +kernel
theorem d_M_bits_12 : decode m_M_bits.2.1 12 = .ok (.iload_n 2, 1) := by decide +kernel
theorem d_M_bits_13 : decode m_M_bits.2.1 13 = .ok (.ishr, 1) := by decide +kernel
theorem d_M_bits_14 : decode m_M_bits.2.1 14 = .ok (.iconst 1, 1) := by decide +kernel
theorem d_M_bits_15 : decode m_M_bits.2.1 15 = .ok (.iand, 1) := by decide +kernel
theorem d_M_bits_16 : decode m_M_bits.2.1 16 = .ok (.iadd, 1) := by decide +kernel
theorem d_M_bits_17 : decode m_M_bits.2.1 17 = .ok (.istore_n 1, 1) := by decide +kernel
theorem d_M_bits_18 : decode m_M_bits.2.1 18 = .ok (.iinc 2 1, 3) := by decide +kernel
theorem d_M_bits_21 : decode m_M_bits.2.1 21 = .ok (.goto (-17), 3) := by decide +kernel
theorem d_M_bits_24 : decode m_M_bits.2.1 24 = .ok (.iload_n 1, 1) := by decide +kernel
theorem d_M_bits_25 : decode m_M_bits.2.1 25 = .ok (.ireturn, 1) := by decide +kernel
theorem d_M_isHouse_0 : decode m_M_isHouse.2.1 0 = .ok (.iload_n 0, 1) := by decide +kernel
theorem d_M_isHouse_1 : decode m_M_isHouse.2.1 1 = .ok (.iconst 0, 1) := by decide +kernel
theorem d_M_isHouse_2 : decode m_M_isHouse.2.1 2 = .ok (.bipush 11, 2) := by decide +kernel
theorem d_M_isHouse_4 : decode m_M_isHouse.2.1 4 = .ok (.invokestatic 52, 3) := by decide +kernel
theorem d_M_isHouse_7 : decode m_M_isHouse.2.1 7 = .ok (.ireturn, 1) := by decide +kernel
theorem d_M_house_0 : decode m_M_house.2.1 0 = .ok (.iload_n 1, 1) := by decide +kernel
theorem d_M_house_1 : decode m_M_house.2.1 1 = .ok (.invokestatic 56, 3) := by decide +kernel
theorem d_M_house_4 : decode m_M_house.2.1 4 = .ok (.ifCond .ne 5, 3) := by decide +kernel
theorem d_M_house_7 : decode m_M_house.2.1 7 = .ok (.iconst (-1), 1) := by decide +kernel
theorem d_M_house_8 : decode m_M_house.2.1 8 = .ok (.ireturn, 1) := by decide +kernel
theorem d_M_house_9 : decode m_M_house.2.1 9 = .ok (.iload 4, 2) := by decide +kernel
theorem d_M_house_11 : decode m_M_house.2.1 11 = .ok (.iconst 0, 1) := by decide +kernel
theorem d_M_house_12 : decode m_M_house.2.1 12 = .ok (.sipush 255, 3) := by decide +kernel
theorem d_M_house_15 : decode m_M_house.2.1 15 = .ok (.invokestatic 52, 3) := by decide +kernel
theorem d_M_house_18 : decode m_M_house.2.1 18 = .ok (.ifCond .ne 6, 3) := by decide +kernel
theorem d_M_house_21 : decode m_M_house.2.1 21 = .ok (.bipush (-2), 2) := by decide +kernel
theorem d_M_house_23 : decode m_M_house.2.1 23 = .ok (.ireturn, 1) := by decide +kernel
theorem d_M_house_24 : decode m_M_house.2.1 24 = .ok (.aload_n 0, 1) := by decide +kernel
theorem d_M_house_25 : decode m_M_house.2.1 25 = .ok (.getfield 7, 3) := by decide +kernel
theorem d_M_house_28 : decode m_M_house.2.1 28 = .ok (.iload_n 1, 1) := by decide +kernel
theorem d_M_house_29 : decode m_M_house.2.1 29 = .ok (.iaload, 1) := by decide +kernel
theorem d_M_house_30 : decode m_M_house.2.1 30 = .ok (.istore 5, 2) := by decide +kernel
theorem d_M_house_32 : decode m_M_house.2.1 32 = .ok (.aload_n 0, 1) := by decide +kernel
theorem d_M_house_33 : decode m_M_house.2.1 33 = .ok (.getfield 7, 3) := by decide +kernel
theorem d_M_house_36 : decode m_M_house.2.1 36 = .ok (.iload_n 1, 1) := by decide +kernel
theorem d_M_house_37 : decode m_M_house.2.1 37 = .ok (.iload 4, 2) := by decide +kernel
theorem d_M_house_39 : decode m_M_house.2.1 39 = .ok (.iastore, 1) := by decide +kernel
theorem d_M_house_40 : decode m_M_house.2.1 40 = .ok (.aload_n 0, 1) := by decide +kernel
theorem d_M_house_41 : decode m_M_house.2.1 41 = .ok (.getfield 7, 3) := by decide +kernel
theorem d_M_house_44 : decode m_M_house.2.1 44 = .ok (.bipush 14, 2) := by decide +kernel
theorem d_M_house_46 : decode m_M_house.2.1 46 = .ok (.dup2, 1) := by decide +kernel
theorem d_M_house_47 : decode m_M_house.2.1 47 = .ok (.iaload, 1) := by decide +kernel
theorem d_M_house_48 : decode m_M_house.2.1 48 = .ok (.iconst 1, 1) := by decide +kernel
theorem d_M_house_49 : decode m_M_house.2.1 49 = .ok (.iload_n 1, 1) := by decide +kernel
theorem d_M_house_50 : decode m_M_house.2.1 50 = .ok (.ishl, 1) := by decide +kernel
theorem d_M_house_51 : decode m_M_house.2.1 51 = .ok (.iconst (-1), 1) := by decide +kernel
theorem d_M_house_52 : decode m_M_house.2.1 52 = .ok (.ixor, 1) := by decide +kernel
theorem d_M_house_53 : decode m_M_house.2.1 53 = .ok (.iand, 1) := by decide +kernel
theorem d_M_house_54 : decode m_M_house.2.1 54 = .ok (.iastore, 1) := by decide +kernel
theorem d_M_house_55 : decode m_M_house.2.1 55 = .ok (.aload_n 0, 1) := by decide +kernel
theorem d_M_house_56 : decode m_M_house.2.1 56 = .ok (.getfield 7, 3) := by decide +kernel
theorem d_M_house_59 : decode m_M_house.2.1 59 = .ok (.bipush 14, 2) := by decide +kernel
theorem d_M_house_61 : decode m_M_house.2.1 61 = .ok (.dup2, 1) := by decide +kernel
theorem d_M_house_62 : decode m_M_house.2.1 62 = .ok (.iaload, 1) := by decide +kernel
theorem d_M_house_63 : decode m_M_house.2.1 63 = .ok (.iload_n 2, 1) := by decide +kernel
theorem d_M_house_64 : decode m_M_house.2.1 64 = .ok (.ifCond .eq 9, 3) := by decide +kernel
theorem d_M_house_67 : decode m_M_house.2.1 67 = .ok (.iconst 1, 1) := by decide +kernel
theorem d_M_house_68 : decode m_M_house.2.1 68 = .ok (.iload_n 1, 1) := by decide +kernel
theorem d_M_house_69 : decode m_M_house.2.1 69 = .ok (.ishl, 1) := by decide +kernel
theorem d_M_house_70 : decode m_M_house.2.1 70 = .ok (.goto 4, 3) := by decide +kernel
theorem d_M_house_73 : decode m_M_house.2.1 73 = .ok (.iconst 0, 1) := by decide +kernel
theorem d_M_house_74 : decode m_M_house.2.1 74 = .ok (.ior, 1) := by decide +kernel
theorem d_M_house_75 : decode m_M_house.2.1 75 = .ok (.iastore, 1) := by decide +kernel
theorem d_M_house_76 : decode m_M_house.2.1 76 = .ok (.aload_n 0, 1) := by decide +kernel
theorem d_M_house_77 : decode m_M_house.2.1 77 = .ok (.dup, 1) := by decide +kernel
theorem d_M_house_78 : decode m_M_house.2.1 78 = .ok (.getfield 49, 3) := by decide +kernel
theorem d_M_house_81 : decode m_M_house.2.1 81 = .ok (.iconst 1, 1) := by decide +kernel
theorem d_M_house_82 : decode m_M_house.2.1 82 = .ok (.iload_n 1, 1) := by decide +kernel
theorem d_M_house_83 : decode m_M_house.2.1 83 = .ok (.ishl, 1) := by decide +kernel
theorem d_M_house_84 : decode m_M_house.2.1 84 = .ok (.iconst (-1), 1) := by decide +kernel
theorem d_M_house_85 : decode m_M_house.2.1 85 = .ok (.ixor, 1) := by decide +kernel
theorem d_M_house_86 : decode m_M_house.2.1 86 = .ok (.iand, 1) := by decide +kernel
theorem d_M_house_87 : decode m_M_house.2.1 87 = .ok (.putfield 49, 3) := by decide +kernel
theorem d_M_house_90 : decode m_M_house.2.1 90 = .ok (.aload_n 0, 1) := by decide +kernel
theorem d_M_house_91 : decode m_M_house.2.1 91 = .ok (.dup, 1) := by decide +kernel
theorem d_M_house_92 : decode m_M_house.2.1 92 = .ok (.getfield 49, 3) := by decide +kernel
theorem d_M_house_95 : decode m_M_house.2.1 95 = .ok (.iload_n 3, 1) := by decide +kernel
theorem d_M_house_96 : decode m_M_house.2.1 96 = .ok (.ifCond .eq 9, 3) := by decide +kernel
theorem d_M_house_99 : decode m_M_house.2.1 99 = .ok (.iconst 1, 1) := by decide +kernel
theorem d_M_house_100 : decode m_M_house.2.1 100 = .ok (.iload_n 1, 1) := by decide +kernel
theorem d_M_house_101 : decode m_M_house.2.1 101 = .ok (.ishl, 1) := by decide +kernel
theorem d_M_house_102 : decode m_M_house.2.1 102 = .ok (.goto 4, 3) := by decide +kernel
theorem d_M_house_105 : decode m_M_house.2.1 105 = .ok (.iconst 0, 1) := by decide +kernel
theorem d_M_house_106 : decode m_M_house.2.1 106 = .ok (.ior, 1) := by decide +kernel
theorem d_M_house_107 : decode m_M_house.2.1 107 = .ok (.putfield 49, 3) := by decide +kernel
theorem d_M_house_110 : decode m_M_house.2.1 110 = .ok (.iload 5, 2) := by decide +kernel
theorem d_M_house_112 : decode m_M_house.2.1 112 = .ok (.ireturn, 1) := by decide +kernel
theorem d_M_wall_0 : decode m_M_wall.2.1 0 = .ok (.iload_n 1, 1) := by decide +kernel
theorem d_M_wall_1 : decode m_M_wall.2.1 1 = .ok (.iconst 0, 1) := by decide +kernel
theorem d_M_wall_2 : decode m_M_wall.2.1 2 = .ok (.bipush 10, 2) := by decide +kernel
theorem d_M_wall_4 : decode m_M_wall.2.1 4 = .ok (.invokestatic 52, 3) := by decide +kernel
theorem d_M_wall_7 : decode m_M_wall.2.1 7 = .ok (.ifCond .ne 5, 3) := by decide +kernel
theorem d_M_wall_10 : decode m_M_wall.2.1 10 = .ok (.iconst (-1), 1) := by decide +kernel
theorem d_M_wall_11 : decode m_M_wall.2.1 11 = .ok (.ireturn, 1) := by decide +kernel
theorem d_M_wall_12 : decode m_M_wall.2.1 12 = .ok (.iload_n 2, 1) := by decide +kernel
theorem d_M_wall_13 : decode m_M_wall.2.1 13 = .ok (.iconst 0, 1) := by decide +kernel
theorem d_M_wall_14 : decode m_M_wall.2.1 14 = .ok (.bipush 9, 2) := by decide +kernel
theorem d_M_wall_16 : decode m_M_wall.2.1 16 = .ok (.invokestatic 52, 3) := by decide +kernel
theorem d_M_wall_19 : decode m_M_wall.2.1 19 = .ok (.ifCond .ne 6, 3) := by decide +kernel
theorem d_M_wall_22 : decode m_M_wall.2.1 22 = .ok (.bipush (-2), 2) := by decide +kernel
theorem d_M_wall_24 : decode m_M_wall.2.1 24 = .ok (.ireturn, 1) := by decide +kernel
theorem d_M_wall_25 : decode m_M_wall.2.1 25 = .ok (.aload_n 0, 1) := by decide +kernel
theorem d_M_wall_26 : decode m_M_wall.2.1 26 = .ok (.getfield 16, 3) := by decide +kernel
theorem d_M_wall_29 : decode m_M_wall.2.1 29 = .ok (.iload_n 1, 1) := by decide +kernel
theorem d_M_wall_30 : decode m_M_wall.2.1 30 = .ok (.iaload, 1) := by decide +kernel
theorem d_M_wall_31 : decode m_M_wall.2.1 31 = .ok (.istore_n 3, 1) := by decide +kernel
theorem d_M_wall_32 : decode m_M_wall.2.1 32 = .ok (.aload_n 0, 1) := by decide +kernel
theorem d_M_wall_33 : decode m_M_wall.2.1 33 = .ok (.getfield 16, 3) := by decide +kernel
theorem d_M_wall_36 : decode m_M_wall.2.1 36 = .ok (.iload_n 1, 1) := by decide +kernel
theorem d_M_wall_37 : decode m_M_wall.2.1 37 = .ok (.iload_n 2, 1) := by decide +kernel
theorem d_M_wall_38 : decode m_M_wall.2.1 38 = .ok (.iastore, 1) := by decide +kernel
theorem d_M_wall_39 : decode m_M_wall.2.1 39 = .ok (.iload_n 3, 1) := by decide +kernel
theorem d_M_wall_40 : decode m_M_wall.2.1 40 = .ok (.ireturn, 1) := by decide +kernel
theorem d_M_set_0 : decode m_M_set.2.1 0 = .ok (.iload_n 1, 1) := by decide +kernel
theorem d_M_set_1 : decode m_M_set.2.1 1 = .ok (.ifCond .ne 26, 3) := by decide +kernel
theorem d_M_set_4 : decode m_M_set.2.1 4 = .ok (.iload_n 2, 1) := by decide +kernel
theorem d_M_set_5 : decode m_M_set.2.1 5 = .ok (.iconst 1, 1) := by decide +kernel
theorem d_M_set_6 : decode m_M_set.2.1 6 = .ok (.bipush 40, 2) := by decide +kernel
theorem d_M_set_8 : decode m_M_set.2.1 8 = .ok (.invokestatic 52, 3) := by decide +kernel
theorem d_M_set_11 : decode m_M_set.2.1 11 = .ok (.ifCond .eq 16, 3) := by decide +kernel
theorem d_M_set_14 : decode m_M_set.2.1 14 = .ok (.aload_n 0, 1) := by decide +kernel
theorem d_M_set_15 : decode m_M_set.2.1 15 = .ok (.getfield 19, 3) := by decide +kernel
theorem d_M_set_18 : decode m_M_set.2.1 18 = .ok (.istore_n 3, 1) := by decide +kernel
theorem d_M_set_19 : decode m_M_set.2.1 19 = .ok (.aload_n 0, 1) := by decide +kernel
theorem d_M_set_20 : decode m_M_set.2.1 20 = .ok (.iload_n 2, 1) := by decide +kernel
theorem d_M_set_21 : decode m_M_set.2.1 21 = .ok (.putfield 19, 3) := by decide +kernel
theorem d_M_set_24 : decode m_M_set.2.1 24 = .ok (.goto 67, 3) := by decide +kernel
theorem d_M_set_27 : decode m_M_set.2.1 27 = .ok (.iload_n 1, 1) := by decide +kernel
theorem d_M_set_28 : decode m_M_set.2.1 28 = .ok (.iconst 1, 1) := by decide +kernel
theorem d_M_set_29 : decode m_M_set.2.1 29 = .ok (.if_icmp .ne 28, 3) := by decide +kernel
theorem d_M_set_32 : decode m_M_set.2.1 32 = .ok (.iload_n 2, 1) := by decide +kernel
theorem d_M_set_33 : decode m_M_set.2.1 33 = .ok (.bipush (-3), 2) := by decide +kernel
theorem d_M_set_35 : decode m_M_set.2.1 35 = .ok (.iconst 3, 1) := by decide +kernel
theorem d_M_set_36 : decode m_M_set.2.1 36 = .ok (.invokestatic 52, 3) := by decide +kernel
theorem d_M_set_39 : decode m_M_set.2.1 39 = .ok (.ifCond .eq 18, 3) := by decide +kernel
theorem d_M_set_42 : decode m_M_set.2.1 42 = .ok (.aload_n 0, 1) := by decide +kernel
theorem d_M_set_43 : decode m_M_set.2.1 43 = .ok (.getfield 60, 3) := by decide +kernel
theorem d_M_set_46 : decode m_M_set.2.1 46 = .ok (.iconst 3, 1) := by decide +kernel
theorem d_M_set_47 : decode m_M_set.2.1 47 = .ok (.iadd, 1) := by decide +kernel
theorem d_M_set_48 : decode m_M_set.2.1 48 = .ok (.istore_n 3, 1) := by decide +kernel
theorem d_M_set_49 : decode m_M_set.2.1 49 = .ok (.aload_n 0, 1) := by decide +kernel
theorem d_M_set_50 : decode m_M_set.2.1 50 = .ok (.iload_n 2, 1) := by decide +kernel
theorem d_M_set_51 : decode m_M_set.2.1 51 = .ok (.putfield 60, 3) := by decide +kernel
theorem d_M_set_54 : decode m_M_set.2.1 54 = .ok (.goto 37, 3) := by decide +kernel
theorem d_M_set_57 : decode m_M_set.2.1 57 = .ok (.iload_n 1, 1) := by decide +kernel
theorem d_M_set_58 : decode m_M_set.2.1 58 = .ok (.iconst 2, 1) := by decide +kernel
theorem d_M_set_59 : decode m_M_set.2.1 59 = .ok (.if_icmp .ne 29, 3) := by decide +kernel
theorem d_M_set_62 : decode m_M_set.2.1 62 = .ok (.iload_n 2, 1) := by decide +kernel
theorem d_M_set_63 : decode m_M_set.2.1 63 = .ok (.invokestatic 56, 3) := by decide +kernel
theorem d_M_set_66 : decode m_M_set.2.1 66 = .ok (.ifCond .eq 22, 3) := by decide +kernel
theorem d_M_set_69 : decode m_M_set.2.1 69 = .ok (.aload_n 0, 1) := by decide +kernel
theorem d_M_set_70 : decode m_M_set.2.1 70 = .ok (.getfield 7, 3) := by decide +kernel
theorem d_M_set_73 : decode m_M_set.2.1 73 = .ok (.bipush 12, 2) := by decide +kernel
theorem d_M_set_75 : decode m_M_set.2.1 75 = .ok (.iaload, 1) := by decide +kernel
theorem d_M_set_76 : decode m_M_set.2.1 76 = .ok (.istore_n 3, 1) := by decide +kernel
theorem d_M_set_77 : decode m_M_set.2.1 77 = .ok (.aload_n 0, 1) := by decide +kernel
theorem d_M_set_78 : decode m_M_set.2.1 78 = .ok (.getfield 7, 3) := by decide +kernel
theorem d_M_set_81 : decode m_M_set.2.1 81 = .ok (.bipush 12, 2) := by decide +kernel
theorem d_M_set_83 : decode m_M_set.2.1 83 = .ok (.iload_n 2, 1) := by decide +kernel
theorem d_M_set_84 : decode m_M_set.2.1 84 = .ok (.iastore, 1) := by decide +kernel
theorem d_M_set_85 : decode m_M_set.2.1 85 = .ok (.goto 6, 3) := by decide +kernel
theorem d_M_set_88 : decode m_M_set.2.1 88 = .ok (.bipush (-2), 2) := by decide +kernel
theorem d_M_set_90 : decode m_M_set.2.1 90 = .ok (.istore_n 3, 1) := by decide +kernel
theorem d_M_set_91 : decode m_M_set.2.1 91 = .ok (.iload_n 3, 1) := by decide +kernel
theorem d_M_set_92 : decode m_M_set.2.1 92 = .ok (.ireturn, 1) := by decide +kernel
theorem d_M_letter_0 : decode m_M_letter.2.1 0 = .ok (.iload_n 1, 1) := by decide +kernel
theorem d_M_letter_1 : decode m_M_letter.2.1 1 = .ok (.iconst 0, 1) := by decide +kernel
theorem d_M_letter_2 : decode m_M_letter.2.1 2 = .ok (.iconst 5, 1) := by decide +kernel
theorem d_M_letter_3 : decode m_M_letter.2.1 3 = .ok (.invokestatic 52, 3) := by decide +kernel
theorem d_M_letter_6 : decode m_M_letter.2.1 6 = .ok (.ifCond .ne 5, 3) := by decide +kernel
theorem d_M_letter_9 : decode m_M_letter.2.1 9 = .ok (.iconst (-1), 1) := by decide +kernel
theorem d_M_letter_10 : decode m_M_letter.2.1 10 = .ok (.ireturn, 1) := by decide +kernel
theorem d_M_letter_11 : decode m_M_letter.2.1 11 = .ok (.iload_n 2, 1) := by decide +kernel
theorem d_M_letter_12 : decode m_M_letter.2.1 12 = .ok (.invokestatic 56, 3) := by decide +kernel
theorem d_M_letter_15 : decode m_M_letter.2.1 15 = .ok (.ifCond .eq 38, 3) := by decide +kernel
theorem d_M_letter_18 : decode m_M_letter.2.1 18 = .ok (.iload_n 3, 1) := by decide +kernel
theorem d_M_letter_19 : decode m_M_letter.2.1 19 = .ok (.iconst 0, 1) := by decide +kernel
theorem d_M_letter_20 : decode m_M_letter.2.1 20 = .ok (.sipush 255, 3) := by decide +kernel
theorem d_M_letter_23 : decode m_M_letter.2.1 23 = .ok (.invokestatic 52, 3) := by decide +kernel
theorem d_M_letter_26 : decode m_M_letter.2.1 26 = .ok (.ifCond .eq 27, 3) := by decide +kernel
theorem d_M_letter_29 : decode m_M_letter.2.1 29 = .ok (.iload 4, 2) := by decide +kernel
theorem d_M_letter_31 : decode m_M_letter.2.1 31 = .ok (.iconst 0, 1) := by decide +kernel
theorem d_M_letter_32 : decode m_M_letter.2.1 32 = .ok (.sipush 255, 3) := by decide +kernel
theorem d_M_letter_35 : decode m_M_letter.2.1 35 = .ok (.invokestatic 52, 3) := by decide +kernel
theorem d_M_letter_38 : decode m_M_letter.2.1 38 = .ok (.ifCond .eq 15, 3) := by decide +kernel
theorem d_M_letter_41 : decode m_M_letter.2.1 41 = .ok (.iload 5, 2) := by decide +kernel
theorem d_M_letter_43 : decode m_M_letter.2.1 43 = .ok (.iconst 0, 1) := by decide +kernel
theorem d_M_letter_44 : decode m_M_letter.2.1 44 = .ok (.sipush 4095, 3) := by decide +kernel
theorem d_M_letter_47 : decode m_M_letter.2.1 47 = .ok (.invokestatic 52, 3) := by decide +kernel
theorem d_M_letter_50 : decode m_M_letter.2.1 50 = .ok (.ifCond .ne 6, 3) := by decide +kernel
theorem d_M_letter_53 : decode m_M_letter.2.1 53 = .ok (.bipush (-2), 2) := by decide +kernel
theorem d_M_letter_55 : decode m_M_letter.2.1 55 = .ok (.ireturn, 1) := by decide +kernel
theorem d_M_letter_56 : decode m_M_letter.2.1 56 = .ok (.aload_n 0, 1) := by decide +kernel
theorem d_M_letter_57 : decode m_M_letter.2.1 57 = .ok (.getfield 23, 3) := by decide +kernel
theorem d_M_letter_60 : decode m_M_letter.2.1 60 = .ok (.iconst 4, 1) := by decide +kernel
theorem d_M_letter_61 : decode m_M_letter.2.1 61 = .ok (.iload_n 1, 1) := by decide +kernel
theorem d_M_letter_62 : decode m_M_letter.2.1 62 = .ok (.imul, 1) := by decide +kernel
theorem d_M_letter_63 : decode m_M_letter.2.1 63 = .ok (.iaload, 1) := by decide +kernel
theorem d_M_letter_64 : decode m_M_letter.2.1 64 = .ok (.istore 6, 2) := by decide +kernel
theorem d_M_letter_66 : decode m_M_letter.2.1 66 = .ok (.aload_n 0, 1) := by decide +kernel
theorem d_M_letter_67 : decode m_M_letter.2.1 67 = .ok (.getfield 23, 3) := by decide +kernel
theorem d_M_letter_70 : decode m_M_letter.2.1 70 = .ok (.iconst 4, 1) := by decide +kernel
theorem d_M_letter_71 : decode m_M_letter.2.1 71 = .ok (.iload_n 1, 1) := by decide +kernel
theorem d_M_letter_72 : decode m_M_letter.2.1 72 = .ok (.imul, 1) := by decide +kernel
theorem d_M_letter_73 : decode m_M_letter.2.1 73 = .ok (.iload_n 2, 1) := by decide +kernel
theorem d_M_letter_74 : decode m_M_letter.2.1 74 = .ok (.iastore, 1) := by decide +kernel
theorem d_M_letter_75 : decode m_M_letter.2.1 75 = .ok (.aload_n 0, 1) := by decide +kernel
theorem d_M_letter_76 : decode m_M_letter.2.1 76 = .ok (.getfield 23, 3) := by decide +kernel
theorem d_M_letter_79 : decode m_M_letter.2.1 79 = .ok (.iconst 4, 1) := by decide +kernel
theorem d_M_letter_80 : decode m_M_letter.2.1 80 = .ok (.iload_n 1, 1) := by decide +kernel
theorem d_M_letter_81 : decode m_M_letter.2.1 81 = .ok (.imul, 1) := by decide +kernel
theorem d_M_letter_82 : decode m_M_letter.2.1 82 = .ok (.iconst 1, 1) := by decide +kernel
theorem d_M_letter_83 : decode m_M_letter.2.1 83 = .ok (.iadd, 1) := by decide +kernel
theorem d_M_letter_84 : decode m_M_letter.2.1 84 = .ok (.iload_n 3, 1) := by decide +kernel
theorem d_M_letter_85 : decode m_M_letter.2.1 85 = .ok (.iastore, 1) := by decide +kernel
theorem d_M_letter_86 : decode m_M_letter.2.1 86 = .ok (.aload_n 0, 1) := by decide +kernel
theorem d_M_letter_87 : decode m_M_letter.2.1 87 = .ok (.getfield 23, 3) := by decide +kernel
theorem d_M_letter_90 : decode m_M_letter.2.1 90 = .ok (.iconst 4, 1) := by decide +kernel
theorem d_M_letter_91 : decode m_M_letter.2.1 91 = .ok (.iload_n 1, 1) := by decide +kernel
theorem d_M_letter_92 : decode m_M_letter.2.1 92 = .ok (.imul, 1) := by decide +kernel
theorem d_M_letter_93 : decode m_M_letter.2.1 93 = .ok (.iconst 2, 1) := by decide +kernel
theorem d_M_letter_94 : decode m_M_letter.2.1 94 = .ok (.iadd, 1) := by decide +kernel
theorem d_M_letter_95 : decode m_M_letter.2.1 95 = .ok (.iload 4, 2) := by decide +kernel
theorem d_M_letter_97 : decode m_M_letter.2.1 97 = .ok (.iastore, 1) := by decide +kernel
theorem d_M_letter_98 : decode m_M_letter.2.1 98 = .ok (.aload_n 0, 1) := by decide +kernel
theorem d_M_letter_99 : decode m_M_letter.2.1 99 = .ok (.getfield 23, 3) := by decide +kernel
theorem d_M_letter_102 : decode m_M_letter.2.1 102 = .ok (.iconst 4, 1) := by decide +kernel
theorem d_M_letter_103 : decode m_M_letter.2.1 103 = .ok (.iload_n 1, 1) := by decide +kernel
theorem d_M_letter_104 : decode m_M_letter.2.1 104 = .ok (.imul, 1) := by decide +kernel
theorem d_M_letter_105 : decode m_M_letter.2.1 105 = .ok (.iconst 3, 1) := by decide +kernel
theorem d_M_letter_106 : decode m_M_letter.2.1 106 = .ok (.iadd, 1) := by decide +kernel
theorem d_M_letter_107 : decode m_M_letter.2.1 107 = .ok (.iload 5, 2) := by decide +kernel
theorem d_M_letter_109 : decode m_M_letter.2.1 109 = .ok (.iastore, 1) := by decide +kernel
theorem d_M_letter_110 : decode m_M_letter.2.1 110 = .ok (.aload_n 0, 1) := by decide +kernel
theorem d_M_letter_111 : decode m_M_letter.2.1 111 = .ok (.getfield 7, 3) := by decide +kernel
theorem d_M_letter_114 : decode m_M_letter.2.1 114 = .ok (.bipush 15, 2) := by decide +kernel
theorem d_M_letter_116 : decode m_M_letter.2.1 116 = .ok (.dup2, 1) := by decide +kernel
theorem d_M_letter_117 : decode m_M_letter.2.1 117 = .ok (.iaload, 1) := by decide +kernel
theorem d_M_letter_118 : decode m_M_letter.2.1 118 = .ok (.iconst 1, 1) := by decide +kernel
theorem d_M_letter_119 : decode m_M_letter.2.1 119 = .ok (.iload_n 1, 1) := by decide +kernel
theorem d_M_letter_120 : decode m_M_letter.2.1 120 = .ok (.ishl, 1) := by decide +kernel
theorem d_M_letter_121 : decode m_M_letter.2.1 121 = .ok (.iconst (-1), 1) := by decide +kernel
theorem d_M_letter_122 : decode m_M_letter.2.1 122 = .ok (.ixor, 1) := by decide +kernel
theorem d_M_letter_123 : decode m_M_letter.2.1 123 = .ok (.iand, 1) := by decide +kernel
theorem d_M_letter_124 : decode m_M_letter.2.1 124 = .ok (.iastore, 1) := by decide +kernel
theorem d_M_letter_125 : decode m_M_letter.2.1 125 = .ok (.iload 6, 2) := by decide +kernel
theorem d_M_letter_127 : decode m_M_letter.2.1 127 = .ok (.ireturn, 1) := by decide +kernel
theorem d_M_say_0 : decode m_M_say.2.1 0 = .ok (.iload_n 1, 1) := by decide +kernel
theorem d_M_say_1 : decode m_M_say.2.1 1 = .ok (.bipush 33, 2) := by decide +kernel
theorem d_M_say_3 : decode m_M_say.2.1 3 = .ok (.bipush 126, 2) := by decide +kernel
theorem d_M_say_5 : decode m_M_say.2.1 5 = .ok (.invokestatic 52, 3) := by decide +kernel
theorem d_M_say_8 : decode m_M_say.2.1 8 = .ok (.ifCond .ne 6, 3) := by decide +kernel
theorem d_M_say_11 : decode m_M_say.2.1 11 = .ok (.bipush (-2), 2) := by decide +kernel
theorem d_M_say_13 : decode m_M_say.2.1 13 = .ok (.ireturn, 1) := by decide +kernel
theorem d_M_say_14 : decode m_M_say.2.1 14 = .ok (.aload_n 0, 1) := by decide +kernel
theorem d_M_say_15 : decode m_M_say.2.1 15 = .ok (.getfield 63, 3) := by decide +kernel
theorem d_M_say_18 : decode m_M_say.2.1 18 = .ok (.bipush 60, 2) := by decide +kernel
theorem d_M_say_20 : decode m_M_say.2.1 20 = .ok (.if_icmp .ne 6, 3) := by decide +kernel
theorem d_M_say_23 : decode m_M_say.2.1 23 = .ok (.bipush (-4), 2) := by decide +kernel
theorem d_M_say_25 : decode m_M_say.2.1 25 = .ok (.ireturn, 1) := by decide +kernel
theorem d_M_say_26 : decode m_M_say.2.1 26 = .ok (.aload_n 0, 1) := by decide +kernel
theorem d_M_say_27 : decode m_M_say.2.1 27 = .ok (.getfield 29, 3) := by decide +kernel
theorem d_M_say_30 : decode m_M_say.2.1 30 = .ok (.aload_n 0, 1) := by decide +kernel
theorem d_M_say_31 : decode m_M_say.2.1 31 = .ok (.getfield 63, 3) := by decide +kernel
theorem d_M_say_34 : decode m_M_say.2.1 34 = .ok (.iload_n 1, 1) := by decide +kernel
theorem d_M_say_35 : decode m_M_say.2.1 35 = .ok (.iastore, 1) := by decide +kernel
theorem d_M_say_36 : decode m_M_say.2.1 36 = .ok (.aload_n 0, 1) := by decide +kernel
theorem d_M_say_37 : decode m_M_say.2.1 37 = .ok (.dup, 1) := by decide +kernel
theorem d_M_say_38 : decode m_M_say.2.1 38 = .ok (.getfield 63, 3) := by decide +kernel
theorem d_M_say_41 : decode m_M_say.2.1 41 = .ok (.iconst 1, 1) := by decide +kernel
theorem d_M_say_42 : decode m_M_say.2.1 42 = .ok (.iadd, 1) := by decide +kernel
theorem d_M_say_43 : decode m_M_say.2.1 43 = .ok (.putfield 63, 3) := by decide +kernel
theorem d_M_say_46 : decode m_M_say.2.1 46 = .ok (.aload_n 0, 1) := by decide +kernel
theorem d_M_say_47 : decode m_M_say.2.1 47 = .ok (.getfield 63, 3) := by decide +kernel
theorem d_M_say_50 : decode m_M_say.2.1 50 = .ok (.ireturn, 1) := by decide +kernel
theorem d_M_wipe_0 : decode m_M_wipe.2.1 0 = .ok (.aload_n 0, 1) := by decide +kernel
theorem d_M_wipe_1 : decode m_M_wipe.2.1 1 = .ok (.getfield 63, 3) := by decide +kernel
theorem d_M_wipe_4 : decode m_M_wipe.2.1 4 = .ok (.istore_n 1, 1) := by decide +kernel
theorem d_M_wipe_5 : decode m_M_wipe.2.1 5 = .ok (.aload_n 0, 1) := by decide +kernel
theorem d_M_wipe_6 : decode m_M_wipe.2.1 6 = .ok (.iconst 0, 1) := by decide +kernel
theorem d_M_wipe_7 : decode m_M_wipe.2.1 7 = .ok (.putfield 63, 3) := by decide +kernel
theorem d_M_wipe_10 : decode m_M_wipe.2.1 10 = .ok (.iload_n 1, 1) := by decide +kernel
theorem d_M_wipe_11 : decode m_M_wipe.2.1 11 = .ok (.ireturn, 1) := by decide +kernel
theorem d_M_isLetter_0 : decode m_M_isLetter.2.1 0 = .ok (.iload_n 0, 1) := by decide +kernel
theorem d_M_isLetter_1 : decode m_M_isLetter.2.1 1 = .ok (.bipush 97, 2) := by decide +kernel
theorem d_M_isLetter_3 : decode m_M_isLetter.2.1 3 = .ok (.bipush 108, 2) := by decide +kernel
theorem d_M_isLetter_5 : decode m_M_isLetter.2.1 5 = .ok (.invokestatic 52, 3) := by decide +kernel
theorem d_M_isLetter_8 : decode m_M_isLetter.2.1 8 = .ok (.ireturn, 1) := by decide +kernel
theorem d_M_faultOf_0 : decode m_M_faultOf.2.1 0 = .ok (.iconst 0, 1) := by decide +kernel
theorem d_M_faultOf_1 : decode m_M_faultOf.2.1 1 = .ok (.istore_n 1, 1) := by decide +kernel
theorem d_M_faultOf_2 : decode m_M_faultOf.2.1 2 = .ok (.iconst 0, 1) := by decide +kernel
theorem d_M_faultOf_3 : decode m_M_faultOf.2.1 3 = .ok (.istore_n 2, 1) := by decide +kernel
theorem d_M_faultOf_4 : decode m_M_faultOf.2.1 4 = .ok (.iload_n 2, 1) := by decide +kernel
theorem d_M_faultOf_5 : decode m_M_faultOf.2.1 5 = .ok (.aload_n 0, 1) := by decide +kernel
theorem d_M_faultOf_6 : decode m_M_faultOf.2.1 6 = .ok (.getfield 63, 3) := by decide +kernel
theorem d_M_faultOf_9 : decode m_M_faultOf.2.1 9 = .ok (.if_icmp .ge 64, 3) := by decide +kernel
theorem d_M_faultOf_12 : decode m_M_faultOf.2.1 12 = .ok (.aload_n 0, 1) := by decide +kernel
theorem d_M_faultOf_13 : decode m_M_faultOf.2.1 13 = .ok (.getfield 29, 3) := by decide +kernel
theorem d_M_faultOf_16 : decode m_M_faultOf.2.1 16 = .ok (.iload_n 2, 1) := by decide +kernel
theorem d_M_faultOf_17 : decode m_M_faultOf.2.1 17 = .ok (.iaload, 1) := by decide +kernel
theorem d_M_faultOf_18 : decode m_M_faultOf.2.1 18 = .ok (.istore_n 3, 1) := by decide +kernel
theorem d_M_faultOf_19 : decode m_M_faultOf.2.1 19 = .ok (.iload_n 3, 1) := by decide +kernel
theorem d_M_faultOf_20 : decode m_M_faultOf.2.1 20 = .ok (.invokestatic 66, 3) := by decide +kernel
theorem d_M_faultOf_23 : decode m_M_faultOf.2.1 23 = .ok (.ifCond .ne 32, 3) := by decide +kernel
theorem d_M_faultOf_26 : decode m_M_faultOf.2.1 26 = .ok (.iload_n 1, 1) := by decide +kernel
theorem d_M_faultOf_27 : decode m_M_faultOf.2.1 27 = .ok (.ifCond .ne 26, 3) := by decide +kernel
theorem d_M_faultOf_30 : decode m_M_faultOf.2.1 30 = .ok (.iload_n 3, 1) := by decide +kernel
theorem d_M_faultOf_31 : decode m_M_faultOf.2.1 31 = .ok (.bipush 46, 2) := by decide +kernel
theorem d_M_faultOf_33 : decode m_M_faultOf.2.1 33 = .ok (.if_icmp .eq 22, 3) := by decide +kernel
theorem d_M_faultOf_36 : decode m_M_faultOf.2.1 36 = .ok (.iload_n 3, 1) := by decide +kernel
theorem d_M_faultOf_37 : decode m_M_faultOf.2.1 37 = .ok (.bipush 33, 2) := by decide +kernel
theorem d_M_faultOf_39 : decode m_M_faultOf.2.1 39 = .ok (.if_icmp .eq 16, 3) := by decide +kernel
theorem d_M_faultOf_42 : decode m_M_faultOf.2.1 42 = .ok (.iload_n 3, 1) := by decide +kernel
theorem d_M_faultOf_43 : decode m_M_faultOf.2.1 43 = .ok (.bipush 48, 2) := by decide +kernel
theorem d_M_faultOf_45 : decode m_M_faultOf.2.1 45 = .ok (.bipush 53, 2) := by decide +kernel
theorem d_M_faultOf_47 : decode m_M_faultOf.2.1 47 = .ok (.invokestatic 52, 3) := by decide +kernel
theorem d_M_faultOf_50 : decode m_M_faultOf.2.1 50 = .ok (.ifCond .ne 5, 3) := by decide +kernel
theorem d_M_faultOf_53 : decode m_M_faultOf.2.1 53 = .ok (.iload_n 2, 1) := by decide +kernel
theorem d_M_faultOf_54 : decode m_M_faultOf.2.1 54 = .ok (.ireturn, 1) := by decide +kernel
theorem d_M_faultOf_55 : decode m_M_faultOf.2.1 55 = .ok (.iload_n 3, 1) := by decide +kernel
theorem d_M_faultOf_56 : decode m_M_faultOf.2.1 56 = .ok (.bipush 33, 2) := by decide +kernel
theorem d_M_faultOf_58 : decode m_M_faultOf.2.1 58 = .ok (.if_icmp .ne 7, 3) := by decide +kernel
theorem d_M_faultOf_61 : decode m_M_faultOf.2.1 61 = .ok (.iconst 1, 1) := by decide +kernel
theorem d_M_faultOf_62 : decode m_M_faultOf.2.1 62 = .ok (.goto 4, 3) := by decide +kernel
theorem d_M_faultOf_65 : decode m_M_faultOf.2.1 65 = .ok (.iconst 0, 1) := by decide +kernel
theorem d_M_faultOf_66 : decode m_M_faultOf.2.1 66 = .ok (.istore_n 1, 1) := by decide +kernel
theorem d_M_faultOf_67 : decode m_M_faultOf.2.1 67 = .ok (.iinc 2 1, 3) := by decide +kernel
theorem d_M_faultOf_70 : decode m_M_faultOf.2.1 70 = .ok (.goto (-66), 3) := by decide +kernel
theorem d_M_faultOf_73 : decode m_M_faultOf.2.1 73 = .ok (.iload_n 1, 1) := by decide +kernel
theorem d_M_faultOf_74 : decode m_M_faultOf.2.1 74 = .ok (.ifCond .eq 10, 3) := by decide +kernel
theorem d_M_faultOf_77 : decode m_M_faultOf.2.1 77 = .ok (.aload_n 0, 1) := by decide +kernel
theorem d_M_faultOf_78 : decode m_M_faultOf.2.1 78 = .ok (.getfield 63, 3) := by decide +kernel
theorem d_M_faultOf_81 : decode m_M_faultOf.2.1 81 = .ok (.goto 5, 3) := by decide +kernel
theorem d_M_faultOf_84 : decode m_M_faultOf.2.1 84 = .ok (.bipush (-6), 2) := by decide +kernel
theorem d_M_faultOf_86 : decode m_M_faultOf.2.1 86 = .ok (.ireturn, 1) := by decide +kernel
theorem d_M_fault_0 : decode m_M_fault.2.1 0 = .ok (.aload_n 0, 1) := by decide +kernel
theorem d_M_fault_1 : decode m_M_fault.2.1 1 = .ok (.invokevirtual 69, 3) := by decide +kernel
theorem d_M_fault_4 : decode m_M_fault.2.1 4 = .ok (.ireturn, 1) := by decide +kernel
theorem d_M_loudAt_0 : decode m_M_loudAt.2.1 0 = .ok (.aload_n 0, 1) := by decide +kernel
theorem d_M_loudAt_1 : decode m_M_loudAt.2.1 1 = .ok (.getfield 19, 3) := by decide +kernel
theorem d_M_loudAt_4 : decode m_M_loudAt.2.1 4 = .ok (.istore_n 3, 1) := by decide +kernel
theorem d_M_loudAt_5 : decode m_M_loudAt.2.1 5 = .ok (.iload_n 1, 1) := by decide +kernel
theorem d_M_loudAt_6 : decode m_M_loudAt.2.1 6 = .ok (.istore 4, 2) := by decide +kernel
theorem d_M_loudAt_8 : decode m_M_loudAt.2.1 8 = .ok (.iload 4, 2) := by decide +kernel
theorem d_M_loudAt_10 : decode m_M_loudAt.2.1 10 = .ok (.iload_n 2, 1) := by decide +kernel
theorem d_M_loudAt_11 : decode m_M_loudAt.2.1 11 = .ok (.if_icmp .ge 50, 3) := by decide +kernel
theorem d_M_loudAt_14 : decode m_M_loudAt.2.1 14 = .ok (.iload_n 3, 1) := by decide +kernel
theorem d_M_loudAt_15 : decode m_M_loudAt.2.1 15 = .ok (.iconst 1, 1) := by decide +kernel
theorem d_M_loudAt_16 : decode m_M_loudAt.2.1 16 = .ok (.isub, 1) := by decide +kernel
theorem d_M_loudAt_17 : decode m_M_loudAt.2.1 17 = .ok (.aload_n 0, 1) := by decide +kernel
theorem d_M_loudAt_18 : decode m_M_loudAt.2.1 18 = .ok (.getfield 16, 3) := by decide +kernel
theorem d_M_loudAt_21 : decode m_M_loudAt.2.1 21 = .ok (.iload 4, 2) := by decide +kernel
theorem d_M_loudAt_23 : decode m_M_loudAt.2.1 23 = .ok (.iaload, 1) := by decide +kernel
theorem d_M_loudAt_24 : decode m_M_loudAt.2.1 24 = .ok (.isub, 1) := by decide +kernel
theorem d_M_loudAt_25 : decode m_M_loudAt.2.1 25 = .ok (.aload_n 0, 1) := by decide +kernel
theorem d_M_loudAt_26 : decode m_M_loudAt.2.1 26 = .ok (.getfield 60, 3) := by decide +kernel
theorem d_M_loudAt_29 : decode m_M_loudAt.2.1 29 = .ok (.iadd, 1) := by decide +kernel
theorem d_M_loudAt_30 : decode m_M_loudAt.2.1 30 = .ok (.istore 5, 2) := by decide +kernel
theorem d_M_loudAt_32 : decode m_M_loudAt.2.1 32 = .ok (.iload 5, 2) := by decide +kernel
theorem d_M_loudAt_34 : decode m_M_loudAt.2.1 34 = .ok (.iload_n 3, 1) := by decide +kernel
theorem d_M_loudAt_35 : decode m_M_loudAt.2.1 35 = .ok (.if_icmp .ge 8, 3) := by decide +kernel
theorem d_M_loudAt_38 : decode m_M_loudAt.2.1 38 = .ok (.iload 5, 2) := by decide +kernel
theorem d_M_loudAt_40 : decode m_M_loudAt.2.1 40 = .ok (.goto 4, 3) := by decide +kernel
theorem d_M_loudAt_43 : decode m_M_loudAt.2.1 43 = .ok (.iload_n 3, 1) := by decide +kernel
theorem d_M_loudAt_44 : decode m_M_loudAt.2.1 44 = .ok (.istore_n 3, 1) := by decide +kernel
theorem d_M_loudAt_45 : decode m_M_loudAt.2.1 45 = .ok (.iload_n 3, 1) := by decide +kernel
theorem d_M_loudAt_46 : decode m_M_loudAt.2.1 46 = .ok (.ifCond .ge 7, 3) := by decide +kernel
theorem d_M_loudAt_49 : decode m_M_loudAt.2.1 49 = .ok (.iconst 0, 1) := by decide +kernel
theorem d_M_loudAt_50 : decode m_M_loudAt.2.1 50 = .ok (.goto 4, 3) := by decide +kernel
theorem d_M_loudAt_53 : decode m_M_loudAt.2.1 53 = .ok (.iload_n 3, 1) := by decide +kernel
theorem d_M_loudAt_54 : decode m_M_loudAt.2.1 54 = .ok (.istore_n 3, 1) := by decide +kernel
theorem d_M_loudAt_55 : decode m_M_loudAt.2.1 55 = .ok (.iinc 4 1, 3) := by decide +kernel
theorem d_M_loudAt_58 : decode m_M_loudAt.2.1 58 = .ok (.goto (-50), 3) := by decide +kernel
theorem d_M_loudAt_61 : decode m_M_loudAt.2.1 61 = .ok (.iload_n 1, 1) := by decide +kernel
theorem d_M_loudAt_62 : decode m_M_loudAt.2.1 62 = .ok (.istore 4, 2) := by decide +kernel
theorem d_M_loudAt_64 : decode m_M_loudAt.2.1 64 = .ok (.iload 4, 2) := by decide +kernel
theorem d_M_loudAt_66 : decode m_M_loudAt.2.1 66 = .ok (.iload_n 2, 1) := by decide +kernel
theorem d_M_loudAt_67 : decode m_M_loudAt.2.1 67 = .ok (.if_icmp .le 52, 3) := by decide +kernel
theorem d_M_loudAt_70 : decode m_M_loudAt.2.1 70 = .ok (.iload_n 3, 1) := by decide +kernel
theorem d_M_loudAt_71 : decode m_M_loudAt.2.1 71 = .ok (.iconst 1, 1) := by decide +kernel
theorem d_M_loudAt_72 : decode m_M_loudAt.2.1 72 = .ok (.isub, 1) := by decide +kernel
theorem d_M_loudAt_73 : decode m_M_loudAt.2.1 73 = .ok (.aload_n 0, 1) := by decide +kernel
theorem d_M_loudAt_74 : decode m_M_loudAt.2.1 74 = .ok (.getfield 16, 3) := by decide +kernel
theorem d_M_loudAt_77 : decode m_M_loudAt.2.1 77 = .ok (.iload 4, 2) := by decide +kernel
theorem d_M_loudAt_79 : decode m_M_loudAt.2.1 79 = .ok (.iconst 1, 1) := by decide +kernel
theorem d_M_loudAt_80 : decode m_M_loudAt.2.1 80 = .ok (.isub, 1) := by decide +kernel
theorem d_M_loudAt_81 : decode m_M_loudAt.2.1 81 = .ok (.iaload, 1) := by decide +kernel
theorem d_M_loudAt_82 : decode m_M_loudAt.2.1 82 = .ok (.isub, 1) := by decide +kernel
theorem d_M_loudAt_83 : decode m_M_loudAt.2.1 83 = .ok (.aload_n 0, 1) := by decide +kernel
theorem d_M_loudAt_84 : decode m_M_loudAt.2.1 84 = .ok (.getfield 60, 3) := by decide +kernel
theorem d_M_loudAt_87 : decode m_M_loudAt.2.1 87 = .ok (.isub, 1) := by decide +kernel
theorem d_M_loudAt_88 : decode m_M_loudAt.2.1 88 = .ok (.istore 5, 2) := by decide +kernel
theorem d_M_loudAt_90 : decode m_M_loudAt.2.1 90 = .ok (.iload 5, 2) := by decide +kernel
theorem d_M_loudAt_92 : decode m_M_loudAt.2.1 92 = .ok (.iload_n 3, 1) := by decide +kernel
theorem d_M_loudAt_93 : decode m_M_loudAt.2.1 93 = .ok (.if_icmp .ge 8, 3) := by decide +kernel
theorem d_M_loudAt_96 : decode m_M_loudAt.2.1 96 = .ok (.iload 5, 2) := by decide +kernel
theorem d_M_loudAt_98 : decode m_M_loudAt.2.1 98 = .ok (.goto 4, 3) := by decide +kernel
theorem d_M_loudAt_101 : decode m_M_loudAt.2.1 101 = .ok (.iload_n 3, 1) := by decide +kernel
theorem d_M_loudAt_102 : decode m_M_loudAt.2.1 102 = .ok (.istore_n 3, 1) := by decide +kernel
theorem d_M_loudAt_103 : decode m_M_loudAt.2.1 103 = .ok (.iload_n 3, 1) := by decide +kernel
theorem d_M_loudAt_104 : decode m_M_loudAt.2.1 104 = .ok (.ifCond .ge 7, 3) := by decide +kernel
theorem d_M_loudAt_107 : decode m_M_loudAt.2.1 107 = .ok (.iconst 0, 1) := by decide +kernel
theorem d_M_loudAt_108 : decode m_M_loudAt.2.1 108 = .ok (.goto 4, 3) := by decide +kernel
theorem d_M_loudAt_111 : decode m_M_loudAt.2.1 111 = .ok (.iload_n 3, 1) := by decide +kernel
theorem d_M_loudAt_112 : decode m_M_loudAt.2.1 112 = .ok (.istore_n 3, 1) := by decide +kernel
theorem d_M_loudAt_113 : decode m_M_loudAt.2.1 113 = .ok (.iinc 4 (-1), 3) := by decide +kernel
theorem d_M_loudAt_116 : decode m_M_loudAt.2.1 116 = .ok (.goto (-52), 3) := by decide +kernel
theorem d_M_loudAt_119 : decode m_M_loudAt.2.1 119 = .ok (.iload_n 3, 1) := by decide +kernel
theorem d_M_loudAt_120 : decode m_M_loudAt.2.1 120 = .ok (.ireturn, 1) := by decide +kernel
theorem d_M_doesHear_0 : decode m_M_doesHear.2.1 0 = .ok (.aload_n 0, 1) := by decide +kernel
theorem d_M_doesHear_1 : decode m_M_doesHear.2.1 1 = .ok (.iload_n 1, 1) := by decide +kernel
theorem d_M_doesHear_2 : decode m_M_doesHear.2.1 2 = .ok (.iload_n 2, 1) := by decide +kernel
theorem d_M_doesHear_3 : decode m_M_doesHear.2.1 3 = .ok (.invokevirtual 73, 3) := by decide +kernel
theorem d_M_doesHear_6 : decode m_M_doesHear.2.1 6 = .ok (.istore 4, 2) := by decide +kernel
theorem d_M_doesHear_8 : decode m_M_doesHear.2.1 8 = .ok (.aload_n 0, 1) := by decide +kernel
theorem d_M_doesHear_9 : decode m_M_doesHear.2.1 9 = .ok (.getfield 49, 3) := by decide +kernel
theorem d_M_doesHear_12 : decode m_M_doesHear.2.1 12 = .ok (.iload_n 2, 1) := by decide +kernel
theorem d_M_doesHear_13 : decode m_M_doesHear.2.1 13 = .ok (.invokestatic 77, 3) := by decide +kernel
theorem d_M_doesHear_16 : decode m_M_doesHear.2.1 16 = .ok (.ifCond .ne 31, 3) := by decide +kernel
theorem d_M_doesHear_19 : decode m_M_doesHear.2.1 19 = .ok (.iload_n 2, 1) := by decide +kernel
theorem d_M_doesHear_20 : decode m_M_doesHear.2.1 20 = .ok (.iload_n 1, 1) := by decide +kernel
theorem d_M_doesHear_21 : decode m_M_doesHear.2.1 21 = .ok (.if_icmp .eq 22, 3) := by decide +kernel
theorem d_M_doesHear_24 : decode m_M_doesHear.2.1 24 = .ok (.iload 4, 2) := by decide +kernel
theorem d_M_doesHear_26 : decode m_M_doesHear.2.1 26 = .ok (.iconst 2, 1) := by decide +kernel
theorem d_M_doesHear_27 : decode m_M_doesHear.2.1 27 = .ok (.if_icmp .gt 16, 3) := by decide +kernel
theorem d_M_doesHear_30 : decode m_M_doesHear.2.1 30 = .ok (.iload 4, 2) := by decide +kernel
theorem d_M_doesHear_32 : decode m_M_doesHear.2.1 32 = .ok (.ifCond .le 15, 3) := by decide +kernel
theorem d_M_doesHear_35 : decode m_M_doesHear.2.1 35 = .ok (.iload_n 3, 1) := by decide +kernel
theorem d_M_doesHear_36 : decode m_M_doesHear.2.1 36 = .ok (.iload_n 2, 1) := by decide +kernel
theorem d_M_doesHear_37 : decode m_M_doesHear.2.1 37 = .ok (.invokestatic 77, 3) := by decide +kernel
theorem d_M_doesHear_40 : decode m_M_doesHear.2.1 40 = .ok (.ifCond .eq 7, 3) := by decide +kernel
theorem d_M_doesHear_43 : decode m_M_doesHear.2.1 43 = .ok (.iconst 1, 1) := by decide +kernel
theorem d_M_doesHear_44 : decode m_M_doesHear.2.1 44 = .ok (.goto 4, 3) := by decide +kernel
theorem d_M_doesHear_47 : decode m_M_doesHear.2.1 47 = .ok (.iconst 0, 1) := by decide +kernel
theorem d_M_doesHear_48 : decode m_M_doesHear.2.1 48 = .ok (.ireturn, 1) := by decide +kernel
theorem d_M_hearers_0 : decode m_M_hearers.2.1 0 = .ok (.iconst 0, 1) := by decide +kernel
theorem d_M_hearers_1 : decode m_M_hearers.2.1 1 = .ok (.istore_n 3, 1) := by decide +kernel
theorem d_M_hearers_2 : decode m_M_hearers.2.1 2 = .ok (.iconst 0, 1) := by decide +kernel
theorem d_M_hearers_3 : decode m_M_hearers.2.1 3 = .ok (.istore 4, 2) := by decide +kernel
theorem d_M_hearers_5 : decode m_M_hearers.2.1 5 = .ok (.iload 4, 2) := by decide +kernel
theorem d_M_hearers_7 : decode m_M_hearers.2.1 7 = .ok (.bipush 12, 2) := by decide +kernel
theorem d_M_hearers_9 : decode m_M_hearers.2.1 9 = .ok (.if_icmp .ge 31, 3) := by decide +kernel
theorem d_M_hearers_12 : decode m_M_hearers.2.1 12 = .ok (.iload_n 3, 1) := by decide +kernel
theorem d_M_hearers_13 : decode m_M_hearers.2.1 13 = .ok (.aload_n 0, 1) := by decide +kernel
theorem d_M_hearers_14 : decode m_M_hearers.2.1 14 = .ok (.iload_n 1, 1) := by decide +kernel
theorem d_M_hearers_15 : decode m_M_hearers.2.1 15 = .ok (.iload 4, 2) := by decide +kernel
theorem d_M_hearers_17 : decode m_M_hearers.2.1 17 = .ok (.iload_n 2, 1) := by decide +kernel
theorem d_M_hearers_18 : decode m_M_hearers.2.1 18 = .ok (.invokevirtual 81, 3) := by decide +kernel
theorem d_M_hearers_21 : decode m_M_hearers.2.1 21 = .ok (.ifCond .eq 10, 3) := by decide +kernel
theorem d_M_hearers_24 : decode m_M_hearers.2.1 24 = .ok (.iconst 1, 1) := by decide +kernel
theorem d_M_hearers_25 : decode m_M_hearers.2.1 25 = .ok (.iload 4, 2) := by decide +kernel
theorem d_M_hearers_27 : decode m_M_hearers.2.1 27 = .ok (.ishl, 1) := by decide +kernel
theorem d_M_hearers_28 : decode m_M_hearers.2.1 28 = .ok (.goto 4, 3) := by decide +kernel
theorem d_M_hearers_31 : decode m_M_hearers.2.1 31 = .ok (.iconst 0, 1) := by decide +kernel
theorem d_M_hearers_32 : decode m_M_hearers.2.1 32 = .ok (.ior, 1) := by decide +kernel
theorem d_M_hearers_33 : decode m_M_hearers.2.1 33 = .ok (.istore_n 3, 1) := by decide +kernel
theorem d_M_hearers_34 : decode m_M_hearers.2.1 34 = .ok (.iinc 4 1, 3) := by decide +kernel
theorem d_M_hearers_37 : decode m_M_hearers.2.1 37 = .ok (.goto (-32), 3) := by decide +kernel
theorem d_M_hearers_40 : decode m_M_hearers.2.1 40 = .ok (.iload_n 3, 1) := by decide +kernel
theorem d_M_hearers_41 : decode m_M_hearers.2.1 41 = .ok (.ireturn, 1) := by decide +kernel
theorem d_M_asNow_0 : decode m_M_asNow.2.1 0 = .ok (.iconst 0, 1) := by decide +kernel
theorem d_M_asNow_1 : decode m_M_asNow.2.1 1 = .ok (.istore_n 1, 1) := by decide +kernel
theorem d_M_asNow_2 : decode m_M_asNow.2.1 2 = .ok (.iload_n 1, 1) := by decide +kernel
theorem d_M_asNow_3 : decode m_M_asNow.2.1 3 = .ok (.bipush 16, 2) := by decide +kernel
theorem d_M_asNow_5 : decode m_M_asNow.2.1 5 = .ok (.if_icmp .ge 21, 3) := by decide +kernel
theorem d_M_asNow_8 : decode m_M_asNow.2.1 8 = .ok (.aload_n 0, 1) := by decide +kernel
theorem d_M_asNow_9 : decode m_M_asNow.2.1 9 = .ok (.getfield 13, 3) := by decide +kernel
theorem d_M_asNow_12 : decode m_M_asNow.2.1 12 = .ok (.iload_n 1, 1) := by decide +kernel
theorem d_M_asNow_13 : decode m_M_asNow.2.1 13 = .ok (.aload_n 0, 1) := by decide +kernel
theorem d_M_asNow_14 : decode m_M_asNow.2.1 14 = .ok (.getfield 7, 3) := by decide +kernel
theorem d_M_asNow_17 : decode m_M_asNow.2.1 17 = .ok (.iload_n 1, 1) := by decide +kernel
theorem d_M_asNow_18 : decode m_M_asNow.2.1 18 = .ok (.iaload, 1) := by decide +kernel
theorem d_M_asNow_19 : decode m_M_asNow.2.1 19 = .ok (.iastore, 1) := by decide +kernel
theorem d_M_asNow_20 : decode m_M_asNow.2.1 20 = .ok (.iinc 1 1, 3) := by decide +kernel
theorem d_M_asNow_23 : decode m_M_asNow.2.1 23 = .ok (.goto (-21), 3) := by decide +kernel
theorem d_M_asNow_26 : decode m_M_asNow.2.1 26 = .ok (.return_, 1) := by decide +kernel
theorem d_M_goTo_0 : decode m_M_goTo.2.1 0 = .ok (.aload_n 0, 1) := by decide +kernel
theorem d_M_goTo_1 : decode m_M_goTo.2.1 1 = .ok (.getfield 13, 3) := by decide +kernel
theorem d_M_goTo_4 : decode m_M_goTo.2.1 4 = .ok (.bipush 12, 2) := by decide +kernel
theorem d_M_goTo_6 : decode m_M_goTo.2.1 6 = .ok (.iaload, 1) := by decide +kernel
theorem d_M_goTo_7 : decode m_M_goTo.2.1 7 = .ok (.iload_n 1, 1) := by decide +kernel
theorem d_M_goTo_8 : decode m_M_goTo.2.1 8 = .ok (.if_icmp .ne 5, 3) := by decide +kernel
theorem d_M_goTo_11 : decode m_M_goTo.2.1 11 = .ok (.iconst 1, 1) := by decide +kernel
theorem d_M_goTo_12 : decode m_M_goTo.2.1 12 = .ok (.ireturn, 1) := by decide +kernel
theorem d_M_goTo_13 : decode m_M_goTo.2.1 13 = .ok (.aload_n 0, 1) := by decide +kernel
theorem d_M_goTo_14 : decode m_M_goTo.2.1 14 = .ok (.getfield 13, 3) := by decide +kernel
theorem d_M_goTo_17 : decode m_M_goTo.2.1 17 = .ok (.bipush 12, 2) := by decide +kernel
theorem d_M_goTo_19 : decode m_M_goTo.2.1 19 = .ok (.iload_n 1, 1) := by decide +kernel
theorem d_M_goTo_20 : decode m_M_goTo.2.1 20 = .ok (.iastore, 1) := by decide +kernel
theorem d_M_goTo_21 : decode m_M_goTo.2.1 21 = .ok (.iconst 0, 1) := by decide +kernel
theorem d_M_goTo_22 : decode m_M_goTo.2.1 22 = .ok (.ireturn, 1) := by decide +kernel
theorem d_M_read_0 : decode m_M_read.2.1 0 = .ok (.aload_n 0, 1) := by decide +kernel
theorem d_M_read_1 : decode m_M_read.2.1 1 = .ok (.getfield 13, 3) := by decide +kernel
theorem d_M_read_4 : decode m_M_read.2.1 4 = .ok (.bipush 15, 2) := by decide +kernel
theorem d_M_read_6 : decode m_M_read.2.1 6 = .ok (.iaload, 1) := by decide +kernel
theorem d_M_read_7 : decode m_M_read.2.1 7 = .ok (.iload_n 1, 1) := by decide +kernel
theorem d_M_read_8 : decode m_M_read.2.1 8 = .ok (.invokestatic 77, 3) := by decide +kernel
theorem d_M_read_11 : decode m_M_read.2.1 11 = .ok (.ifCond .eq 5, 3) := by decide +kernel
theorem d_M_read_14 : decode m_M_read.2.1 14 = .ok (.iconst 2, 1) := by decide +kernel
theorem d_M_read_15 : decode m_M_read.2.1 15 = .ok (.ireturn, 1) := by decide +kernel
theorem d_M_read_16 : decode m_M_read.2.1 16 = .ok (.iconst 0, 1) := by decide +kernel
theorem d_M_read_17 : decode m_M_read.2.1 17 = .ok (.istore_n 2, 1) := by decide +kernel
theorem d_M_read_18 : decode m_M_read.2.1 18 = .ok (.iload_n 2, 1) := by decide +kernel
theorem d_M_read_19 : decode m_M_read.2.1 19 = .ok (.bipush 12, 2) := by decide +kernel
theorem d_M_read_21 : decode m_M_read.2.1 21 = .ok (.if_icmp .ge 82, 3) := by decide +kernel
theorem d_M_read_24 : decode m_M_read.2.1 24 = .ok (.aload_n 0, 1) := by decide +kernel
theorem d_M_read_25 : decode m_M_read.2.1 25 = .ok (.aload_n 0, 1) := by decide +kernel
theorem d_M_read_26 : decode m_M_read.2.1 26 = .ok (.getfield 13, 3) := by decide +kernel
theorem d_M_read_29 : decode m_M_read.2.1 29 = .ok (.bipush 12, 2) := by decide +kernel
theorem d_M_read_31 : decode m_M_read.2.1 31 = .ok (.iaload, 1) := by decide +kernel
theorem d_M_read_32 : decode m_M_read.2.1 32 = .ok (.iload_n 2, 1) := by decide +kernel
theorem d_M_read_33 : decode m_M_read.2.1 33 = .ok (.aload_n 0, 1) := by decide +kernel
theorem d_M_read_34 : decode m_M_read.2.1 34 = .ok (.getfield 13, 3) := by decide +kernel
theorem d_M_read_37 : decode m_M_read.2.1 37 = .ok (.bipush 14, 2) := by decide +kernel
theorem d_M_read_39 : decode m_M_read.2.1 39 = .ok (.iaload, 1) := by decide +kernel
theorem d_M_read_40 : decode m_M_read.2.1 40 = .ok (.invokevirtual 81, 3) := by decide +kernel
theorem d_M_read_43 : decode m_M_read.2.1 43 = .ok (.ifCond .eq 54, 3) := by decide +kernel
theorem d_M_read_46 : decode m_M_read.2.1 46 = .ok (.aload_n 0, 1) := by decide +kernel
theorem d_M_read_47 : decode m_M_read.2.1 47 = .ok (.getfield 13, 3) := by decide +kernel
theorem d_M_read_50 : decode m_M_read.2.1 50 = .ok (.iload_n 2, 1) := by decide +kernel
theorem d_M_read_51 : decode m_M_read.2.1 51 = .ok (.dup2, 1) := by decide +kernel
theorem d_M_read_52 : decode m_M_read.2.1 52 = .ok (.iaload, 1) := by decide +kernel
theorem d_M_read_53 : decode m_M_read.2.1 53 = .ok (.aload_n 0, 1) := by decide +kernel
theorem d_M_read_54 : decode m_M_read.2.1 54 = .ok (.getfield 23, 3) := by decide +kernel
theorem d_M_read_57 : decode m_M_read.2.1 57 = .ok (.iconst 4, 1) := by decide +kernel
theorem d_M_read_58 : decode m_M_read.2.1 58 = .ok (.iload_n 1, 1) := by decide +kernel
theorem d_M_read_59 : decode m_M_read.2.1 59 = .ok (.imul, 1) := by decide +kernel
theorem d_M_read_60 : decode m_M_read.2.1 60 = .ok (.iconst 1, 1) := by decide +kernel
theorem d_M_read_61 : decode m_M_read.2.1 61 = .ok (.iadd, 1) := by decide +kernel
theorem d_M_read_62 : decode m_M_read.2.1 62 = .ok (.iaload, 1) := by decide +kernel
theorem d_M_read_63 : decode m_M_read.2.1 63 = .ok (.aload_n 0, 1) := by decide +kernel
theorem d_M_read_64 : decode m_M_read.2.1 64 = .ok (.getfield 23, 3) := by decide +kernel
theorem d_M_read_67 : decode m_M_read.2.1 67 = .ok (.iconst 4, 1) := by decide +kernel
theorem d_M_read_68 : decode m_M_read.2.1 68 = .ok (.iload_n 1, 1) := by decide +kernel
theorem d_M_read_69 : decode m_M_read.2.1 69 = .ok (.imul, 1) := by decide +kernel
theorem d_M_read_70 : decode m_M_read.2.1 70 = .ok (.iconst 3, 1) := by decide +kernel
theorem d_M_read_71 : decode m_M_read.2.1 71 = .ok (.iadd, 1) := by decide +kernel
theorem d_M_read_72 : decode m_M_read.2.1 72 = .ok (.iaload, 1) := by decide +kernel
theorem d_M_read_73 : decode m_M_read.2.1 73 = .ok (.iload_n 2, 1) := by decide +kernel
theorem d_M_read_74 : decode m_M_read.2.1 74 = .ok (.invokestatic 77, 3) := by decide +kernel
theorem d_M_read_77 : decode m_M_read.2.1 77 = .ok (.ifCond .eq 16, 3) := by decide +kernel
theorem d_M_read_80 : decode m_M_read.2.1 80 = .ok (.aload_n 0, 1) := by decide +kernel
theorem d_M_read_81 : decode m_M_read.2.1 81 = .ok (.getfield 23, 3) := by decide +kernel
theorem d_M_read_84 : decode m_M_read.2.1 84 = .ok (.iconst 4, 1) := by decide +kernel
theorem d_M_read_85 : decode m_M_read.2.1 85 = .ok (.iload_n 1, 1) := by decide +kernel
theorem d_M_read_86 : decode m_M_read.2.1 86 = .ok (.imul, 1) := by decide +kernel
theorem d_M_read_87 : decode m_M_read.2.1 87 = .ok (.iconst 2, 1) := by decide +kernel
theorem d_M_read_88 : decode m_M_read.2.1 88 = .ok (.iadd, 1) := by decide +kernel
theorem d_M_read_89 : decode m_M_read.2.1 89 = .ok (.iaload, 1) := by decide +kernel
theorem d_M_read_90 : decode m_M_read.2.1 90 = .ok (.goto 4, 3) := by decide +kernel
theorem d_M_read_93 : decode m_M_read.2.1 93 = .ok (.iconst 0, 1) := by decide +kernel
theorem d_M_read_94 : decode m_M_read.2.1 94 = .ok (.ior, 1) := by decide +kernel
theorem d_M_read_95 : decode m_M_read.2.1 95 = .ok (.ior, 1) := by decide +kernel
theorem d_M_read_96 : decode m_M_read.2.1 96 = .ok (.iastore, 1) := by decide +kernel
theorem d_M_read_97 : decode m_M_read.2.1 97 = .ok (.iinc 2 1, 3) := by decide +kernel
theorem d_M_read_100 : decode m_M_read.2.1 100 = .ok (.goto (-82), 3) := by decide +kernel
theorem d_M_read_103 : decode m_M_read.2.1 103 = .ok (.aload_n 0, 1) := by decide +kernel
theorem d_M_read_104 : decode m_M_read.2.1 104 = .ok (.aload_n 0, 1) := by decide +kernel
theorem d_M_read_105 : decode m_M_read.2.1 105 = .ok (.aload_n 0, 1) := by decide +kernel
theorem d_M_read_106 : decode m_M_read.2.1 106 = .ok (.getfield 13, 3) := by decide +kernel
theorem d_M_read_109 : decode m_M_read.2.1 109 = .ok (.bipush 12, 2) := by decide +kernel
theorem d_M_read_111 : decode m_M_read.2.1 111 = .ok (.iaload, 1) := by decide +kernel
theorem d_M_read_112 : decode m_M_read.2.1 112 = .ok (.aload_n 0, 1) := by decide +kernel
theorem d_M_read_113 : decode m_M_read.2.1 113 = .ok (.getfield 23, 3) := by decide +kernel
theorem d_M_read_116 : decode m_M_read.2.1 116 = .ok (.iconst 4, 1) := by decide +kernel
theorem d_M_read_117 : decode m_M_read.2.1 117 = .ok (.iload_n 1, 1) := by decide +kernel
theorem d_M_read_118 : decode m_M_read.2.1 118 = .ok (.imul, 1) := by decide +kernel
theorem d_M_read_119 : decode m_M_read.2.1 119 = .ok (.iaload, 1) := by decide +kernel
theorem d_M_read_120 : decode m_M_read.2.1 120 = .ok (.aload_n 0, 1) := by decide +kernel
theorem d_M_read_121 : decode m_M_read.2.1 121 = .ok (.getfield 13, 3) := by decide +kernel
theorem d_M_read_124 : decode m_M_read.2.1 124 = .ok (.bipush 14, 2) := by decide +kernel
theorem d_M_read_126 : decode m_M_read.2.1 126 = .ok (.iaload, 1) := by decide +kernel
theorem d_M_read_127 : decode m_M_read.2.1 127 = .ok (.invokevirtual 81, 3) := by decide +kernel
theorem d_M_read_130 : decode m_M_read.2.1 130 = .ok (.ifCond .ne 7, 3) := by decide +kernel
theorem d_M_read_133 : decode m_M_read.2.1 133 = .ok (.iconst 1, 1) := by decide +kernel
theorem d_M_read_134 : decode m_M_read.2.1 134 = .ok (.goto 4, 3) := by decide +kernel
theorem d_M_read_137 : decode m_M_read.2.1 137 = .ok (.iconst 0, 1) := by decide +kernel
theorem d_M_read_138 : decode m_M_read.2.1 138 = .ok (.putfield 84, 3) := by decide +kernel
theorem d_M_read_141 : decode m_M_read.2.1 141 = .ok (.aload_n 0, 1) := by decide +kernel
theorem d_M_read_142 : decode m_M_read.2.1 142 = .ok (.getfield 13, 3) := by decide +kernel
theorem d_M_read_145 : decode m_M_read.2.1 145 = .ok (.bipush 15, 2) := by decide +kernel
theorem d_M_read_147 : decode m_M_read.2.1 147 = .ok (.dup2, 1) := by decide +kernel
theorem d_M_read_148 : decode m_M_read.2.1 148 = .ok (.iaload, 1) := by decide +kernel
theorem d_M_read_149 : decode m_M_read.2.1 149 = .ok (.iconst 1, 1) := by decide +kernel
theorem d_M_read_150 : decode m_M_read.2.1 150 = .ok (.iload_n 1, 1) := by decide +kernel
theorem d_M_read_151 : decode m_M_read.2.1 151 = .ok (.ishl, 1) := by decide +kernel
theorem d_M_read_152 : decode m_M_read.2.1 152 = .ok (.ior, 1) := by decide +kernel
theorem d_M_read_153 : decode m_M_read.2.1 153 = .ok (.iastore, 1) := by decide +kernel
theorem d_M_read_154 : decode m_M_read.2.1 154 = .ok (.iconst 0, 1) := by decide +kernel
theorem d_M_read_155 : decode m_M_read.2.1 155 = .ok (.ireturn, 1) := by decide +kernel
theorem d_M_evening_0 : decode m_M_evening.2.1 0 = .ok (.aload_n 0, 1) := by decide +kernel
theorem d_M_evening_1 : decode m_M_evening.2.1 1 = .ok (.getfield 13, 3) := by decide +kernel
theorem d_M_evening_4 : decode m_M_evening.2.1 4 = .ok (.bipush 13, 2) := by decide +kernel
theorem d_M_evening_6 : decode m_M_evening.2.1 6 = .ok (.iaload, 1) := by decide +kernel
theorem d_M_evening_7 : decode m_M_evening.2.1 7 = .ok (.bipush 99, 2) := by decide +kernel
theorem d_M_evening_9 : decode m_M_evening.2.1 9 = .ok (.if_icmp .ne 5, 3) := by decide +kernel
theorem d_M_evening_12 : decode m_M_evening.2.1 12 = .ok (.iconst 3, 1) := by decide +kernel
theorem d_M_evening_13 : decode m_M_evening.2.1 13 = .ok (.ireturn, 1) := by decide +kernel
theorem d_M_evening_14 : decode m_M_evening.2.1 14 = .ok (.iconst 0, 1) := by decide +kernel
theorem d_M_evening_15 : decode m_M_evening.2.1 15 = .ok (.istore_n 1, 1) := by decide +kernel
theorem d_M_evening_16 : decode m_M_evening.2.1 16 = .ok (.iload_n 1, 1) := by decide +kernel
theorem d_M_evening_17 : decode m_M_evening.2.1 17 = .ok (.bipush 12, 2) := by decide +kernel
theorem d_M_evening_19 : decode m_M_evening.2.1 19 = .ok (.if_icmp .ge 21, 3) := by decide +kernel
theorem d_M_evening_22 : decode m_M_evening.2.1 22 = .ok (.aload_n 0, 1) := by decide +kernel
theorem d_M_evening_23 : decode m_M_evening.2.1 23 = .ok (.getfield 32, 3) := by decide +kernel
theorem d_M_evening_26 : decode m_M_evening.2.1 26 = .ok (.iload_n 1, 1) := by decide +kernel
theorem d_M_evening_27 : decode m_M_evening.2.1 27 = .ok (.aload_n 0, 1) := by decide +kernel
theorem d_M_evening_28 : decode m_M_evening.2.1 28 = .ok (.getfield 13, 3) := by decide +kernel
theorem d_M_evening_31 : decode m_M_evening.2.1 31 = .ok (.iload_n 1, 1) := by decide +kernel
theorem d_M_evening_32 : decode m_M_evening.2.1 32 = .ok (.iaload, 1) := by decide +kernel
theorem d_M_evening_33 : decode m_M_evening.2.1 33 = .ok (.iastore, 1) := by decide +kernel
theorem d_M_evening_34 : decode m_M_evening.2.1 34 = .ok (.iinc 1 1, 3) := by decide +kernel
theorem d_M_evening_37 : decode m_M_evening.2.1 37 = .ok (.goto (-21), 3) := by decide +kernel
theorem d_M_evening_40 : decode m_M_evening.2.1 40 = .ok (.iconst 0, 1) := by decide +kernel
theorem d_M_evening_41 : decode m_M_evening.2.1 41 = .ok (.istore_n 1, 1) := by decide +kernel
theorem d_M_evening_42 : decode m_M_evening.2.1 42 = .ok (.iload_n 1, 1) := by decide +kernel
theorem d_M_evening_43 : decode m_M_evening.2.1 43 = .ok (.bipush 11, 2) := by decide +kernel
theorem d_M_evening_45 : decode m_M_evening.2.1 45 = .ok (.if_icmp .ge 85, 3) := by decide +kernel
theorem d_M_evening_48 : decode m_M_evening.2.1 48 = .ok (.aload_n 0, 1) := by decide +kernel
theorem d_M_evening_49 : decode m_M_evening.2.1 49 = .ok (.getfield 16, 3) := by decide +kernel
theorem d_M_evening_52 : decode m_M_evening.2.1 52 = .ok (.iload_n 1, 1) := by decide +kernel
theorem d_M_evening_53 : decode m_M_evening.2.1 53 = .ok (.iaload, 1) := by decide +kernel
theorem d_M_evening_54 : decode m_M_evening.2.1 54 = .ok (.iconst 5, 1) := by decide +kernel
theorem d_M_evening_55 : decode m_M_evening.2.1 55 = .ok (.if_icmp .ge 69, 3) := by decide +kernel
theorem d_M_evening_58 : decode m_M_evening.2.1 58 = .ok (.aload_n 0, 1) := by decide +kernel
theorem d_M_evening_59 : decode m_M_evening.2.1 59 = .ok (.getfield 13, 3) := by decide +kernel
theorem d_M_evening_62 : decode m_M_evening.2.1 62 = .ok (.iload_n 1, 1) := by decide +kernel
theorem d_M_evening_63 : decode m_M_evening.2.1 63 = .ok (.dup2, 1) := by decide +kernel
theorem d_M_evening_64 : decode m_M_evening.2.1 64 = .ok (.iaload, 1) := by decide +kernel
theorem d_M_evening_65 : decode m_M_evening.2.1 65 = .ok (.aload_n 0, 1) := by decide +kernel
theorem d_M_evening_66 : decode m_M_evening.2.1 66 = .ok (.getfield 49, 3) := by decide +kernel
theorem d_M_evening_69 : decode m_M_evening.2.1 69 = .ok (.iload_n 1, 1) := by decide +kernel
theorem d_M_evening_70 : decode m_M_evening.2.1 70 = .ok (.invokestatic 77, 3) := by decide +kernel
theorem d_M_evening_73 : decode m_M_evening.2.1 73 = .ok (.ifCond .eq 7, 3) := by decide +kernel
theorem d_M_evening_76 : decode m_M_evening.2.1 76 = .ok (.iconst 0, 1) := by decide +kernel
theorem d_M_evening_77 : decode m_M_evening.2.1 77 = .ok (.goto 11, 3) := by decide +kernel
theorem d_M_evening_80 : decode m_M_evening.2.1 80 = .ok (.aload_n 0, 1) := by decide +kernel
theorem d_M_evening_81 : decode m_M_evening.2.1 81 = .ok (.getfield 32, 3) := by decide +kernel
theorem d_M_evening_84 : decode m_M_evening.2.1 84 = .ok (.iload_n 1, 1) := by decide +kernel
theorem d_M_evening_85 : decode m_M_evening.2.1 85 = .ok (.iconst 1, 1) := by decide +kernel
theorem d_M_evening_86 : decode m_M_evening.2.1 86 = .ok (.iadd, 1) := by decide +kernel
theorem d_M_evening_87 : decode m_M_evening.2.1 87 = .ok (.iaload, 1) := by decide +kernel
theorem d_M_evening_88 : decode m_M_evening.2.1 88 = .ok (.ior, 1) := by decide +kernel
theorem d_M_evening_89 : decode m_M_evening.2.1 89 = .ok (.iastore, 1) := by decide +kernel
theorem d_M_evening_90 : decode m_M_evening.2.1 90 = .ok (.aload_n 0, 1) := by decide +kernel
theorem d_M_evening_91 : decode m_M_evening.2.1 91 = .ok (.getfield 13, 3) := by decide +kernel
theorem d_M_evening_94 : decode m_M_evening.2.1 94 = .ok (.iload_n 1, 1) := by decide +kernel
theorem d_M_evening_95 : decode m_M_evening.2.1 95 = .ok (.iconst 1, 1) := by decide +kernel
theorem d_M_evening_96 : decode m_M_evening.2.1 96 = .ok (.iadd, 1) := by decide +kernel
theorem d_M_evening_97 : decode m_M_evening.2.1 97 = .ok (.dup2, 1) := by decide +kernel
theorem d_M_evening_98 : decode m_M_evening.2.1 98 = .ok (.iaload, 1) := by decide +kernel
theorem d_M_evening_99 : decode m_M_evening.2.1 99 = .ok (.aload_n 0, 1) := by decide +kernel
theorem d_M_evening_100 : decode m_M_evening.2.1 100 = .ok (.getfield 49, 3) := by decide +kernel
theorem d_M_evening_103 : decode m_M_evening.2.1 103 = .ok (.iload_n 1, 1) := by decide +kernel
theorem d_M_evening_104 : decode m_M_evening.2.1 104 = .ok (.iconst 1, 1) := by decide +kernel
theorem d_M_evening_105 : decode m_M_evening.2.1 105 = .ok (.iadd, 1) := by decide +kernel
theorem d_M_evening_106 : decode m_M_evening.2.1 106 = .ok (.invokestatic 77, 3) := by decide +kernel
theorem d_M_evening_109 : decode m_M_evening.2.1 109 = .ok (.ifCond .eq 7, 3) := by decide +kernel
theorem d_M_evening_112 : decode m_M_evening.2.1 112 = .ok (.iconst 0, 1) := by decide +kernel
theorem d_M_evening_113 : decode m_M_evening.2.1 113 = .ok (.goto 9, 3) := by decide +kernel
theorem d_M_evening_116 : decode m_M_evening.2.1 116 = .ok (.aload_n 0, 1) := by decide +kernel
theorem d_M_evening_117 : decode m_M_evening.2.1 117 = .ok (.getfield 32, 3) := by decide +kernel
theorem d_M_evening_120 : decode m_M_evening.2.1 120 = .ok (.iload_n 1, 1) := by decide +kernel
theorem d_M_evening_121 : decode m_M_evening.2.1 121 = .ok (.iaload, 1) := by decide +kernel
theorem d_M_evening_122 : decode m_M_evening.2.1 122 = .ok (.ior, 1) := by decide +kernel
theorem d_M_evening_123 : decode m_M_evening.2.1 123 = .ok (.iastore, 1) := by decide +kernel
theorem d_M_evening_124 : decode m_M_evening.2.1 124 = .ok (.iinc 1 1, 3) := by decide +kernel
theorem d_M_evening_127 : decode m_M_evening.2.1 127 = .ok (.goto (-85), 3) := by decide +kernel
theorem d_M_evening_130 : decode m_M_evening.2.1 130 = .ok (.aload_n 0, 1) := by decide +kernel
theorem d_M_evening_131 : decode m_M_evening.2.1 131 = .ok (.getfield 13, 3) := by decide +kernel
theorem d_M_evening_134 : decode m_M_evening.2.1 134 = .ok (.bipush 13, 2) := by decide +kernel
theorem d_M_evening_136 : decode m_M_evening.2.1 136 = .ok (.dup2, 1) := by decide +kernel
theorem d_M_evening_137 : decode m_M_evening.2.1 137 = .ok (.iaload, 1) := by decide +kernel
theorem d_M_evening_138 : decode m_M_evening.2.1 138 = .ok (.iconst 1, 1) := by decide +kernel
theorem d_M_evening_139 : decode m_M_evening.2.1 139 = .ok (.iadd, 1) := by decide +kernel
theorem d_M_evening_140 : decode m_M_evening.2.1 140 = .ok (.iastore, 1) := by decide +kernel
theorem d_M_evening_141 : decode m_M_evening.2.1 141 = .ok (.iconst 0, 1) := by decide +kernel
theorem d_M_evening_142 : decode m_M_evening.2.1 142 = .ok (.ireturn, 1) := by decide +kernel
theorem d_M_goDays_0 : decode m_M_goDays.2.1 0 = .ok (.aload_n 0, 1) := by decide +kernel
theorem d_M_goDays_1 : decode m_M_goDays.2.1 1 = .ok (.invokevirtual 88, 3) := by decide +kernel
theorem d_M_goDays_4 : decode m_M_goDays.2.1 4 = .ok (.aload_n 0, 1) := by decide +kernel
theorem d_M_goDays_5 : decode m_M_goDays.2.1 5 = .ok (.iconst 0, 1) := by decide +kernel
theorem d_M_goDays_6 : decode m_M_goDays.2.1 6 = .ok (.putfield 91, 3) := by decide +kernel
theorem d_M_goDays_9 : decode m_M_goDays.2.1 9 = .ok (.aload_n 0, 1) := by decide +kernel
theorem d_M_goDays_10 : decode m_M_goDays.2.1 10 = .ok (.bipush (-6), 2) := by decide +kernel
theorem d_M_goDays_12 : decode m_M_goDays.2.1 12 = .ok (.putfield 94, 3) := by decide +kernel
theorem d_M_goDays_15 : decode m_M_goDays.2.1 15 = .ok (.iconst 0, 1) := by decide +kernel
theorem d_M_goDays_16 : decode m_M_goDays.2.1 16 = .ok (.istore_n 1, 1) := by decide +kernel
theorem d_M_goDays_17 : decode m_M_goDays.2.1 17 = .ok (.iload_n 1, 1) := by decide +kernel
theorem d_M_goDays_18 : decode m_M_goDays.2.1 18 = .ok (.aload_n 0, 1) := by decide +kernel
theorem d_M_goDays_19 : decode m_M_goDays.2.1 19 = .ok (.getfield 63, 3) := by decide +kernel
theorem d_M_goDays_22 : decode m_M_goDays.2.1 22 = .ok (.if_icmp .ge 157, 3) := by decide +kernel
theorem d_M_goDays_25 : decode m_M_goDays.2.1 25 = .ok (.aload_n 0, 1) := by decide +kernel
theorem d_M_goDays_26 : decode m_M_goDays.2.1 26 = .ok (.getfield 29, 3) := by decide +kernel
theorem d_M_goDays_29 : decode m_M_goDays.2.1 29 = .ok (.iload_n 1, 1) := by decide +kernel
theorem d_M_goDays_30 : decode m_M_goDays.2.1 30 = .ok (.iaload, 1) := by decide +kernel
theorem d_M_goDays_31 : decode m_M_goDays.2.1 31 = .ok (.istore_n 2, 1) := by decide +kernel
theorem d_M_goDays_32 : decode m_M_goDays.2.1 32 = .ok (.aload_n 0, 1) := by decide +kernel
theorem d_M_goDays_33 : decode m_M_goDays.2.1 33 = .ok (.iconst 0, 1) := by decide +kernel
theorem d_M_goDays_34 : decode m_M_goDays.2.1 34 = .ok (.putfield 97, 3) := by decide +kernel
theorem d_M_goDays_37 : decode m_M_goDays.2.1 37 = .ok (.aload_n 0, 1) := by decide +kernel
theorem d_M_goDays_38 : decode m_M_goDays.2.1 38 = .ok (.iconst 0, 1) := by decide +kernel
theorem d_M_goDays_39 : decode m_M_goDays.2.1 39 = .ok (.putfield 84, 3) := by decide +kernel
theorem d_M_goDays_42 : decode m_M_goDays.2.1 42 = .ok (.iload_n 2, 1) := by decide +kernel
theorem d_M_goDays_43 : decode m_M_goDays.2.1 43 = .ok (.bipush 46, 2) := by decide +kernel
theorem d_M_goDays_45 : decode m_M_goDays.2.1 45 = .ok (.if_icmp .ne 14, 3) := by decide +kernel
theorem d_M_goDays_48 : decode m_M_goDays.2.1 48 = .ok (.aload_n 0, 1) := by decide +kernel
theorem d_M_goDays_49 : decode m_M_goDays.2.1 49 = .ok (.aload_n 0, 1) := by decide +kernel
theorem d_M_goDays_50 : decode m_M_goDays.2.1 50 = .ok (.invokevirtual 100, 3) := by decide +kernel
theorem d_M_goDays_53 : decode m_M_goDays.2.1 53 = .ok (.putfield 97, 3) := by decide +kernel
theorem d_M_goDays_56 : decode m_M_goDays.2.1 56 = .ok (.goto 66, 3) := by decide +kernel
theorem d_M_goDays_59 : decode m_M_goDays.2.1 59 = .ok (.iload_n 2, 1) := by decide +kernel
theorem d_M_goDays_60 : decode m_M_goDays.2.1 60 = .ok (.bipush 33, 2) := by decide +kernel
theorem d_M_goDays_62 : decode m_M_goDays.2.1 62 = .ok (.if_icmp .ne 30, 3) := by decide +kernel
theorem d_M_goDays_65 : decode m_M_goDays.2.1 65 = .ok (.iinc 1 1, 3) := by decide +kernel
theorem d_M_goDays_68 : decode m_M_goDays.2.1 68 = .ok (.aload_n 0, 1) := by decide +kernel
theorem d_M_goDays_69 : decode m_M_goDays.2.1 69 = .ok (.getfield 13, 3) := by decide +kernel
theorem d_M_goDays_72 : decode m_M_goDays.2.1 72 = .ok (.bipush 14, 2) := by decide +kernel
theorem d_M_goDays_74 : decode m_M_goDays.2.1 74 = .ok (.dup2, 1) := by decide +kernel
theorem d_M_goDays_75 : decode m_M_goDays.2.1 75 = .ok (.iaload, 1) := by decide +kernel
theorem d_M_goDays_76 : decode m_M_goDays.2.1 76 = .ok (.iconst 1, 1) := by decide +kernel
theorem d_M_goDays_77 : decode m_M_goDays.2.1 77 = .ok (.aload_n 0, 1) := by decide +kernel
theorem d_M_goDays_78 : decode m_M_goDays.2.1 78 = .ok (.getfield 29, 3) := by decide +kernel
theorem d_M_goDays_81 : decode m_M_goDays.2.1 81 = .ok (.iload_n 1, 1) := by decide +kernel
theorem d_M_goDays_82 : decode m_M_goDays.2.1 82 = .ok (.iaload, 1) := by decide +kernel
theorem d_M_goDays_83 : decode m_M_goDays.2.1 83 = .ok (.bipush 97, 2) := by decide +kernel
theorem d_M_goDays_85 : decode m_M_goDays.2.1 85 = .ok (.isub, 1) := by decide +kernel
theorem d_M_goDays_86 : decode m_M_goDays.2.1 86 = .ok (.ishl, 1) := by decide +kernel
theorem d_M_goDays_87 : decode m_M_goDays.2.1 87 = .ok (.ixor, 1) := by decide +kernel
theorem d_M_goDays_88 : decode m_M_goDays.2.1 88 = .ok (.iastore, 1) := by decide +kernel
theorem d_M_goDays_89 : decode m_M_goDays.2.1 89 = .ok (.goto 33, 3) := by decide +kernel
theorem d_M_goDays_92 : decode m_M_goDays.2.1 92 = .ok (.aload_n 0, 1) := by decide +kernel
theorem d_M_goDays_93 : decode m_M_goDays.2.1 93 = .ok (.iload_n 2, 1) := by decide +kernel
theorem d_M_goDays_94 : decode m_M_goDays.2.1 94 = .ok (.invokestatic 66, 3) := by decide +kernel
theorem d_M_goDays_97 : decode m_M_goDays.2.1 97 = .ok (.ifCond .eq 14, 3) := by decide +kernel
theorem d_M_goDays_100 : decode m_M_goDays.2.1 100 = .ok (.aload_n 0, 1) := by decide +kernel
theorem d_M_goDays_101 : decode m_M_goDays.2.1 101 = .ok (.iload_n 2, 1) := by decide +kernel
theorem d_M_goDays_102 : decode m_M_goDays.2.1 102 = .ok (.bipush 97, 2) := by decide +kernel
theorem d_M_goDays_104 : decode m_M_goDays.2.1 104 = .ok (.isub, 1) := by decide +kernel
theorem d_M_goDays_105 : decode m_M_goDays.2.1 105 = .ok (.invokevirtual 103, 3) := by decide +kernel
theorem d_M_goDays_108 : decode m_M_goDays.2.1 108 = .ok (.goto 11, 3) := by decide +kernel
theorem d_M_goDays_111 : decode m_M_goDays.2.1 111 = .ok (.aload_n 0, 1) := by decide +kernel
theorem d_M_goDays_112 : decode m_M_goDays.2.1 112 = .ok (.iload_n 2, 1) := by decide +kernel
theorem d_M_goDays_113 : decode m_M_goDays.2.1 113 = .ok (.bipush 48, 2) := by decide +kernel
theorem d_M_goDays_115 : decode m_M_goDays.2.1 115 = .ok (.isub, 1) := by decide +kernel
theorem d_M_goDays_116 : decode m_M_goDays.2.1 116 = .ok (.invokevirtual 107, 3) := by decide +kernel
theorem d_M_goDays_119 : decode m_M_goDays.2.1 119 = .ok (.putfield 97, 3) := by decide +kernel
theorem d_M_goDays_122 : decode m_M_goDays.2.1 122 = .ok (.aload_n 0, 1) := by decide +kernel
theorem d_M_goDays_123 : decode m_M_goDays.2.1 123 = .ok (.getfield 97, 3) := by decide +kernel
theorem d_M_goDays_126 : decode m_M_goDays.2.1 126 = .ok (.ifCond .le 8, 3) := by decide +kernel
theorem d_M_goDays_129 : decode m_M_goDays.2.1 129 = .ok (.aload_n 0, 1) := by decide +kernel
theorem d_M_goDays_130 : decode m_M_goDays.2.1 130 = .ok (.getfield 91, 3) := by decide +kernel
theorem d_M_goDays_133 : decode m_M_goDays.2.1 133 = .ok (.ireturn, 1) := by decide +kernel
theorem d_M_goDays_134 : decode m_M_goDays.2.1 134 = .ok (.aload_n 0, 1) := by decide +kernel
theorem d_M_goDays_135 : decode m_M_goDays.2.1 135 = .ok (.aload_n 0, 1) := by decide +kernel
theorem d_M_goDays_136 : decode m_M_goDays.2.1 136 = .ok (.getfield 94, 3) := by decide +kernel
theorem d_M_goDays_139 : decode m_M_goDays.2.1 139 = .ok (.ifCond .ge 17, 3) := by decide +kernel
theorem d_M_goDays_142 : decode m_M_goDays.2.1 142 = .ok (.aload_n 0, 1) := by decide +kernel
theorem d_M_goDays_143 : decode m_M_goDays.2.1 143 = .ok (.getfield 84, 3) := by decide +kernel
theorem d_M_goDays_146 : decode m_M_goDays.2.1 146 = .ok (.ifCond .eq 10, 3) := by decide +kernel
theorem d_M_goDays_149 : decode m_M_goDays.2.1 149 = .ok (.aload_n 0, 1) := by decide +kernel
theorem d_M_goDays_150 : decode m_M_goDays.2.1 150 = .ok (.getfield 91, 3) := by decide +kernel
theorem d_M_goDays_153 : decode m_M_goDays.2.1 153 = .ok (.goto 7, 3) := by decide +kernel
theorem d_M_goDays_156 : decode m_M_goDays.2.1 156 = .ok (.aload_n 0, 1) := by decide +kernel
theorem d_M_goDays_157 : decode m_M_goDays.2.1 157 = .ok (.getfield 94, 3) := by decide +kernel
theorem d_M_goDays_160 : decode m_M_goDays.2.1 160 = .ok (.putfield 94, 3) := by decide +kernel
theorem d_M_goDays_163 : decode m_M_goDays.2.1 163 = .ok (.iinc 1 1, 3) := by decide +kernel
theorem d_M_goDays_166 : decode m_M_goDays.2.1 166 = .ok (.aload_n 0, 1) := by decide +kernel
theorem d_M_goDays_167 : decode m_M_goDays.2.1 167 = .ok (.dup, 1) := by decide +kernel
theorem d_M_goDays_168 : decode m_M_goDays.2.1 168 = .ok (.getfield 91, 3) := by decide +kernel
theorem d_M_goDays_171 : decode m_M_goDays.2.1 171 = .ok (.iconst 1, 1) := by decide +kernel
theorem d_M_goDays_172 : decode m_M_goDays.2.1 172 = .ok (.iadd, 1) := by decide +kernel
theorem d_M_goDays_173 : decode m_M_goDays.2.1 173 = .ok (.putfield 91, 3) := by decide +kernel
theorem d_M_goDays_176 : decode m_M_goDays.2.1 176 = .ok (.goto (-159), 3) := by decide +kernel
theorem d_M_goDays_179 : decode m_M_goDays.2.1 179 = .ok (.bipush (-6), 2) := by decide +kernel
theorem d_M_goDays_181 : decode m_M_goDays.2.1 181 = .ok (.ireturn, 1) := by decide +kernel
theorem d_M_judge_0 : decode m_M_judge.2.1 0 = .ok (.iload_n 1, 1) := by decide +kernel
theorem d_M_judge_1 : decode m_M_judge.2.1 1 = .ok (.iconst 0, 1) := by decide +kernel
theorem d_M_judge_2 : decode m_M_judge.2.1 2 = .ok (.iconst 1, 1) := by decide +kernel
theorem d_M_judge_3 : decode m_M_judge.2.1 3 = .ok (.invokestatic 52, 3) := by decide +kernel
theorem d_M_judge_6 : decode m_M_judge.2.1 6 = .ok (.ifCond .ne 6, 3) := by decide +kernel
theorem d_M_judge_9 : decode m_M_judge.2.1 9 = .ok (.bipush (-2), 2) := by decide +kernel
theorem d_M_judge_11 : decode m_M_judge.2.1 11 = .ok (.ireturn, 1) := by decide +kernel
theorem d_M_judge_12 : decode m_M_judge.2.1 12 = .ok (.aload_n 0, 1) := by decide +kernel
theorem d_M_judge_13 : decode m_M_judge.2.1 13 = .ok (.invokevirtual 69, 3) := by decide +kernel
theorem d_M_judge_16 : decode m_M_judge.2.1 16 = .ok (.ifCond .lt 6, 3) := by decide +kernel
theorem d_M_judge_19 : decode m_M_judge.2.1 19 = .ok (.bipush (-5), 2) := by decide +kernel
theorem d_M_judge_21 : decode m_M_judge.2.1 21 = .ok (.ireturn, 1) := by decide +kernel
theorem d_M_judge_22 : decode m_M_judge.2.1 22 = .ok (.aload_n 0, 1) := by decide +kernel
theorem d_M_judge_23 : decode m_M_judge.2.1 23 = .ok (.invokevirtual 110, 3) := by decide +kernel
theorem d_M_judge_26 : decode m_M_judge.2.1 26 = .ok (.istore_n 2, 1) := by decide +kernel
theorem d_M_judge_27 : decode m_M_judge.2.1 27 = .ok (.iload_n 2, 1) := by decide +kernel
theorem d_M_judge_28 : decode m_M_judge.2.1 28 = .ok (.ifCond .lt 7, 3) := by decide +kernel
theorem d_M_judge_31 : decode m_M_judge.2.1 31 = .ok (.iload_n 1, 1) := by decide +kernel
theorem d_M_judge_32 : decode m_M_judge.2.1 32 = .ok (.ifCond .ne 7, 3) := by decide +kernel
theorem d_M_judge_35 : decode m_M_judge.2.1 35 = .ok (.iload_n 2, 1) := by decide +kernel
theorem d_M_judge_36 : decode m_M_judge.2.1 36 = .ok (.goto 7, 3) := by decide +kernel
theorem d_M_judge_39 : decode m_M_judge.2.1 39 = .ok (.aload_n 0, 1) := by decide +kernel
theorem d_M_judge_40 : decode m_M_judge.2.1 40 = .ok (.getfield 97, 3) := by decide +kernel
theorem d_M_judge_43 : decode m_M_judge.2.1 43 = .ok (.ireturn, 1) := by decide +kernel
theorem d_M_barOfDays_0 : decode m_M_barOfDays.2.1 0 = .ok (.aload_n 0, 1) := by decide +kernel
theorem d_M_barOfDays_1 : decode m_M_barOfDays.2.1 1 = .ok (.invokevirtual 69, 3) := by decide +kernel
theorem d_M_barOfDays_4 : decode m_M_barOfDays.2.1 4 = .ok (.ifCond .ge 10, 3) := by decide +kernel
theorem d_M_barOfDays_7 : decode m_M_barOfDays.2.1 7 = .ok (.aload_n 0, 1) := by decide +kernel
theorem d_M_barOfDays_8 : decode m_M_barOfDays.2.1 8 = .ok (.invokevirtual 110, 3) := by decide +kernel
theorem d_M_barOfDays_11 : decode m_M_barOfDays.2.1 11 = .ok (.ifCond .lt 8, 3) := by decide +kernel
theorem d_M_barOfDays_14 : decode m_M_barOfDays.2.1 14 = .ok (.bipush (-5), 2) := by decide +kernel
theorem d_M_barOfDays_16 : decode m_M_barOfDays.2.1 16 = .ok (.goto 4, 3) := by decide +kernel
theorem d_M_barOfDays_19 : decode m_M_barOfDays.2.1 19 = .ok (.iconst 0, 1) := by decide +kernel
theorem d_M_barOfDays_20 : decode m_M_barOfDays.2.1 20 = .ok (.ireturn, 1) := by decide +kernel
theorem d_M_done_0 : decode m_M_done.2.1 0 = .ok (.aload_n 0, 1) := by decide +kernel
theorem d_M_done_1 : decode m_M_done.2.1 1 = .ok (.invokevirtual 113, 3) := by decide +kernel
theorem d_M_done_4 : decode m_M_done.2.1 4 = .ok (.ifCond .ge 6, 3) := by decide +kernel
theorem d_M_done_7 : decode m_M_done.2.1 7 = .ok (.bipush (-5), 2) := by decide +kernel
theorem d_M_done_9 : decode m_M_done.2.1 9 = .ok (.ireturn, 1) := by decide +kernel
theorem d_M_done_10 : decode m_M_done.2.1 10 = .ok (.iconst 0, 1) := by decide +kernel
theorem d_M_done_11 : decode m_M_done.2.1 11 = .ok (.istore_n 1, 1) := by decide +kernel
theorem d_M_done_12 : decode m_M_done.2.1 12 = .ok (.iload_n 1, 1) := by decide +kernel
theorem d_M_done_13 : decode m_M_done.2.1 13 = .ok (.bipush 16, 2) := by decide +kernel
theorem d_M_done_15 : decode m_M_done.2.1 15 = .ok (.if_icmp .ge 21, 3) := by decide +kernel
theorem d_M_done_18 : decode m_M_done.2.1 18 = .ok (.aload_n 0, 1) := by decide +kernel
theorem d_M_done_19 : decode m_M_done.2.1 19 = .ok (.getfield 7, 3) := by decide +kernel
theorem d_M_done_22 : decode m_M_done.2.1 22 = .ok (.iload_n 1, 1) := by decide +kernel
theorem d_M_done_23 : decode m_M_done.2.1 23 = .ok (.aload_n 0, 1) := by decide +kernel
theorem d_M_done_24 : decode m_M_done.2.1 24 = .ok (.getfield 13, 3) := by decide +kernel
theorem d_M_done_27 : decode m_M_done.2.1 27 = .ok (.iload_n 1, 1) := by decide +kernel
theorem d_M_done_28 : decode m_M_done.2.1 28 = .ok (.iaload, 1) := by decide +kernel
theorem d_M_done_29 : decode m_M_done.2.1 29 = .ok (.iastore, 1) := by decide +kernel
theorem d_M_done_30 : decode m_M_done.2.1 30 = .ok (.iinc 1 1, 3) := by decide +kernel
theorem d_M_done_33 : decode m_M_done.2.1 33 = .ok (.goto (-21), 3) := by decide +kernel
theorem d_M_done_36 : decode m_M_done.2.1 36 = .ok (.aload_n 0, 1) := by decide +kernel
theorem d_M_done_37 : decode m_M_done.2.1 37 = .ok (.iconst 0, 1) := by decide +kernel
theorem d_M_done_38 : decode m_M_done.2.1 38 = .ok (.putfield 63, 3) := by decide +kernel
theorem d_M_done_41 : decode m_M_done.2.1 41 = .ok (.aload_n 0, 1) := by decide +kernel
theorem d_M_done_42 : decode m_M_done.2.1 42 = .ok (.getfield 91, 3) := by decide +kernel
theorem d_M_done_45 : decode m_M_done.2.1 45 = .ok (.ireturn, 1) := by decide +kernel
theorem d_M_knows_0 : decode m_M_knows.2.1 0 = .ok (.iload_n 1, 1) := by decide +kernel
theorem d_M_knows_1 : decode m_M_knows.2.1 1 = .ok (.invokestatic 56, 3) := by decide +kernel
theorem d_M_knows_4 : decode m_M_knows.2.1 4 = .ok (.ifCond .ne 5, 3) := by decide +kernel
theorem d_M_knows_7 : decode m_M_knows.2.1 7 = .ok (.iconst (-1), 1) := by decide +kernel
theorem d_M_knows_8 : decode m_M_knows.2.1 8 = .ok (.ireturn, 1) := by decide +kernel
theorem d_M_knows_9 : decode m_M_knows.2.1 9 = .ok (.aload_n 0, 1) := by decide +kernel
theorem d_M_knows_10 : decode m_M_knows.2.1 10 = .ok (.invokevirtual 113, 3) := by decide +kernel
theorem d_M_knows_13 : decode m_M_knows.2.1 13 = .ok (.ifCond .ge 8, 3) := by decide +kernel
theorem d_M_knows_16 : decode m_M_knows.2.1 16 = .ok (.bipush (-5), 2) := by decide +kernel
theorem d_M_knows_18 : decode m_M_knows.2.1 18 = .ok (.goto 9, 3) := by decide +kernel
theorem d_M_knows_21 : decode m_M_knows.2.1 21 = .ok (.aload_n 0, 1) := by decide +kernel
theorem d_M_knows_22 : decode m_M_knows.2.1 22 = .ok (.getfield 13, 3) := by decide +kernel
theorem d_M_knows_25 : decode m_M_knows.2.1 25 = .ok (.iload_n 1, 1) := by decide +kernel
theorem d_M_knows_26 : decode m_M_knows.2.1 26 = .ok (.iaload, 1) := by decide +kernel
theorem d_M_knows_27 : decode m_M_knows.2.1 27 = .ok (.ireturn, 1) := by decide +kernel
theorem d_M_behind_0 : decode m_M_behind.2.1 0 = .ok (.iload_n 1, 1) := by decide +kernel
theorem d_M_behind_1 : decode m_M_behind.2.1 1 = .ok (.iconst 0, 1) := by decide +kernel
theorem d_M_behind_2 : decode m_M_behind.2.1 2 = .ok (.iconst 3, 1) := by decide +kernel
theorem d_M_behind_3 : decode m_M_behind.2.1 3 = .ok (.invokestatic 52, 3) := by decide +kernel
theorem d_M_behind_6 : decode m_M_behind.2.1 6 = .ok (.ifCond .ne 6, 3) := by decide +kernel
theorem d_M_behind_9 : decode m_M_behind.2.1 9 = .ok (.bipush (-2), 2) := by decide +kernel
theorem d_M_behind_11 : decode m_M_behind.2.1 11 = .ok (.ireturn, 1) := by decide +kernel
theorem d_M_behind_12 : decode m_M_behind.2.1 12 = .ok (.aload_n 0, 1) := by decide +kernel
theorem d_M_behind_13 : decode m_M_behind.2.1 13 = .ok (.invokevirtual 113, 3) := by decide +kernel
theorem d_M_behind_16 : decode m_M_behind.2.1 16 = .ok (.ifCond .ge 6, 3) := by decide +kernel
theorem d_M_behind_19 : decode m_M_behind.2.1 19 = .ok (.bipush (-5), 2) := by decide +kernel
theorem d_M_behind_21 : decode m_M_behind.2.1 21 = .ok (.ireturn, 1) := by decide +kernel
theorem d_M_behind_22 : decode m_M_behind.2.1 22 = .ok (.iload_n 1, 1) := by decide +kernel
theorem d_M_behind_23 : decode m_M_behind.2.1 23 = .ok (.ifCond .ne 13, 3) := by decide +kernel
theorem d_M_behind_26 : decode m_M_behind.2.1 26 = .ok (.aload_n 0, 1) := by decide +kernel
theorem d_M_behind_27 : decode m_M_behind.2.1 27 = .ok (.getfield 13, 3) := by decide +kernel
theorem d_M_behind_30 : decode m_M_behind.2.1 30 = .ok (.bipush 12, 2) := by decide +kernel
theorem d_M_behind_32 : decode m_M_behind.2.1 32 = .ok (.iaload, 1) := by decide +kernel
theorem d_M_behind_33 : decode m_M_behind.2.1 33 = .ok (.goto 37, 3) := by decide +kernel
theorem d_M_behind_36 : decode m_M_behind.2.1 36 = .ok (.iload_n 1, 1) := by decide +kernel
theorem d_M_behind_37 : decode m_M_behind.2.1 37 = .ok (.iconst 1, 1) := by decide +kernel
theorem d_M_behind_38 : decode m_M_behind.2.1 38 = .ok (.if_icmp .ne 13, 3) := by decide +kernel
theorem d_M_behind_41 : decode m_M_behind.2.1 41 = .ok (.aload_n 0, 1) := by decide +kernel
theorem d_M_behind_42 : decode m_M_behind.2.1 42 = .ok (.getfield 13, 3) := by decide +kernel
theorem d_M_behind_45 : decode m_M_behind.2.1 45 = .ok (.bipush 13, 2) := by decide +kernel
theorem d_M_behind_47 : decode m_M_behind.2.1 47 = .ok (.iaload, 1) := by decide +kernel
theorem d_M_behind_48 : decode m_M_behind.2.1 48 = .ok (.goto 22, 3) := by decide +kernel
theorem d_M_behind_51 : decode m_M_behind.2.1 51 = .ok (.iload_n 1, 1) := by decide +kernel
theorem d_M_behind_52 : decode m_M_behind.2.1 52 = .ok (.iconst 2, 1) := by decide +kernel
theorem d_M_behind_53 : decode m_M_behind.2.1 53 = .ok (.if_icmp .ne 13, 3) := by decide +kernel
theorem d_M_behind_56 : decode m_M_behind.2.1 56 = .ok (.aload_n 0, 1) := by decide +kernel
theorem d_M_behind_57 : decode m_M_behind.2.1 57 = .ok (.getfield 13, 3) := by decide +kernel
theorem d_M_behind_60 : decode m_M_behind.2.1 60 = .ok (.bipush 15, 2) := by decide +kernel
theorem d_M_behind_62 : decode m_M_behind.2.1 62 = .ok (.iaload, 1) := by decide +kernel
theorem d_M_behind_63 : decode m_M_behind.2.1 63 = .ok (.goto 7, 3) := by decide +kernel
theorem d_M_behind_66 : decode m_M_behind.2.1 66 = .ok (.aload_n 0, 1) := by decide +kernel
theorem d_M_behind_67 : decode m_M_behind.2.1 67 = .ok (.getfield 94, 3) := by decide +kernel
theorem d_M_behind_70 : decode m_M_behind.2.1 70 = .ok (.ireturn, 1) := by decide +kernel
theorem d_M_who_0 : decode m_M_who.2.1 0 = .ok (.iload_n 1, 1) := by decide +kernel
theorem d_M_who_1 : decode m_M_who.2.1 1 = .ok (.iconst 0, 1) := by decide +kernel
theorem d_M_who_2 : decode m_M_who.2.1 2 = .ok (.bipush 7, 2) := by decide +kernel
theorem d_M_who_4 : decode m_M_who.2.1 4 = .ok (.invokestatic 52, 3) := by decide +kernel
theorem d_M_who_7 : decode m_M_who.2.1 7 = .ok (.ifCond .ne 5, 3) := by decide +kernel
theorem d_M_who_10 : decode m_M_who.2.1 10 = .ok (.iconst (-1), 1) := by decide +kernel
theorem d_M_who_11 : decode m_M_who.2.1 11 = .ok (.ireturn, 1) := by decide +kernel
theorem d_M_who_12 : decode m_M_who.2.1 12 = .ok (.iconst 0, 1) := by decide +kernel
theorem d_M_who_13 : decode m_M_who.2.1 13 = .ok (.istore_n 2, 1) := by decide +kernel
theorem d_M_who_14 : decode m_M_who.2.1 14 = .ok (.iconst 0, 1) := by decide +kernel
theorem d_M_who_15 : decode m_M_who.2.1 15 = .ok (.istore_n 3, 1) := by decide +kernel
theorem d_M_who_16 : decode m_M_who.2.1 16 = .ok (.iload_n 3, 1) := by decide +kernel
theorem d_M_who_17 : decode m_M_who.2.1 17 = .ok (.bipush 12, 2) := by decide +kernel
theorem d_M_who_19 : decode m_M_who.2.1 19 = .ok (.if_icmp .ge 32, 3) := by decide +kernel
theorem d_M_who_22 : decode m_M_who.2.1 22 = .ok (.iload_n 2, 1) := by decide +kernel
theorem d_M_who_23 : decode m_M_who.2.1 23 = .ok (.aload_n 0, 1) := by decide +kernel
theorem d_M_who_24 : decode m_M_who.2.1 24 = .ok (.getfield 7, 3) := by decide +kernel
theorem d_M_who_27 : decode m_M_who.2.1 27 = .ok (.iload_n 3, 1) := by decide +kernel
theorem d_M_who_28 : decode m_M_who.2.1 28 = .ok (.iaload, 1) := by decide +kernel
theorem d_M_who_29 : decode m_M_who.2.1 29 = .ok (.iload_n 1, 1) := by decide +kernel
theorem d_M_who_30 : decode m_M_who.2.1 30 = .ok (.invokestatic 77, 3) := by decide +kernel
theorem d_M_who_33 : decode m_M_who.2.1 33 = .ok (.ifCond .eq 9, 3) := by decide +kernel
theorem d_M_who_36 : decode m_M_who.2.1 36 = .ok (.iconst 1, 1) := by decide +kernel
theorem d_M_who_37 : decode m_M_who.2.1 37 = .ok (.iload_n 3, 1) := by decide +kernel
theorem d_M_who_38 : decode m_M_who.2.1 38 = .ok (.ishl, 1) := by decide +kernel
theorem d_M_who_39 : decode m_M_who.2.1 39 = .ok (.goto 4, 3) := by decide +kernel
theorem d_M_who_42 : decode m_M_who.2.1 42 = .ok (.iconst 0, 1) := by decide +kernel
theorem d_M_who_43 : decode m_M_who.2.1 43 = .ok (.ior, 1) := by decide +kernel
theorem d_M_who_44 : decode m_M_who.2.1 44 = .ok (.istore_n 2, 1) := by decide +kernel
theorem d_M_who_45 : decode m_M_who.2.1 45 = .ok (.iinc 3 1, 3) := by decide +kernel
theorem d_M_who_48 : decode m_M_who.2.1 48 = .ok (.goto (-32), 3) := by decide +kernel
theorem d_M_who_51 : decode m_M_who.2.1 51 = .ok (.iload_n 2, 1) := by decide +kernel
theorem d_M_who_52 : decode m_M_who.2.1 52 = .ok (.ireturn, 1) := by decide +kernel
theorem d_M_loud_0 : decode m_M_loud.2.1 0 = .ok (.iload_n 1, 1) := by decide +kernel
theorem d_M_loud_1 : decode m_M_loud.2.1 1 = .ok (.invokestatic 56, 3) := by decide +kernel
theorem d_M_loud_4 : decode m_M_loud.2.1 4 = .ok (.ifCond .eq 19, 3) := by decide +kernel
theorem d_M_loud_7 : decode m_M_loud.2.1 7 = .ok (.iload_n 2, 1) := by decide +kernel
theorem d_M_loud_8 : decode m_M_loud.2.1 8 = .ok (.invokestatic 56, 3) := by decide +kernel
theorem d_M_loud_11 : decode m_M_loud.2.1 11 = .ok (.ifCond .eq 12, 3) := by decide +kernel
theorem d_M_loud_14 : decode m_M_loud.2.1 14 = .ok (.aload_n 0, 1) := by decide +kernel
theorem d_M_loud_15 : decode m_M_loud.2.1 15 = .ok (.iload_n 1, 1) := by decide +kernel
theorem d_M_loud_16 : decode m_M_loud.2.1 16 = .ok (.iload_n 2, 1) := by decide +kernel
theorem d_M_loud_17 : decode m_M_loud.2.1 17 = .ok (.invokevirtual 73, 3) := by decide +kernel
theorem d_M_loud_20 : decode m_M_loud.2.1 20 = .ok (.goto 4, 3) := by decide +kernel
theorem d_M_loud_23 : decode m_M_loud.2.1 23 = .ok (.iconst (-1), 1) := by decide +kernel
theorem d_M_loud_24 : decode m_M_loud.2.1 24 = .ok (.ireturn, 1) := by decide +kernel
theorem d_M_hears_0 : decode m_M_hears.2.1 0 = .ok (.iload_n 1, 1) := by decide +kernel
theorem d_M_hears_1 : decode m_M_hears.2.1 1 = .ok (.invokestatic 56, 3) := by decide +kernel
theorem d_M_hears_4 : decode m_M_hears.2.1 4 = .ok (.ifCond .eq 18, 3) := by decide +kernel
theorem d_M_hears_7 : decode m_M_hears.2.1 7 = .ok (.aload_n 0, 1) := by decide +kernel
theorem d_M_hears_8 : decode m_M_hears.2.1 8 = .ok (.iload_n 1, 1) := by decide +kernel
theorem d_M_hears_9 : decode m_M_hears.2.1 9 = .ok (.aload_n 0, 1) := by decide +kernel
theorem d_M_hears_10 : decode m_M_hears.2.1 10 = .ok (.getfield 7, 3) := by decide +kernel
theorem d_M_hears_13 : decode m_M_hears.2.1 13 = .ok (.bipush 14, 2) := by decide +kernel
theorem d_M_hears_15 : decode m_M_hears.2.1 15 = .ok (.iaload, 1) := by decide +kernel
theorem d_M_hears_16 : decode m_M_hears.2.1 16 = .ok (.invokevirtual 116, 3) := by decide +kernel
theorem d_M_hears_19 : decode m_M_hears.2.1 19 = .ok (.goto 4, 3) := by decide +kernel
theorem d_M_hears_22 : decode m_M_hears.2.1 22 = .ok (.iconst (-1), 1) := by decide +kernel
theorem d_M_hears_23 : decode m_M_hears.2.1 23 = .ok (.ireturn, 1) := by decide +kernel
theorem d_M_best_0 : decode m_M_best.2.1 0 = .ok (.iload_n 1, 1) := by decide +kernel
theorem d_M_best_1 : decode m_M_best.2.1 1 = .ok (.iconst 0, 1) := by decide +kernel
theorem d_M_best_2 : decode m_M_best.2.1 2 = .ok (.iconst 5, 1) := by decide +kernel
theorem d_M_best_3 : decode m_M_best.2.1 3 = .ok (.invokestatic 52, 3) := by decide +kernel
theorem d_M_best_6 : decode m_M_best.2.1 6 = .ok (.ifCond .ne 5, 3) := by decide +kernel
theorem d_M_best_9 : decode m_M_best.2.1 9 = .ok (.iconst (-1), 1) := by decide +kernel
theorem d_M_best_10 : decode m_M_best.2.1 10 = .ok (.ireturn, 1) := by decide +kernel
theorem d_M_best_11 : decode m_M_best.2.1 11 = .ok (.iload_n 2, 1) := by decide +kernel
theorem d_M_best_12 : decode m_M_best.2.1 12 = .ok (.iconst 0, 1) := by decide +kernel
theorem d_M_best_13 : decode m_M_best.2.1 13 = .ok (.iconst 1, 1) := by decide +kernel
theorem d_M_best_14 : decode m_M_best.2.1 14 = .ok (.invokestatic 52, 3) := by decide +kernel
theorem d_M_best_17 : decode m_M_best.2.1 17 = .ok (.ifCond .ne 6, 3) := by decide +kernel
theorem d_M_best_20 : decode m_M_best.2.1 20 = .ok (.bipush (-2), 2) := by decide +kernel
theorem d_M_best_22 : decode m_M_best.2.1 22 = .ok (.ireturn, 1) := by decide +kernel
theorem d_M_best_23 : decode m_M_best.2.1 23 = .ok (.bipush (-6), 2) := by decide +kernel
theorem d_M_best_25 : decode m_M_best.2.1 25 = .ok (.istore_n 3, 1) := by decide +kernel
theorem d_M_best_26 : decode m_M_best.2.1 26 = .ok (.ldc 119, 2) := by decide +kernel
theorem d_M_best_28 : decode m_M_best.2.1 28 = .ok (.istore 4, 2) := by decide +kernel
theorem d_M_best_30 : decode m_M_best.2.1 30 = .ok (.iconst 0, 1) := by decide +kernel
theorem d_M_best_31 : decode m_M_best.2.1 31 = .ok (.istore 5, 2) := by decide +kernel
theorem d_M_best_33 : decode m_M_best.2.1 33 = .ok (.iload 5, 2) := by decide +kernel
theorem d_M_best_35 : decode m_M_best.2.1 35 = .ok (.bipush 12, 2) := by decide +kernel
theorem d_M_best_37 : decode m_M_best.2.1 37 = .ok (.if_icmp .ge 89, 3) := by decide +kernel
theorem d_M_best_40 : decode m_M_best.2.1 40 = .ok (.aload_n 0, 1) := by decide +kernel
theorem d_M_best_41 : decode m_M_best.2.1 41 = .ok (.iload 5, 2) := by decide +kernel
theorem d_M_best_43 : decode m_M_best.2.1 43 = .ok (.aload_n 0, 1) := by decide +kernel
theorem d_M_best_44 : decode m_M_best.2.1 44 = .ok (.getfield 7, 3) := by decide +kernel
theorem d_M_best_47 : decode m_M_best.2.1 47 = .ok (.bipush 14, 2) := by decide +kernel
theorem d_M_best_49 : decode m_M_best.2.1 49 = .ok (.iaload, 1) := by decide +kernel
theorem d_M_best_50 : decode m_M_best.2.1 50 = .ok (.invokevirtual 116, 3) := by decide +kernel
theorem d_M_best_53 : decode m_M_best.2.1 53 = .ok (.istore 6, 2) := by decide +kernel
theorem d_M_best_55 : decode m_M_best.2.1 55 = .ok (.iload 6, 2) := by decide +kernel
theorem d_M_best_57 : decode m_M_best.2.1 57 = .ok (.invokestatic 120, 3) := by decide +kernel
theorem d_M_best_60 : decode m_M_best.2.1 60 = .ok (.iconst 1, 1) := by decide +kernel
theorem d_M_best_61 : decode m_M_best.2.1 61 = .ok (.isub, 1) := by decide +kernel
theorem d_M_best_62 : decode m_M_best.2.1 62 = .ok (.istore 7, 2) := by decide +kernel
theorem d_M_best_64 : decode m_M_best.2.1 64 = .ok (.iload 6, 2) := by decide +kernel
theorem d_M_best_66 : decode m_M_best.2.1 66 = .ok (.aload_n 0, 1) := by decide +kernel
theorem d_M_best_67 : decode m_M_best.2.1 67 = .ok (.getfield 23, 3) := by decide +kernel
theorem d_M_best_70 : decode m_M_best.2.1 70 = .ok (.iconst 4, 1) := by decide +kernel
theorem d_M_best_71 : decode m_M_best.2.1 71 = .ok (.iload_n 1, 1) := by decide +kernel
theorem d_M_best_72 : decode m_M_best.2.1 72 = .ok (.imul, 1) := by decide +kernel
theorem d_M_best_73 : decode m_M_best.2.1 73 = .ok (.iaload, 1) := by decide +kernel
theorem d_M_best_74 : decode m_M_best.2.1 74 = .ok (.invokestatic 77, 3) := by decide +kernel
theorem d_M_best_77 : decode m_M_best.2.1 77 = .ok (.ifCond .eq 14, 3) := by decide +kernel
theorem d_M_best_80 : decode m_M_best.2.1 80 = .ok (.iload 7, 2) := by decide +kernel
theorem d_M_best_82 : decode m_M_best.2.1 82 = .ok (.iload 4, 2) := by decide +kernel
theorem d_M_best_84 : decode m_M_best.2.1 84 = .ok (.if_icmp .ge 7, 3) := by decide +kernel
theorem d_M_best_87 : decode m_M_best.2.1 87 = .ok (.iconst 1, 1) := by decide +kernel
theorem d_M_best_88 : decode m_M_best.2.1 88 = .ok (.goto 4, 3) := by decide +kernel
theorem d_M_best_91 : decode m_M_best.2.1 91 = .ok (.iconst 0, 1) := by decide +kernel
theorem d_M_best_92 : decode m_M_best.2.1 92 = .ok (.istore 8, 2) := by decide +kernel
theorem d_M_best_94 : decode m_M_best.2.1 94 = .ok (.iload 8, 2) := by decide +kernel
theorem d_M_best_96 : decode m_M_best.2.1 96 = .ok (.ifCond .eq 8, 3) := by decide +kernel
theorem d_M_best_99 : decode m_M_best.2.1 99 = .ok (.iload 5, 2) := by decide +kernel
theorem d_M_best_101 : decode m_M_best.2.1 101 = .ok (.goto 4, 3) := by decide +kernel
theorem d_M_best_104 : decode m_M_best.2.1 104 = .ok (.iload_n 3, 1) := by decide +kernel
theorem d_M_best_105 : decode m_M_best.2.1 105 = .ok (.istore_n 3, 1) := by decide +kernel
theorem d_M_best_106 : decode m_M_best.2.1 106 = .ok (.iload 8, 2) := by decide +kernel
theorem d_M_best_108 : decode m_M_best.2.1 108 = .ok (.ifCond .eq 8, 3) := by decide +kernel
theorem d_M_best_111 : decode m_M_best.2.1 111 = .ok (.iload 7, 2) := by decide +kernel
theorem d_M_best_113 : decode m_M_best.2.1 113 = .ok (.goto 5, 3) := by decide +kernel
theorem d_M_best_116 : decode m_M_best.2.1 116 = .ok (.iload 4, 2) := by decide +kernel
theorem d_M_best_118 : decode m_M_best.2.1 118 = .ok (.istore 4, 2) := by decide +kernel
theorem d_M_best_120 : decode m_M_best.2.1 120 = .ok (.iinc 5 1, 3) := by decide +kernel
theorem d_M_best_123 : decode m_M_best.2.1 123 = .ok (.goto (-90), 3) := by decide +kernel
theorem d_M_best_126 : decode m_M_best.2.1 126 = .ok (.iload_n 3, 1) := by decide +kernel
theorem d_M_best_127 : decode m_M_best.2.1 127 = .ok (.ifCond .lt 8, 3) := by decide +kernel
theorem d_M_best_130 : decode m_M_best.2.1 130 = .ok (.iload_n 2, 1) := by decide +kernel
theorem d_M_best_131 : decode m_M_best.2.1 131 = .ok (.iconst 1, 1) := by decide +kernel
theorem d_M_best_132 : decode m_M_best.2.1 132 = .ok (.if_icmp .ne 7, 3) := by decide +kernel
theorem d_M_best_135 : decode m_M_best.2.1 135 = .ok (.iload_n 3, 1) := by decide +kernel
theorem d_M_best_136 : decode m_M_best.2.1 136 = .ok (.goto 5, 3) := by decide +kernel
theorem d_M_best_139 : decode m_M_best.2.1 139 = .ok (.iload 4, 2) := by decide +kernel
theorem d_M_best_141 : decode m_M_best.2.1 141 = .ok (.ireturn, 1) := by decide +kernel
theorem d_M_laySets_0 : decode m_M_laySets.2.1 0 = .ok (.iconst 0, 1) := by decide +kernel
theorem d_M_laySets_1 : decode m_M_laySets.2.1 1 = .ok (.istore_n 1, 1) := by decide +kernel
theorem d_M_laySets_2 : decode m_M_laySets.2.1 2 = .ok (.iload_n 1, 1) := by decide +kernel
theorem d_M_laySets_3 : decode m_M_laySets.2.1 3 = .ok (.bipush 12, 2) := by decide +kernel
theorem d_M_laySets_5 : decode m_M_laySets.2.1 5 = .ok (.if_icmp .ge 27, 3) := by decide +kernel
theorem d_M_laySets_8 : decode m_M_laySets.2.1 8 = .ok (.aload_n 0, 1) := by decide +kernel
theorem d_M_laySets_9 : decode m_M_laySets.2.1 9 = .ok (.getfield 35, 3) := by decide +kernel
theorem d_M_laySets_12 : decode m_M_laySets.2.1 12 = .ok (.iload_n 1, 1) := by decide +kernel
theorem d_M_laySets_13 : decode m_M_laySets.2.1 13 = .ok (.aload_n 0, 1) := by decide +kernel
theorem d_M_laySets_14 : decode m_M_laySets.2.1 14 = .ok (.iload_n 1, 1) := by decide +kernel
theorem d_M_laySets_15 : decode m_M_laySets.2.1 15 = .ok (.aload_n 0, 1) := by decide +kernel
theorem d_M_laySets_16 : decode m_M_laySets.2.1 16 = .ok (.getfield 7, 3) := by decide +kernel
theorem d_M_laySets_19 : decode m_M_laySets.2.1 19 = .ok (.bipush 14, 2) := by decide +kernel
theorem d_M_laySets_21 : decode m_M_laySets.2.1 21 = .ok (.iaload, 1) := by decide +kernel
theorem d_M_laySets_22 : decode m_M_laySets.2.1 22 = .ok (.invokevirtual 116, 3) := by decide +kernel
theorem d_M_laySets_25 : decode m_M_laySets.2.1 25 = .ok (.iastore, 1) := by decide +kernel
theorem d_M_laySets_26 : decode m_M_laySets.2.1 26 = .ok (.iinc 1 1, 3) := by decide +kernel
theorem d_M_laySets_29 : decode m_M_laySets.2.1 29 = .ok (.goto (-27), 3) := by decide +kernel
theorem d_M_laySets_32 : decode m_M_laySets.2.1 32 = .ok (.return_, 1) := by decide +kernel
theorem d_M_thirds_0 : decode m_M_thirds.2.1 0 = .ok (.iload_n 1, 1) := by decide +kernel
theorem d_M_thirds_1 : decode m_M_thirds.2.1 1 = .ok (.invokestatic 56, 3) := by decide +kernel
theorem d_M_thirds_4 : decode m_M_thirds.2.1 4 = .ok (.ifCond .ne 5, 3) := by decide +kernel
theorem d_M_thirds_7 : decode m_M_thirds.2.1 7 = .ok (.iconst (-1), 1) := by decide +kernel
theorem d_M_thirds_8 : decode m_M_thirds.2.1 8 = .ok (.ireturn, 1) := by decide +kernel
theorem d_M_thirds_9 : decode m_M_thirds.2.1 9 = .ok (.iload_n 2, 1) := by decide +kernel
theorem d_M_thirds_10 : decode m_M_thirds.2.1 10 = .ok (.iconst 0, 1) := by decide +kernel
theorem d_M_thirds_11 : decode m_M_thirds.2.1 11 = .ok (.iconst 1, 1) := by decide +kernel
theorem d_M_thirds_12 : decode m_M_thirds.2.1 12 = .ok (.invokestatic 52, 3) := by decide +kernel
theorem d_M_thirds_15 : decode m_M_thirds.2.1 15 = .ok (.ifCond .ne 6, 3) := by decide +kernel
theorem d_M_thirds_18 : decode m_M_thirds.2.1 18 = .ok (.bipush (-2), 2) := by decide +kernel
theorem d_M_thirds_20 : decode m_M_thirds.2.1 20 = .ok (.ireturn, 1) := by decide +kernel
theorem d_M_thirds_21 : decode m_M_thirds.2.1 21 = .ok (.aload_n 0, 1) := by decide +kernel
theorem d_M_thirds_22 : decode m_M_thirds.2.1 22 = .ok (.invokevirtual 123, 3) := by decide +kernel
theorem d_M_thirds_25 : decode m_M_thirds.2.1 25 = .ok (.iconst 0, 1) := by decide +kernel
theorem d_M_thirds_26 : decode m_M_thirds.2.1 26 = .ok (.istore_n 3, 1) := by decide +kernel
theorem d_M_thirds_27 : decode m_M_thirds.2.1 27 = .ok (.bipush (-6), 2) := by decide +kernel
theorem d_M_thirds_29 : decode m_M_thirds.2.1 29 = .ok (.istore 4, 2) := by decide +kernel
theorem d_M_thirds_31 : decode m_M_thirds.2.1 31 = .ok (.iconst 0, 1) := by decide +kernel
theorem d_M_thirds_32 : decode m_M_thirds.2.1 32 = .ok (.istore 5, 2) := by decide +kernel
theorem d_M_thirds_34 : decode m_M_thirds.2.1 34 = .ok (.iload 5, 2) := by decide +kernel
theorem d_M_thirds_36 : decode m_M_thirds.2.1 36 = .ok (.bipush 12, 2) := by decide +kernel
theorem d_M_thirds_38 : decode m_M_thirds.2.1 38 = .ok (.if_icmp .ge 101, 3) := by decide +kernel
theorem d_M_thirds_41 : decode m_M_thirds.2.1 41 = .ok (.iload 5, 2) := by decide +kernel
theorem d_M_thirds_43 : decode m_M_thirds.2.1 43 = .ok (.istore 6, 2) := by decide +kernel
theorem d_M_thirds_45 : decode m_M_thirds.2.1 45 = .ok (.iload 6, 2) := by decide +kernel
theorem d_M_thirds_47 : decode m_M_thirds.2.1 47 = .ok (.bipush 12, 2) := by decide +kernel
theorem d_M_thirds_49 : decode m_M_thirds.2.1 49 = .ok (.if_icmp .ge 84, 3) := by decide +kernel
theorem d_M_thirds_52 : decode m_M_thirds.2.1 52 = .ok (.iload 6, 2) := by decide +kernel
theorem d_M_thirds_54 : decode m_M_thirds.2.1 54 = .ok (.istore 7, 2) := by decide +kernel
theorem d_M_thirds_56 : decode m_M_thirds.2.1 56 = .ok (.iload 7, 2) := by decide +kernel
theorem d_M_thirds_58 : decode m_M_thirds.2.1 58 = .ok (.bipush 12, 2) := by decide +kernel
theorem d_M_thirds_60 : decode m_M_thirds.2.1 60 = .ok (.if_icmp .ge 67, 3) := by decide +kernel
theorem d_M_thirds_63 : decode m_M_thirds.2.1 63 = .ok (.aload_n 0, 1) := by decide +kernel
theorem d_M_thirds_64 : decode m_M_thirds.2.1 64 = .ok (.getfield 35, 3) := by decide +kernel
theorem d_M_thirds_67 : decode m_M_thirds.2.1 67 = .ok (.iload 5, 2) := by decide +kernel
theorem d_M_thirds_69 : decode m_M_thirds.2.1 69 = .ok (.iaload, 1) := by decide +kernel
theorem d_M_thirds_70 : decode m_M_thirds.2.1 70 = .ok (.aload_n 0, 1) := by decide +kernel
theorem d_M_thirds_71 : decode m_M_thirds.2.1 71 = .ok (.getfield 35, 3) := by decide +kernel
theorem d_M_thirds_74 : decode m_M_thirds.2.1 74 = .ok (.iload 6, 2) := by decide +kernel
theorem d_M_thirds_76 : decode m_M_thirds.2.1 76 = .ok (.iaload, 1) := by decide +kernel
theorem d_M_thirds_77 : decode m_M_thirds.2.1 77 = .ok (.iand, 1) := by decide +kernel
theorem d_M_thirds_78 : decode m_M_thirds.2.1 78 = .ok (.aload_n 0, 1) := by decide +kernel
theorem d_M_thirds_79 : decode m_M_thirds.2.1 79 = .ok (.getfield 35, 3) := by decide +kernel
theorem d_M_thirds_82 : decode m_M_thirds.2.1 82 = .ok (.iload 7, 2) := by decide +kernel
theorem d_M_thirds_84 : decode m_M_thirds.2.1 84 = .ok (.iaload, 1) := by decide +kernel
theorem d_M_thirds_85 : decode m_M_thirds.2.1 85 = .ok (.iand, 1) := by decide +kernel
theorem d_M_thirds_86 : decode m_M_thirds.2.1 86 = .ok (.iconst 1, 1) := by decide +kernel
theorem d_M_thirds_87 : decode m_M_thirds.2.1 87 = .ok (.iload_n 1, 1) := by decide +kernel
theorem d_M_thirds_88 : decode m_M_thirds.2.1 88 = .ok (.ishl, 1) := by decide +kernel
theorem d_M_thirds_89 : decode m_M_thirds.2.1 89 = .ok (.if_icmp .ne 32, 3) := by decide +kernel
theorem d_M_thirds_92 : decode m_M_thirds.2.1 92 = .ok (.iload_n 3, 1) := by decide +kernel
theorem d_M_thirds_93 : decode m_M_thirds.2.1 93 = .ok (.ifCond .ne 21, 3) := by decide +kernel
theorem d_M_thirds_96 : decode m_M_thirds.2.1 96 = .ok (.sipush 10000, 3) := by decide +kernel
theorem d_M_thirds_99 : decode m_M_thirds.2.1 99 = .ok (.iload 5, 2) := by decide +kernel
theorem d_M_thirds_101 : decode m_M_thirds.2.1 101 = .ok (.imul, 1) := by decide +kernel
theorem d_M_thirds_102 : decode m_M_thirds.2.1 102 = .ok (.bipush 100, 2) := by decide +kernel
theorem d_M_thirds_104 : decode m_M_thirds.2.1 104 = .ok (.iload 6, 2) := by decide +kernel
theorem d_M_thirds_106 : decode m_M_thirds.2.1 106 = .ok (.imul, 1) := by decide +kernel
theorem d_M_thirds_107 : decode m_M_thirds.2.1 107 = .ok (.iadd, 1) := by decide +kernel
theorem d_M_thirds_108 : decode m_M_thirds.2.1 108 = .ok (.iload 7, 2) := by decide +kernel
theorem d_M_thirds_110 : decode m_M_thirds.2.1 110 = .ok (.iadd, 1) := by decide +kernel
theorem d_M_thirds_111 : decode m_M_thirds.2.1 111 = .ok (.goto 5, 3) := by decide +kernel
theorem d_M_thirds_114 : decode m_M_thirds.2.1 114 = .ok (.iload 4, 2) := by decide +kernel
theorem d_M_thirds_116 : decode m_M_thirds.2.1 116 = .ok (.istore 4, 2) := by decide +kernel
theorem d_M_thirds_118 : decode m_M_thirds.2.1 118 = .ok (.iinc 3 1, 3) := by decide +kernel
theorem d_M_thirds_121 : decode m_M_thirds.2.1 121 = .ok (.iinc 7 1, 3) := by decide +kernel
theorem d_M_thirds_124 : decode m_M_thirds.2.1 124 = .ok (.goto (-68), 3) := by decide +kernel
theorem d_M_thirds_127 : decode m_M_thirds.2.1 127 = .ok (.iinc 6 1, 3) := by decide +kernel
theorem d_M_thirds_130 : decode m_M_thirds.2.1 130 = .ok (.goto (-85), 3) := by decide +kernel
theorem d_M_thirds_133 : decode m_M_thirds.2.1 133 = .ok (.iinc 5 1, 3) := by decide +kernel
theorem d_M_thirds_136 : decode m_M_thirds.2.1 136 = .ok (.goto (-102), 3) := by decide +kernel
theorem d_M_thirds_139 : decode m_M_thirds.2.1 139 = .ok (.iload_n 2, 1) := by decide +kernel
theorem d_M_thirds_140 : decode m_M_thirds.2.1 140 = .ok (.ifCond .ne 7, 3) := by decide +kernel
theorem d_M_thirds_143 : decode m_M_thirds.2.1 143 = .ok (.iload_n 3, 1) := by decide +kernel
theorem d_M_thirds_144 : decode m_M_thirds.2.1 144 = .ok (.goto 5, 3) := by decide +kernel
theorem d_M_thirds_147 : decode m_M_thirds.2.1 147 = .ok (.iload 4, 2) := by decide +kernel
theorem d_M_thirds_149 : decode m_M_thirds.2.1 149 = .ok (.ireturn, 1) := by decide +kernel
theorem d_M_round_0 : decode m_M_round.2.1 0 = .ok (.iload_n 1, 1) := by decide +kernel
theorem d_M_round_1 : decode m_M_round.2.1 1 = .ok (.iconst 0, 1) := by decide +kernel
theorem d_M_round_2 : decode m_M_round.2.1 2 = .ok (.bipush 63, 2) := by decide +kernel
theorem d_M_round_4 : decode m_M_round.2.1 4 = .ok (.invokestatic 52, 3) := by decide +kernel
theorem d_M_round_7 : decode m_M_round.2.1 7 = .ok (.ifCond .ne 5, 3) := by decide +kernel
theorem d_M_round_10 : decode m_M_round.2.1 10 = .ok (.iconst (-1), 1) := by decide +kernel
theorem d_M_round_11 : decode m_M_round.2.1 11 = .ok (.ireturn, 1) := by decide +kernel
theorem d_M_round_12 : decode m_M_round.2.1 12 = .ok (.iload_n 2, 1) := by decide +kernel
theorem d_M_round_13 : decode m_M_round.2.1 13 = .ok (.iconst 0, 1) := by decide +kernel
theorem d_M_round_14 : decode m_M_round.2.1 14 = .ok (.iconst 1, 1) := by decide +kernel
theorem d_M_round_15 : decode m_M_round.2.1 15 = .ok (.invokestatic 52, 3) := by decide +kernel
theorem d_M_round_18 : decode m_M_round.2.1 18 = .ok (.ifCond .ne 6, 3) := by decide +kernel
theorem d_M_round_21 : decode m_M_round.2.1 21 = .ok (.bipush (-2), 2) := by decide +kernel
theorem d_M_round_23 : decode m_M_round.2.1 23 = .ok (.ireturn, 1) := by decide +kernel
theorem d_M_round_24 : decode m_M_round.2.1 24 = .ok (.aload_n 0, 1) := by decide +kernel
theorem d_M_round_25 : decode m_M_round.2.1 25 = .ok (.invokevirtual 123, 3) := by decide +kernel
theorem d_M_round_28 : decode m_M_round.2.1 28 = .ok (.aload_n 0, 1) := by decide +kernel
theorem d_M_round_29 : decode m_M_round.2.1 29 = .ok (.getfield 7, 3) := by decide +kernel
theorem d_M_round_32 : decode m_M_round.2.1 32 = .ok (.bipush 12, 2) := by decide +kernel
theorem d_M_round_34 : decode m_M_round.2.1 34 = .ok (.iaload, 1) := by decide +kernel
theorem d_M_round_35 : decode m_M_round.2.1 35 = .ok (.istore_n 3, 1) := by decide +kernel
theorem d_M_round_36 : decode m_M_round.2.1 36 = .ok (.ldc 119, 2) := by decide +kernel
theorem d_M_round_38 : decode m_M_round.2.1 38 = .ok (.istore 4, 2) := by decide +kernel
theorem d_M_round_40 : decode m_M_round.2.1 40 = .ok (.bipush (-6), 2) := by decide +kernel
theorem d_M_round_42 : decode m_M_round.2.1 42 = .ok (.istore 5, 2) := by decide +kernel
theorem d_M_round_44 : decode m_M_round.2.1 44 = .ok (.iconst 0, 1) := by decide +kernel
theorem d_M_round_45 : decode m_M_round.2.1 45 = .ok (.istore 6, 2) := by decide +kernel
theorem d_M_round_47 : decode m_M_round.2.1 47 = .ok (.iload 6, 2) := by decide +kernel
theorem d_M_round_49 : decode m_M_round.2.1 49 = .ok (.iload_n 3, 1) := by decide +kernel
theorem d_M_round_50 : decode m_M_round.2.1 50 = .ok (.if_icmp .gt 209, 3) := by decide +kernel
theorem d_M_round_53 : decode m_M_round.2.1 53 = .ok (.iload_n 3, 1) := by decide +kernel
theorem d_M_round_54 : decode m_M_round.2.1 54 = .ok (.istore 7, 2) := by decide +kernel
theorem d_M_round_56 : decode m_M_round.2.1 56 = .ok (.iload 7, 2) := by decide +kernel
theorem d_M_round_58 : decode m_M_round.2.1 58 = .ok (.bipush 12, 2) := by decide +kernel
theorem d_M_round_60 : decode m_M_round.2.1 60 = .ok (.if_icmp .ge 193, 3) := by decide +kernel
theorem d_M_round_63 : decode m_M_round.2.1 63 = .ok (.iconst 1, 1) := by decide +kernel
theorem d_M_round_64 : decode m_M_round.2.1 64 = .ok (.istore 8, 2) := by decide +kernel
theorem d_M_round_66 : decode m_M_round.2.1 66 = .ok (.iconst 0, 1) := by decide +kernel
theorem d_M_round_67 : decode m_M_round.2.1 67 = .ok (.istore 9, 2) := by decide +kernel
theorem d_M_round_69 : decode m_M_round.2.1 69 = .ok (.iload 9, 2) := by decide +kernel
theorem d_M_round_71 : decode m_M_round.2.1 71 = .ok (.bipush 6, 2) := by decide +kernel
theorem d_M_round_73 : decode m_M_round.2.1 73 = .ok (.if_icmp .ge 93, 3) := by decide +kernel
theorem d_M_round_76 : decode m_M_round.2.1 76 = .ok (.iload_n 1, 1) := by decide +kernel
theorem d_M_round_77 : decode m_M_round.2.1 77 = .ok (.iload 9, 2) := by decide +kernel
theorem d_M_round_79 : decode m_M_round.2.1 79 = .ok (.invokestatic 77, 3) := by decide +kernel
theorem d_M_round_82 : decode m_M_round.2.1 82 = .ok (.ifCond .ne 7, 3) := by decide +kernel
theorem d_M_round_85 : decode m_M_round.2.1 85 = .ok (.iconst 1, 1) := by decide +kernel
theorem d_M_round_86 : decode m_M_round.2.1 86 = .ok (.goto 4, 3) := by decide +kernel
theorem d_M_round_89 : decode m_M_round.2.1 89 = .ok (.iconst 0, 1) := by decide +kernel
theorem d_M_round_90 : decode m_M_round.2.1 90 = .ok (.istore 10, 2) := by decide +kernel
theorem d_M_round_92 : decode m_M_round.2.1 92 = .ok (.iload 6, 2) := by decide +kernel
theorem d_M_round_94 : decode m_M_round.2.1 94 = .ok (.istore 11, 2) := by decide +kernel
theorem d_M_round_96 : decode m_M_round.2.1 96 = .ok (.iload 11, 2) := by decide +kernel
theorem d_M_round_98 : decode m_M_round.2.1 98 = .ok (.iload 7, 2) := by decide +kernel
theorem d_M_round_100 : decode m_M_round.2.1 100 = .ok (.if_icmp .gt 43, 3) := by decide +kernel
theorem d_M_round_103 : decode m_M_round.2.1 103 = .ok (.iload 10, 2) := by decide +kernel
theorem d_M_round_105 : decode m_M_round.2.1 105 = .ok (.ifCond .ne 25, 3) := by decide +kernel
theorem d_M_round_108 : decode m_M_round.2.1 108 = .ok (.aload_n 0, 1) := by decide +kernel
theorem d_M_round_109 : decode m_M_round.2.1 109 = .ok (.getfield 35, 3) := by decide +kernel
theorem d_M_round_112 : decode m_M_round.2.1 112 = .ok (.iload 11, 2) := by decide +kernel
theorem d_M_round_114 : decode m_M_round.2.1 114 = .ok (.iaload, 1) := by decide +kernel
theorem d_M_round_115 : decode m_M_round.2.1 115 = .ok (.aload_n 0, 1) := by decide +kernel
theorem d_M_round_116 : decode m_M_round.2.1 116 = .ok (.getfield 23, 3) := by decide +kernel
theorem d_M_round_119 : decode m_M_round.2.1 119 = .ok (.iconst 4, 1) := by decide +kernel
theorem d_M_round_120 : decode m_M_round.2.1 120 = .ok (.iload 9, 2) := by decide +kernel
theorem d_M_round_122 : decode m_M_round.2.1 122 = .ok (.imul, 1) := by decide +kernel
theorem d_M_round_123 : decode m_M_round.2.1 123 = .ok (.iaload, 1) := by decide +kernel
theorem d_M_round_124 : decode m_M_round.2.1 124 = .ok (.invokestatic 77, 3) := by decide +kernel
theorem d_M_round_127 : decode m_M_round.2.1 127 = .ok (.ifCond .eq 7, 3) := by decide +kernel
theorem d_M_round_130 : decode m_M_round.2.1 130 = .ok (.iconst 1, 1) := by decide +kernel
theorem d_M_round_131 : decode m_M_round.2.1 131 = .ok (.goto 4, 3) := by decide +kernel
theorem d_M_round_134 : decode m_M_round.2.1 134 = .ok (.iconst 0, 1) := by decide +kernel
theorem d_M_round_135 : decode m_M_round.2.1 135 = .ok (.istore 10, 2) := by decide +kernel
theorem d_M_round_137 : decode m_M_round.2.1 137 = .ok (.iinc 11 1, 3) := by decide +kernel
theorem d_M_round_140 : decode m_M_round.2.1 140 = .ok (.goto (-44), 3) := by decide +kernel
theorem d_M_round_143 : decode m_M_round.2.1 143 = .ok (.iload 8, 2) := by decide +kernel
theorem d_M_round_145 : decode m_M_round.2.1 145 = .ok (.ifCond .eq 12, 3) := by decide +kernel
theorem d_M_round_148 : decode m_M_round.2.1 148 = .ok (.iload 10, 2) := by decide +kernel
theorem d_M_round_150 : decode m_M_round.2.1 150 = .ok (.ifCond .eq 7, 3) := by decide +kernel
theorem d_M_round_153 : decode m_M_round.2.1 153 = .ok (.iconst 1, 1) := by decide +kernel
theorem d_M_round_154 : decode m_M_round.2.1 154 = .ok (.goto 4, 3) := by decide +kernel
theorem d_M_round_157 : decode m_M_round.2.1 157 = .ok (.iconst 0, 1) := by decide +kernel
theorem d_M_round_158 : decode m_M_round.2.1 158 = .ok (.istore 8, 2) := by decide +kernel
theorem d_M_round_160 : decode m_M_round.2.1 160 = .ok (.iinc 9 1, 3) := by decide +kernel
theorem d_M_round_163 : decode m_M_round.2.1 163 = .ok (.goto (-94), 3) := by decide +kernel
theorem d_M_round_166 : decode m_M_round.2.1 166 = .ok (.iload_n 3, 1) := by decide +kernel
theorem d_M_round_167 : decode m_M_round.2.1 167 = .ok (.iload 6, 2) := by decide +kernel
theorem d_M_round_169 : decode m_M_round.2.1 169 = .ok (.isub, 1) := by decide +kernel
theorem d_M_round_170 : decode m_M_round.2.1 170 = .ok (.iload 7, 2) := by decide +kernel
theorem d_M_round_172 : decode m_M_round.2.1 172 = .ok (.iload_n 3, 1) := by decide +kernel
theorem d_M_round_173 : decode m_M_round.2.1 173 = .ok (.isub, 1) := by decide +kernel
theorem d_M_round_174 : decode m_M_round.2.1 174 = .ok (.if_icmp .ge 10, 3) := by decide +kernel
theorem d_M_round_177 : decode m_M_round.2.1 177 = .ok (.iload_n 3, 1) := by decide +kernel
theorem d_M_round_178 : decode m_M_round.2.1 178 = .ok (.iload 6, 2) := by decide +kernel
theorem d_M_round_180 : decode m_M_round.2.1 180 = .ok (.isub, 1) := by decide +kernel
theorem d_M_round_181 : decode m_M_round.2.1 181 = .ok (.goto 7, 3) := by decide +kernel
theorem d_M_round_184 : decode m_M_round.2.1 184 = .ok (.iload 7, 2) := by decide +kernel
theorem d_M_round_186 : decode m_M_round.2.1 186 = .ok (.iload_n 3, 1) := by decide +kernel
theorem d_M_round_187 : decode m_M_round.2.1 187 = .ok (.isub, 1) := by decide +kernel
theorem d_M_round_188 : decode m_M_round.2.1 188 = .ok (.istore 9, 2) := by decide +kernel
theorem d_M_round_190 : decode m_M_round.2.1 190 = .ok (.iload 7, 2) := by decide +kernel
theorem d_M_round_192 : decode m_M_round.2.1 192 = .ok (.iload 6, 2) := by decide +kernel
theorem d_M_round_194 : decode m_M_round.2.1 194 = .ok (.isub, 1) := by decide +kernel
theorem d_M_round_195 : decode m_M_round.2.1 195 = .ok (.iload 9, 2) := by decide +kernel
theorem d_M_round_197 : decode m_M_round.2.1 197 = .ok (.iadd, 1) := by decide +kernel
theorem d_M_round_198 : decode m_M_round.2.1 198 = .ok (.istore 10, 2) := by decide +kernel
theorem d_M_round_200 : decode m_M_round.2.1 200 = .ok (.iload 8, 2) := by decide +kernel
theorem d_M_round_202 : decode m_M_round.2.1 202 = .ok (.ifCond .eq 14, 3) := by decide +kernel
theorem d_M_round_205 : decode m_M_round.2.1 205 = .ok (.iload 10, 2) := by decide +kernel
theorem d_M_round_207 : decode m_M_round.2.1 207 = .ok (.iload 4, 2) := by decide +kernel
theorem d_M_round_209 : decode m_M_round.2.1 209 = .ok (.if_icmp .ge 7, 3) := by decide +kernel
theorem d_M_round_212 : decode m_M_round.2.1 212 = .ok (.iconst 1, 1) := by decide +kernel
theorem d_M_round_213 : decode m_M_round.2.1 213 = .ok (.goto 4, 3) := by decide +kernel
theorem d_M_round_216 : decode m_M_round.2.1 216 = .ok (.iconst 0, 1) := by decide +kernel
theorem d_M_round_217 : decode m_M_round.2.1 217 = .ok (.istore 11, 2) := by decide +kernel
theorem d_M_round_219 : decode m_M_round.2.1 219 = .ok (.iload 11, 2) := by decide +kernel
theorem d_M_round_221 : decode m_M_round.2.1 221 = .ok (.ifCond .eq 8, 3) := by decide +kernel
theorem d_M_round_224 : decode m_M_round.2.1 224 = .ok (.iload 6, 2) := by decide +kernel
theorem d_M_round_226 : decode m_M_round.2.1 226 = .ok (.goto 5, 3) := by decide +kernel
theorem d_M_round_229 : decode m_M_round.2.1 229 = .ok (.iload 5, 2) := by decide +kernel
theorem d_M_round_231 : decode m_M_round.2.1 231 = .ok (.istore 5, 2) := by decide +kernel
theorem d_M_round_233 : decode m_M_round.2.1 233 = .ok (.iload 11, 2) := by decide +kernel
theorem d_M_round_235 : decode m_M_round.2.1 235 = .ok (.ifCond .eq 8, 3) := by decide +kernel
theorem d_M_round_238 : decode m_M_round.2.1 238 = .ok (.iload 10, 2) := by decide +kernel
theorem d_M_round_240 : decode m_M_round.2.1 240 = .ok (.goto 5, 3) := by decide +kernel
theorem d_M_round_243 : decode m_M_round.2.1 243 = .ok (.iload 4, 2) := by decide +kernel
theorem d_M_round_245 : decode m_M_round.2.1 245 = .ok (.istore 4, 2) := by decide +kernel
theorem d_M_round_247 : decode m_M_round.2.1 247 = .ok (.iinc 7 1, 3) := by decide +kernel
theorem d_M_round_250 : decode m_M_round.2.1 250 = .ok (.goto (-194), 3) := by decide +kernel
theorem d_M_round_253 : decode m_M_round.2.1 253 = .ok (.iinc 6 1, 3) := by decide +kernel
theorem d_M_round_256 : decode m_M_round.2.1 256 = .ok (.goto (-209), 3) := by decide +kernel
theorem d_M_round_259 : decode m_M_round.2.1 259 = .ok (.iload 5, 2) := by decide +kernel
theorem d_M_round_261 : decode m_M_round.2.1 261 = .ok (.ifCond .lt 8, 3) := by decide +kernel
theorem d_M_round_264 : decode m_M_round.2.1 264 = .ok (.iload_n 2, 1) := by decide +kernel
theorem d_M_round_265 : decode m_M_round.2.1 265 = .ok (.iconst 1, 1) := by decide +kernel
theorem d_M_round_266 : decode m_M_round.2.1 266 = .ok (.if_icmp .ne 8, 3) := by decide +kernel
theorem d_M_round_269 : decode m_M_round.2.1 269 = .ok (.iload 5, 2) := by decide +kernel
theorem d_M_round_271 : decode m_M_round.2.1 271 = .ok (.goto 5, 3) := by decide +kernel
theorem d_M_round_274 : decode m_M_round.2.1 274 = .ok (.iload 4, 2) := by decide +kernel
theorem d_M_round_276 : decode m_M_round.2.1 276 = .ok (.ireturn, 1) := by decide +kernel
theorem d_M_seen_0 : decode m_M_seen.2.1 0 = .ok (.iload_n 1, 1) := by decide +kernel
theorem d_M_seen_1 : decode m_M_seen.2.1 1 = .ok (.invokestatic 56, 3) := by decide +kernel
theorem d_M_seen_4 : decode m_M_seen.2.1 4 = .ok (.ifCond .ne 5, 3) := by decide +kernel
theorem d_M_seen_7 : decode m_M_seen.2.1 7 = .ok (.iconst (-1), 1) := by decide +kernel
theorem d_M_seen_8 : decode m_M_seen.2.1 8 = .ok (.ireturn, 1) := by decide +kernel
theorem d_M_seen_9 : decode m_M_seen.2.1 9 = .ok (.aload_n 0, 1) := by decide +kernel
theorem d_M_seen_10 : decode m_M_seen.2.1 10 = .ok (.getfield 126, 3) := by decide +kernel
theorem d_M_seen_13 : decode m_M_seen.2.1 13 = .ok (.bipush 8, 2) := by decide +kernel
theorem d_M_seen_15 : decode m_M_seen.2.1 15 = .ok (.if_icmp .ne 6, 3) := by decide +kernel
theorem d_M_seen_18 : decode m_M_seen.2.1 18 = .ok (.bipush (-4), 2) := by decide +kernel
theorem d_M_seen_20 : decode m_M_seen.2.1 20 = .ok (.ireturn, 1) := by decide +kernel
theorem d_M_seen_21 : decode m_M_seen.2.1 21 = .ok (.aload_n 0, 1) := by decide +kernel
theorem d_M_seen_22 : decode m_M_seen.2.1 22 = .ok (.getfield 26, 3) := by decide +kernel
theorem d_M_seen_25 : decode m_M_seen.2.1 25 = .ok (.iconst 2, 1) := by decide +kernel
theorem d_M_seen_26 : decode m_M_seen.2.1 26 = .ok (.aload_n 0, 1) := by decide +kernel
theorem d_M_seen_27 : decode m_M_seen.2.1 27 = .ok (.getfield 126, 3) := by decide +kernel
theorem d_M_seen_30 : decode m_M_seen.2.1 30 = .ok (.imul, 1) := by decide +kernel
theorem d_M_seen_31 : decode m_M_seen.2.1 31 = .ok (.iload_n 1, 1) := by decide +kernel
theorem d_M_seen_32 : decode m_M_seen.2.1 32 = .ok (.iastore, 1) := by decide +kernel
theorem d_M_seen_33 : decode m_M_seen.2.1 33 = .ok (.aload_n 0, 1) := by decide +kernel
theorem d_M_seen_34 : decode m_M_seen.2.1 34 = .ok (.getfield 26, 3) := by decide +kernel
theorem d_M_seen_37 : decode m_M_seen.2.1 37 = .ok (.iconst 2, 1) := by decide +kernel
theorem d_M_seen_38 : decode m_M_seen.2.1 38 = .ok (.aload_n 0, 1) := by decide +kernel
theorem d_M_seen_39 : decode m_M_seen.2.1 39 = .ok (.getfield 126, 3) := by decide +kernel
theorem d_M_seen_42 : decode m_M_seen.2.1 42 = .ok (.imul, 1) := by decide +kernel
theorem d_M_seen_43 : decode m_M_seen.2.1 43 = .ok (.iconst 1, 1) := by decide +kernel
theorem d_M_seen_44 : decode m_M_seen.2.1 44 = .ok (.iadd, 1) := by decide +kernel
theorem d_M_seen_45 : decode m_M_seen.2.1 45 = .ok (.iload_n 2, 1) := by decide +kernel
theorem d_M_seen_46 : decode m_M_seen.2.1 46 = .ok (.ifCond .eq 7, 3) := by decide +kernel
theorem d_M_seen_49 : decode m_M_seen.2.1 49 = .ok (.iconst 1, 1) := by decide +kernel
theorem d_M_seen_50 : decode m_M_seen.2.1 50 = .ok (.goto 4, 3) := by decide +kernel
theorem d_M_seen_53 : decode m_M_seen.2.1 53 = .ok (.iconst 0, 1) := by decide +kernel
theorem d_M_seen_54 : decode m_M_seen.2.1 54 = .ok (.iastore, 1) := by decide +kernel
theorem d_M_seen_55 : decode m_M_seen.2.1 55 = .ok (.aload_n 0, 1) := by decide +kernel
theorem d_M_seen_56 : decode m_M_seen.2.1 56 = .ok (.dup, 1) := by decide +kernel
theorem d_M_seen_57 : decode m_M_seen.2.1 57 = .ok (.getfield 126, 3) := by decide +kernel
theorem d_M_seen_60 : decode m_M_seen.2.1 60 = .ok (.iconst 1, 1) := by decide +kernel
theorem d_M_seen_61 : decode m_M_seen.2.1 61 = .ok (.iadd, 1) := by decide +kernel
theorem d_M_seen_62 : decode m_M_seen.2.1 62 = .ok (.putfield 126, 3) := by decide +kernel
theorem d_M_seen_65 : decode m_M_seen.2.1 65 = .ok (.aload_n 0, 1) := by decide +kernel
theorem d_M_seen_66 : decode m_M_seen.2.1 66 = .ok (.getfield 126, 3) := by decide +kernel
theorem d_M_seen_69 : decode m_M_seen.2.1 69 = .ok (.ireturn, 1) := by decide +kernel
theorem d_M_forget_0 : decode m_M_forget.2.1 0 = .ok (.aload_n 0, 1) := by decide +kernel
theorem d_M_forget_1 : decode m_M_forget.2.1 1 = .ok (.getfield 126, 3) := by decide +kernel
theorem d_M_forget_4 : decode m_M_forget.2.1 4 = .ok (.istore_n 1, 1) := by decide +kernel
theorem d_M_forget_5 : decode m_M_forget.2.1 5 = .ok (.aload_n 0, 1) := by decide +kernel
theorem d_M_forget_6 : decode m_M_forget.2.1 6 = .ok (.iconst 0, 1) := by decide +kernel
theorem d_M_forget_7 : decode m_M_forget.2.1 7 = .ok (.putfield 126, 3) := by decide +kernel
theorem d_M_forget_10 : decode m_M_forget.2.1 10 = .ok (.iload_n 1, 1) := by decide +kernel
theorem d_M_forget_11 : decode m_M_forget.2.1 11 = .ok (.ireturn, 1) := by decide +kernel
theorem d_M_atSet_0 : decode m_M_atSet.2.1 0 = .ok (.aload_n 0, 1) := by decide +kernel
theorem d_M_atSet_1 : decode m_M_atSet.2.1 1 = .ok (.invokevirtual 123, 3) := by decide +kernel
theorem d_M_atSet_4 : decode m_M_atSet.2.1 4 = .ok (.iconst 0, 1) := by decide +kernel
theorem d_M_atSet_5 : decode m_M_atSet.2.1 5 = .ok (.istore_n 1, 1) := by decide +kernel
theorem d_M_atSet_6 : decode m_M_atSet.2.1 6 = .ok (.iconst 0, 1) := by decide +kernel
theorem d_M_atSet_7 : decode m_M_atSet.2.1 7 = .ok (.istore_n 2, 1) := by decide +kernel
theorem d_M_atSet_8 : decode m_M_atSet.2.1 8 = .ok (.iload_n 2, 1) := by decide +kernel
theorem d_M_atSet_9 : decode m_M_atSet.2.1 9 = .ok (.bipush 12, 2) := by decide +kernel
theorem d_M_atSet_11 : decode m_M_atSet.2.1 11 = .ok (.if_icmp .ge 85, 3) := by decide +kernel
theorem d_M_atSet_14 : decode m_M_atSet.2.1 14 = .ok (.iconst 1, 1) := by decide +kernel
theorem d_M_atSet_15 : decode m_M_atSet.2.1 15 = .ok (.istore_n 3, 1) := by decide +kernel
theorem d_M_atSet_16 : decode m_M_atSet.2.1 16 = .ok (.iconst 0, 1) := by decide +kernel
theorem d_M_atSet_17 : decode m_M_atSet.2.1 17 = .ok (.istore 4, 2) := by decide +kernel
theorem d_M_atSet_19 : decode m_M_atSet.2.1 19 = .ok (.iload 4, 2) := by decide +kernel
theorem d_M_atSet_21 : decode m_M_atSet.2.1 21 = .ok (.aload_n 0, 1) := by decide +kernel
theorem d_M_atSet_22 : decode m_M_atSet.2.1 22 = .ok (.getfield 126, 3) := by decide +kernel
theorem d_M_atSet_25 : decode m_M_atSet.2.1 25 = .ok (.if_icmp .ge 51, 3) := by decide +kernel
theorem d_M_atSet_28 : decode m_M_atSet.2.1 28 = .ok (.iload_n 3, 1) := by decide +kernel
theorem d_M_atSet_29 : decode m_M_atSet.2.1 29 = .ok (.ifCond .eq 39, 3) := by decide +kernel
theorem d_M_atSet_32 : decode m_M_atSet.2.1 32 = .ok (.aload_n 0, 1) := by decide +kernel
theorem d_M_atSet_33 : decode m_M_atSet.2.1 33 = .ok (.getfield 35, 3) := by decide +kernel
theorem d_M_atSet_36 : decode m_M_atSet.2.1 36 = .ok (.iload_n 2, 1) := by decide +kernel
theorem d_M_atSet_37 : decode m_M_atSet.2.1 37 = .ok (.iaload, 1) := by decide +kernel
theorem d_M_atSet_38 : decode m_M_atSet.2.1 38 = .ok (.aload_n 0, 1) := by decide +kernel
theorem d_M_atSet_39 : decode m_M_atSet.2.1 39 = .ok (.getfield 26, 3) := by decide +kernel
theorem d_M_atSet_42 : decode m_M_atSet.2.1 42 = .ok (.iconst 2, 1) := by decide +kernel
theorem d_M_atSet_43 : decode m_M_atSet.2.1 43 = .ok (.iload 4, 2) := by decide +kernel
theorem d_M_atSet_45 : decode m_M_atSet.2.1 45 = .ok (.imul, 1) := by decide +kernel
theorem d_M_atSet_46 : decode m_M_atSet.2.1 46 = .ok (.iaload, 1) := by decide +kernel
theorem d_M_atSet_47 : decode m_M_atSet.2.1 47 = .ok (.ishr, 1) := by decide +kernel
theorem d_M_atSet_48 : decode m_M_atSet.2.1 48 = .ok (.iconst 1, 1) := by decide +kernel
theorem d_M_atSet_49 : decode m_M_atSet.2.1 49 = .ok (.iand, 1) := by decide +kernel
theorem d_M_atSet_50 : decode m_M_atSet.2.1 50 = .ok (.aload_n 0, 1) := by decide +kernel
theorem d_M_atSet_51 : decode m_M_atSet.2.1 51 = .ok (.getfield 26, 3) := by decide +kernel
theorem d_M_atSet_54 : decode m_M_atSet.2.1 54 = .ok (.iconst 2, 1) := by decide +kernel
theorem d_M_atSet_55 : decode m_M_atSet.2.1 55 = .ok (.iload 4, 2) := by decide +kernel
theorem d_M_atSet_57 : decode m_M_atSet.2.1 57 = .ok (.imul, 1) := by decide +kernel
theorem d_M_atSet_58 : decode m_M_atSet.2.1 58 = .ok (.iconst 1, 1) := by decide +kernel
theorem d_M_atSet_59 : decode m_M_atSet.2.1 59 = .ok (.iadd, 1) := by decide +kernel
theorem d_M_atSet_60 : decode m_M_atSet.2.1 60 = .ok (.iaload, 1) := by decide +kernel
theorem d_M_atSet_61 : decode m_M_atSet.2.1 61 = .ok (.if_icmp .ne 7, 3) := by decide +kernel
theorem d_M_atSet_64 : decode m_M_atSet.2.1 64 = .ok (.iconst 1, 1) := by decide +kernel
theorem d_M_atSet_65 : decode m_M_atSet.2.1 65 = .ok (.goto 4, 3) := by decide +kernel
theorem d_M_atSet_68 : decode m_M_atSet.2.1 68 = .ok (.iconst 0, 1) := by decide +kernel
theorem d_M_atSet_69 : decode m_M_atSet.2.1 69 = .ok (.istore_n 3, 1) := by decide +kernel
theorem d_M_atSet_70 : decode m_M_atSet.2.1 70 = .ok (.iinc 4 1, 3) := by decide +kernel
theorem d_M_atSet_73 : decode m_M_atSet.2.1 73 = .ok (.goto (-54), 3) := by decide +kernel
theorem d_M_atSet_76 : decode m_M_atSet.2.1 76 = .ok (.iload_n 1, 1) := by decide +kernel
theorem d_M_atSet_77 : decode m_M_atSet.2.1 77 = .ok (.iload_n 3, 1) := by decide +kernel
theorem d_M_atSet_78 : decode m_M_atSet.2.1 78 = .ok (.ifCond .eq 9, 3) := by decide +kernel
theorem d_M_atSet_81 : decode m_M_atSet.2.1 81 = .ok (.iconst 1, 1) := by decide +kernel
theorem d_M_atSet_82 : decode m_M_atSet.2.1 82 = .ok (.iload_n 2, 1) := by decide +kernel
theorem d_M_atSet_83 : decode m_M_atSet.2.1 83 = .ok (.ishl, 1) := by decide +kernel
theorem d_M_atSet_84 : decode m_M_atSet.2.1 84 = .ok (.goto 4, 3) := by decide +kernel
theorem d_M_atSet_87 : decode m_M_atSet.2.1 87 = .ok (.iconst 0, 1) := by decide +kernel
theorem d_M_atSet_88 : decode m_M_atSet.2.1 88 = .ok (.ior, 1) := by decide +kernel
theorem d_M_atSet_89 : decode m_M_atSet.2.1 89 = .ok (.istore_n 1, 1) := by decide +kernel
theorem d_M_atSet_90 : decode m_M_atSet.2.1 90 = .ok (.iinc 2 1, 3) := by decide +kernel
theorem d_M_atSet_93 : decode m_M_atSet.2.1 93 = .ok (.goto (-85), 3) := by decide +kernel
theorem d_M_atSet_96 : decode m_M_atSet.2.1 96 = .ok (.iload_n 1, 1) := by decide +kernel
theorem d_M_atSet_97 : decode m_M_atSet.2.1 97 = .ok (.ireturn, 1) := by decide +kernel
theorem d_M_at_0 : decode m_M_at.2.1 0 = .ok (.aload_n 0, 1) := by decide +kernel
theorem d_M_at_1 : decode m_M_at.2.1 1 = .ok (.invokevirtual 129, 3) := by decide +kernel
theorem d_M_at_4 : decode m_M_at.2.1 4 = .ok (.ireturn, 1) := by decide +kernel
theorem d_M_ask_0 : decode m_M_ask.2.1 0 = .ok (.iload_n 1, 1) := by decide +kernel
theorem d_M_ask_1 : decode m_M_ask.2.1 1 = .ok (.iconst 0, 1) := by decide +kernel
theorem d_M_ask_2 : decode m_M_ask.2.1 2 = .ok (.iconst 1, 1) := by decide +kernel
theorem d_M_ask_3 : decode m_M_ask.2.1 3 = .ok (.invokestatic 52, 3) := by decide +kernel
theorem d_M_ask_6 : decode m_M_ask.2.1 6 = .ok (.ifCond .ne 6, 3) := by decide +kernel
theorem d_M_ask_9 : decode m_M_ask.2.1 9 = .ok (.bipush (-2), 2) := by decide +kernel
theorem d_M_ask_11 : decode m_M_ask.2.1 11 = .ok (.ireturn, 1) := by decide +kernel
theorem d_M_ask_12 : decode m_M_ask.2.1 12 = .ok (.aload_n 0, 1) := by decide +kernel
theorem d_M_ask_13 : decode m_M_ask.2.1 13 = .ok (.invokevirtual 129, 3) := by decide +kernel
theorem d_M_ask_16 : decode m_M_ask.2.1 16 = .ok (.istore_n 2, 1) := by decide +kernel
theorem d_M_ask_17 : decode m_M_ask.2.1 17 = .ok (.bipush (-6), 2) := by decide +kernel
theorem d_M_ask_19 : decode m_M_ask.2.1 19 = .ok (.istore_n 3, 1) := by decide +kernel
theorem d_M_ask_20 : decode m_M_ask.2.1 20 = .ok (.ldc 119, 2) := by decide +kernel
theorem d_M_ask_22 : decode m_M_ask.2.1 22 = .ok (.istore 4, 2) := by decide +kernel
theorem d_M_ask_24 : decode m_M_ask.2.1 24 = .ok (.iconst 0, 1) := by decide +kernel
theorem d_M_ask_25 : decode m_M_ask.2.1 25 = .ok (.istore 5, 2) := by decide +kernel
theorem d_M_ask_27 : decode m_M_ask.2.1 27 = .ok (.iload 5, 2) := by decide +kernel
theorem d_M_ask_29 : decode m_M_ask.2.1 29 = .ok (.bipush 12, 2) := by decide +kernel
theorem d_M_ask_31 : decode m_M_ask.2.1 31 = .ok (.if_icmp .ge 122, 3) := by decide +kernel
theorem d_M_ask_34 : decode m_M_ask.2.1 34 = .ok (.iload_n 2, 1) := by decide +kernel
theorem d_M_ask_35 : decode m_M_ask.2.1 35 = .ok (.ifCond .eq 118, 3) := by decide +kernel
theorem d_M_ask_38 : decode m_M_ask.2.1 38 = .ok (.iconst 0, 1) := by decide +kernel
theorem d_M_ask_39 : decode m_M_ask.2.1 39 = .ok (.istore 6, 2) := by decide +kernel
theorem d_M_ask_41 : decode m_M_ask.2.1 41 = .ok (.iconst 0, 1) := by decide +kernel
theorem d_M_ask_42 : decode m_M_ask.2.1 42 = .ok (.istore 7, 2) := by decide +kernel
theorem d_M_ask_44 : decode m_M_ask.2.1 44 = .ok (.iload 7, 2) := by decide +kernel
theorem d_M_ask_46 : decode m_M_ask.2.1 46 = .ok (.bipush 12, 2) := by decide +kernel
theorem d_M_ask_48 : decode m_M_ask.2.1 48 = .ok (.if_icmp .ge 43, 3) := by decide +kernel
theorem d_M_ask_51 : decode m_M_ask.2.1 51 = .ok (.iload 6, 2) := by decide +kernel
theorem d_M_ask_53 : decode m_M_ask.2.1 53 = .ok (.iload_n 2, 1) := by decide +kernel
theorem d_M_ask_54 : decode m_M_ask.2.1 54 = .ok (.iload 7, 2) := by decide +kernel
theorem d_M_ask_56 : decode m_M_ask.2.1 56 = .ok (.invokestatic 77, 3) := by decide +kernel
theorem d_M_ask_59 : decode m_M_ask.2.1 59 = .ok (.ifCond .eq 22, 3) := by decide +kernel
theorem d_M_ask_62 : decode m_M_ask.2.1 62 = .ok (.aload_n 0, 1) := by decide +kernel
theorem d_M_ask_63 : decode m_M_ask.2.1 63 = .ok (.getfield 35, 3) := by decide +kernel
theorem d_M_ask_66 : decode m_M_ask.2.1 66 = .ok (.iload 7, 2) := by decide +kernel
theorem d_M_ask_68 : decode m_M_ask.2.1 68 = .ok (.iaload, 1) := by decide +kernel
theorem d_M_ask_69 : decode m_M_ask.2.1 69 = .ok (.iload 5, 2) := by decide +kernel
theorem d_M_ask_71 : decode m_M_ask.2.1 71 = .ok (.invokestatic 77, 3) := by decide +kernel
theorem d_M_ask_74 : decode m_M_ask.2.1 74 = .ok (.ifCond .eq 7, 3) := by decide +kernel
theorem d_M_ask_77 : decode m_M_ask.2.1 77 = .ok (.iconst 1, 1) := by decide +kernel
theorem d_M_ask_78 : decode m_M_ask.2.1 78 = .ok (.goto 4, 3) := by decide +kernel
theorem d_M_ask_81 : decode m_M_ask.2.1 81 = .ok (.iconst 0, 1) := by decide +kernel
theorem d_M_ask_82 : decode m_M_ask.2.1 82 = .ok (.iadd, 1) := by decide +kernel
theorem d_M_ask_83 : decode m_M_ask.2.1 83 = .ok (.istore 6, 2) := by decide +kernel
theorem d_M_ask_85 : decode m_M_ask.2.1 85 = .ok (.iinc 7 1, 3) := by decide +kernel
theorem d_M_ask_88 : decode m_M_ask.2.1 88 = .ok (.goto (-44), 3) := by decide +kernel
theorem d_M_ask_91 : decode m_M_ask.2.1 91 = .ok (.iload 6, 2) := by decide +kernel
theorem d_M_ask_93 : decode m_M_ask.2.1 93 = .ok (.iload_n 2, 1) := by decide +kernel
theorem d_M_ask_94 : decode m_M_ask.2.1 94 = .ok (.invokestatic 120, 3) := by decide +kernel
theorem d_M_ask_97 : decode m_M_ask.2.1 97 = .ok (.iload 6, 2) := by decide +kernel
theorem d_M_ask_99 : decode m_M_ask.2.1 99 = .ok (.isub, 1) := by decide +kernel
theorem d_M_ask_100 : decode m_M_ask.2.1 100 = .ok (.if_icmp .le 8, 3) := by decide +kernel
theorem d_M_ask_103 : decode m_M_ask.2.1 103 = .ok (.iload 6, 2) := by decide +kernel
theorem d_M_ask_105 : decode m_M_ask.2.1 105 = .ok (.goto 10, 3) := by decide +kernel
theorem d_M_ask_108 : decode m_M_ask.2.1 108 = .ok (.iload_n 2, 1) := by decide +kernel
theorem d_M_ask_109 : decode m_M_ask.2.1 109 = .ok (.invokestatic 120, 3) := by decide +kernel
theorem d_M_ask_112 : decode m_M_ask.2.1 112 = .ok (.iload 6, 2) := by decide +kernel
theorem d_M_ask_114 : decode m_M_ask.2.1 114 = .ok (.isub, 1) := by decide +kernel
theorem d_M_ask_115 : decode m_M_ask.2.1 115 = .ok (.istore 7, 2) := by decide +kernel
theorem d_M_ask_117 : decode m_M_ask.2.1 117 = .ok (.iload 7, 2) := by decide +kernel
theorem d_M_ask_119 : decode m_M_ask.2.1 119 = .ok (.iload 4, 2) := by decide +kernel
theorem d_M_ask_121 : decode m_M_ask.2.1 121 = .ok (.if_icmp .ge 8, 3) := by decide +kernel
theorem d_M_ask_124 : decode m_M_ask.2.1 124 = .ok (.iload 5, 2) := by decide +kernel
theorem d_M_ask_126 : decode m_M_ask.2.1 126 = .ok (.goto 4, 3) := by decide +kernel
theorem d_M_ask_129 : decode m_M_ask.2.1 129 = .ok (.iload_n 3, 1) := by decide +kernel
theorem d_M_ask_130 : decode m_M_ask.2.1 130 = .ok (.istore_n 3, 1) := by decide +kernel
theorem d_M_ask_131 : decode m_M_ask.2.1 131 = .ok (.iload 7, 2) := by decide +kernel
theorem d_M_ask_133 : decode m_M_ask.2.1 133 = .ok (.iload 4, 2) := by decide +kernel
theorem d_M_ask_135 : decode m_M_ask.2.1 135 = .ok (.if_icmp .ge 8, 3) := by decide +kernel
theorem d_M_ask_138 : decode m_M_ask.2.1 138 = .ok (.iload 7, 2) := by decide +kernel
theorem d_M_ask_140 : decode m_M_ask.2.1 140 = .ok (.goto 5, 3) := by decide +kernel
theorem d_M_ask_143 : decode m_M_ask.2.1 143 = .ok (.iload 4, 2) := by decide +kernel
theorem d_M_ask_145 : decode m_M_ask.2.1 145 = .ok (.istore 4, 2) := by decide +kernel
theorem d_M_ask_147 : decode m_M_ask.2.1 147 = .ok (.iinc 5 1, 3) := by decide +kernel
theorem d_M_ask_150 : decode m_M_ask.2.1 150 = .ok (.goto (-123), 3) := by decide +kernel
theorem d_M_ask_153 : decode m_M_ask.2.1 153 = .ok (.iload_n 3, 1) := by decide +kernel
theorem d_M_ask_154 : decode m_M_ask.2.1 154 = .ok (.ifCond .lt 7, 3) := by decide +kernel
theorem d_M_ask_157 : decode m_M_ask.2.1 157 = .ok (.iload_n 1, 1) := by decide +kernel
theorem d_M_ask_158 : decode m_M_ask.2.1 158 = .ok (.ifCond .ne 7, 3) := by decide +kernel
theorem d_M_ask_161 : decode m_M_ask.2.1 161 = .ok (.iload_n 3, 1) := by decide +kernel
theorem d_M_ask_162 : decode m_M_ask.2.1 162 = .ok (.goto 5, 3) := by decide +kernel
theorem d_M_ask_165 : decode m_M_ask.2.1 165 = .ok (.iload 4, 2) := by decide +kernel
theorem d_M_ask_167 : decode m_M_ask.2.1 167 = .ok (.ireturn, 1) := by decide +kernel
theorem d_M_spread_0 : decode m_M_spread.2.1 0 = .ok (.iload_n 1, 1) := by decide +kernel
theorem d_M_spread_1 : decode m_M_spread.2.1 1 = .ok (.istore_n 2, 1) := by decide +kernel
theorem d_M_spread_2 : decode m_M_spread.2.1 2 = .ok (.iconst 0, 1) := by decide +kernel
theorem d_M_spread_3 : decode m_M_spread.2.1 3 = .ok (.istore_n 3, 1) := by decide +kernel
theorem d_M_spread_4 : decode m_M_spread.2.1 4 = .ok (.iload_n 3, 1) := by decide +kernel
theorem d_M_spread_5 : decode m_M_spread.2.1 5 = .ok (.bipush 11, 2) := by decide +kernel
theorem d_M_spread_7 : decode m_M_spread.2.1 7 = .ok (.if_icmp .ge 83, 3) := by decide +kernel
theorem d_M_spread_10 : decode m_M_spread.2.1 10 = .ok (.aload_n 0, 1) := by decide +kernel
theorem d_M_spread_11 : decode m_M_spread.2.1 11 = .ok (.getfield 16, 3) := by decide +kernel
theorem d_M_spread_14 : decode m_M_spread.2.1 14 = .ok (.iload_n 3, 1) := by decide +kernel
theorem d_M_spread_15 : decode m_M_spread.2.1 15 = .ok (.iaload, 1) := by decide +kernel
theorem d_M_spread_16 : decode m_M_spread.2.1 16 = .ok (.iconst 5, 1) := by decide +kernel
theorem d_M_spread_17 : decode m_M_spread.2.1 17 = .ok (.if_icmp .ge 67, 3) := by decide +kernel
theorem d_M_spread_20 : decode m_M_spread.2.1 20 = .ok (.iload_n 2, 1) := by decide +kernel
theorem d_M_spread_21 : decode m_M_spread.2.1 21 = .ok (.iload_n 1, 1) := by decide +kernel
theorem d_M_spread_22 : decode m_M_spread.2.1 22 = .ok (.iload_n 3, 1) := by decide +kernel
theorem d_M_spread_23 : decode m_M_spread.2.1 23 = .ok (.iconst 1, 1) := by decide +kernel
theorem d_M_spread_24 : decode m_M_spread.2.1 24 = .ok (.iadd, 1) := by decide +kernel
theorem d_M_spread_25 : decode m_M_spread.2.1 25 = .ok (.invokestatic 77, 3) := by decide +kernel
theorem d_M_spread_28 : decode m_M_spread.2.1 28 = .ok (.ifCond .eq 20, 3) := by decide +kernel
theorem d_M_spread_31 : decode m_M_spread.2.1 31 = .ok (.aload_n 0, 1) := by decide +kernel
theorem d_M_spread_32 : decode m_M_spread.2.1 32 = .ok (.getfield 49, 3) := by decide +kernel
theorem d_M_spread_35 : decode m_M_spread.2.1 35 = .ok (.iload_n 3, 1) := by decide +kernel
theorem d_M_spread_36 : decode m_M_spread.2.1 36 = .ok (.invokestatic 77, 3) := by decide +kernel
theorem d_M_spread_39 : decode m_M_spread.2.1 39 = .ok (.ifCond .ne 9, 3) := by decide +kernel
theorem d_M_spread_42 : decode m_M_spread.2.1 42 = .ok (.iconst 1, 1) := by decide +kernel
theorem d_M_spread_43 : decode m_M_spread.2.1 43 = .ok (.iload_n 3, 1) := by decide +kernel
theorem d_M_spread_44 : decode m_M_spread.2.1 44 = .ok (.ishl, 1) := by decide +kernel
theorem d_M_spread_45 : decode m_M_spread.2.1 45 = .ok (.goto 4, 3) := by decide +kernel
theorem d_M_spread_48 : decode m_M_spread.2.1 48 = .ok (.iconst 0, 1) := by decide +kernel
theorem d_M_spread_49 : decode m_M_spread.2.1 49 = .ok (.ior, 1) := by decide +kernel
theorem d_M_spread_50 : decode m_M_spread.2.1 50 = .ok (.istore_n 2, 1) := by decide +kernel
theorem d_M_spread_51 : decode m_M_spread.2.1 51 = .ok (.iload_n 2, 1) := by decide +kernel
theorem d_M_spread_52 : decode m_M_spread.2.1 52 = .ok (.iload_n 1, 1) := by decide +kernel
theorem d_M_spread_53 : decode m_M_spread.2.1 53 = .ok (.iload_n 3, 1) := by decide +kernel
theorem d_M_spread_54 : decode m_M_spread.2.1 54 = .ok (.invokestatic 77, 3) := by decide +kernel
theorem d_M_spread_57 : decode m_M_spread.2.1 57 = .ok (.ifCond .eq 24, 3) := by decide +kernel
theorem d_M_spread_60 : decode m_M_spread.2.1 60 = .ok (.aload_n 0, 1) := by decide +kernel
theorem d_M_spread_61 : decode m_M_spread.2.1 61 = .ok (.getfield 49, 3) := by decide +kernel
theorem d_M_spread_64 : decode m_M_spread.2.1 64 = .ok (.iload_n 3, 1) := by decide +kernel
theorem d_M_spread_65 : decode m_M_spread.2.1 65 = .ok (.iconst 1, 1) := by decide +kernel
theorem d_M_spread_66 : decode m_M_spread.2.1 66 = .ok (.iadd, 1) := by decide +kernel
theorem d_M_spread_67 : decode m_M_spread.2.1 67 = .ok (.invokestatic 77, 3) := by decide +kernel
theorem d_M_spread_70 : decode m_M_spread.2.1 70 = .ok (.ifCond .ne 11, 3) := by decide +kernel
theorem d_M_spread_73 : decode m_M_spread.2.1 73 = .ok (.iconst 1, 1) := by decide +kernel
theorem d_M_spread_74 : decode m_M_spread.2.1 74 = .ok (.iload_n 3, 1) := by decide +kernel
theorem d_M_spread_75 : decode m_M_spread.2.1 75 = .ok (.iconst 1, 1) := by decide +kernel
theorem d_M_spread_76 : decode m_M_spread.2.1 76 = .ok (.iadd, 1) := by decide +kernel
theorem d_M_spread_77 : decode m_M_spread.2.1 77 = .ok (.ishl, 1) := by decide +kernel
theorem d_M_spread_78 : decode m_M_spread.2.1 78 = .ok (.goto 4, 3) := by decide +kernel
theorem d_M_spread_81 : decode m_M_spread.2.1 81 = .ok (.iconst 0, 1) := by decide +kernel
theorem d_M_spread_82 : decode m_M_spread.2.1 82 = .ok (.ior, 1) := by decide +kernel
theorem d_M_spread_83 : decode m_M_spread.2.1 83 = .ok (.istore_n 2, 1) := by decide +kernel
theorem d_M_spread_84 : decode m_M_spread.2.1 84 = .ok (.iinc 3 1, 3) := by decide +kernel
theorem d_M_spread_87 : decode m_M_spread.2.1 87 = .ok (.goto (-83), 3) := by decide +kernel
theorem d_M_spread_90 : decode m_M_spread.2.1 90 = .ok (.iload_n 2, 1) := by decide +kernel
theorem d_M_spread_91 : decode m_M_spread.2.1 91 = .ok (.ireturn, 1) := by decide +kernel
theorem d_M_rumour_0 : decode m_M_rumour.2.1 0 = .ok (.iload_n 1, 1) := by decide +kernel
theorem d_M_rumour_1 : decode m_M_rumour.2.1 1 = .ok (.invokestatic 56, 3) := by decide +kernel
theorem d_M_rumour_4 : decode m_M_rumour.2.1 4 = .ok (.ifCond .ne 5, 3) := by decide +kernel
theorem d_M_rumour_7 : decode m_M_rumour.2.1 7 = .ok (.iconst (-1), 1) := by decide +kernel
theorem d_M_rumour_8 : decode m_M_rumour.2.1 8 = .ok (.ireturn, 1) := by decide +kernel
theorem d_M_rumour_9 : decode m_M_rumour.2.1 9 = .ok (.iload_n 2, 1) := by decide +kernel
theorem d_M_rumour_10 : decode m_M_rumour.2.1 10 = .ok (.iconst (-1), 1) := by decide +kernel
theorem d_M_rumour_11 : decode m_M_rumour.2.1 11 = .ok (.bipush 20, 2) := by decide +kernel
theorem d_M_rumour_13 : decode m_M_rumour.2.1 13 = .ok (.invokestatic 52, 3) := by decide +kernel
theorem d_M_rumour_16 : decode m_M_rumour.2.1 16 = .ok (.ifCond .ne 6, 3) := by decide +kernel
theorem d_M_rumour_19 : decode m_M_rumour.2.1 19 = .ok (.bipush (-2), 2) := by decide +kernel
theorem d_M_rumour_21 : decode m_M_rumour.2.1 21 = .ok (.ireturn, 1) := by decide +kernel
theorem d_M_rumour_22 : decode m_M_rumour.2.1 22 = .ok (.iconst 1, 1) := by decide +kernel
theorem d_M_rumour_23 : decode m_M_rumour.2.1 23 = .ok (.iload_n 1, 1) := by decide +kernel
theorem d_M_rumour_24 : decode m_M_rumour.2.1 24 = .ok (.ishl, 1) := by decide +kernel
theorem d_M_rumour_25 : decode m_M_rumour.2.1 25 = .ok (.istore_n 3, 1) := by decide +kernel
theorem d_M_rumour_26 : decode m_M_rumour.2.1 26 = .ok (.iload_n 2, 1) := by decide +kernel
theorem d_M_rumour_27 : decode m_M_rumour.2.1 27 = .ok (.ifCond .ge 30, 3) := by decide +kernel
theorem d_M_rumour_30 : decode m_M_rumour.2.1 30 = .ok (.iconst 0, 1) := by decide +kernel
theorem d_M_rumour_31 : decode m_M_rumour.2.1 31 = .ok (.istore 4, 2) := by decide +kernel
theorem d_M_rumour_33 : decode m_M_rumour.2.1 33 = .ok (.aload_n 0, 1) := by decide +kernel
theorem d_M_rumour_34 : decode m_M_rumour.2.1 34 = .ok (.iload_n 3, 1) := by decide +kernel
theorem d_M_rumour_35 : decode m_M_rumour.2.1 35 = .ok (.invokevirtual 132, 3) := by decide +kernel
theorem d_M_rumour_38 : decode m_M_rumour.2.1 38 = .ok (.iload_n 3, 1) := by decide +kernel
theorem d_M_rumour_39 : decode m_M_rumour.2.1 39 = .ok (.if_icmp .eq 15, 3) := by decide +kernel
theorem d_M_rumour_42 : decode m_M_rumour.2.1 42 = .ok (.aload_n 0, 1) := by decide +kernel
theorem d_M_rumour_43 : decode m_M_rumour.2.1 43 = .ok (.iload_n 3, 1) := by decide +kernel
theorem d_M_rumour_44 : decode m_M_rumour.2.1 44 = .ok (.invokevirtual 132, 3) := by decide +kernel
theorem d_M_rumour_47 : decode m_M_rumour.2.1 47 = .ok (.istore_n 3, 1) := by decide +kernel
theorem d_M_rumour_48 : decode m_M_rumour.2.1 48 = .ok (.iinc 4 1, 3) := by decide +kernel
theorem d_M_rumour_51 : decode m_M_rumour.2.1 51 = .ok (.goto (-18), 3) := by decide +kernel
theorem d_M_rumour_54 : decode m_M_rumour.2.1 54 = .ok (.iload 4, 2) := by decide +kernel
theorem d_M_rumour_56 : decode m_M_rumour.2.1 56 = .ok (.ireturn, 1) := by decide +kernel
theorem d_M_rumour_57 : decode m_M_rumour.2.1 57 = .ok (.iconst 0, 1) := by decide +kernel
theorem d_M_rumour_58 : decode m_M_rumour.2.1 58 = .ok (.istore 4, 2) := by decide +kernel
theorem d_M_rumour_60 : decode m_M_rumour.2.1 60 = .ok (.iload 4, 2) := by decide +kernel
theorem d_M_rumour_62 : decode m_M_rumour.2.1 62 = .ok (.iload_n 2, 1) := by decide +kernel
theorem d_M_rumour_63 : decode m_M_rumour.2.1 63 = .ok (.if_icmp .ge 15, 3) := by decide +kernel
theorem d_M_rumour_66 : decode m_M_rumour.2.1 66 = .ok (.aload_n 0, 1) := by decide +kernel
theorem d_M_rumour_67 : decode m_M_rumour.2.1 67 = .ok (.iload_n 3, 1) := by decide +kernel
theorem d_M_rumour_68 : decode m_M_rumour.2.1 68 = .ok (.invokevirtual 132, 3) := by decide +kernel
theorem d_M_rumour_71 : decode m_M_rumour.2.1 71 = .ok (.istore_n 3, 1) := by decide +kernel
theorem d_M_rumour_72 : decode m_M_rumour.2.1 72 = .ok (.iinc 4 1, 3) := by decide +kernel
theorem d_M_rumour_75 : decode m_M_rumour.2.1 75 = .ok (.goto (-15), 3) := by decide +kernel
theorem d_M_rumour_78 : decode m_M_rumour.2.1 78 = .ok (.iload_n 3, 1) := by decide +kernel
theorem d_M_rumour_79 : decode m_M_rumour.2.1 79 = .ok (.invokestatic 120, 3) := by decide +kernel
theorem d_M_rumour_82 : decode m_M_rumour.2.1 82 = .ok (.ireturn, 1) := by decide +kernel
theorem d_M_chance_0 : decode m_M_chance.2.1 0 = .ok (.iload_n 1, 1) := by decide +kernel
theorem d_M_chance_1 : decode m_M_chance.2.1 1 = .ok (.invokestatic 56, 3) := by decide +kernel
theorem d_M_chance_4 : decode m_M_chance.2.1 4 = .ok (.ifCond .ne 7, 3) := by decide +kernel
theorem d_M_chance_7 : decode m_M_chance.2.1 7 = .ok (.ldc2_w 135, 3) := by decide +kernel
theorem d_M_chance_10 : decode m_M_chance.2.1 10 = .ok (.lreturn, 1) := by decide +kernel
theorem d_M_chance_11 : decode m_M_chance.2.1 11 = .ok (.iload_n 2, 1) := by decide +kernel
theorem d_M_chance_12 : decode m_M_chance.2.1 12 = .ok (.iconst 0, 1) := by decide +kernel
theorem d_M_chance_13 : decode m_M_chance.2.1 13 = .ok (.bipush 10, 2) := by decide +kernel
theorem d_M_chance_15 : decode m_M_chance.2.1 15 = .ok (.invokestatic 52, 3) := by decide +kernel
theorem d_M_chance_18 : decode m_M_chance.2.1 18 = .ok (.ifCond .eq 23, 3) := by decide +kernel
theorem d_M_chance_21 : decode m_M_chance.2.1 21 = .ok (.iload_n 3, 1) := by decide +kernel
theorem d_M_chance_22 : decode m_M_chance.2.1 22 = .ok (.iconst (-1), 1) := by decide +kernel
theorem d_M_chance_23 : decode m_M_chance.2.1 23 = .ok (.bipush 11, 2) := by decide +kernel
theorem d_M_chance_25 : decode m_M_chance.2.1 25 = .ok (.invokestatic 52, 3) := by decide +kernel
theorem d_M_chance_28 : decode m_M_chance.2.1 28 = .ok (.ifCond .eq 13, 3) := by decide +kernel
theorem d_M_chance_31 : decode m_M_chance.2.1 31 = .ok (.iload 4, 2) := by decide +kernel
theorem d_M_chance_33 : decode m_M_chance.2.1 33 = .ok (.iconst 0, 1) := by decide +kernel
theorem d_M_chance_34 : decode m_M_chance.2.1 34 = .ok (.iconst 1, 1) := by decide +kernel
theorem d_M_chance_35 : decode m_M_chance.2.1 35 = .ok (.invokestatic 52, 3) := by decide +kernel
theorem d_M_chance_38 : decode m_M_chance.2.1 38 = .ok (.ifCond .ne 7, 3) := by decide +kernel
theorem d_M_chance_41 : decode m_M_chance.2.1 41 = .ok (.ldc2_w 137, 3) := by decide +kernel
theorem d_M_chance_44 : decode m_M_chance.2.1 44 = .ok (.lreturn, 1) := by decide +kernel
theorem d_M_chance_45 : decode m_M_chance.2.1 45 = .ok (.aload_n 0, 1) := by decide +kernel
theorem d_M_chance_46 : decode m_M_chance.2.1 46 = .ok (.iload_n 1, 1) := by decide +kernel
theorem d_M_chance_47 : decode m_M_chance.2.1 47 = .ok (.iconst 0, 1) := by decide +kernel
theorem d_M_chance_48 : decode m_M_chance.2.1 48 = .ok (.invokevirtual 116, 3) := by decide +kernel
theorem d_M_chance_51 : decode m_M_chance.2.1 51 = .ok (.iconst 1, 1) := by decide +kernel
theorem d_M_chance_52 : decode m_M_chance.2.1 52 = .ok (.iload_n 1, 1) := by decide +kernel
theorem d_M_chance_53 : decode m_M_chance.2.1 53 = .ok (.ishl, 1) := by decide +kernel
theorem d_M_chance_54 : decode m_M_chance.2.1 54 = .ok (.iconst (-1), 1) := by decide +kernel
theorem d_M_chance_55 : decode m_M_chance.2.1 55 = .ok (.ixor, 1) := by decide +kernel
theorem d_M_chance_56 : decode m_M_chance.2.1 56 = .ok (.iand, 1) := by decide +kernel
theorem d_M_chance_57 : decode m_M_chance.2.1 57 = .ok (.invokestatic 120, 3) := by decide +kernel
theorem d_M_chance_60 : decode m_M_chance.2.1 60 = .ok (.istore 5, 2) := by decide +kernel
theorem d_M_chance_62 : decode m_M_chance.2.1 62 = .ok (.aload_n 0, 1) := by decide +kernel
theorem d_M_chance_63 : decode m_M_chance.2.1 63 = .ok (.iload_n 1, 1) := by decide +kernel
theorem d_M_chance_64 : decode m_M_chance.2.1 64 = .ok (.sipush 4095, 3) := by decide +kernel
theorem d_M_chance_67 : decode m_M_chance.2.1 67 = .ok (.invokevirtual 116, 3) := by decide +kernel
theorem d_M_chance_70 : decode m_M_chance.2.1 70 = .ok (.iconst 1, 1) := by decide +kernel
theorem d_M_chance_71 : decode m_M_chance.2.1 71 = .ok (.iload_n 1, 1) := by decide +kernel
theorem d_M_chance_72 : decode m_M_chance.2.1 72 = .ok (.ishl, 1) := by decide +kernel
theorem d_M_chance_73 : decode m_M_chance.2.1 73 = .ok (.iconst (-1), 1) := by decide +kernel
theorem d_M_chance_74 : decode m_M_chance.2.1 74 = .ok (.ixor, 1) := by decide +kernel
theorem d_M_chance_75 : decode m_M_chance.2.1 75 = .ok (.iand, 1) := by decide +kernel
theorem d_M_chance_76 : decode m_M_chance.2.1 76 = .ok (.invokestatic 120, 3) := by decide +kernel
theorem d_M_chance_79 : decode m_M_chance.2.1 79 = .ok (.iload 5, 2) := by decide +kernel
theorem d_M_chance_81 : decode m_M_chance.2.1 81 = .ok (.isub, 1) := by decide +kernel
theorem d_M_chance_82 : decode m_M_chance.2.1 82 = .ok (.istore 6, 2) := by decide +kernel
theorem d_M_chance_84 : decode m_M_chance.2.1 84 = .ok (.lconst 1, 1) := by decide +kernel
theorem d_M_chance_85 : decode m_M_chance.2.1 85 = .ok (.lstore 7, 2) := by decide +kernel
theorem d_M_chance_87 : decode m_M_chance.2.1 87 = .ok (.iconst 0, 1) := by decide +kernel
theorem d_M_chance_88 : decode m_M_chance.2.1 88 = .ok (.istore 9, 2) := by decide +kernel
theorem d_M_chance_90 : decode m_M_chance.2.1 90 = .ok (.iload 9, 2) := by decide +kernel
theorem d_M_chance_92 : decode m_M_chance.2.1 92 = .ok (.bipush 12, 2) := by decide +kernel
theorem d_M_chance_94 : decode m_M_chance.2.1 94 = .ok (.if_icmp .ge 28, 3) := by decide +kernel
theorem d_M_chance_97 : decode m_M_chance.2.1 97 = .ok (.aload_n 0, 1) := by decide +kernel
theorem d_M_chance_98 : decode m_M_chance.2.1 98 = .ok (.getfield 38, 3) := by decide +kernel
theorem d_M_chance_101 : decode m_M_chance.2.1 101 = .ok (.iload 9, 2) := by decide +kernel
theorem d_M_chance_103 : decode m_M_chance.2.1 103 = .ok (.iload 9, 2) := by decide +kernel
theorem d_M_chance_105 : decode m_M_chance.2.1 105 = .ok (.iload 5, 2) := by decide +kernel
theorem d_M_chance_107 : decode m_M_chance.2.1 107 = .ok (.if_icmp .ne 7, 3) := by decide +kernel
theorem d_M_chance_110 : decode m_M_chance.2.1 110 = .ok (.lconst 1, 1) := by decide +kernel
theorem d_M_chance_111 : decode m_M_chance.2.1 111 = .ok (.goto 4, 3) := by decide +kernel
theorem d_M_chance_114 : decode m_M_chance.2.1 114 = .ok (.lconst 0, 1) := by decide +kernel
theorem d_M_chance_115 : decode m_M_chance.2.1 115 = .ok (.lastore, 1) := by decide +kernel
theorem d_M_chance_116 : decode m_M_chance.2.1 116 = .ok (.iinc 9 1, 3) := by decide +kernel
theorem d_M_chance_119 : decode m_M_chance.2.1 119 = .ok (.goto (-29), 3) := by decide +kernel
theorem d_M_chance_122 : decode m_M_chance.2.1 122 = .ok (.iconst 0, 1) := by decide +kernel
theorem d_M_chance_123 : decode m_M_chance.2.1 123 = .ok (.istore 9, 2) := by decide +kernel
theorem d_M_chance_125 : decode m_M_chance.2.1 125 = .ok (.iload 9, 2) := by decide +kernel
theorem d_M_chance_127 : decode m_M_chance.2.1 127 = .ok (.iload 6, 2) := by decide +kernel
theorem d_M_chance_129 : decode m_M_chance.2.1 129 = .ok (.if_icmp .ge 74, 3) := by decide +kernel
theorem d_M_chance_132 : decode m_M_chance.2.1 132 = .ok (.bipush 11, 2) := by decide +kernel
theorem d_M_chance_134 : decode m_M_chance.2.1 134 = .ok (.istore 10, 2) := by decide +kernel
theorem d_M_chance_136 : decode m_M_chance.2.1 136 = .ok (.iload 10, 2) := by decide +kernel
theorem d_M_chance_138 : decode m_M_chance.2.1 138 = .ok (.ifCond .lt 51, 3) := by decide +kernel
theorem d_M_chance_141 : decode m_M_chance.2.1 141 = .ok (.aload_n 0, 1) := by decide +kernel
theorem d_M_chance_142 : decode m_M_chance.2.1 142 = .ok (.getfield 38, 3) := by decide +kernel
theorem d_M_chance_145 : decode m_M_chance.2.1 145 = .ok (.iload 10, 2) := by decide +kernel
theorem d_M_chance_147 : decode m_M_chance.2.1 147 = .ok (.aload_n 0, 1) := by decide +kernel
theorem d_M_chance_148 : decode m_M_chance.2.1 148 = .ok (.getfield 38, 3) := by decide +kernel
theorem d_M_chance_151 : decode m_M_chance.2.1 151 = .ok (.iload 10, 2) := by decide +kernel
theorem d_M_chance_153 : decode m_M_chance.2.1 153 = .ok (.laload, 1) := by decide +kernel
theorem d_M_chance_154 : decode m_M_chance.2.1 154 = .ok (.bipush 10, 2) := by decide +kernel
theorem d_M_chance_156 : decode m_M_chance.2.1 156 = .ok (.iload_n 2, 1) := by decide +kernel
theorem d_M_chance_157 : decode m_M_chance.2.1 157 = .ok (.isub, 1) := by decide +kernel
theorem d_M_chance_158 : decode m_M_chance.2.1 158 = .ok (.i2l, 1) := by decide +kernel
theorem d_M_chance_159 : decode m_M_chance.2.1 159 = .ok (.lmul, 1) := by decide +kernel
theorem d_M_chance_160 : decode m_M_chance.2.1 160 = .ok (.iload 10, 2) := by decide +kernel
theorem d_M_chance_162 : decode m_M_chance.2.1 162 = .ok (.ifCond .le 18, 3) := by decide +kernel
theorem d_M_chance_165 : decode m_M_chance.2.1 165 = .ok (.aload_n 0, 1) := by decide +kernel
theorem d_M_chance_166 : decode m_M_chance.2.1 166 = .ok (.getfield 38, 3) := by decide +kernel
theorem d_M_chance_169 : decode m_M_chance.2.1 169 = .ok (.iload 10, 2) := by decide +kernel
theorem d_M_chance_171 : decode m_M_chance.2.1 171 = .ok (.iconst 1, 1) := by decide +kernel
theorem d_M_chance_172 : decode m_M_chance.2.1 172 = .ok (.isub, 1) := by decide +kernel
theorem d_M_chance_173 : decode m_M_chance.2.1 173 = .ok (.laload, 1) := by decide +kernel
theorem d_M_chance_174 : decode m_M_chance.2.1 174 = .ok (.iload_n 2, 1) := by decide +kernel
theorem d_M_chance_175 : decode m_M_chance.2.1 175 = .ok (.i2l, 1) := by decide +kernel
theorem d_M_chance_176 : decode m_M_chance.2.1 176 = .ok (.lmul, 1) := by decide +kernel
theorem d_M_chance_177 : decode m_M_chance.2.1 177 = .ok (.goto 4, 3) := by decide +kernel
theorem d_M_chance_180 : decode m_M_chance.2.1 180 = .ok (.lconst 0, 1) := by decide +kernel
theorem d_M_chance_181 : decode m_M_chance.2.1 181 = .ok (.ladd, 1) := by decide +kernel
theorem d_M_chance_182 : decode m_M_chance.2.1 182 = .ok (.lastore, 1) := by decide +kernel
theorem d_M_chance_183 : decode m_M_chance.2.1 183 = .ok (.iinc 10 (-1), 3) := by decide +kernel
theorem d_M_chance_186 : decode m_M_chance.2.1 186 = .ok (.goto (-50), 3) := by decide +kernel
theorem d_M_chance_189 : decode m_M_chance.2.1 189 = .ok (.lload 7, 2) := by decide +kernel
theorem d_M_chance_191 : decode m_M_chance.2.1 191 = .ok (.ldc2_w 139, 3) := by decide +kernel
theorem d_M_chance_194 : decode m_M_chance.2.1 194 = .ok (.lmul, 1) := by decide +kernel
theorem d_M_chance_195 : decode m_M_chance.2.1 195 = .ok (.lstore 7, 2) := by decide +kernel
theorem d_M_chance_197 : decode m_M_chance.2.1 197 = .ok (.iinc 9 1, 3) := by decide +kernel
theorem d_M_chance_200 : decode m_M_chance.2.1 200 = .ok (.goto (-75), 3) := by decide +kernel
theorem d_M_chance_203 : decode m_M_chance.2.1 203 = .ok (.lconst 0, 1) := by decide +kernel
theorem d_M_chance_204 : decode m_M_chance.2.1 204 = .ok (.lstore 9, 2) := by decide +kernel
theorem d_M_chance_206 : decode m_M_chance.2.1 206 = .ok (.iconst 0, 1) := by decide +kernel
theorem d_M_chance_207 : decode m_M_chance.2.1 207 = .ok (.istore 11, 2) := by decide +kernel
theorem d_M_chance_209 : decode m_M_chance.2.1 209 = .ok (.iload 11, 2) := by decide +kernel
theorem d_M_chance_211 : decode m_M_chance.2.1 211 = .ok (.bipush 12, 2) := by decide +kernel
theorem d_M_chance_213 : decode m_M_chance.2.1 213 = .ok (.if_icmp .ge 49, 3) := by decide +kernel
theorem d_M_chance_216 : decode m_M_chance.2.1 216 = .ok (.lload 9, 2) := by decide +kernel
theorem d_M_chance_218 : decode m_M_chance.2.1 218 = .ok (.iload_n 3, 1) := by decide +kernel
theorem d_M_chance_219 : decode m_M_chance.2.1 219 = .ok (.ifCond .ge 17, 3) := by decide +kernel
theorem d_M_chance_222 : decode m_M_chance.2.1 222 = .ok (.iload 11, 2) := by decide +kernel
theorem d_M_chance_224 : decode m_M_chance.2.1 224 = .ok (.i2l, 1) := by decide +kernel
theorem d_M_chance_225 : decode m_M_chance.2.1 225 = .ok (.aload_n 0, 1) := by decide +kernel
theorem d_M_chance_226 : decode m_M_chance.2.1 226 = .ok (.getfield 38, 3) := by decide +kernel
theorem d_M_chance_229 : decode m_M_chance.2.1 229 = .ok (.iload 11, 2) := by decide +kernel
theorem d_M_chance_231 : decode m_M_chance.2.1 231 = .ok (.laload, 1) := by decide +kernel
theorem d_M_chance_232 : decode m_M_chance.2.1 232 = .ok (.lmul, 1) := by decide +kernel
theorem d_M_chance_233 : decode m_M_chance.2.1 233 = .ok (.goto 20, 3) := by decide +kernel
theorem d_M_chance_236 : decode m_M_chance.2.1 236 = .ok (.iload 11, 2) := by decide +kernel
theorem d_M_chance_238 : decode m_M_chance.2.1 238 = .ok (.iload_n 3, 1) := by decide +kernel
theorem d_M_chance_239 : decode m_M_chance.2.1 239 = .ok (.if_icmp .gt 13, 3) := by decide +kernel
theorem d_M_chance_242 : decode m_M_chance.2.1 242 = .ok (.aload_n 0, 1) := by decide +kernel
theorem d_M_chance_243 : decode m_M_chance.2.1 243 = .ok (.getfield 38, 3) := by decide +kernel
theorem d_M_chance_246 : decode m_M_chance.2.1 246 = .ok (.iload 11, 2) := by decide +kernel
theorem d_M_chance_248 : decode m_M_chance.2.1 248 = .ok (.laload, 1) := by decide +kernel
theorem d_M_chance_249 : decode m_M_chance.2.1 249 = .ok (.goto 4, 3) := by decide +kernel
theorem d_M_chance_252 : decode m_M_chance.2.1 252 = .ok (.lconst 0, 1) := by decide +kernel
theorem d_M_chance_253 : decode m_M_chance.2.1 253 = .ok (.ladd, 1) := by decide +kernel
theorem d_M_chance_254 : decode m_M_chance.2.1 254 = .ok (.lstore 9, 2) := by decide +kernel
theorem d_M_chance_256 : decode m_M_chance.2.1 256 = .ok (.iinc 11 1, 3) := by decide +kernel
theorem d_M_chance_259 : decode m_M_chance.2.1 259 = .ok (.goto (-50), 3) := by decide +kernel
theorem d_M_chance_262 : decode m_M_chance.2.1 262 = .ok (.lload 9, 2) := by decide +kernel
theorem d_M_chance_264 : decode m_M_chance.2.1 264 = .ok (.lstore 11, 2) := by decide +kernel
theorem d_M_chance_266 : decode m_M_chance.2.1 266 = .ok (.lload 7, 2) := by decide +kernel
theorem d_M_chance_268 : decode m_M_chance.2.1 268 = .ok (.lstore 13, 2) := by decide +kernel
theorem d_M_chance_270 : decode m_M_chance.2.1 270 = .ok (.lload 13, 2) := by decide +kernel
theorem d_M_chance_272 : decode m_M_chance.2.1 272 = .ok (.lconst 0, 1) := by decide +kernel
theorem d_M_chance_273 : decode m_M_chance.2.1 273 = .ok (.lcmp, 1) := by decide +kernel
theorem d_M_chance_274 : decode m_M_chance.2.1 274 = .ok (.ifCond .eq 21, 3) := by decide +kernel
theorem d_M_chance_277 : decode m_M_chance.2.1 277 = .ok (.lload 11, 2) := by decide +kernel
theorem d_M_chance_279 : decode m_M_chance.2.1 279 = .ok (.lload 13, 2) := by decide +kernel
theorem d_M_chance_281 : decode m_M_chance.2.1 281 = .ok (.lrem, 1) := by decide +kernel
theorem d_M_chance_282 : decode m_M_chance.2.1 282 = .ok (.lstore 15, 2) := by decide +kernel
theorem d_M_chance_284 : decode m_M_chance.2.1 284 = .ok (.lload 13, 2) := by decide +kernel
theorem d_M_chance_286 : decode m_M_chance.2.1 286 = .ok (.lstore 11, 2) := by decide +kernel
theorem d_M_chance_288 : decode m_M_chance.2.1 288 = .ok (.lload 15, 2) := by decide +kernel
theorem d_M_chance_290 : decode m_M_chance.2.1 290 = .ok (.lstore 13, 2) := by decide +kernel
theorem d_M_chance_292 : decode m_M_chance.2.1 292 = .ok (.goto (-22), 3) := by decide +kernel
theorem d_M_chance_295 : decode m_M_chance.2.1 295 = .ok (.iload 4, 2) := by decide +kernel
theorem d_M_chance_297 : decode m_M_chance.2.1 297 = .ok (.ifCond .ne 11, 3) := by decide +kernel
theorem d_M_chance_300 : decode m_M_chance.2.1 300 = .ok (.lload 9, 2) := by decide +kernel
theorem d_M_chance_302 : decode m_M_chance.2.1 302 = .ok (.lload 11, 2) := by decide +kernel
theorem d_M_chance_304 : decode m_M_chance.2.1 304 = .ok (.ldiv, 1) := by decide +kernel
theorem d_M_chance_305 : decode m_M_chance.2.1 305 = .ok (.goto 8, 3) := by decide +kernel
theorem d_M_chance_308 : decode m_M_chance.2.1 308 = .ok (.lload 7, 2) := by decide +kernel
theorem d_M_chance_310 : decode m_M_chance.2.1 310 = .ok (.lload 11, 2) := by decide +kernel
theorem d_M_chance_312 : decode m_M_chance.2.1 312 = .ok (.ldiv, 1) := by decide +kernel
theorem d_M_chance_313 : decode m_M_chance.2.1 313 = .ok (.lreturn, 1) := by decide +kernel
theorem d_M_year_0 : decode m_M_year.2.1 0 = .ok (.iload_n 1, 1) := by decide +kernel
theorem d_M_year_1 : decode m_M_year.2.1 1 = .ok (.iconst 0, 1) := by decide +kernel
theorem d_M_year_2 : decode m_M_year.2.1 2 = .ok (.sipush 9999, 3) := by decide +kernel
theorem d_M_year_5 : decode m_M_year.2.1 5 = .ok (.invokestatic 52, 3) := by decide +kernel
theorem d_M_year_8 : decode m_M_year.2.1 8 = .ok (.ifCond .eq 22, 3) := by decide +kernel
theorem d_M_year_11 : decode m_M_year.2.1 11 = .ok (.iload_n 2, 1) := by decide +kernel
theorem d_M_year_12 : decode m_M_year.2.1 12 = .ok (.iconst 1, 1) := by decide +kernel
theorem d_M_year_13 : decode m_M_year.2.1 13 = .ok (.bipush 99, 2) := by decide +kernel
theorem d_M_year_15 : decode m_M_year.2.1 15 = .ok (.invokestatic 52, 3) := by decide +kernel
theorem d_M_year_18 : decode m_M_year.2.1 18 = .ok (.ifCond .eq 12, 3) := by decide +kernel
theorem d_M_year_21 : decode m_M_year.2.1 21 = .ok (.iload_n 3, 1) := by decide +kernel
theorem d_M_year_22 : decode m_M_year.2.1 22 = .ok (.iconst 0, 1) := by decide +kernel
theorem d_M_year_23 : decode m_M_year.2.1 23 = .ok (.iconst 2, 1) := by decide +kernel
theorem d_M_year_24 : decode m_M_year.2.1 24 = .ok (.invokestatic 52, 3) := by decide +kernel
theorem d_M_year_27 : decode m_M_year.2.1 27 = .ok (.ifCond .ne 6, 3) := by decide +kernel
theorem d_M_year_30 : decode m_M_year.2.1 30 = .ok (.bipush (-2), 2) := by decide +kernel
theorem d_M_year_32 : decode m_M_year.2.1 32 = .ok (.ireturn, 1) := by decide +kernel
theorem d_M_year_33 : decode m_M_year.2.1 33 = .ok (.aload_n 0, 1) := by decide +kernel
theorem d_M_year_34 : decode m_M_year.2.1 34 = .ok (.invokevirtual 88, 3) := by decide +kernel
theorem d_M_year_37 : decode m_M_year.2.1 37 = .ok (.iload_n 1, 1) := by decide +kernel
theorem d_M_year_38 : decode m_M_year.2.1 38 = .ok (.istore 4, 2) := by decide +kernel
theorem d_M_year_40 : decode m_M_year.2.1 40 = .ok (.iconst 0, 1) := by decide +kernel
theorem d_M_year_41 : decode m_M_year.2.1 41 = .ok (.istore 5, 2) := by decide +kernel
theorem d_M_year_43 : decode m_M_year.2.1 43 = .ok (.iload 5, 2) := by decide +kernel
theorem d_M_year_45 : decode m_M_year.2.1 45 = .ok (.iload_n 2, 1) := by decide +kernel
theorem d_M_year_46 : decode m_M_year.2.1 46 = .ok (.if_icmp .ge 106, 3) := by decide +kernel
theorem d_M_year_49 : decode m_M_year.2.1 49 = .ok (.bipush 75, 2) := by decide +kernel
theorem d_M_year_51 : decode m_M_year.2.1 51 = .ok (.iload 4, 2) := by decide +kernel
theorem d_M_year_53 : decode m_M_year.2.1 53 = .ok (.imul, 1) := by decide +kernel
theorem d_M_year_54 : decode m_M_year.2.1 54 = .ok (.bipush 74, 2) := by decide +kernel
theorem d_M_year_56 : decode m_M_year.2.1 56 = .ok (.iadd, 1) := by decide +kernel
theorem d_M_year_57 : decode m_M_year.2.1 57 = .ok (.ldc 141, 2) := by decide +kernel
theorem d_M_year_59 : decode m_M_year.2.1 59 = .ok (.irem, 1) := by decide +kernel
theorem d_M_year_60 : decode m_M_year.2.1 60 = .ok (.istore 4, 2) := by decide +kernel
theorem d_M_year_62 : decode m_M_year.2.1 62 = .ok (.iload 4, 2) := by decide +kernel
theorem d_M_year_64 : decode m_M_year.2.1 64 = .ok (.bipush 8, 2) := by decide +kernel
theorem d_M_year_66 : decode m_M_year.2.1 66 = .ok (.irem, 1) := by decide +kernel
theorem d_M_year_67 : decode m_M_year.2.1 67 = .ok (.istore 6, 2) := by decide +kernel
theorem d_M_year_69 : decode m_M_year.2.1 69 = .ok (.iload 6, 2) := by decide +kernel
theorem d_M_year_71 : decode m_M_year.2.1 71 = .ok (.ifCond .ne 11, 3) := by decide +kernel
theorem d_M_year_74 : decode m_M_year.2.1 74 = .ok (.aload_n 0, 1) := by decide +kernel
theorem d_M_year_75 : decode m_M_year.2.1 75 = .ok (.invokevirtual 100, 3) := by decide +kernel
theorem d_M_year_78 : decode m_M_year.2.1 78 = .ok (.pop, 1) := by decide +kernel
theorem d_M_year_79 : decode m_M_year.2.1 79 = .ok (.goto 67, 3) := by decide +kernel
theorem d_M_year_82 : decode m_M_year.2.1 82 = .ok (.iload 6, 2) := by decide +kernel
theorem d_M_year_84 : decode m_M_year.2.1 84 = .ok (.iconst 1, 1) := by decide +kernel
theorem d_M_year_85 : decode m_M_year.2.1 85 = .ok (.if_icmp .ne 26, 3) := by decide +kernel
theorem d_M_year_88 : decode m_M_year.2.1 88 = .ok (.aload_n 0, 1) := by decide +kernel
theorem d_M_year_89 : decode m_M_year.2.1 89 = .ok (.getfield 13, 3) := by decide +kernel
theorem d_M_year_92 : decode m_M_year.2.1 92 = .ok (.bipush 14, 2) := by decide +kernel
theorem d_M_year_94 : decode m_M_year.2.1 94 = .ok (.dup2, 1) := by decide +kernel
theorem d_M_year_95 : decode m_M_year.2.1 95 = .ok (.iaload, 1) := by decide +kernel
theorem d_M_year_96 : decode m_M_year.2.1 96 = .ok (.iconst 1, 1) := by decide +kernel
theorem d_M_year_97 : decode m_M_year.2.1 97 = .ok (.iload 4, 2) := by decide +kernel
theorem d_M_year_99 : decode m_M_year.2.1 99 = .ok (.bipush 8, 2) := by decide +kernel
theorem d_M_year_101 : decode m_M_year.2.1 101 = .ok (.idiv, 1) := by decide +kernel
theorem d_M_year_102 : decode m_M_year.2.1 102 = .ok (.bipush 12, 2) := by decide +kernel
theorem d_M_year_104 : decode m_M_year.2.1 104 = .ok (.irem, 1) := by decide +kernel
theorem d_M_year_105 : decode m_M_year.2.1 105 = .ok (.ishl, 1) := by decide +kernel
theorem d_M_year_106 : decode m_M_year.2.1 106 = .ok (.ixor, 1) := by decide +kernel
theorem d_M_year_107 : decode m_M_year.2.1 107 = .ok (.iastore, 1) := by decide +kernel
theorem d_M_year_108 : decode m_M_year.2.1 108 = .ok (.goto 38, 3) := by decide +kernel
theorem d_M_year_111 : decode m_M_year.2.1 111 = .ok (.iload 6, 2) := by decide +kernel
theorem d_M_year_113 : decode m_M_year.2.1 113 = .ok (.iconst 5, 1) := by decide +kernel
theorem d_M_year_114 : decode m_M_year.2.1 114 = .ok (.if_icmp .ge 19, 3) := by decide +kernel
theorem d_M_year_117 : decode m_M_year.2.1 117 = .ok (.aload_n 0, 1) := by decide +kernel
theorem d_M_year_118 : decode m_M_year.2.1 118 = .ok (.iload 4, 2) := by decide +kernel
theorem d_M_year_120 : decode m_M_year.2.1 120 = .ok (.bipush 8, 2) := by decide +kernel
theorem d_M_year_122 : decode m_M_year.2.1 122 = .ok (.idiv, 1) := by decide +kernel
theorem d_M_year_123 : decode m_M_year.2.1 123 = .ok (.bipush 12, 2) := by decide +kernel
theorem d_M_year_125 : decode m_M_year.2.1 125 = .ok (.irem, 1) := by decide +kernel
theorem d_M_year_126 : decode m_M_year.2.1 126 = .ok (.invokevirtual 103, 3) := by decide +kernel
theorem d_M_year_129 : decode m_M_year.2.1 129 = .ok (.pop, 1) := by decide +kernel
theorem d_M_year_130 : decode m_M_year.2.1 130 = .ok (.goto 16, 3) := by decide +kernel
theorem d_M_year_133 : decode m_M_year.2.1 133 = .ok (.aload_n 0, 1) := by decide +kernel
theorem d_M_year_134 : decode m_M_year.2.1 134 = .ok (.iload 4, 2) := by decide +kernel
theorem d_M_year_136 : decode m_M_year.2.1 136 = .ok (.bipush 8, 2) := by decide +kernel
theorem d_M_year_138 : decode m_M_year.2.1 138 = .ok (.idiv, 1) := by decide +kernel
theorem d_M_year_139 : decode m_M_year.2.1 139 = .ok (.bipush 6, 2) := by decide +kernel
theorem d_M_year_141 : decode m_M_year.2.1 141 = .ok (.irem, 1) := by decide +kernel
theorem d_M_year_142 : decode m_M_year.2.1 142 = .ok (.invokevirtual 107, 3) := by decide +kernel
theorem d_M_year_145 : decode m_M_year.2.1 145 = .ok (.pop, 1) := by decide +kernel
theorem d_M_year_146 : decode m_M_year.2.1 146 = .ok (.iinc 5 1, 3) := by decide +kernel
theorem d_M_year_149 : decode m_M_year.2.1 149 = .ok (.goto (-106), 3) := by decide +kernel
theorem d_M_year_152 : decode m_M_year.2.1 152 = .ok (.iconst 0, 1) := by decide +kernel
theorem d_M_year_153 : decode m_M_year.2.1 153 = .ok (.istore 5, 2) := by decide +kernel
theorem d_M_year_155 : decode m_M_year.2.1 155 = .ok (.iconst 0, 1) := by decide +kernel
theorem d_M_year_156 : decode m_M_year.2.1 156 = .ok (.istore 6, 2) := by decide +kernel
theorem d_M_year_158 : decode m_M_year.2.1 158 = .ok (.iload 6, 2) := by decide +kernel
theorem d_M_year_160 : decode m_M_year.2.1 160 = .ok (.bipush 12, 2) := by decide +kernel
theorem d_M_year_162 : decode m_M_year.2.1 162 = .ok (.if_icmp .ge 24, 3) := by decide +kernel
theorem d_M_year_165 : decode m_M_year.2.1 165 = .ok (.iload 5, 2) := by decide +kernel
theorem d_M_year_167 : decode m_M_year.2.1 167 = .ok (.aload_n 0, 1) := by decide +kernel
theorem d_M_year_168 : decode m_M_year.2.1 168 = .ok (.getfield 13, 3) := by decide +kernel
theorem d_M_year_171 : decode m_M_year.2.1 171 = .ok (.iload 6, 2) := by decide +kernel
theorem d_M_year_173 : decode m_M_year.2.1 173 = .ok (.iaload, 1) := by decide +kernel
theorem d_M_year_174 : decode m_M_year.2.1 174 = .ok (.invokestatic 120, 3) := by decide +kernel
theorem d_M_year_177 : decode m_M_year.2.1 177 = .ok (.iadd, 1) := by decide +kernel
theorem d_M_year_178 : decode m_M_year.2.1 178 = .ok (.istore 5, 2) := by decide +kernel
theorem d_M_year_180 : decode m_M_year.2.1 180 = .ok (.iinc 6 1, 3) := by decide +kernel
theorem d_M_year_183 : decode m_M_year.2.1 183 = .ok (.goto (-25), 3) := by decide +kernel
theorem d_M_year_186 : decode m_M_year.2.1 186 = .ok (.iload_n 3, 1) := by decide +kernel
theorem d_M_year_187 : decode m_M_year.2.1 187 = .ok (.ifCond .ne 8, 3) := by decide +kernel
theorem d_M_year_190 : decode m_M_year.2.1 190 = .ok (.iload 5, 2) := by decide +kernel
theorem d_M_year_192 : decode m_M_year.2.1 192 = .ok (.goto 28, 3) := by decide +kernel
theorem d_M_year_195 : decode m_M_year.2.1 195 = .ok (.iload_n 3, 1) := by decide +kernel
theorem d_M_year_196 : decode m_M_year.2.1 196 = .ok (.iconst 1, 1) := by decide +kernel
theorem d_M_year_197 : decode m_M_year.2.1 197 = .ok (.if_icmp .ne 13, 3) := by decide +kernel
theorem d_M_year_200 : decode m_M_year.2.1 200 = .ok (.aload_n 0, 1) := by decide +kernel
theorem d_M_year_201 : decode m_M_year.2.1 201 = .ok (.getfield 13, 3) := by decide +kernel
theorem d_M_year_204 : decode m_M_year.2.1 204 = .ok (.bipush 12, 2) := by decide +kernel
theorem d_M_year_206 : decode m_M_year.2.1 206 = .ok (.iaload, 1) := by decide +kernel
theorem d_M_year_207 : decode m_M_year.2.1 207 = .ok (.goto 13, 3) := by decide +kernel
theorem d_M_year_210 : decode m_M_year.2.1 210 = .ok (.aload_n 0, 1) := by decide +kernel
theorem d_M_year_211 : decode m_M_year.2.1 211 = .ok (.getfield 13, 3) := by decide +kernel
theorem d_M_year_214 : decode m_M_year.2.1 214 = .ok (.bipush 15, 2) := by decide +kernel
theorem d_M_year_216 : decode m_M_year.2.1 216 = .ok (.iaload, 1) := by decide +kernel
theorem d_M_year_217 : decode m_M_year.2.1 217 = .ok (.invokestatic 120, 3) := by decide +kernel
theorem d_M_year_220 : decode m_M_year.2.1 220 = .ok (.ireturn, 1) := by decide +kernel
theorem d_M_image_0 : decode m_M_image.2.1 0 = .ok (.iload_n 1, 1) := by decide +kernel
theorem d_M_image_1 : decode m_M_image.2.1 1 = .ok (.iconst 0, 1) := by decide +kernel
theorem d_M_image_2 : decode m_M_image.2.1 2 = .ok (.iconst 1, 1) := by decide +kernel
theorem d_M_image_3 : decode m_M_image.2.1 3 = .ok (.invokestatic 52, 3) := by decide +kernel
theorem d_M_image_6 : decode m_M_image.2.1 6 = .ok (.ifCond .ne 6, 3) := by decide +kernel
theorem d_M_image_9 : decode m_M_image.2.1 9 = .ok (.bipush (-2), 2) := by decide +kernel
theorem d_M_image_11 : decode m_M_image.2.1 11 = .ok (.ireturn, 1) := by decide +kernel
theorem d_M_image_12 : decode m_M_image.2.1 12 = .ok (.bipush 80, 2) := by decide +kernel
theorem d_M_image_14 : decode m_M_image.2.1 14 = .ok (.iload_n 1, 1) := by decide +kernel
theorem d_M_image_15 : decode m_M_image.2.1 15 = .ok (.imul, 1) := by decide +kernel
theorem d_M_image_16 : decode m_M_image.2.1 16 = .ok (.istore_n 2, 1) := by decide +kernel
theorem d_M_image_17 : decode m_M_image.2.1 17 = .ok (.iconst 0, 1) := by decide +kernel
theorem d_M_image_18 : decode m_M_image.2.1 18 = .ok (.istore_n 3, 1) := by decide +kernel
theorem d_M_image_19 : decode m_M_image.2.1 19 = .ok (.iload_n 3, 1) := by decide +kernel
theorem d_M_image_20 : decode m_M_image.2.1 20 = .ok (.bipush 16, 2) := by decide +kernel
theorem d_M_image_22 : decode m_M_image.2.1 22 = .ok (.if_icmp .ge 40, 3) := by decide +kernel
theorem d_M_image_25 : decode m_M_image.2.1 25 = .ok (.aload_n 0, 1) := by decide +kernel
theorem d_M_image_26 : decode m_M_image.2.1 26 = .ok (.getfield 42, 3) := by decide +kernel
theorem d_M_image_29 : decode m_M_image.2.1 29 = .ok (.iload_n 2, 1) := by decide +kernel
theorem d_M_image_30 : decode m_M_image.2.1 30 = .ok (.iload_n 3, 1) := by decide +kernel
theorem d_M_image_31 : decode m_M_image.2.1 31 = .ok (.iadd, 1) := by decide +kernel
theorem d_M_image_32 : decode m_M_image.2.1 32 = .ok (.aload_n 0, 1) := by decide +kernel
theorem d_M_image_33 : decode m_M_image.2.1 33 = .ok (.getfield 7, 3) := by decide +kernel
theorem d_M_image_36 : decode m_M_image.2.1 36 = .ok (.iload_n 3, 1) := by decide +kernel
theorem d_M_image_37 : decode m_M_image.2.1 37 = .ok (.iaload, 1) := by decide +kernel
theorem d_M_image_38 : decode m_M_image.2.1 38 = .ok (.iastore, 1) := by decide +kernel
theorem d_M_image_39 : decode m_M_image.2.1 39 = .ok (.aload_n 0, 1) := by decide +kernel
theorem d_M_image_40 : decode m_M_image.2.1 40 = .ok (.getfield 42, 3) := by decide +kernel
theorem d_M_image_43 : decode m_M_image.2.1 43 = .ok (.iload_n 2, 1) := by decide +kernel
theorem d_M_image_44 : decode m_M_image.2.1 44 = .ok (.bipush 16, 2) := by decide +kernel
theorem d_M_image_46 : decode m_M_image.2.1 46 = .ok (.iadd, 1) := by decide +kernel
theorem d_M_image_47 : decode m_M_image.2.1 47 = .ok (.iload_n 3, 1) := by decide +kernel
theorem d_M_image_48 : decode m_M_image.2.1 48 = .ok (.iadd, 1) := by decide +kernel
theorem d_M_image_49 : decode m_M_image.2.1 49 = .ok (.aload_n 0, 1) := by decide +kernel
theorem d_M_image_50 : decode m_M_image.2.1 50 = .ok (.getfield 26, 3) := by decide +kernel
theorem d_M_image_53 : decode m_M_image.2.1 53 = .ok (.iload_n 3, 1) := by decide +kernel
theorem d_M_image_54 : decode m_M_image.2.1 54 = .ok (.iaload, 1) := by decide +kernel
theorem d_M_image_55 : decode m_M_image.2.1 55 = .ok (.iastore, 1) := by decide +kernel
theorem d_M_image_56 : decode m_M_image.2.1 56 = .ok (.iinc 3 1, 3) := by decide +kernel
theorem d_M_image_59 : decode m_M_image.2.1 59 = .ok (.goto (-40), 3) := by decide +kernel
theorem d_M_image_62 : decode m_M_image.2.1 62 = .ok (.iconst 0, 1) := by decide +kernel
theorem d_M_image_63 : decode m_M_image.2.1 63 = .ok (.istore_n 3, 1) := by decide +kernel
theorem d_M_image_64 : decode m_M_image.2.1 64 = .ok (.iload_n 3, 1) := by decide +kernel
theorem d_M_image_65 : decode m_M_image.2.1 65 = .ok (.bipush 24, 2) := by decide +kernel
theorem d_M_image_67 : decode m_M_image.2.1 67 = .ok (.if_icmp .ge 26, 3) := by decide +kernel
theorem d_M_image_70 : decode m_M_image.2.1 70 = .ok (.aload_n 0, 1) := by decide +kernel
theorem d_M_image_71 : decode m_M_image.2.1 71 = .ok (.getfield 42, 3) := by decide +kernel
theorem d_M_image_74 : decode m_M_image.2.1 74 = .ok (.iload_n 2, 1) := by decide +kernel
theorem d_M_image_75 : decode m_M_image.2.1 75 = .ok (.bipush 32, 2) := by decide +kernel
theorem d_M_image_77 : decode m_M_image.2.1 77 = .ok (.iadd, 1) := by decide +kernel
theorem d_M_image_78 : decode m_M_image.2.1 78 = .ok (.iload_n 3, 1) := by decide +kernel
theorem d_M_image_79 : decode m_M_image.2.1 79 = .ok (.iadd, 1) := by decide +kernel
theorem d_M_image_80 : decode m_M_image.2.1 80 = .ok (.aload_n 0, 1) := by decide +kernel
theorem d_M_image_81 : decode m_M_image.2.1 81 = .ok (.getfield 23, 3) := by decide +kernel
theorem d_M_image_84 : decode m_M_image.2.1 84 = .ok (.iload_n 3, 1) := by decide +kernel
theorem d_M_image_85 : decode m_M_image.2.1 85 = .ok (.iaload, 1) := by decide +kernel
theorem d_M_image_86 : decode m_M_image.2.1 86 = .ok (.iastore, 1) := by decide +kernel
theorem d_M_image_87 : decode m_M_image.2.1 87 = .ok (.iinc 3 1, 3) := by decide +kernel
theorem d_M_image_90 : decode m_M_image.2.1 90 = .ok (.goto (-26), 3) := by decide +kernel
theorem d_M_image_93 : decode m_M_image.2.1 93 = .ok (.iconst 0, 1) := by decide +kernel
theorem d_M_image_94 : decode m_M_image.2.1 94 = .ok (.istore_n 3, 1) := by decide +kernel
theorem d_M_image_95 : decode m_M_image.2.1 95 = .ok (.iload_n 3, 1) := by decide +kernel
theorem d_M_image_96 : decode m_M_image.2.1 96 = .ok (.bipush 11, 2) := by decide +kernel
theorem d_M_image_98 : decode m_M_image.2.1 98 = .ok (.if_icmp .ge 26, 3) := by decide +kernel
theorem d_M_image_101 : decode m_M_image.2.1 101 = .ok (.aload_n 0, 1) := by decide +kernel
theorem d_M_image_102 : decode m_M_image.2.1 102 = .ok (.getfield 42, 3) := by decide +kernel
theorem d_M_image_105 : decode m_M_image.2.1 105 = .ok (.iload_n 2, 1) := by decide +kernel
theorem d_M_image_106 : decode m_M_image.2.1 106 = .ok (.bipush 56, 2) := by decide +kernel
theorem d_M_image_108 : decode m_M_image.2.1 108 = .ok (.iadd, 1) := by decide +kernel
theorem d_M_image_109 : decode m_M_image.2.1 109 = .ok (.iload_n 3, 1) := by decide +kernel
theorem d_M_image_110 : decode m_M_image.2.1 110 = .ok (.iadd, 1) := by decide +kernel
theorem d_M_image_111 : decode m_M_image.2.1 111 = .ok (.aload_n 0, 1) := by decide +kernel
theorem d_M_image_112 : decode m_M_image.2.1 112 = .ok (.getfield 16, 3) := by decide +kernel
theorem d_M_image_115 : decode m_M_image.2.1 115 = .ok (.iload_n 3, 1) := by decide +kernel
theorem d_M_image_116 : decode m_M_image.2.1 116 = .ok (.iaload, 1) := by decide +kernel
theorem d_M_image_117 : decode m_M_image.2.1 117 = .ok (.iastore, 1) := by decide +kernel
theorem d_M_image_118 : decode m_M_image.2.1 118 = .ok (.iinc 3 1, 3) := by decide +kernel
theorem d_M_image_121 : decode m_M_image.2.1 121 = .ok (.goto (-26), 3) := by decide +kernel
theorem d_M_image_124 : decode m_M_image.2.1 124 = .ok (.aload_n 0, 1) := by decide +kernel
theorem d_M_image_125 : decode m_M_image.2.1 125 = .ok (.getfield 42, 3) := by decide +kernel
theorem d_M_image_128 : decode m_M_image.2.1 128 = .ok (.iload_n 2, 1) := by decide +kernel
theorem d_M_image_129 : decode m_M_image.2.1 129 = .ok (.bipush 70, 2) := by decide +kernel
theorem d_M_image_131 : decode m_M_image.2.1 131 = .ok (.iadd, 1) := by decide +kernel
theorem d_M_image_132 : decode m_M_image.2.1 132 = .ok (.aload_n 0, 1) := by decide +kernel
theorem d_M_image_133 : decode m_M_image.2.1 133 = .ok (.getfield 49, 3) := by decide +kernel
theorem d_M_image_136 : decode m_M_image.2.1 136 = .ok (.iastore, 1) := by decide +kernel
theorem d_M_image_137 : decode m_M_image.2.1 137 = .ok (.aload_n 0, 1) := by decide +kernel
theorem d_M_image_138 : decode m_M_image.2.1 138 = .ok (.getfield 42, 3) := by decide +kernel
theorem d_M_image_141 : decode m_M_image.2.1 141 = .ok (.iload_n 2, 1) := by decide +kernel
theorem d_M_image_142 : decode m_M_image.2.1 142 = .ok (.bipush 71, 2) := by decide +kernel
theorem d_M_image_144 : decode m_M_image.2.1 144 = .ok (.iadd, 1) := by decide +kernel
theorem d_M_image_145 : decode m_M_image.2.1 145 = .ok (.aload_n 0, 1) := by decide +kernel
theorem d_M_image_146 : decode m_M_image.2.1 146 = .ok (.getfield 19, 3) := by decide +kernel
theorem d_M_image_149 : decode m_M_image.2.1 149 = .ok (.iastore, 1) := by decide +kernel
theorem d_M_image_150 : decode m_M_image.2.1 150 = .ok (.aload_n 0, 1) := by decide +kernel
theorem d_M_image_151 : decode m_M_image.2.1 151 = .ok (.getfield 42, 3) := by decide +kernel
theorem d_M_image_154 : decode m_M_image.2.1 154 = .ok (.iload_n 2, 1) := by decide +kernel
theorem d_M_image_155 : decode m_M_image.2.1 155 = .ok (.bipush 72, 2) := by decide +kernel
theorem d_M_image_157 : decode m_M_image.2.1 157 = .ok (.iadd, 1) := by decide +kernel
theorem d_M_image_158 : decode m_M_image.2.1 158 = .ok (.aload_n 0, 1) := by decide +kernel
theorem d_M_image_159 : decode m_M_image.2.1 159 = .ok (.getfield 60, 3) := by decide +kernel
theorem d_M_image_162 : decode m_M_image.2.1 162 = .ok (.iastore, 1) := by decide +kernel
theorem d_M_image_163 : decode m_M_image.2.1 163 = .ok (.aload_n 0, 1) := by decide +kernel
theorem d_M_image_164 : decode m_M_image.2.1 164 = .ok (.getfield 42, 3) := by decide +kernel
theorem d_M_image_167 : decode m_M_image.2.1 167 = .ok (.iload_n 2, 1) := by decide +kernel
theorem d_M_image_168 : decode m_M_image.2.1 168 = .ok (.bipush 73, 2) := by decide +kernel
theorem d_M_image_170 : decode m_M_image.2.1 170 = .ok (.iadd, 1) := by decide +kernel
theorem d_M_image_171 : decode m_M_image.2.1 171 = .ok (.aload_n 0, 1) := by decide +kernel
theorem d_M_image_172 : decode m_M_image.2.1 172 = .ok (.getfield 126, 3) := by decide +kernel
theorem d_M_image_175 : decode m_M_image.2.1 175 = .ok (.iastore, 1) := by decide +kernel
theorem d_M_image_176 : decode m_M_image.2.1 176 = .ok (.aload_n 0, 1) := by decide +kernel
theorem d_M_image_177 : decode m_M_image.2.1 177 = .ok (.getfield 45, 3) := by decide +kernel
theorem d_M_image_180 : decode m_M_image.2.1 180 = .ok (.iload_n 1, 1) := by decide +kernel
theorem d_M_image_181 : decode m_M_image.2.1 181 = .ok (.iconst 1, 1) := by decide +kernel
theorem d_M_image_182 : decode m_M_image.2.1 182 = .ok (.bastore, 1) := by decide +kernel
theorem d_M_image_183 : decode m_M_image.2.1 183 = .ok (.iconst 1, 1) := by decide +kernel
theorem d_M_image_184 : decode m_M_image.2.1 184 = .ok (.ireturn, 1) := by decide +kernel
theorem d_M_restore_0 : decode m_M_restore.2.1 0 = .ok (.iload_n 1, 1) := by decide +kernel
theorem d_M_restore_1 : decode m_M_restore.2.1 1 = .ok (.iconst 0, 1) := by decide +kernel
theorem d_M_restore_2 : decode m_M_restore.2.1 2 = .ok (.iconst 1, 1) := by decide +kernel
theorem d_M_restore_3 : decode m_M_restore.2.1 3 = .ok (.invokestatic 52, 3) := by decide +kernel
theorem d_M_restore_6 : decode m_M_restore.2.1 6 = .ok (.ifCond .ne 6, 3) := by decide +kernel
theorem d_M_restore_9 : decode m_M_restore.2.1 9 = .ok (.bipush (-2), 2) := by decide +kernel
theorem d_M_restore_11 : decode m_M_restore.2.1 11 = .ok (.ireturn, 1) := by decide +kernel
theorem d_M_restore_12 : decode m_M_restore.2.1 12 = .ok (.aload_n 0, 1) := by decide +kernel
theorem d_M_restore_13 : decode m_M_restore.2.1 13 = .ok (.getfield 45, 3) := by decide +kernel
theorem d_M_restore_16 : decode m_M_restore.2.1 16 = .ok (.iload_n 1, 1) := by decide +kernel
theorem d_M_restore_17 : decode m_M_restore.2.1 17 = .ok (.baload, 1) := by decide +kernel
theorem d_M_restore_18 : decode m_M_restore.2.1 18 = .ok (.ifCond .ne 6, 3) := by decide +kernel
theorem d_M_restore_21 : decode m_M_restore.2.1 21 = .ok (.bipush (-3), 2) := by decide +kernel
theorem d_M_restore_23 : decode m_M_restore.2.1 23 = .ok (.ireturn, 1) := by decide +kernel
theorem d_M_restore_24 : decode m_M_restore.2.1 24 = .ok (.bipush 80, 2) := by decide +kernel
theorem d_M_restore_26 : decode m_M_restore.2.1 26 = .ok (.iload_n 1, 1) := by decide +kernel
theorem d_M_restore_27 : decode m_M_restore.2.1 27 = .ok (.imul, 1) := by decide +kernel
theorem d_M_restore_28 : decode m_M_restore.2.1 28 = .ok (.istore_n 2, 1) := by decide +kernel
theorem d_M_restore_29 : decode m_M_restore.2.1 29 = .ok (.iconst 0, 1) := by decide +kernel
theorem d_M_restore_30 : decode m_M_restore.2.1 30 = .ok (.istore_n 3, 1) := by decide +kernel
theorem d_M_restore_31 : decode m_M_restore.2.1 31 = .ok (.iload_n 3, 1) := by decide +kernel
theorem d_M_restore_32 : decode m_M_restore.2.1 32 = .ok (.bipush 16, 2) := by decide +kernel
theorem d_M_restore_34 : decode m_M_restore.2.1 34 = .ok (.if_icmp .ge 40, 3) := by decide +kernel
theorem d_M_restore_37 : decode m_M_restore.2.1 37 = .ok (.aload_n 0, 1) := by decide +kernel
theorem d_M_restore_38 : decode m_M_restore.2.1 38 = .ok (.getfield 7, 3) := by decide +kernel
theorem d_M_restore_41 : decode m_M_restore.2.1 41 = .ok (.iload_n 3, 1) := by decide +kernel
theorem d_M_restore_42 : decode m_M_restore.2.1 42 = .ok (.aload_n 0, 1) := by decide +kernel
theorem d_M_restore_43 : decode m_M_restore.2.1 43 = .ok (.getfield 42, 3) := by decide +kernel
theorem d_M_restore_46 : decode m_M_restore.2.1 46 = .ok (.iload_n 2, 1) := by decide +kernel
theorem d_M_restore_47 : decode m_M_restore.2.1 47 = .ok (.iload_n 3, 1) := by decide +kernel
theorem d_M_restore_48 : decode m_M_restore.2.1 48 = .ok (.iadd, 1) := by decide +kernel
theorem d_M_restore_49 : decode m_M_restore.2.1 49 = .ok (.iaload, 1) := by decide +kernel
theorem d_M_restore_50 : decode m_M_restore.2.1 50 = .ok (.iastore, 1) := by decide +kernel
theorem d_M_restore_51 : decode m_M_restore.2.1 51 = .ok (.aload_n 0, 1) := by decide +kernel
theorem d_M_restore_52 : decode m_M_restore.2.1 52 = .ok (.getfield 26, 3) := by decide +kernel
theorem d_M_restore_55 : decode m_M_restore.2.1 55 = .ok (.iload_n 3, 1) := by decide +kernel
theorem d_M_restore_56 : decode m_M_restore.2.1 56 = .ok (.aload_n 0, 1) := by decide +kernel
theorem d_M_restore_57 : decode m_M_restore.2.1 57 = .ok (.getfield 42, 3) := by decide +kernel
theorem d_M_restore_60 : decode m_M_restore.2.1 60 = .ok (.iload_n 2, 1) := by decide +kernel
theorem d_M_restore_61 : decode m_M_restore.2.1 61 = .ok (.bipush 16, 2) := by decide +kernel
theorem d_M_restore_63 : decode m_M_restore.2.1 63 = .ok (.iadd, 1) := by decide +kernel
theorem d_M_restore_64 : decode m_M_restore.2.1 64 = .ok (.iload_n 3, 1) := by decide +kernel
theorem d_M_restore_65 : decode m_M_restore.2.1 65 = .ok (.iadd, 1) := by decide +kernel
theorem d_M_restore_66 : decode m_M_restore.2.1 66 = .ok (.iaload, 1) := by decide +kernel
theorem d_M_restore_67 : decode m_M_restore.2.1 67 = .ok (.iastore, 1) := by decide +kernel
theorem d_M_restore_68 : decode m_M_restore.2.1 68 = .ok (.iinc 3 1, 3) := by decide +kernel
theorem d_M_restore_71 : decode m_M_restore.2.1 71 = .ok (.goto (-40), 3) := by decide +kernel
theorem d_M_restore_74 : decode m_M_restore.2.1 74 = .ok (.iconst 0, 1) := by decide +kernel
theorem d_M_restore_75 : decode m_M_restore.2.1 75 = .ok (.istore_n 3, 1) := by decide +kernel
theorem d_M_restore_76 : decode m_M_restore.2.1 76 = .ok (.iload_n 3, 1) := by decide +kernel
theorem d_M_restore_77 : decode m_M_restore.2.1 77 = .ok (.bipush 24, 2) := by decide +kernel
theorem d_M_restore_79 : decode m_M_restore.2.1 79 = .ok (.if_icmp .ge 26, 3) := by decide +kernel
theorem d_M_restore_82 : decode m_M_restore.2.1 82 = .ok (.aload_n 0, 1) := by decide +kernel
theorem d_M_restore_83 : decode m_M_restore.2.1 83 = .ok (.getfield 23, 3) := by decide +kernel
theorem d_M_restore_86 : decode m_M_restore.2.1 86 = .ok (.iload_n 3, 1) := by decide +kernel
theorem d_M_restore_87 : decode m_M_restore.2.1 87 = .ok (.aload_n 0, 1) := by decide +kernel
theorem d_M_restore_88 : decode m_M_restore.2.1 88 = .ok (.getfield 42, 3) := by decide +kernel
theorem d_M_restore_91 : decode m_M_restore.2.1 91 = .ok (.iload_n 2, 1) := by decide +kernel
theorem d_M_restore_92 : decode m_M_restore.2.1 92 = .ok (.bipush 32, 2) := by decide +kernel
theorem d_M_restore_94 : decode m_M_restore.2.1 94 = .ok (.iadd, 1) := by decide +kernel
theorem d_M_restore_95 : decode m_M_restore.2.1 95 = .ok (.iload_n 3, 1) := by decide +kernel
theorem d_M_restore_96 : decode m_M_restore.2.1 96 = .ok (.iadd, 1) := by decide +kernel
theorem d_M_restore_97 : decode m_M_restore.2.1 97 = .ok (.iaload, 1) := by decide +kernel
theorem d_M_restore_98 : decode m_M_restore.2.1 98 = .ok (.iastore, 1) := by decide +kernel
theorem d_M_restore_99 : decode m_M_restore.2.1 99 = .ok (.iinc 3 1, 3) := by decide +kernel
theorem d_M_restore_102 : decode m_M_restore.2.1 102 = .ok (.goto (-26), 3) := by decide +kernel
theorem d_M_restore_105 : decode m_M_restore.2.1 105 = .ok (.iconst 0, 1) := by decide +kernel
theorem d_M_restore_106 : decode m_M_restore.2.1 106 = .ok (.istore_n 3, 1) := by decide +kernel
theorem d_M_restore_107 : decode m_M_restore.2.1 107 = .ok (.iload_n 3, 1) := by decide +kernel
theorem d_M_restore_108 : decode m_M_restore.2.1 108 = .ok (.bipush 11, 2) := by decide +kernel
theorem d_M_restore_110 : decode m_M_restore.2.1 110 = .ok (.if_icmp .ge 26, 3) := by decide +kernel
theorem d_M_restore_113 : decode m_M_restore.2.1 113 = .ok (.aload_n 0, 1) := by decide +kernel
theorem d_M_restore_114 : decode m_M_restore.2.1 114 = .ok (.getfield 16, 3) := by decide +kernel
theorem d_M_restore_117 : decode m_M_restore.2.1 117 = .ok (.iload_n 3, 1) := by decide +kernel
theorem d_M_restore_118 : decode m_M_restore.2.1 118 = .ok (.aload_n 0, 1) := by decide +kernel
theorem d_M_restore_119 : decode m_M_restore.2.1 119 = .ok (.getfield 42, 3) := by decide +kernel
theorem d_M_restore_122 : decode m_M_restore.2.1 122 = .ok (.iload_n 2, 1) := by decide +kernel
theorem d_M_restore_123 : decode m_M_restore.2.1 123 = .ok (.bipush 56, 2) := by decide +kernel
theorem d_M_restore_125 : decode m_M_restore.2.1 125 = .ok (.iadd, 1) := by decide +kernel
theorem d_M_restore_126 : decode m_M_restore.2.1 126 = .ok (.iload_n 3, 1) := by decide +kernel
theorem d_M_restore_127 : decode m_M_restore.2.1 127 = .ok (.iadd, 1) := by decide +kernel
theorem d_M_restore_128 : decode m_M_restore.2.1 128 = .ok (.iaload, 1) := by decide +kernel
theorem d_M_restore_129 : decode m_M_restore.2.1 129 = .ok (.iastore, 1) := by decide +kernel
theorem d_M_restore_130 : decode m_M_restore.2.1 130 = .ok (.iinc 3 1, 3) := by decide +kernel
theorem d_M_restore_133 : decode m_M_restore.2.1 133 = .ok (.goto (-26), 3) := by decide +kernel
theorem d_M_restore_136 : decode m_M_restore.2.1 136 = .ok (.aload_n 0, 1) := by decide +kernel
theorem d_M_restore_137 : decode m_M_restore.2.1 137 = .ok (.aload_n 0, 1) := by decide +kernel
theorem d_M_restore_138 : decode m_M_restore.2.1 138 = .ok (.getfield 42, 3) := by decide +kernel
theorem d_M_restore_141 : decode m_M_restore.2.1 141 = .ok (.iload_n 2, 1) := by decide +kernel
theorem d_M_restore_142 : decode m_M_restore.2.1 142 = .ok (.bipush 70, 2) := by decide +kernel
theorem d_M_restore_144 : decode m_M_restore.2.1 144 = .ok (.iadd, 1) := by decide +kernel
theorem d_M_restore_145 : decode m_M_restore.2.1 145 = .ok (.iaload, 1) := by decide +kernel
theorem d_M_restore_146 : decode m_M_restore.2.1 146 = .ok (.putfield 49, 3) := by decide +kernel
theorem d_M_restore_149 : decode m_M_restore.2.1 149 = .ok (.aload_n 0, 1) := by decide +kernel
theorem d_M_restore_150 : decode m_M_restore.2.1 150 = .ok (.aload_n 0, 1) := by decide +kernel
theorem d_M_restore_151 : decode m_M_restore.2.1 151 = .ok (.getfield 42, 3) := by decide +kernel
theorem d_M_restore_154 : decode m_M_restore.2.1 154 = .ok (.iload_n 2, 1) := by decide +kernel
theorem d_M_restore_155 : decode m_M_restore.2.1 155 = .ok (.bipush 71, 2) := by decide +kernel
theorem d_M_restore_157 : decode m_M_restore.2.1 157 = .ok (.iadd, 1) := by decide +kernel
theorem d_M_restore_158 : decode m_M_restore.2.1 158 = .ok (.iaload, 1) := by decide +kernel
theorem d_M_restore_159 : decode m_M_restore.2.1 159 = .ok (.putfield 19, 3) := by decide +kernel
theorem d_M_restore_162 : decode m_M_restore.2.1 162 = .ok (.aload_n 0, 1) := by decide +kernel
theorem d_M_restore_163 : decode m_M_restore.2.1 163 = .ok (.aload_n 0, 1) := by decide +kernel
theorem d_M_restore_164 : decode m_M_restore.2.1 164 = .ok (.getfield 42, 3) := by decide +kernel
theorem d_M_restore_167 : decode m_M_restore.2.1 167 = .ok (.iload_n 2, 1) := by decide +kernel
theorem d_M_restore_168 : decode m_M_restore.2.1 168 = .ok (.bipush 72, 2) := by decide +kernel
theorem d_M_restore_170 : decode m_M_restore.2.1 170 = .ok (.iadd, 1) := by decide +kernel
theorem d_M_restore_171 : decode m_M_restore.2.1 171 = .ok (.iaload, 1) := by decide +kernel
theorem d_M_restore_172 : decode m_M_restore.2.1 172 = .ok (.putfield 60, 3) := by decide +kernel
theorem d_M_restore_175 : decode m_M_restore.2.1 175 = .ok (.aload_n 0, 1) := by decide +kernel
theorem d_M_restore_176 : decode m_M_restore.2.1 176 = .ok (.aload_n 0, 1) := by decide +kernel
theorem d_M_restore_177 : decode m_M_restore.2.1 177 = .ok (.getfield 42, 3) := by decide +kernel
theorem d_M_restore_180 : decode m_M_restore.2.1 180 = .ok (.iload_n 2, 1) := by decide +kernel
theorem d_M_restore_181 : decode m_M_restore.2.1 181 = .ok (.bipush 73, 2) := by decide +kernel
theorem d_M_restore_183 : decode m_M_restore.2.1 183 = .ok (.iadd, 1) := by decide +kernel
theorem d_M_restore_184 : decode m_M_restore.2.1 184 = .ok (.iaload, 1) := by decide +kernel
theorem d_M_restore_185 : decode m_M_restore.2.1 185 = .ok (.putfield 126, 3) := by decide +kernel
theorem d_M_restore_188 : decode m_M_restore.2.1 188 = .ok (.iconst 1, 1) := by decide +kernel
theorem d_M_restore_189 : decode m_M_restore.2.1 189 = .ok (.ireturn, 1) := by decide +kernel
theorem d_M_told_0 : decode m_M_told.2.1 0 = .ok (.iload_n 1, 1) := by decide +kernel
theorem d_M_told_1 : decode m_M_told.2.1 1 = .ok (.bipush 100, 2) := by decide +kernel
theorem d_M_told_3 : decode m_M_told.2.1 3 = .ok (.if_icmp .lt 43, 3) := by decide +kernel
theorem d_M_told_6 : decode m_M_told.2.1 6 = .ok (.iload_n 1, 1) := by decide +kernel
theorem d_M_told_7 : decode m_M_told.2.1 7 = .ok (.sipush 160, 3) := by decide +kernel
theorem d_M_told_10 : decode m_M_told.2.1 10 = .ok (.if_icmp .ge 33, 3) := by decide +kernel
theorem d_M_told_13 : decode m_M_told.2.1 13 = .ok (.iload_n 1, 1) := by decide +kernel
theorem d_M_told_14 : decode m_M_told.2.1 14 = .ok (.bipush 10, 2) := by decide +kernel
theorem d_M_told_16 : decode m_M_told.2.1 16 = .ok (.irem, 1) := by decide +kernel
theorem d_M_told_17 : decode m_M_told.2.1 17 = .ok (.iconst 4, 1) := by decide +kernel
theorem d_M_told_18 : decode m_M_told.2.1 18 = .ok (.if_icmp .ge 25, 3) := by decide +kernel
theorem d_M_told_21 : decode m_M_told.2.1 21 = .ok (.aload_n 0, 1) := by decide +kernel
theorem d_M_told_22 : decode m_M_told.2.1 22 = .ok (.getfield 23, 3) := by decide +kernel
theorem d_M_told_25 : decode m_M_told.2.1 25 = .ok (.iconst 4, 1) := by decide +kernel
theorem d_M_told_26 : decode m_M_told.2.1 26 = .ok (.iload_n 1, 1) := by decide +kernel
theorem d_M_told_27 : decode m_M_told.2.1 27 = .ok (.bipush 10, 2) := by decide +kernel
theorem d_M_told_29 : decode m_M_told.2.1 29 = .ok (.idiv, 1) := by decide +kernel
theorem d_M_told_30 : decode m_M_told.2.1 30 = .ok (.bipush 10, 2) := by decide +kernel
theorem d_M_told_32 : decode m_M_told.2.1 32 = .ok (.isub, 1) := by decide +kernel
theorem d_M_told_33 : decode m_M_told.2.1 33 = .ok (.imul, 1) := by decide +kernel
theorem d_M_told_34 : decode m_M_told.2.1 34 = .ok (.iload_n 1, 1) := by decide +kernel
theorem d_M_told_35 : decode m_M_told.2.1 35 = .ok (.bipush 10, 2) := by decide +kernel
theorem d_M_told_37 : decode m_M_told.2.1 37 = .ok (.irem, 1) := by decide +kernel
theorem d_M_told_38 : decode m_M_told.2.1 38 = .ok (.iadd, 1) := by decide +kernel
theorem d_M_told_39 : decode m_M_told.2.1 39 = .ok (.iaload, 1) := by decide +kernel
theorem d_M_told_40 : decode m_M_told.2.1 40 = .ok (.goto 5, 3) := by decide +kernel
theorem d_M_told_43 : decode m_M_told.2.1 43 = .ok (.bipush (-2), 2) := by decide +kernel
theorem d_M_told_45 : decode m_M_told.2.1 45 = .ok (.ireturn, 1) := by decide +kernel
theorem d_M_told_46 : decode m_M_told.2.1 46 = .ok (.iload_n 1, 1) := by decide +kernel
theorem d_M_told_47 : decode m_M_told.2.1 47 = .ok (.bipush 40, 2) := by decide +kernel
theorem d_M_told_49 : decode m_M_told.2.1 49 = .ok (.if_icmp .lt 29, 3) := by decide +kernel
theorem d_M_told_52 : decode m_M_told.2.1 52 = .ok (.iload_n 1, 1) := by decide +kernel
theorem d_M_told_53 : decode m_M_told.2.1 53 = .ok (.bipush 40, 2) := by decide +kernel
theorem d_M_told_55 : decode m_M_told.2.1 55 = .ok (.bipush 50, 2) := by decide +kernel
theorem d_M_told_57 : decode m_M_told.2.1 57 = .ok (.invokestatic 52, 3) := by decide +kernel
theorem d_M_told_60 : decode m_M_told.2.1 60 = .ok (.ifCond .eq 15, 3) := by decide +kernel
theorem d_M_told_63 : decode m_M_told.2.1 63 = .ok (.aload_n 0, 1) := by decide +kernel
theorem d_M_told_64 : decode m_M_told.2.1 64 = .ok (.getfield 16, 3) := by decide +kernel
theorem d_M_told_67 : decode m_M_told.2.1 67 = .ok (.iload_n 1, 1) := by decide +kernel
theorem d_M_told_68 : decode m_M_told.2.1 68 = .ok (.bipush 40, 2) := by decide +kernel
theorem d_M_told_70 : decode m_M_told.2.1 70 = .ok (.isub, 1) := by decide +kernel
theorem d_M_told_71 : decode m_M_told.2.1 71 = .ok (.iaload, 1) := by decide +kernel
theorem d_M_told_72 : decode m_M_told.2.1 72 = .ok (.goto 5, 3) := by decide +kernel
theorem d_M_told_75 : decode m_M_told.2.1 75 = .ok (.bipush (-2), 2) := by decide +kernel
theorem d_M_told_77 : decode m_M_told.2.1 77 = .ok (.ireturn, 1) := by decide +kernel
theorem d_M_told_78 : decode m_M_told.2.1 78 = .ok (.iload_n 1, 1) := by decide +kernel
theorem d_M_told_79 : decode m_M_told.2.1 79 = .ok (.bipush 20, 2) := by decide +kernel
theorem d_M_told_81 : decode m_M_told.2.1 81 = .ok (.if_icmp .lt 28, 3) := by decide +kernel
theorem d_M_told_84 : decode m_M_told.2.1 84 = .ok (.iload_n 1, 1) := by decide +kernel
theorem d_M_told_85 : decode m_M_told.2.1 85 = .ok (.bipush 20, 2) := by decide +kernel
theorem d_M_told_87 : decode m_M_told.2.1 87 = .ok (.isub, 1) := by decide +kernel
theorem d_M_told_88 : decode m_M_told.2.1 88 = .ok (.invokestatic 56, 3) := by decide +kernel
theorem d_M_told_91 : decode m_M_told.2.1 91 = .ok (.ifCond .eq 15, 3) := by decide +kernel
theorem d_M_told_94 : decode m_M_told.2.1 94 = .ok (.aload_n 0, 1) := by decide +kernel
theorem d_M_told_95 : decode m_M_told.2.1 95 = .ok (.getfield 7, 3) := by decide +kernel
theorem d_M_told_98 : decode m_M_told.2.1 98 = .ok (.iload_n 1, 1) := by decide +kernel
theorem d_M_told_99 : decode m_M_told.2.1 99 = .ok (.bipush 20, 2) := by decide +kernel
theorem d_M_told_101 : decode m_M_told.2.1 101 = .ok (.isub, 1) := by decide +kernel
theorem d_M_told_102 : decode m_M_told.2.1 102 = .ok (.iaload, 1) := by decide +kernel
theorem d_M_told_103 : decode m_M_told.2.1 103 = .ok (.goto 5, 3) := by decide +kernel
theorem d_M_told_106 : decode m_M_told.2.1 106 = .ok (.bipush (-2), 2) := by decide +kernel
theorem d_M_told_108 : decode m_M_told.2.1 108 = .ok (.ireturn, 1) := by decide +kernel
theorem d_M_told_109 : decode m_M_told.2.1 109 = .ok (.iload_n 1, 1) := by decide +kernel
theorem d_M_told_110 : decode m_M_told.2.1 110 = .ok (.tableswitch 98 0 7 #[46, 51, 59, 67, 75, 80, 88, 93], 46) := by decide +kernel
theorem d_M_told_156 : decode m_M_told.2.1 156 = .ok (.aload_n 0, 1) := by decide +kernel
theorem d_M_told_157 : decode m_M_told.2.1 157 = .ok (.getfield 63, 3) := by decide +kernel
theorem d_M_told_160 : decode m_M_told.2.1 160 = .ok (.ireturn, 1) := by decide +kernel
theorem d_M_told_161 : decode m_M_told.2.1 161 = .ok (.aload_n 0, 1) := by decide +kernel
theorem d_M_told_162 : decode m_M_told.2.1 162 = .ok (.getfield 7, 3) := by decide +kernel
theorem d_M_told_165 : decode m_M_told.2.1 165 = .ok (.bipush 12, 2) := by decide +kernel
theorem d_M_told_167 : decode m_M_told.2.1 167 = .ok (.iaload, 1) := by decide +kernel
theorem d_M_told_168 : decode m_M_told.2.1 168 = .ok (.ireturn, 1) := by decide +kernel
theorem d_M_told_169 : decode m_M_told.2.1 169 = .ok (.aload_n 0, 1) := by decide +kernel
theorem d_M_told_170 : decode m_M_told.2.1 170 = .ok (.getfield 7, 3) := by decide +kernel
theorem d_M_told_173 : decode m_M_told.2.1 173 = .ok (.bipush 13, 2) := by decide +kernel
theorem d_M_told_175 : decode m_M_told.2.1 175 = .ok (.iaload, 1) := by decide +kernel
theorem d_M_told_176 : decode m_M_told.2.1 176 = .ok (.ireturn, 1) := by decide +kernel
theorem d_M_told_177 : decode m_M_told.2.1 177 = .ok (.aload_n 0, 1) := by decide +kernel
theorem d_M_told_178 : decode m_M_told.2.1 178 = .ok (.getfield 7, 3) := by decide +kernel
theorem d_M_told_181 : decode m_M_told.2.1 181 = .ok (.bipush 14, 2) := by decide +kernel
theorem d_M_told_183 : decode m_M_told.2.1 183 = .ok (.iaload, 1) := by decide +kernel
theorem d_M_told_184 : decode m_M_told.2.1 184 = .ok (.ireturn, 1) := by decide +kernel
theorem d_M_told_185 : decode m_M_told.2.1 185 = .ok (.aload_n 0, 1) := by decide +kernel
theorem d_M_told_186 : decode m_M_told.2.1 186 = .ok (.getfield 49, 3) := by decide +kernel
theorem d_M_told_189 : decode m_M_told.2.1 189 = .ok (.ireturn, 1) := by decide +kernel
theorem d_M_told_190 : decode m_M_told.2.1 190 = .ok (.aload_n 0, 1) := by decide +kernel
theorem d_M_told_191 : decode m_M_told.2.1 191 = .ok (.getfield 7, 3) := by decide +kernel
theorem d_M_told_194 : decode m_M_told.2.1 194 = .ok (.bipush 15, 2) := by decide +kernel
theorem d_M_told_196 : decode m_M_told.2.1 196 = .ok (.iaload, 1) := by decide +kernel
theorem d_M_told_197 : decode m_M_told.2.1 197 = .ok (.ireturn, 1) := by decide +kernel
theorem d_M_told_198 : decode m_M_told.2.1 198 = .ok (.aload_n 0, 1) := by decide +kernel
theorem d_M_told_199 : decode m_M_told.2.1 199 = .ok (.getfield 126, 3) := by decide +kernel
theorem d_M_told_202 : decode m_M_told.2.1 202 = .ok (.ireturn, 1) := by decide +kernel
theorem d_M_told_203 : decode m_M_told.2.1 203 = .ok (.aload_n 0, 1) := by decide +kernel
theorem d_M_told_204 : decode m_M_told.2.1 204 = .ok (.getfield 19, 3) := by decide +kernel
theorem d_M_told_207 : decode m_M_told.2.1 207 = .ok (.ireturn, 1) := by decide +kernel
theorem d_M_told_208 : decode m_M_told.2.1 208 = .ok (.iload_n 1, 1) := by decide +kernel
theorem d_M_told_209 : decode m_M_told.2.1 209 = .ok (.bipush 8, 2) := by decide +kernel
theorem d_M_told_211 : decode m_M_told.2.1 211 = .ok (.if_icmp .ne 12, 3) := by decide +kernel
theorem d_M_told_214 : decode m_M_told.2.1 214 = .ok (.aload_n 0, 1) := by decide +kernel
theorem d_M_told_215 : decode m_M_told.2.1 215 = .ok (.getfield 60, 3) := by decide +kernel
theorem d_M_told_218 : decode m_M_told.2.1 218 = .ok (.iconst 3, 1) := by decide +kernel
theorem d_M_told_219 : decode m_M_told.2.1 219 = .ok (.iadd, 1) := by decide +kernel
theorem d_M_told_220 : decode m_M_told.2.1 220 = .ok (.goto 5, 3) := by decide +kernel
theorem d_M_told_223 : decode m_M_told.2.1 223 = .ok (.bipush (-2), 2) := by decide +kernel
theorem d_M_told_225 : decode m_M_told.2.1 225 = .ok (.ireturn, 1) := by decide +kernel
