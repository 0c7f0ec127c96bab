theorem d_V_init_0 : decode m_V_init.2.1 0 = .ok (.aload_n 0, 1) := by decide +kernel
theorem d_V_init_1 : decode m_V_init.2.1 1 = .ok (.invokespecial 1, 3) := by decide +kernel
theorem d_V_init_4 : decode m_V_init.2.1 4 = .ok (.aload_n 0, 1) := by decide +kernel
theorem d_V_init_5 : decode m_V_init.2.1 5 = .ok (.new 7, 3) := by decide +kernel
theorem d_V_init_8 : decode m_V_init.2.1 8 = .ok (.dup, 1) := by decide +kernel
theorem d_V_init_9 : decode m_V_init.2.1 9 = .ok (.invokespecial 9, 3) := by decide +kernel
theorem d_V_init_12 : decode m_V_init.2.1 12 = .ok (.putfield 10, 3) := by decide +kernel
theorem d_V_init_15 : decode m_V_init.2.1 15 = .ok (.aload_n 0, 1) := by decide +kernel
theorem d_V_init_16 : decode m_V_init.2.1 16 = .ok (.new 7, 3) := by decide +kernel
theorem d_V_init_19 : decode m_V_init.2.1 19 = .ok (.dup, 1) := by decide +kernel
theorem d_V_init_20 : decode m_V_init.2.1 20 = .ok (.invokespecial 9, 3) := by decide +kernel
theorem d_V_init_23 : decode m_V_init.2.1 23 = .ok (.putfield 16, 3) := by decide +kernel
theorem d_V_init_26 : decode m_V_init.2.1 26 = .ok (.aload_n 0, 1) := by decide +kernel
theorem d_V_init_27 : decode m_V_init.2.1 27 = .ok (.new 7, 3) := by decide +kernel
theorem d_V_init_30 : decode m_V_init.2.1 30 = .ok (.dup, 1) := by decide +kernel
theorem d_V_init_31 : decode m_V_init.2.1 31 = .ok (.invokespecial 9, 3) := by decide +kernel
theorem d_V_init_34 : decode m_V_init.2.1 34 = .ok (.putfield 19, 3) := by decide +kernel
theorem d_V_init_37 : decode m_V_init.2.1 37 = .ok (.aload_n 0, 1) := by decide +kernel
theorem d_V_init_38 : decode m_V_init.2.1 38 = .ok (.new 7, 3) := by decide +kernel
theorem d_V_init_41 : decode m_V_init.2.1 41 = .ok (.dup, 1) := by decide +kernel
theorem d_V_init_42 : decode m_V_init.2.1 42 = .ok (.invokespecial 9, 3) := by decide +kernel
theorem d_V_init_45 : decode m_V_init.2.1 45 = .ok (.putfield 22, 3) := by decide +kernel
theorem d_V_init_48 : decode m_V_init.2.1 48 = .ok (.aload_n 0, 1) := by decide +kernel
theorem d_V_init_49 : decode m_V_init.2.1 49 = .ok (.new 25, 3) := by decide +kernel
theorem d_V_init_52 : decode m_V_init.2.1 52 = .ok (.dup, 1) := by decide +kernel
theorem d_V_init_53 : decode m_V_init.2.1 53 = .ok (.invokespecial 27, 3) := by decide +kernel
theorem d_V_init_56 : decode m_V_init.2.1 56 = .ok (.putfield 28, 3) := by decide +kernel
theorem d_V_init_59 : decode m_V_init.2.1 59 = .ok (.aload_n 0, 1) := by decide +kernel
theorem d_V_init_60 : decode m_V_init.2.1 60 = .ok (.new 32, 3) := by decide +kernel
theorem d_V_init_63 : decode m_V_init.2.1 63 = .ok (.dup, 1) := by decide +kernel
theorem d_V_init_64 : decode m_V_init.2.1 64 = .ok (.invokespecial 34, 3) := by decide +kernel
theorem d_V_init_67 : decode m_V_init.2.1 67 = .ok (.putfield 35, 3) := by decide +kernel
theorem d_V_init_70 : decode m_V_init.2.1 70 = .ok (.aload_n 0, 1) := by decide +kernel
theorem d_V_init_71 : decode m_V_init.2.1 71 = .ok (.new 39, 3) := by decide +kernel
theorem d_V_init_74 : decode m_V_init.2.1 74 = .ok (.dup, 1) := by decide +kernel
theorem d_V_init_75 : decode m_V_init.2.1 75 = .ok (.invokespecial 41, 3) := by decide +kernel
theorem d_V_init_78 : decode m_V_init.2.1 78 = .ok (.putfield 42, 3) := by decide +kernel
theorem d_V_init_81 : decode m_V_init.2.1 81 = .ok (.aload_n 0, 1) := by decide +kernel
theorem d_V_init_82 : decode m_V_init.2.1 82 = .ok (.iconst 0, 1) := by decide +kernel
theorem d_V_init_83 : decode m_V_init.2.1 83 = .ok (.putfield 46, 3) := by decide +kernel
theorem d_V_init_86 : decode m_V_init.2.1 86 = .ok (.return_, 1) := by decide +kernel
theorem d_V_house_0 : decode m_V_house.2.1 0 = .ok (.iload_n 1, 1) := by decide +kernel
theorem d_V_house_1 : decode m_V_house.2.1 1 = .ok (.iconst 0, 1) := by decide +kernel
theorem d_V_house_2 : decode m_V_house.2.1 2 = .ok (.bipush 11, 2) := by decide +kernel
theorem d_V_house_4 : decode m_V_house.2.1 4 = .ok (.invokestatic 50, 3) := by decide +kernel
theorem d_V_house_7 : decode m_V_house.2.1 7 = .ok (.ifCond .ne 5, 3) := by decide +kernel
theorem d_V_house_10 : decode m_V_house.2.1 10 = .ok (.iconst (-1), 1) := by decide +kernel
theorem d_V_house_11 : decode m_V_house.2.1 11 = .ok (.ireturn, 1) := by decide +kernel
theorem d_V_house_12 : decode m_V_house.2.1 12 = .ok (.iload 4, 2) := by decide +kernel
theorem d_V_house_14 : decode m_V_house.2.1 14 = .ok (.iconst 0, 1) := by decide +kernel
theorem d_V_house_15 : decode m_V_house.2.1 15 = .ok (.sipush 255, 3) := by decide +kernel
theorem d_V_house_18 : decode m_V_house.2.1 18 = .ok (.invokestatic 50, 3) := by decide +kernel
theorem d_V_house_21 : decode m_V_house.2.1 21 = .ok (.ifCond .ne 6, 3) := by decide +kernel
theorem d_V_house_24 : decode m_V_house.2.1 24 = .ok (.bipush (-2), 2) := by decide +kernel
theorem d_V_house_26 : decode m_V_house.2.1 26 = .ok (.ireturn, 1) := by decide +kernel
theorem d_V_house_27 : decode m_V_house.2.1 27 = .ok (.aload_n 0, 1) := by decide +kernel
theorem d_V_house_28 : decode m_V_house.2.1 28 = .ok (.getfield 10, 3) := by decide +kernel
theorem d_V_house_31 : decode m_V_house.2.1 31 = .ok (.getfield 54, 3) := by decide +kernel
theorem d_V_house_34 : decode m_V_house.2.1 34 = .ok (.iload_n 1, 1) := by decide +kernel
theorem d_V_house_35 : decode m_V_house.2.1 35 = .ok (.iaload, 1) := by decide +kernel
theorem d_V_house_36 : decode m_V_house.2.1 36 = .ok (.istore 5, 2) := by decide +kernel
theorem d_V_house_38 : decode m_V_house.2.1 38 = .ok (.aload_n 0, 1) := by decide +kernel
theorem d_V_house_39 : decode m_V_house.2.1 39 = .ok (.getfield 10, 3) := by decide +kernel
theorem d_V_house_42 : decode m_V_house.2.1 42 = .ok (.aload_n 0, 1) := by decide +kernel
theorem d_V_house_43 : decode m_V_house.2.1 43 = .ok (.getfield 10, 3) := by decide +kernel
theorem d_V_house_46 : decode m_V_house.2.1 46 = .ok (.getfield 58, 3) := by decide +kernel
theorem d_V_house_49 : decode m_V_house.2.1 49 = .ok (.iload_n 1, 1) := by decide +kernel
theorem d_V_house_50 : decode m_V_house.2.1 50 = .ok (.iload_n 2, 1) := by decide +kernel
theorem d_V_house_51 : decode m_V_house.2.1 51 = .ok (.invokestatic 61, 3) := by decide +kernel
theorem d_V_house_54 : decode m_V_house.2.1 54 = .ok (.putfield 58, 3) := by decide +kernel
theorem d_V_house_57 : decode m_V_house.2.1 57 = .ok (.aload_n 0, 1) := by decide +kernel
theorem d_V_house_58 : decode m_V_house.2.1 58 = .ok (.getfield 10, 3) := by decide +kernel
theorem d_V_house_61 : decode m_V_house.2.1 61 = .ok (.aload_n 0, 1) := by decide +kernel
theorem d_V_house_62 : decode m_V_house.2.1 62 = .ok (.getfield 10, 3) := by decide +kernel
theorem d_V_house_65 : decode m_V_house.2.1 65 = .ok (.getfield 65, 3) := by decide +kernel
theorem d_V_house_68 : decode m_V_house.2.1 68 = .ok (.iload_n 1, 1) := by decide +kernel
theorem d_V_house_69 : decode m_V_house.2.1 69 = .ok (.iload_n 3, 1) := by decide +kernel
theorem d_V_house_70 : decode m_V_house.2.1 70 = .ok (.invokestatic 61, 3) := by decide +kernel
theorem d_V_house_73 : decode m_V_house.2.1 73 = .ok (.putfield 65, 3) := by decide +kernel
theorem d_V_house_76 : decode m_V_house.2.1 76 = .ok (.aload_n 0, 1) := by decide +kernel
theorem d_V_house_77 : decode m_V_house.2.1 77 = .ok (.getfield 10, 3) := by decide +kernel
theorem d_V_house_80 : decode m_V_house.2.1 80 = .ok (.getfield 54, 3) := by decide +kernel
theorem d_V_house_83 : decode m_V_house.2.1 83 = .ok (.iload_n 1, 1) := by decide +kernel
theorem d_V_house_84 : decode m_V_house.2.1 84 = .ok (.iload 4, 2) := by decide +kernel
theorem d_V_house_86 : decode m_V_house.2.1 86 = .ok (.iastore, 1) := by decide +kernel
theorem d_V_house_87 : decode m_V_house.2.1 87 = .ok (.iload 5, 2) := by decide +kernel
theorem d_V_house_89 : decode m_V_house.2.1 89 = .ok (.ireturn, 1) := by decide +kernel
theorem d_V_wall_0 : decode m_V_wall.2.1 0 = .ok (.iload_n 1, 1) := by decide +kernel
theorem d_V_wall_1 : decode m_V_wall.2.1 1 = .ok (.iconst 0, 1) := by decide +kernel
theorem d_V_wall_2 : decode m_V_wall.2.1 2 = .ok (.bipush 10, 2) := by decide +kernel
theorem d_V_wall_4 : decode m_V_wall.2.1 4 = .ok (.invokestatic 50, 3) := by decide +kernel
theorem d_V_wall_7 : decode m_V_wall.2.1 7 = .ok (.ifCond .ne 5, 3) := by decide +kernel
theorem d_V_wall_10 : decode m_V_wall.2.1 10 = .ok (.iconst (-1), 1) := by decide +kernel
theorem d_V_wall_11 : decode m_V_wall.2.1 11 = .ok (.ireturn, 1) := by decide +kernel
theorem d_V_wall_12 : decode m_V_wall.2.1 12 = .ok (.iload_n 2, 1) := by decide +kernel
theorem d_V_wall_13 : decode m_V_wall.2.1 13 = .ok (.iconst 0, 1) := by decide +kernel
theorem d_V_wall_14 : decode m_V_wall.2.1 14 = .ok (.bipush 9, 2) := by decide +kernel
theorem d_V_wall_16 : decode m_V_wall.2.1 16 = .ok (.invokestatic 50, 3) := by decide +kernel
theorem d_V_wall_19 : decode m_V_wall.2.1 19 = .ok (.ifCond .ne 6, 3) := by decide +kernel
theorem d_V_wall_22 : decode m_V_wall.2.1 22 = .ok (.bipush (-2), 2) := by decide +kernel
theorem d_V_wall_24 : decode m_V_wall.2.1 24 = .ok (.ireturn, 1) := by decide +kernel
theorem d_V_wall_25 : decode m_V_wall.2.1 25 = .ok (.aload_n 0, 1) := by decide +kernel
theorem d_V_wall_26 : decode m_V_wall.2.1 26 = .ok (.getfield 10, 3) := by decide +kernel
theorem d_V_wall_29 : decode m_V_wall.2.1 29 = .ok (.getfield 68, 3) := by decide +kernel
theorem d_V_wall_32 : decode m_V_wall.2.1 32 = .ok (.iload_n 1, 1) := by decide +kernel
theorem d_V_wall_33 : decode m_V_wall.2.1 33 = .ok (.iaload, 1) := by decide +kernel
theorem d_V_wall_34 : decode m_V_wall.2.1 34 = .ok (.istore_n 3, 1) := by decide +kernel
theorem d_V_wall_35 : decode m_V_wall.2.1 35 = .ok (.aload_n 0, 1) := by decide +kernel
theorem d_V_wall_36 : decode m_V_wall.2.1 36 = .ok (.getfield 10, 3) := by decide +kernel
theorem d_V_wall_39 : decode m_V_wall.2.1 39 = .ok (.getfield 68, 3) := by decide +kernel
theorem d_V_wall_42 : decode m_V_wall.2.1 42 = .ok (.iload_n 1, 1) := by decide +kernel
theorem d_V_wall_43 : decode m_V_wall.2.1 43 = .ok (.iload_n 2, 1) := by decide +kernel
theorem d_V_wall_44 : decode m_V_wall.2.1 44 = .ok (.iastore, 1) := by decide +kernel
theorem d_V_wall_45 : decode m_V_wall.2.1 45 = .ok (.iload_n 3, 1) := by decide +kernel
theorem d_V_wall_46 : decode m_V_wall.2.1 46 = .ok (.ireturn, 1) := by decide +kernel
theorem d_V_set_0 : decode m_V_set.2.1 0 = .ok (.iload_n 1, 1) := by decide +kernel
theorem d_V_set_1 : decode m_V_set.2.1 1 = .ok (.ifCond .ne 9, 3) := by decide +kernel
theorem d_V_set_4 : decode m_V_set.2.1 4 = .ok (.aload_n 0, 1) := by decide +kernel
theorem d_V_set_5 : decode m_V_set.2.1 5 = .ok (.iload_n 2, 1) := by decide +kernel
theorem d_V_set_6 : decode m_V_set.2.1 6 = .ok (.invokevirtual 71, 3) := by decide +kernel
theorem d_V_set_9 : decode m_V_set.2.1 9 = .ok (.ireturn, 1) := by decide +kernel
theorem d_V_set_10 : decode m_V_set.2.1 10 = .ok (.iload_n 1, 1) := by decide +kernel
theorem d_V_set_11 : decode m_V_set.2.1 11 = .ok (.iconst 1, 1) := by decide +kernel
theorem d_V_set_12 : decode m_V_set.2.1 12 = .ok (.if_icmp .ne 9, 3) := by decide +kernel
theorem d_V_set_15 : decode m_V_set.2.1 15 = .ok (.aload_n 0, 1) := by decide +kernel
theorem d_V_set_16 : decode m_V_set.2.1 16 = .ok (.iload_n 2, 1) := by decide +kernel
theorem d_V_set_17 : decode m_V_set.2.1 17 = .ok (.invokevirtual 75, 3) := by decide +kernel
theorem d_V_set_20 : decode m_V_set.2.1 20 = .ok (.ireturn, 1) := by decide +kernel
theorem d_V_set_21 : decode m_V_set.2.1 21 = .ok (.iload_n 1, 1) := by decide +kernel
theorem d_V_set_22 : decode m_V_set.2.1 22 = .ok (.iconst 2, 1) := by decide +kernel
theorem d_V_set_23 : decode m_V_set.2.1 23 = .ok (.if_icmp .ne 9, 3) := by decide +kernel
theorem d_V_set_26 : decode m_V_set.2.1 26 = .ok (.aload_n 0, 1) := by decide +kernel
theorem d_V_set_27 : decode m_V_set.2.1 27 = .ok (.iload_n 2, 1) := by decide +kernel
theorem d_V_set_28 : decode m_V_set.2.1 28 = .ok (.invokevirtual 78, 3) := by decide +kernel
theorem d_V_set_31 : decode m_V_set.2.1 31 = .ok (.ireturn, 1) := by decide +kernel
theorem d_V_set_32 : decode m_V_set.2.1 32 = .ok (.bipush (-2), 2) := by decide +kernel
theorem d_V_set_34 : decode m_V_set.2.1 34 = .ok (.ireturn, 1) := by decide +kernel
theorem d_V_setVoice_0 : decode m_V_setVoice.2.1 0 = .ok (.iload_n 1, 1) := by decide +kernel
theorem d_V_setVoice_1 : decode m_V_setVoice.2.1 1 = .ok (.iconst 1, 1) := by decide +kernel
theorem d_V_setVoice_2 : decode m_V_setVoice.2.1 2 = .ok (.bipush 40, 2) := by decide +kernel
theorem d_V_setVoice_4 : decode m_V_setVoice.2.1 4 = .ok (.invokestatic 50, 3) := by decide +kernel
theorem d_V_setVoice_7 : decode m_V_setVoice.2.1 7 = .ok (.ifCond .ne 6, 3) := by decide +kernel
theorem d_V_setVoice_10 : decode m_V_setVoice.2.1 10 = .ok (.bipush (-2), 2) := by decide +kernel
theorem d_V_setVoice_12 : decode m_V_setVoice.2.1 12 = .ok (.ireturn, 1) := by decide +kernel
theorem d_V_setVoice_13 : decode m_V_setVoice.2.1 13 = .ok (.aload_n 0, 1) := by decide +kernel
theorem d_V_setVoice_14 : decode m_V_setVoice.2.1 14 = .ok (.getfield 10, 3) := by decide +kernel
theorem d_V_setVoice_17 : decode m_V_setVoice.2.1 17 = .ok (.getfield 81, 3) := by decide +kernel
theorem d_V_setVoice_20 : decode m_V_setVoice.2.1 20 = .ok (.istore_n 2, 1) := by decide +kernel
theorem d_V_setVoice_21 : decode m_V_setVoice.2.1 21 = .ok (.aload_n 0, 1) := by decide +kernel
theorem d_V_setVoice_22 : decode m_V_setVoice.2.1 22 = .ok (.getfield 10, 3) := by decide +kernel
theorem d_V_setVoice_25 : decode m_V_setVoice.2.1 25 = .ok (.iload_n 1, 1) := by decide +kernel
theorem d_V_setVoice_26 : decode m_V_setVoice.2.1 26 = .ok (.putfield 81, 3) := by decide +kernel
theorem d_V_setVoice_29 : decode m_V_setVoice.2.1 29 = .ok (.iload_n 2, 1) := by decide +kernel
theorem d_V_setVoice_30 : decode m_V_setVoice.2.1 30 = .ok (.ireturn, 1) := by decide +kernel
theorem d_V_setWind_0 : decode m_V_setWind.2.1 0 = .ok (.iload_n 1, 1) := by decide +kernel
theorem d_V_setWind_1 : decode m_V_setWind.2.1 1 = .ok (.bipush (-3), 2) := by decide +kernel
theorem d_V_setWind_3 : decode m_V_setWind.2.1 3 = .ok (.iconst 3, 1) := by decide +kernel
theorem d_V_setWind_4 : decode m_V_setWind.2.1 4 = .ok (.invokestatic 50, 3) := by decide +kernel
theorem d_V_setWind_7 : decode m_V_setWind.2.1 7 = .ok (.ifCond .ne 6, 3) := by decide +kernel
theorem d_V_setWind_10 : decode m_V_setWind.2.1 10 = .ok (.bipush (-2), 2) := by decide +kernel
theorem d_V_setWind_12 : decode m_V_setWind.2.1 12 = .ok (.ireturn, 1) := by decide +kernel
theorem d_V_setWind_13 : decode m_V_setWind.2.1 13 = .ok (.aload_n 0, 1) := by decide +kernel
theorem d_V_setWind_14 : decode m_V_setWind.2.1 14 = .ok (.getfield 10, 3) := by decide +kernel
theorem d_V_setWind_17 : decode m_V_setWind.2.1 17 = .ok (.getfield 84, 3) := by decide +kernel
theorem d_V_setWind_20 : decode m_V_setWind.2.1 20 = .ok (.istore_n 2, 1) := by decide +kernel
theorem d_V_setWind_21 : decode m_V_setWind.2.1 21 = .ok (.aload_n 0, 1) := by decide +kernel
theorem d_V_setWind_22 : decode m_V_setWind.2.1 22 = .ok (.getfield 10, 3) := by decide +kernel
theorem d_V_setWind_25 : decode m_V_setWind.2.1 25 = .ok (.iload_n 1, 1) := by decide +kernel
theorem d_V_setWind_26 : decode m_V_setWind.2.1 26 = .ok (.putfield 84, 3) := by decide +kernel
theorem d_V_setWind_29 : decode m_V_setWind.2.1 29 = .ok (.iload_n 2, 1) := by decide +kernel
theorem d_V_setWind_30 : decode m_V_setWind.2.1 30 = .ok (.iconst 3, 1) := by decide +kernel
theorem d_V_setWind_31 : decode m_V_setWind.2.1 31 = .ok (.iadd, 1) := by decide +kernel
theorem d_V_setWind_32 : decode m_V_setWind.2.1 32 = .ok (.ireturn, 1) := by decide +kernel
theorem d_V_setPlace_0 : decode m_V_setPlace.2.1 0 = .ok (.iload_n 1, 1) := by decide +kernel
theorem d_V_setPlace_1 : decode m_V_setPlace.2.1 1 = .ok (.iconst 0, 1) := by decide +kernel
theorem d_V_setPlace_2 : decode m_V_setPlace.2.1 2 = .ok (.bipush 11, 2) := by decide +kernel
theorem d_V_setPlace_4 : decode m_V_setPlace.2.1 4 = .ok (.invokestatic 50, 3) := by decide +kernel
theorem d_V_setPlace_7 : decode m_V_setPlace.2.1 7 = .ok (.ifCond .ne 6, 3) := by decide +kernel
theorem d_V_setPlace_10 : decode m_V_setPlace.2.1 10 = .ok (.bipush (-2), 2) := by decide +kernel
theorem d_V_setPlace_12 : decode m_V_setPlace.2.1 12 = .ok (.ireturn, 1) := by decide +kernel
theorem d_V_setPlace_13 : decode m_V_setPlace.2.1 13 = .ok (.aload_n 0, 1) := by decide +kernel
theorem d_V_setPlace_14 : decode m_V_setPlace.2.1 14 = .ok (.getfield 10, 3) := by decide +kernel
theorem d_V_setPlace_17 : decode m_V_setPlace.2.1 17 = .ok (.getfield 87, 3) := by decide +kernel
theorem d_V_setPlace_20 : decode m_V_setPlace.2.1 20 = .ok (.istore_n 2, 1) := by decide +kernel
theorem d_V_setPlace_21 : decode m_V_setPlace.2.1 21 = .ok (.aload_n 0, 1) := by decide +kernel
theorem d_V_setPlace_22 : decode m_V_setPlace.2.1 22 = .ok (.getfield 10, 3) := by decide +kernel
theorem d_V_setPlace_25 : decode m_V_setPlace.2.1 25 = .ok (.iload_n 1, 1) := by decide +kernel
theorem d_V_setPlace_26 : decode m_V_setPlace.2.1 26 = .ok (.putfield 87, 3) := by decide +kernel
theorem d_V_setPlace_29 : decode m_V_setPlace.2.1 29 = .ok (.iload_n 2, 1) := by decide +kernel
theorem d_V_setPlace_30 : decode m_V_setPlace.2.1 30 = .ok (.ireturn, 1) := by decide +kernel
theorem d_V_letter_0 : decode m_V_letter.2.1 0 = .ok (.iload_n 1, 1) := by decide +kernel
theorem d_V_letter_1 : decode m_V_letter.2.1 1 = .ok (.iconst 0, 1) := by decide +kernel
theorem d_V_letter_2 : decode m_V_letter.2.1 2 = .ok (.iconst 5, 1) := by decide +kernel
theorem d_V_letter_3 : decode m_V_letter.2.1 3 = .ok (.invokestatic 50, 3) := by decide +kernel
theorem d_V_letter_6 : decode m_V_letter.2.1 6 = .ok (.ifCond .ne 5, 3) := by decide +kernel
theorem d_V_letter_9 : decode m_V_letter.2.1 9 = .ok (.iconst (-1), 1) := by decide +kernel
theorem d_V_letter_10 : decode m_V_letter.2.1 10 = .ok (.ireturn, 1) := by decide +kernel
theorem d_V_letter_11 : decode m_V_letter.2.1 11 = .ok (.iload_n 2, 1) := by decide +kernel
theorem d_V_letter_12 : decode m_V_letter.2.1 12 = .ok (.iconst 0, 1) := by decide +kernel
theorem d_V_letter_13 : decode m_V_letter.2.1 13 = .ok (.bipush 11, 2) := by decide +kernel
theorem d_V_letter_15 : decode m_V_letter.2.1 15 = .ok (.invokestatic 50, 3) := by decide +kernel
theorem d_V_letter_18 : decode m_V_letter.2.1 18 = .ok (.ifCond .eq 15, 3) := by decide +kernel
theorem d_V_letter_21 : decode m_V_letter.2.1 21 = .ok (.iload 5, 2) := by decide +kernel
theorem d_V_letter_23 : decode m_V_letter.2.1 23 = .ok (.iconst 0, 1) := by decide +kernel
theorem d_V_letter_24 : decode m_V_letter.2.1 24 = .ok (.sipush 4095, 3) := by decide +kernel
theorem d_V_letter_27 : decode m_V_letter.2.1 27 = .ok (.invokestatic 50, 3) := by decide +kernel
theorem d_V_letter_30 : decode m_V_letter.2.1 30 = .ok (.ifCond .ne 6, 3) := by decide +kernel
theorem d_V_letter_33 : decode m_V_letter.2.1 33 = .ok (.bipush (-2), 2) := by decide +kernel
theorem d_V_letter_35 : decode m_V_letter.2.1 35 = .ok (.ireturn, 1) := by decide +kernel
theorem d_V_letter_36 : decode m_V_letter.2.1 36 = .ok (.iload_n 3, 1) := by decide +kernel
theorem d_V_letter_37 : decode m_V_letter.2.1 37 = .ok (.iconst 0, 1) := by decide +kernel
theorem d_V_letter_38 : decode m_V_letter.2.1 38 = .ok (.sipush 255, 3) := by decide +kernel
theorem d_V_letter_41 : decode m_V_letter.2.1 41 = .ok (.invokestatic 50, 3) := by decide +kernel
theorem d_V_letter_44 : decode m_V_letter.2.1 44 = .ok (.ifCond .eq 15, 3) := by decide +kernel
theorem d_V_letter_47 : decode m_V_letter.2.1 47 = .ok (.iload 4, 2) := by decide +kernel
theorem d_V_letter_49 : decode m_V_letter.2.1 49 = .ok (.iconst 0, 1) := by decide +kernel
theorem d_V_letter_50 : decode m_V_letter.2.1 50 = .ok (.sipush 255, 3) := by decide +kernel
theorem d_V_letter_53 : decode m_V_letter.2.1 53 = .ok (.invokestatic 50, 3) := by decide +kernel
theorem d_V_letter_56 : decode m_V_letter.2.1 56 = .ok (.ifCond .ne 6, 3) := by decide +kernel
theorem d_V_letter_59 : decode m_V_letter.2.1 59 = .ok (.bipush (-2), 2) := by decide +kernel
theorem d_V_letter_61 : decode m_V_letter.2.1 61 = .ok (.ireturn, 1) := by decide +kernel
theorem d_V_letter_62 : decode m_V_letter.2.1 62 = .ok (.aload_n 0, 1) := by decide +kernel
theorem d_V_letter_63 : decode m_V_letter.2.1 63 = .ok (.getfield 10, 3) := by decide +kernel
theorem d_V_letter_66 : decode m_V_letter.2.1 66 = .ok (.getfield 90, 3) := by decide +kernel
theorem d_V_letter_69 : decode m_V_letter.2.1 69 = .ok (.iload_n 1, 1) := by decide +kernel
theorem d_V_letter_70 : decode m_V_letter.2.1 70 = .ok (.iaload, 1) := by decide +kernel
theorem d_V_letter_71 : decode m_V_letter.2.1 71 = .ok (.istore 6, 2) := by decide +kernel
theorem d_V_letter_73 : decode m_V_letter.2.1 73 = .ok (.aload_n 0, 1) := by decide +kernel
theorem d_V_letter_74 : decode m_V_letter.2.1 74 = .ok (.getfield 10, 3) := by decide +kernel
theorem d_V_letter_77 : decode m_V_letter.2.1 77 = .ok (.getfield 90, 3) := by decide +kernel
theorem d_V_letter_80 : decode m_V_letter.2.1 80 = .ok (.iload_n 1, 1) := by decide +kernel
theorem d_V_letter_81 : decode m_V_letter.2.1 81 = .ok (.iload_n 2, 1) := by decide +kernel
theorem d_V_letter_82 : decode m_V_letter.2.1 82 = .ok (.iastore, 1) := by decide +kernel
theorem d_V_letter_83 : decode m_V_letter.2.1 83 = .ok (.aload_n 0, 1) := by decide +kernel
theorem d_V_letter_84 : decode m_V_letter.2.1 84 = .ok (.getfield 10, 3) := by decide +kernel
theorem d_V_letter_87 : decode m_V_letter.2.1 87 = .ok (.getfield 93, 3) := by decide +kernel
theorem d_V_letter_90 : decode m_V_letter.2.1 90 = .ok (.iload_n 1, 1) := by decide +kernel
theorem d_V_letter_91 : decode m_V_letter.2.1 91 = .ok (.iload_n 3, 1) := by decide +kernel
theorem d_V_letter_92 : decode m_V_letter.2.1 92 = .ok (.iastore, 1) := by decide +kernel
theorem d_V_letter_93 : decode m_V_letter.2.1 93 = .ok (.aload_n 0, 1) := by decide +kernel
theorem d_V_letter_94 : decode m_V_letter.2.1 94 = .ok (.getfield 10, 3) := by decide +kernel
theorem d_V_letter_97 : decode m_V_letter.2.1 97 = .ok (.getfield 96, 3) := by decide +kernel
theorem d_V_letter_100 : decode m_V_letter.2.1 100 = .ok (.iload_n 1, 1) := by decide +kernel
theorem d_V_letter_101 : decode m_V_letter.2.1 101 = .ok (.iload 4, 2) := by decide +kernel
theorem d_V_letter_103 : decode m_V_letter.2.1 103 = .ok (.iastore, 1) := by decide +kernel
theorem d_V_letter_104 : decode m_V_letter.2.1 104 = .ok (.aload_n 0, 1) := by decide +kernel
theorem d_V_letter_105 : decode m_V_letter.2.1 105 = .ok (.getfield 10, 3) := by decide +kernel
theorem d_V_letter_108 : decode m_V_letter.2.1 108 = .ok (.getfield 99, 3) := by decide +kernel
theorem d_V_letter_111 : decode m_V_letter.2.1 111 = .ok (.iload_n 1, 1) := by decide +kernel
theorem d_V_letter_112 : decode m_V_letter.2.1 112 = .ok (.iload 5, 2) := by decide +kernel
theorem d_V_letter_114 : decode m_V_letter.2.1 114 = .ok (.iastore, 1) := by decide +kernel
theorem d_V_letter_115 : decode m_V_letter.2.1 115 = .ok (.aload_n 0, 1) := by decide +kernel
theorem d_V_letter_116 : decode m_V_letter.2.1 116 = .ok (.getfield 10, 3) := by decide +kernel
theorem d_V_letter_119 : decode m_V_letter.2.1 119 = .ok (.aload_n 0, 1) := by decide +kernel
theorem d_V_letter_120 : decode m_V_letter.2.1 120 = .ok (.getfield 10, 3) := by decide +kernel
theorem d_V_letter_123 : decode m_V_letter.2.1 123 = .ok (.getfield 102, 3) := by decide +kernel
theorem d_V_letter_126 : decode m_V_letter.2.1 126 = .ok (.iload_n 1, 1) := by decide +kernel
theorem d_V_letter_127 : decode m_V_letter.2.1 127 = .ok (.iconst 0, 1) := by decide +kernel
theorem d_V_letter_128 : decode m_V_letter.2.1 128 = .ok (.invokestatic 61, 3) := by decide +kernel
theorem d_V_letter_131 : decode m_V_letter.2.1 131 = .ok (.putfield 102, 3) := by decide +kernel
theorem d_V_letter_134 : decode m_V_letter.2.1 134 = .ok (.iload 6, 2) := by decide +kernel
theorem d_V_letter_136 : decode m_V_letter.2.1 136 = .ok (.ireturn, 1) := by decide +kernel
theorem d_V_say_0 : decode m_V_say.2.1 0 = .ok (.iload_n 1, 1) := by decide +kernel
theorem d_V_say_1 : decode m_V_say.2.1 1 = .ok (.bipush 33, 2) := by decide +kernel
theorem d_V_say_3 : decode m_V_say.2.1 3 = .ok (.bipush 126, 2) := by decide +kernel
theorem d_V_say_5 : decode m_V_say.2.1 5 = .ok (.invokestatic 50, 3) := by decide +kernel
theorem d_V_say_8 : decode m_V_say.2.1 8 = .ok (.ifCond .ne 6, 3) := by decide +kernel
theorem d_V_say_11 : decode m_V_say.2.1 11 = .ok (.bipush (-2), 2) := by decide +kernel
theorem d_V_say_13 : decode m_V_say.2.1 13 = .ok (.ireturn, 1) := by decide +kernel
theorem d_V_say_14 : decode m_V_say.2.1 14 = .ok (.aload_n 0, 1) := by decide +kernel
theorem d_V_say_15 : decode m_V_say.2.1 15 = .ok (.getfield 28, 3) := by decide +kernel
theorem d_V_say_18 : decode m_V_say.2.1 18 = .ok (.iload_n 1, 1) := by decide +kernel
theorem d_V_say_19 : decode m_V_say.2.1 19 = .ok (.invokevirtual 105, 3) := by decide +kernel
theorem d_V_say_22 : decode m_V_say.2.1 22 = .ok (.ifCond .eq 13, 3) := by decide +kernel
theorem d_V_say_25 : decode m_V_say.2.1 25 = .ok (.aload_n 0, 1) := by decide +kernel
theorem d_V_say_26 : decode m_V_say.2.1 26 = .ok (.getfield 28, 3) := by decide +kernel
theorem d_V_say_29 : decode m_V_say.2.1 29 = .ok (.getfield 109, 3) := by decide +kernel
theorem d_V_say_32 : decode m_V_say.2.1 32 = .ok (.goto 5, 3) := by decide +kernel
theorem d_V_say_35 : decode m_V_say.2.1 35 = .ok (.bipush (-4), 2) := by decide +kernel
theorem d_V_say_37 : decode m_V_say.2.1 37 = .ok (.ireturn, 1) := by decide +kernel
theorem d_V_wipe_0 : decode m_V_wipe.2.1 0 = .ok (.aload_n 0, 1) := by decide +kernel
theorem d_V_wipe_1 : decode m_V_wipe.2.1 1 = .ok (.getfield 28, 3) := by decide +kernel
theorem d_V_wipe_4 : decode m_V_wipe.2.1 4 = .ok (.invokevirtual 112, 3) := by decide +kernel
theorem d_V_wipe_7 : decode m_V_wipe.2.1 7 = .ok (.ireturn, 1) := by decide +kernel
theorem d_V_fault_0 : decode m_V_fault.2.1 0 = .ok (.aload_n 0, 1) := by decide +kernel
theorem d_V_fault_1 : decode m_V_fault.2.1 1 = .ok (.getfield 28, 3) := by decide +kernel
theorem d_V_fault_4 : decode m_V_fault.2.1 4 = .ok (.invokevirtual 116, 3) := by decide +kernel
theorem d_V_fault_7 : decode m_V_fault.2.1 7 = .ok (.ireturn, 1) := by decide +kernel
theorem d_V_judge_0 : decode m_V_judge.2.1 0 = .ok (.iload_n 1, 1) := by decide +kernel
theorem d_V_judge_1 : decode m_V_judge.2.1 1 = .ok (.iconst 0, 1) := by decide +kernel
theorem d_V_judge_2 : decode m_V_judge.2.1 2 = .ok (.iconst 1, 1) := by decide +kernel
theorem d_V_judge_3 : decode m_V_judge.2.1 3 = .ok (.invokestatic 50, 3) := by decide +kernel
theorem d_V_judge_6 : decode m_V_judge.2.1 6 = .ok (.ifCond .ne 6, 3) := by decide +kernel
theorem d_V_judge_9 : decode m_V_judge.2.1 9 = .ok (.bipush (-2), 2) := by decide +kernel
theorem d_V_judge_11 : decode m_V_judge.2.1 11 = .ok (.ireturn, 1) := by decide +kernel
theorem d_V_judge_12 : decode m_V_judge.2.1 12 = .ok (.aload_n 0, 1) := by decide +kernel
theorem d_V_judge_13 : decode m_V_judge.2.1 13 = .ok (.getfield 28, 3) := by decide +kernel
theorem d_V_judge_16 : decode m_V_judge.2.1 16 = .ok (.invokevirtual 116, 3) := by decide +kernel
theorem d_V_judge_19 : decode m_V_judge.2.1 19 = .ok (.bipush (-6), 2) := by decide +kernel
theorem d_V_judge_21 : decode m_V_judge.2.1 21 = .ok (.if_icmp .eq 6, 3) := by decide +kernel
theorem d_V_judge_24 : decode m_V_judge.2.1 24 = .ok (.bipush (-5), 2) := by decide +kernel
theorem d_V_judge_26 : decode m_V_judge.2.1 26 = .ok (.ireturn, 1) := by decide +kernel
theorem d_V_judge_27 : decode m_V_judge.2.1 27 = .ok (.aload_n 0, 1) := by decide +kernel
theorem d_V_judge_28 : decode m_V_judge.2.1 28 = .ok (.getfield 28, 3) := by decide +kernel
theorem d_V_judge_31 : decode m_V_judge.2.1 31 = .ok (.aload_n 0, 1) := by decide +kernel
theorem d_V_judge_32 : decode m_V_judge.2.1 32 = .ok (.getfield 10, 3) := by decide +kernel
theorem d_V_judge_35 : decode m_V_judge.2.1 35 = .ok (.aload_n 0, 1) := by decide +kernel
theorem d_V_judge_36 : decode m_V_judge.2.1 36 = .ok (.getfield 22, 3) := by decide +kernel
theorem d_V_judge_39 : decode m_V_judge.2.1 39 = .ok (.invokevirtual 119, 3) := by decide +kernel
theorem d_V_judge_42 : decode m_V_judge.2.1 42 = .ok (.pop, 1) := by decide +kernel
theorem d_V_judge_43 : decode m_V_judge.2.1 43 = .ok (.iload_n 1, 1) := by decide +kernel
theorem d_V_judge_44 : decode m_V_judge.2.1 44 = .ok (.ifCond .ne 13, 3) := by decide +kernel
theorem d_V_judge_47 : decode m_V_judge.2.1 47 = .ok (.aload_n 0, 1) := by decide +kernel
theorem d_V_judge_48 : decode m_V_judge.2.1 48 = .ok (.getfield 28, 3) := by decide +kernel
theorem d_V_judge_51 : decode m_V_judge.2.1 51 = .ok (.getfield 123, 3) := by decide +kernel
theorem d_V_judge_54 : decode m_V_judge.2.1 54 = .ok (.goto 10, 3) := by decide +kernel
theorem d_V_judge_57 : decode m_V_judge.2.1 57 = .ok (.aload_n 0, 1) := by decide +kernel
theorem d_V_judge_58 : decode m_V_judge.2.1 58 = .ok (.getfield 28, 3) := by decide +kernel
theorem d_V_judge_61 : decode m_V_judge.2.1 61 = .ok (.getfield 126, 3) := by decide +kernel
theorem d_V_judge_64 : decode m_V_judge.2.1 64 = .ok (.ireturn, 1) := by decide +kernel
theorem d_V_done_0 : decode m_V_done.2.1 0 = .ok (.aload_n 0, 1) := by decide +kernel
theorem d_V_done_1 : decode m_V_done.2.1 1 = .ok (.getfield 28, 3) := by decide +kernel
theorem d_V_done_4 : decode m_V_done.2.1 4 = .ok (.aload_n 0, 1) := by decide +kernel
theorem d_V_done_5 : decode m_V_done.2.1 5 = .ok (.getfield 10, 3) := by decide +kernel
theorem d_V_done_8 : decode m_V_done.2.1 8 = .ok (.aload_n 0, 1) := by decide +kernel
theorem d_V_done_9 : decode m_V_done.2.1 9 = .ok (.getfield 22, 3) := by decide +kernel
theorem d_V_done_12 : decode m_V_done.2.1 12 = .ok (.invokevirtual 119, 3) := by decide +kernel
theorem d_V_done_15 : decode m_V_done.2.1 15 = .ok (.ifCond .ne 6, 3) := by decide +kernel
theorem d_V_done_18 : decode m_V_done.2.1 18 = .ok (.bipush (-5), 2) := by decide +kernel
theorem d_V_done_20 : decode m_V_done.2.1 20 = .ok (.ireturn, 1) := by decide +kernel
theorem d_V_done_21 : decode m_V_done.2.1 21 = .ok (.aload_n 0, 1) := by decide +kernel
theorem d_V_done_22 : decode m_V_done.2.1 22 = .ok (.getfield 10, 3) := by decide +kernel
theorem d_V_done_25 : decode m_V_done.2.1 25 = .ok (.aload_n 0, 1) := by decide +kernel
theorem d_V_done_26 : decode m_V_done.2.1 26 = .ok (.getfield 22, 3) := by decide +kernel
theorem d_V_done_29 : decode m_V_done.2.1 29 = .ok (.invokevirtual 129, 3) := by decide +kernel
theorem d_V_done_32 : decode m_V_done.2.1 32 = .ok (.aload_n 0, 1) := by decide +kernel
theorem d_V_done_33 : decode m_V_done.2.1 33 = .ok (.getfield 28, 3) := by decide +kernel
theorem d_V_done_36 : decode m_V_done.2.1 36 = .ok (.invokevirtual 112, 3) := by decide +kernel
theorem d_V_done_39 : decode m_V_done.2.1 39 = .ok (.pop, 1) := by decide +kernel
theorem d_V_done_40 : decode m_V_done.2.1 40 = .ok (.aload_n 0, 1) := by decide +kernel
theorem d_V_done_41 : decode m_V_done.2.1 41 = .ok (.getfield 28, 3) := by decide +kernel
theorem d_V_done_44 : decode m_V_done.2.1 44 = .ok (.getfield 133, 3) := by decide +kernel
theorem d_V_done_47 : decode m_V_done.2.1 47 = .ok (.ireturn, 1) := by decide +kernel
theorem d_V_knows_0 : decode m_V_knows.2.1 0 = .ok (.iload_n 1, 1) := by decide +kernel
theorem d_V_knows_1 : decode m_V_knows.2.1 1 = .ok (.iconst 0, 1) := by decide +kernel
theorem d_V_knows_2 : decode m_V_knows.2.1 2 = .ok (.bipush 11, 2) := by decide +kernel
theorem d_V_knows_4 : decode m_V_knows.2.1 4 = .ok (.invokestatic 50, 3) := by decide +kernel
theorem d_V_knows_7 : decode m_V_knows.2.1 7 = .ok (.ifCond .ne 5, 3) := by decide +kernel
theorem d_V_knows_10 : decode m_V_knows.2.1 10 = .ok (.iconst (-1), 1) := by decide +kernel
theorem d_V_knows_11 : decode m_V_knows.2.1 11 = .ok (.ireturn, 1) := by decide +kernel
theorem d_V_knows_12 : decode m_V_knows.2.1 12 = .ok (.aload_n 0, 1) := by decide +kernel
theorem d_V_knows_13 : decode m_V_knows.2.1 13 = .ok (.getfield 28, 3) := by decide +kernel
theorem d_V_knows_16 : decode m_V_knows.2.1 16 = .ok (.aload_n 0, 1) := by decide +kernel
theorem d_V_knows_17 : decode m_V_knows.2.1 17 = .ok (.getfield 10, 3) := by decide +kernel
theorem d_V_knows_20 : decode m_V_knows.2.1 20 = .ok (.aload_n 0, 1) := by decide +kernel
theorem d_V_knows_21 : decode m_V_knows.2.1 21 = .ok (.getfield 22, 3) := by decide +kernel
theorem d_V_knows_24 : decode m_V_knows.2.1 24 = .ok (.invokevirtual 119, 3) := by decide +kernel
theorem d_V_knows_27 : decode m_V_knows.2.1 27 = .ok (.ifCond .ne 6, 3) := by decide +kernel
theorem d_V_knows_30 : decode m_V_knows.2.1 30 = .ok (.bipush (-5), 2) := by decide +kernel
theorem d_V_knows_32 : decode m_V_knows.2.1 32 = .ok (.ireturn, 1) := by decide +kernel
theorem d_V_knows_33 : decode m_V_knows.2.1 33 = .ok (.aload_n 0, 1) := by decide +kernel
theorem d_V_knows_34 : decode m_V_knows.2.1 34 = .ok (.getfield 22, 3) := by decide +kernel
theorem d_V_knows_37 : decode m_V_knows.2.1 37 = .ok (.getfield 54, 3) := by decide +kernel
theorem d_V_knows_40 : decode m_V_knows.2.1 40 = .ok (.iload_n 1, 1) := by decide +kernel
theorem d_V_knows_41 : decode m_V_knows.2.1 41 = .ok (.iaload, 1) := by decide +kernel
theorem d_V_knows_42 : decode m_V_knows.2.1 42 = .ok (.ireturn, 1) := by decide +kernel
theorem d_V_behind_0 : decode m_V_behind.2.1 0 = .ok (.iload_n 1, 1) := by decide +kernel
theorem d_V_behind_1 : decode m_V_behind.2.1 1 = .ok (.iconst 0, 1) := by decide +kernel
theorem d_V_behind_2 : decode m_V_behind.2.1 2 = .ok (.iconst 3, 1) := by decide +kernel
theorem d_V_behind_3 : decode m_V_behind.2.1 3 = .ok (.invokestatic 50, 3) := by decide +kernel
theorem d_V_behind_6 : decode m_V_behind.2.1 6 = .ok (.ifCond .ne 6, 3) := by decide +kernel
theorem d_V_behind_9 : decode m_V_behind.2.1 9 = .ok (.bipush (-2), 2) := by decide +kernel
theorem d_V_behind_11 : decode m_V_behind.2.1 11 = .ok (.ireturn, 1) := by decide +kernel
theorem d_V_behind_12 : decode m_V_behind.2.1 12 = .ok (.aload_n 0, 1) := by decide +kernel
theorem d_V_behind_13 : decode m_V_behind.2.1 13 = .ok (.getfield 28, 3) := by decide +kernel
theorem d_V_behind_16 : decode m_V_behind.2.1 16 = .ok (.aload_n 0, 1) := by decide +kernel
theorem d_V_behind_17 : decode m_V_behind.2.1 17 = .ok (.getfield 10, 3) := by decide +kernel
theorem d_V_behind_20 : decode m_V_behind.2.1 20 = .ok (.aload_n 0, 1) := by decide +kernel
theorem d_V_behind_21 : decode m_V_behind.2.1 21 = .ok (.getfield 22, 3) := by decide +kernel
theorem d_V_behind_24 : decode m_V_behind.2.1 24 = .ok (.invokevirtual 119, 3) := by decide +kernel
theorem d_V_behind_27 : decode m_V_behind.2.1 27 = .ok (.ifCond .ne 6, 3) := by decide +kernel
theorem d_V_behind_30 : decode m_V_behind.2.1 30 = .ok (.bipush (-5), 2) := by decide +kernel
theorem d_V_behind_32 : decode m_V_behind.2.1 32 = .ok (.ireturn, 1) := by decide +kernel
theorem d_V_behind_33 : decode m_V_behind.2.1 33 = .ok (.iload_n 1, 1) := by decide +kernel
theorem d_V_behind_34 : decode m_V_behind.2.1 34 = .ok (.ifCond .ne 11, 3) := by decide +kernel
theorem d_V_behind_37 : decode m_V_behind.2.1 37 = .ok (.aload_n 0, 1) := by decide +kernel
theorem d_V_behind_38 : decode m_V_behind.2.1 38 = .ok (.getfield 22, 3) := by decide +kernel
theorem d_V_behind_41 : decode m_V_behind.2.1 41 = .ok (.getfield 87, 3) := by decide +kernel
theorem d_V_behind_44 : decode m_V_behind.2.1 44 = .ok (.ireturn, 1) := by decide +kernel
theorem d_V_behind_45 : decode m_V_behind.2.1 45 = .ok (.iload_n 1, 1) := by decide +kernel
theorem d_V_behind_46 : decode m_V_behind.2.1 46 = .ok (.iconst 1, 1) := by decide +kernel
theorem d_V_behind_47 : decode m_V_behind.2.1 47 = .ok (.if_icmp .ne 11, 3) := by decide +kernel
theorem d_V_behind_50 : decode m_V_behind.2.1 50 = .ok (.aload_n 0, 1) := by decide +kernel
theorem d_V_behind_51 : decode m_V_behind.2.1 51 = .ok (.getfield 22, 3) := by decide +kernel
theorem d_V_behind_54 : decode m_V_behind.2.1 54 = .ok (.getfield 136, 3) := by decide +kernel
theorem d_V_behind_57 : decode m_V_behind.2.1 57 = .ok (.ireturn, 1) := by decide +kernel
theorem d_V_behind_58 : decode m_V_behind.2.1 58 = .ok (.iload_n 1, 1) := by decide +kernel
theorem d_V_behind_59 : decode m_V_behind.2.1 59 = .ok (.iconst 2, 1) := by decide +kernel
theorem d_V_behind_60 : decode m_V_behind.2.1 60 = .ok (.if_icmp .ne 11, 3) := by decide +kernel
theorem d_V_behind_63 : decode m_V_behind.2.1 63 = .ok (.aload_n 0, 1) := by decide +kernel
theorem d_V_behind_64 : decode m_V_behind.2.1 64 = .ok (.getfield 22, 3) := by decide +kernel
theorem d_V_behind_67 : decode m_V_behind.2.1 67 = .ok (.getfield 102, 3) := by decide +kernel
theorem d_V_behind_70 : decode m_V_behind.2.1 70 = .ok (.ireturn, 1) := by decide +kernel
theorem d_V_behind_71 : decode m_V_behind.2.1 71 = .ok (.aload_n 0, 1) := by decide +kernel
theorem d_V_behind_72 : decode m_V_behind.2.1 72 = .ok (.getfield 28, 3) := by decide +kernel
theorem d_V_behind_75 : decode m_V_behind.2.1 75 = .ok (.getfield 139, 3) := by decide +kernel
theorem d_V_behind_78 : decode m_V_behind.2.1 78 = .ok (.ireturn, 1) := by decide +kernel
theorem d_V_who_0 : decode m_V_who.2.1 0 = .ok (.iload_n 1, 1) := by decide +kernel
theorem d_V_who_1 : decode m_V_who.2.1 1 = .ok (.iconst 0, 1) := by decide +kernel
theorem d_V_who_2 : decode m_V_who.2.1 2 = .ok (.bipush 7, 2) := by decide +kernel
theorem d_V_who_4 : decode m_V_who.2.1 4 = .ok (.invokestatic 50, 3) := by decide +kernel
theorem d_V_who_7 : decode m_V_who.2.1 7 = .ok (.ifCond .ne 5, 3) := by decide +kernel
theorem d_V_who_10 : decode m_V_who.2.1 10 = .ok (.iconst (-1), 1) := by decide +kernel
theorem d_V_who_11 : decode m_V_who.2.1 11 = .ok (.ireturn, 1) := by decide +kernel
theorem d_V_who_12 : decode m_V_who.2.1 12 = .ok (.iconst 0, 1) := by decide +kernel
theorem d_V_who_13 : decode m_V_who.2.1 13 = .ok (.istore_n 2, 1) := by decide +kernel
theorem d_V_who_14 : decode m_V_who.2.1 14 = .ok (.iconst 0, 1) := by decide +kernel
theorem d_V_who_15 : decode m_V_who.2.1 15 = .ok (.istore_n 3, 1) := by decide +kernel
theorem d_V_who_16 : decode m_V_who.2.1 16 = .ok (.iload_n 3, 1) := by decide +kernel
theorem d_V_who_17 : decode m_V_who.2.1 17 = .ok (.bipush 12, 2) := by decide +kernel
theorem d_V_who_19 : decode m_V_who.2.1 19 = .ok (.if_icmp .ge 31, 3) := by decide +kernel
theorem d_V_who_22 : decode m_V_who.2.1 22 = .ok (.aload_n 0, 1) := by decide +kernel
theorem d_V_who_23 : decode m_V_who.2.1 23 = .ok (.getfield 10, 3) := by decide +kernel
theorem d_V_who_26 : decode m_V_who.2.1 26 = .ok (.getfield 54, 3) := by decide +kernel
theorem d_V_who_29 : decode m_V_who.2.1 29 = .ok (.iload_n 3, 1) := by decide +kernel
theorem d_V_who_30 : decode m_V_who.2.1 30 = .ok (.iaload, 1) := by decide +kernel
theorem d_V_who_31 : decode m_V_who.2.1 31 = .ok (.iload_n 1, 1) := by decide +kernel
theorem d_V_who_32 : decode m_V_who.2.1 32 = .ok (.invokestatic 142, 3) := by decide +kernel
theorem d_V_who_35 : decode m_V_who.2.1 35 = .ok (.ifCond .eq 9, 3) := by decide +kernel
theorem d_V_who_38 : decode m_V_who.2.1 38 = .ok (.iload_n 2, 1) := by decide +kernel
theorem d_V_who_39 : decode m_V_who.2.1 39 = .ok (.iconst 1, 1) := by decide +kernel
theorem d_V_who_40 : decode m_V_who.2.1 40 = .ok (.iload_n 3, 1) := by decide +kernel
theorem d_V_who_41 : decode m_V_who.2.1 41 = .ok (.ishl, 1) := by decide +kernel
theorem d_V_who_42 : decode m_V_who.2.1 42 = .ok (.ior, 1) := by decide +kernel
theorem d_V_who_43 : decode m_V_who.2.1 43 = .ok (.istore_n 2, 1) := by decide +kernel
theorem d_V_who_44 : decode m_V_who.2.1 44 = .ok (.iinc 3 1, 3) := by decide +kernel
theorem d_V_who_47 : decode m_V_who.2.1 47 = .ok (.goto (-31), 3) := by decide +kernel
theorem d_V_who_50 : decode m_V_who.2.1 50 = .ok (.iload_n 2, 1) := by decide +kernel
theorem d_V_who_51 : decode m_V_who.2.1 51 = .ok (.ireturn, 1) := by decide +kernel
theorem d_V_loud_0 : decode m_V_loud.2.1 0 = .ok (.iload_n 1, 1) := by decide +kernel
theorem d_V_loud_1 : decode m_V_loud.2.1 1 = .ok (.iconst 0, 1) := by decide +kernel
theorem d_V_loud_2 : decode m_V_loud.2.1 2 = .ok (.bipush 11, 2) := by decide +kernel
theorem d_V_loud_4 : decode m_V_loud.2.1 4 = .ok (.invokestatic 50, 3) := by decide +kernel
theorem d_V_loud_7 : decode m_V_loud.2.1 7 = .ok (.ifCond .eq 13, 3) := by decide +kernel
theorem d_V_loud_10 : decode m_V_loud.2.1 10 = .ok (.iload_n 2, 1) := by decide +kernel
theorem d_V_loud_11 : decode m_V_loud.2.1 11 = .ok (.iconst 0, 1) := by decide +kernel
theorem d_V_loud_12 : decode m_V_loud.2.1 12 = .ok (.bipush 11, 2) := by decide +kernel
theorem d_V_loud_14 : decode m_V_loud.2.1 14 = .ok (.invokestatic 50, 3) := by decide +kernel
theorem d_V_loud_17 : decode m_V_loud.2.1 17 = .ok (.ifCond .ne 5, 3) := by decide +kernel
theorem d_V_loud_20 : decode m_V_loud.2.1 20 = .ok (.iconst (-1), 1) := by decide +kernel
theorem d_V_loud_21 : decode m_V_loud.2.1 21 = .ok (.ireturn, 1) := by decide +kernel
theorem d_V_loud_22 : decode m_V_loud.2.1 22 = .ok (.aload_n 0, 1) := by decide +kernel
theorem d_V_loud_23 : decode m_V_loud.2.1 23 = .ok (.getfield 10, 3) := by decide +kernel
theorem d_V_loud_26 : decode m_V_loud.2.1 26 = .ok (.iload_n 1, 1) := by decide +kernel
theorem d_V_loud_27 : decode m_V_loud.2.1 27 = .ok (.iload_n 2, 1) := by decide +kernel
theorem d_V_loud_28 : decode m_V_loud.2.1 28 = .ok (.invokevirtual 146, 3) := by decide +kernel
theorem d_V_loud_31 : decode m_V_loud.2.1 31 = .ok (.ireturn, 1) := by decide +kernel
theorem d_V_hears_0 : decode m_V_hears.2.1 0 = .ok (.iload_n 1, 1) := by decide +kernel
theorem d_V_hears_1 : decode m_V_hears.2.1 1 = .ok (.iconst 0, 1) := by decide +kernel
theorem d_V_hears_2 : decode m_V_hears.2.1 2 = .ok (.bipush 11, 2) := by decide +kernel
theorem d_V_hears_4 : decode m_V_hears.2.1 4 = .ok (.invokestatic 50, 3) := by decide +kernel
theorem d_V_hears_7 : decode m_V_hears.2.1 7 = .ok (.ifCond .ne 5, 3) := by decide +kernel
theorem d_V_hears_10 : decode m_V_hears.2.1 10 = .ok (.iconst (-1), 1) := by decide +kernel
theorem d_V_hears_11 : decode m_V_hears.2.1 11 = .ok (.ireturn, 1) := by decide +kernel
theorem d_V_hears_12 : decode m_V_hears.2.1 12 = .ok (.aload_n 0, 1) := by decide +kernel
theorem d_V_hears_13 : decode m_V_hears.2.1 13 = .ok (.getfield 10, 3) := by decide +kernel
theorem d_V_hears_16 : decode m_V_hears.2.1 16 = .ok (.iload_n 1, 1) := by decide +kernel
theorem d_V_hears_17 : decode m_V_hears.2.1 17 = .ok (.aload_n 0, 1) := by decide +kernel
theorem d_V_hears_18 : decode m_V_hears.2.1 18 = .ok (.getfield 10, 3) := by decide +kernel
theorem d_V_hears_21 : decode m_V_hears.2.1 21 = .ok (.getfield 58, 3) := by decide +kernel
theorem d_V_hears_24 : decode m_V_hears.2.1 24 = .ok (.invokevirtual 150, 3) := by decide +kernel
theorem d_V_hears_27 : decode m_V_hears.2.1 27 = .ok (.ireturn, 1) := by decide +kernel
theorem d_V_best_0 : decode m_V_best.2.1 0 = .ok (.iload_n 1, 1) := by decide +kernel
theorem d_V_best_1 : decode m_V_best.2.1 1 = .ok (.iconst 0, 1) := by decide +kernel
theorem d_V_best_2 : decode m_V_best.2.1 2 = .ok (.iconst 5, 1) := by decide +kernel
theorem d_V_best_3 : decode m_V_best.2.1 3 = .ok (.invokestatic 50, 3) := by decide +kernel
theorem d_V_best_6 : decode m_V_best.2.1 6 = .ok (.ifCond .ne 5, 3) := by decide +kernel
theorem d_V_best_9 : decode m_V_best.2.1 9 = .ok (.iconst (-1), 1) := by decide +kernel
theorem d_V_best_10 : decode m_V_best.2.1 10 = .ok (.ireturn, 1) := by decide +kernel
theorem d_V_best_11 : decode m_V_best.2.1 11 = .ok (.iload_n 2, 1) := by decide +kernel
theorem d_V_best_12 : decode m_V_best.2.1 12 = .ok (.iconst 0, 1) := by decide +kernel
theorem d_V_best_13 : decode m_V_best.2.1 13 = .ok (.iconst 1, 1) := by decide +kernel
theorem d_V_best_14 : decode m_V_best.2.1 14 = .ok (.invokestatic 50, 3) := by decide +kernel
theorem d_V_best_17 : decode m_V_best.2.1 17 = .ok (.ifCond .ne 6, 3) := by decide +kernel
theorem d_V_best_20 : decode m_V_best.2.1 20 = .ok (.bipush (-2), 2) := by decide +kernel
theorem d_V_best_22 : decode m_V_best.2.1 22 = .ok (.ireturn, 1) := by decide +kernel
theorem d_V_best_23 : decode m_V_best.2.1 23 = .ok (.aload_n 0, 1) := by decide +kernel
theorem d_V_best_24 : decode m_V_best.2.1 24 = .ok (.getfield 35, 3) := by decide +kernel
theorem d_V_best_27 : decode m_V_best.2.1 27 = .ok (.aload_n 0, 1) := by decide +kernel
theorem d_V_best_28 : decode m_V_best.2.1 28 = .ok (.getfield 10, 3) := by decide +kernel
theorem d_V_best_31 : decode m_V_best.2.1 31 = .ok (.invokevirtual 153, 3) := by decide +kernel
theorem d_V_best_34 : decode m_V_best.2.1 34 = .ok (.aload_n 0, 1) := by decide +kernel
theorem d_V_best_35 : decode m_V_best.2.1 35 = .ok (.getfield 35, 3) := by decide +kernel
theorem d_V_best_38 : decode m_V_best.2.1 38 = .ok (.aload_n 0, 1) := by decide +kernel
theorem d_V_best_39 : decode m_V_best.2.1 39 = .ok (.getfield 10, 3) := by decide +kernel
theorem d_V_best_42 : decode m_V_best.2.1 42 = .ok (.getfield 90, 3) := by decide +kernel
theorem d_V_best_45 : decode m_V_best.2.1 45 = .ok (.iload_n 1, 1) := by decide +kernel
theorem d_V_best_46 : decode m_V_best.2.1 46 = .ok (.iaload, 1) := by decide +kernel
theorem d_V_best_47 : decode m_V_best.2.1 47 = .ok (.iload_n 2, 1) := by decide +kernel
theorem d_V_best_48 : decode m_V_best.2.1 48 = .ok (.ifCond .ne 7, 3) := by decide +kernel
theorem d_V_best_51 : decode m_V_best.2.1 51 = .ok (.iconst 1, 1) := by decide +kernel
theorem d_V_best_52 : decode m_V_best.2.1 52 = .ok (.goto 4, 3) := by decide +kernel
theorem d_V_best_55 : decode m_V_best.2.1 55 = .ok (.iconst 0, 1) := by decide +kernel
theorem d_V_best_56 : decode m_V_best.2.1 56 = .ok (.invokevirtual 156, 3) := by decide +kernel
theorem d_V_best_59 : decode m_V_best.2.1 59 = .ok (.ireturn, 1) := by decide +kernel
theorem d_V_thirds_0 : decode m_V_thirds.2.1 0 = .ok (.iload_n 1, 1) := by decide +kernel
theorem d_V_thirds_1 : decode m_V_thirds.2.1 1 = .ok (.iconst 0, 1) := by decide +kernel
theorem d_V_thirds_2 : decode m_V_thirds.2.1 2 = .ok (.bipush 11, 2) := by decide +kernel
theorem d_V_thirds_4 : decode m_V_thirds.2.1 4 = .ok (.invokestatic 50, 3) := by decide +kernel
theorem d_V_thirds_7 : decode m_V_thirds.2.1 7 = .ok (.ifCond .ne 5, 3) := by decide +kernel
theorem d_V_thirds_10 : decode m_V_thirds.2.1 10 = .ok (.iconst (-1), 1) := by decide +kernel
theorem d_V_thirds_11 : decode m_V_thirds.2.1 11 = .ok (.ireturn, 1) := by decide +kernel
theorem d_V_thirds_12 : decode m_V_thirds.2.1 12 = .ok (.iload_n 2, 1) := by decide +kernel
theorem d_V_thirds_13 : decode m_V_thirds.2.1 13 = .ok (.iconst 0, 1) := by decide +kernel
theorem d_V_thirds_14 : decode m_V_thirds.2.1 14 = .ok (.iconst 1, 1) := by decide +kernel
theorem d_V_thirds_15 : decode m_V_thirds.2.1 15 = .ok (.invokestatic 50, 3) := by decide +kernel
theorem d_V_thirds_18 : decode m_V_thirds.2.1 18 = .ok (.ifCond .ne 6, 3) := by decide +kernel
theorem d_V_thirds_21 : decode m_V_thirds.2.1 21 = .ok (.bipush (-2), 2) := by decide +kernel
theorem d_V_thirds_23 : decode m_V_thirds.2.1 23 = .ok (.ireturn, 1) := by decide +kernel
theorem d_V_thirds_24 : decode m_V_thirds.2.1 24 = .ok (.aload_n 0, 1) := by decide +kernel
theorem d_V_thirds_25 : decode m_V_thirds.2.1 25 = .ok (.getfield 35, 3) := by decide +kernel
theorem d_V_thirds_28 : decode m_V_thirds.2.1 28 = .ok (.aload_n 0, 1) := by decide +kernel
theorem d_V_thirds_29 : decode m_V_thirds.2.1 29 = .ok (.getfield 10, 3) := by decide +kernel
theorem d_V_thirds_32 : decode m_V_thirds.2.1 32 = .ok (.invokevirtual 153, 3) := by decide +kernel
theorem d_V_thirds_35 : decode m_V_thirds.2.1 35 = .ok (.aload_n 0, 1) := by decide +kernel
theorem d_V_thirds_36 : decode m_V_thirds.2.1 36 = .ok (.getfield 35, 3) := by decide +kernel
theorem d_V_thirds_39 : decode m_V_thirds.2.1 39 = .ok (.iload_n 1, 1) := by decide +kernel
theorem d_V_thirds_40 : decode m_V_thirds.2.1 40 = .ok (.iload_n 2, 1) := by decide +kernel
theorem d_V_thirds_41 : decode m_V_thirds.2.1 41 = .ok (.ifCond .ne 7, 3) := by decide +kernel
theorem d_V_thirds_44 : decode m_V_thirds.2.1 44 = .ok (.iconst 1, 1) := by decide +kernel
theorem d_V_thirds_45 : decode m_V_thirds.2.1 45 = .ok (.goto 4, 3) := by decide +kernel
theorem d_V_thirds_48 : decode m_V_thirds.2.1 48 = .ok (.iconst 0, 1) := by decide +kernel
theorem d_V_thirds_49 : decode m_V_thirds.2.1 49 = .ok (.invokevirtual 160, 3) := by decide +kernel
theorem d_V_thirds_52 : decode m_V_thirds.2.1 52 = .ok (.ireturn, 1) := by decide +kernel
theorem d_V_round_0 : decode m_V_round.2.1 0 = .ok (.iload_n 1, 1) := by decide +kernel
theorem d_V_round_1 : decode m_V_round.2.1 1 = .ok (.iconst 0, 1) := by decide +kernel
theorem d_V_round_2 : decode m_V_round.2.1 2 = .ok (.bipush 63, 2) := by decide +kernel
theorem d_V_round_4 : decode m_V_round.2.1 4 = .ok (.invokestatic 50, 3) := by decide +kernel
theorem d_V_round_7 : decode m_V_round.2.1 7 = .ok (.ifCond .ne 5, 3) := by decide +kernel
theorem d_V_round_10 : decode m_V_round.2.1 10 = .ok (.iconst (-1), 1) := by decide +kernel
theorem d_V_round_11 : decode m_V_round.2.1 11 = .ok (.ireturn, 1) := by decide +kernel
theorem d_V_round_12 : decode m_V_round.2.1 12 = .ok (.iload_n 2, 1) := by decide +kernel
theorem d_V_round_13 : decode m_V_round.2.1 13 = .ok (.iconst 0, 1) := by decide +kernel
theorem d_V_round_14 : decode m_V_round.2.1 14 = .ok (.iconst 1, 1) := by decide +kernel
theorem d_V_round_15 : decode m_V_round.2.1 15 = .ok (.invokestatic 50, 3) := by decide +kernel
theorem d_V_round_18 : decode m_V_round.2.1 18 = .ok (.ifCond .ne 6, 3) := by decide +kernel
theorem d_V_round_21 : decode m_V_round.2.1 21 = .ok (.bipush (-2), 2) := by decide +kernel
theorem d_V_round_23 : decode m_V_round.2.1 23 = .ok (.ireturn, 1) := by decide +kernel
theorem d_V_round_24 : decode m_V_round.2.1 24 = .ok (.aload_n 0, 1) := by decide +kernel
theorem d_V_round_25 : decode m_V_round.2.1 25 = .ok (.getfield 35, 3) := by decide +kernel
theorem d_V_round_28 : decode m_V_round.2.1 28 = .ok (.aload_n 0, 1) := by decide +kernel
theorem d_V_round_29 : decode m_V_round.2.1 29 = .ok (.getfield 10, 3) := by decide +kernel
theorem d_V_round_32 : decode m_V_round.2.1 32 = .ok (.invokevirtual 153, 3) := by decide +kernel
theorem d_V_round_35 : decode m_V_round.2.1 35 = .ok (.aload_n 0, 1) := by decide +kernel
theorem d_V_round_36 : decode m_V_round.2.1 36 = .ok (.getfield 35, 3) := by decide +kernel
theorem d_V_round_39 : decode m_V_round.2.1 39 = .ok (.aload_n 0, 1) := by decide +kernel
theorem d_V_round_40 : decode m_V_round.2.1 40 = .ok (.getfield 10, 3) := by decide +kernel
theorem d_V_round_43 : decode m_V_round.2.1 43 = .ok (.iload_n 1, 1) := by decide +kernel
theorem d_V_round_44 : decode m_V_round.2.1 44 = .ok (.iload_n 2, 1) := by decide +kernel
theorem d_V_round_45 : decode m_V_round.2.1 45 = .ok (.ifCond .ne 7, 3) := by decide +kernel
theorem d_V_round_48 : decode m_V_round.2.1 48 = .ok (.iconst 1, 1) := by decide +kernel
theorem d_V_round_49 : decode m_V_round.2.1 49 = .ok (.goto 4, 3) := by decide +kernel
theorem d_V_round_52 : decode m_V_round.2.1 52 = .ok (.iconst 0, 1) := by decide +kernel
theorem d_V_round_53 : decode m_V_round.2.1 53 = .ok (.invokevirtual 163, 3) := by decide +kernel
theorem d_V_round_56 : decode m_V_round.2.1 56 = .ok (.ireturn, 1) := by decide +kernel
theorem d_V_seen_0 : decode m_V_seen.2.1 0 = .ok (.iload_n 1, 1) := by decide +kernel
theorem d_V_seen_1 : decode m_V_seen.2.1 1 = .ok (.iconst 0, 1) := by decide +kernel
theorem d_V_seen_2 : decode m_V_seen.2.1 2 = .ok (.bipush 11, 2) := by decide +kernel
theorem d_V_seen_4 : decode m_V_seen.2.1 4 = .ok (.invokestatic 50, 3) := by decide +kernel
theorem d_V_seen_7 : decode m_V_seen.2.1 7 = .ok (.ifCond .ne 5, 3) := by decide +kernel
theorem d_V_seen_10 : decode m_V_seen.2.1 10 = .ok (.iconst (-1), 1) := by decide +kernel
theorem d_V_seen_11 : decode m_V_seen.2.1 11 = .ok (.ireturn, 1) := by decide +kernel
theorem d_V_seen_12 : decode m_V_seen.2.1 12 = .ok (.aload_n 0, 1) := by decide +kernel
theorem d_V_seen_13 : decode m_V_seen.2.1 13 = .ok (.getfield 10, 3) := by decide +kernel
theorem d_V_seen_16 : decode m_V_seen.2.1 16 = .ok (.getfield 167, 3) := by decide +kernel
theorem d_V_seen_19 : decode m_V_seen.2.1 19 = .ok (.bipush 8, 2) := by decide +kernel
theorem d_V_seen_21 : decode m_V_seen.2.1 21 = .ok (.if_icmp .lt 6, 3) := by decide +kernel
theorem d_V_seen_24 : decode m_V_seen.2.1 24 = .ok (.bipush (-4), 2) := by decide +kernel
theorem d_V_seen_26 : decode m_V_seen.2.1 26 = .ok (.ireturn, 1) := by decide +kernel
theorem d_V_seen_27 : decode m_V_seen.2.1 27 = .ok (.iload_n 2, 1) := by decide +kernel
theorem d_V_seen_28 : decode m_V_seen.2.1 28 = .ok (.ifCond .eq 21, 3) := by decide +kernel
theorem d_V_seen_31 : decode m_V_seen.2.1 31 = .ok (.aload_n 0, 1) := by decide +kernel
theorem d_V_seen_32 : decode m_V_seen.2.1 32 = .ok (.getfield 10, 3) := by decide +kernel
theorem d_V_seen_35 : decode m_V_seen.2.1 35 = .ok (.dup, 1) := by decide +kernel
theorem d_V_seen_36 : decode m_V_seen.2.1 36 = .ok (.getfield 170, 3) := by decide +kernel
theorem d_V_seen_39 : decode m_V_seen.2.1 39 = .ok (.iconst 1, 1) := by decide +kernel
theorem d_V_seen_40 : decode m_V_seen.2.1 40 = .ok (.iload_n 1, 1) := by decide +kernel
theorem d_V_seen_41 : decode m_V_seen.2.1 41 = .ok (.ishl, 1) := by decide +kernel
theorem d_V_seen_42 : decode m_V_seen.2.1 42 = .ok (.ior, 1) := by decide +kernel
theorem d_V_seen_43 : decode m_V_seen.2.1 43 = .ok (.putfield 170, 3) := by decide +kernel
theorem d_V_seen_46 : decode m_V_seen.2.1 46 = .ok (.goto 18, 3) := by decide +kernel
theorem d_V_seen_49 : decode m_V_seen.2.1 49 = .ok (.aload_n 0, 1) := by decide +kernel
theorem d_V_seen_50 : decode m_V_seen.2.1 50 = .ok (.getfield 10, 3) := by decide +kernel
theorem d_V_seen_53 : decode m_V_seen.2.1 53 = .ok (.dup, 1) := by decide +kernel
theorem d_V_seen_54 : decode m_V_seen.2.1 54 = .ok (.getfield 173, 3) := by decide +kernel
theorem d_V_seen_57 : decode m_V_seen.2.1 57 = .ok (.iconst 1, 1) := by decide +kernel
theorem d_V_seen_58 : decode m_V_seen.2.1 58 = .ok (.iload_n 1, 1) := by decide +kernel
theorem d_V_seen_59 : decode m_V_seen.2.1 59 = .ok (.ishl, 1) := by decide +kernel
theorem d_V_seen_60 : decode m_V_seen.2.1 60 = .ok (.ior, 1) := by decide +kernel
theorem d_V_seen_61 : decode m_V_seen.2.1 61 = .ok (.putfield 173, 3) := by decide +kernel
theorem d_V_seen_64 : decode m_V_seen.2.1 64 = .ok (.aload_n 0, 1) := by decide +kernel
theorem d_V_seen_65 : decode m_V_seen.2.1 65 = .ok (.getfield 10, 3) := by decide +kernel
theorem d_V_seen_68 : decode m_V_seen.2.1 68 = .ok (.dup, 1) := by decide +kernel
theorem d_V_seen_69 : decode m_V_seen.2.1 69 = .ok (.getfield 167, 3) := by decide +kernel
theorem d_V_seen_72 : decode m_V_seen.2.1 72 = .ok (.iconst 1, 1) := by decide +kernel
theorem d_V_seen_73 : decode m_V_seen.2.1 73 = .ok (.iadd, 1) := by decide +kernel
theorem d_V_seen_74 : decode m_V_seen.2.1 74 = .ok (.putfield 167, 3) := by decide +kernel
theorem d_V_seen_77 : decode m_V_seen.2.1 77 = .ok (.aload_n 0, 1) := by decide +kernel
theorem d_V_seen_78 : decode m_V_seen.2.1 78 = .ok (.getfield 10, 3) := by decide +kernel
theorem d_V_seen_81 : decode m_V_seen.2.1 81 = .ok (.getfield 167, 3) := by decide +kernel
theorem d_V_seen_84 : decode m_V_seen.2.1 84 = .ok (.ireturn, 1) := by decide +kernel
theorem d_V_forget_0 : decode m_V_forget.2.1 0 = .ok (.aload_n 0, 1) := by decide +kernel
theorem d_V_forget_1 : decode m_V_forget.2.1 1 = .ok (.getfield 10, 3) := by decide +kernel
theorem d_V_forget_4 : decode m_V_forget.2.1 4 = .ok (.getfield 167, 3) := by decide +kernel
theorem d_V_forget_7 : decode m_V_forget.2.1 7 = .ok (.istore_n 1, 1) := by decide +kernel
theorem d_V_forget_8 : decode m_V_forget.2.1 8 = .ok (.aload_n 0, 1) := by decide +kernel
theorem d_V_forget_9 : decode m_V_forget.2.1 9 = .ok (.getfield 10, 3) := by decide +kernel
theorem d_V_forget_12 : decode m_V_forget.2.1 12 = .ok (.iconst 0, 1) := by decide +kernel
theorem d_V_forget_13 : decode m_V_forget.2.1 13 = .ok (.putfield 167, 3) := by decide +kernel
theorem d_V_forget_16 : decode m_V_forget.2.1 16 = .ok (.aload_n 0, 1) := by decide +kernel
theorem d_V_forget_17 : decode m_V_forget.2.1 17 = .ok (.getfield 10, 3) := by decide +kernel
theorem d_V_forget_20 : decode m_V_forget.2.1 20 = .ok (.iconst 0, 1) := by decide +kernel
theorem d_V_forget_21 : decode m_V_forget.2.1 21 = .ok (.putfield 170, 3) := by decide +kernel
theorem d_V_forget_24 : decode m_V_forget.2.1 24 = .ok (.aload_n 0, 1) := by decide +kernel
theorem d_V_forget_25 : decode m_V_forget.2.1 25 = .ok (.getfield 10, 3) := by decide +kernel
theorem d_V_forget_28 : decode m_V_forget.2.1 28 = .ok (.iconst 0, 1) := by decide +kernel
theorem d_V_forget_29 : decode m_V_forget.2.1 29 = .ok (.putfield 173, 3) := by decide +kernel
theorem d_V_forget_32 : decode m_V_forget.2.1 32 = .ok (.iload_n 1, 1) := by decide +kernel
theorem d_V_forget_33 : decode m_V_forget.2.1 33 = .ok (.ireturn, 1) := by decide +kernel
theorem d_V_at_0 : decode m_V_at.2.1 0 = .ok (.aload_n 0, 1) := by decide +kernel
theorem d_V_at_1 : decode m_V_at.2.1 1 = .ok (.getfield 35, 3) := by decide +kernel
theorem d_V_at_4 : decode m_V_at.2.1 4 = .ok (.aload_n 0, 1) := by decide +kernel
theorem d_V_at_5 : decode m_V_at.2.1 5 = .ok (.getfield 10, 3) := by decide +kernel
theorem d_V_at_8 : decode m_V_at.2.1 8 = .ok (.invokevirtual 153, 3) := by decide +kernel
theorem d_V_at_11 : decode m_V_at.2.1 11 = .ok (.aload_n 0, 1) := by decide +kernel
theorem d_V_at_12 : decode m_V_at.2.1 12 = .ok (.getfield 35, 3) := by decide +kernel
theorem d_V_at_15 : decode m_V_at.2.1 15 = .ok (.aload_n 0, 1) := by decide +kernel
theorem d_V_at_16 : decode m_V_at.2.1 16 = .ok (.getfield 10, 3) := by decide +kernel
theorem d_V_at_19 : decode m_V_at.2.1 19 = .ok (.invokevirtual 176, 3) := by decide +kernel
theorem d_V_at_22 : decode m_V_at.2.1 22 = .ok (.ireturn, 1) := by decide +kernel
theorem d_V_ask_0 : decode m_V_ask.2.1 0 = .ok (.iload_n 1, 1) := by decide +kernel
theorem d_V_ask_1 : decode m_V_ask.2.1 1 = .ok (.iconst 0, 1) := by decide +kernel
theorem d_V_ask_2 : decode m_V_ask.2.1 2 = .ok (.iconst 1, 1) := by decide +kernel
theorem d_V_ask_3 : decode m_V_ask.2.1 3 = .ok (.invokestatic 50, 3) := by decide +kernel
theorem d_V_ask_6 : decode m_V_ask.2.1 6 = .ok (.ifCond .ne 6, 3) := by decide +kernel
theorem d_V_ask_9 : decode m_V_ask.2.1 9 = .ok (.bipush (-2), 2) := by decide +kernel
theorem d_V_ask_11 : decode m_V_ask.2.1 11 = .ok (.ireturn, 1) := by decide +kernel
theorem d_V_ask_12 : decode m_V_ask.2.1 12 = .ok (.aload_n 0, 1) := by decide +kernel
theorem d_V_ask_13 : decode m_V_ask.2.1 13 = .ok (.getfield 35, 3) := by decide +kernel
theorem d_V_ask_16 : decode m_V_ask.2.1 16 = .ok (.aload_n 0, 1) := by decide +kernel
theorem d_V_ask_17 : decode m_V_ask.2.1 17 = .ok (.getfield 10, 3) := by decide +kernel
theorem d_V_ask_20 : decode m_V_ask.2.1 20 = .ok (.invokevirtual 153, 3) := by decide +kernel
theorem d_V_ask_23 : decode m_V_ask.2.1 23 = .ok (.aload_n 0, 1) := by decide +kernel
theorem d_V_ask_24 : decode m_V_ask.2.1 24 = .ok (.getfield 35, 3) := by decide +kernel
theorem d_V_ask_27 : decode m_V_ask.2.1 27 = .ok (.aload_n 0, 1) := by decide +kernel
theorem d_V_ask_28 : decode m_V_ask.2.1 28 = .ok (.getfield 10, 3) := by decide +kernel
theorem d_V_ask_31 : decode m_V_ask.2.1 31 = .ok (.invokevirtual 176, 3) := by decide +kernel
theorem d_V_ask_34 : decode m_V_ask.2.1 34 = .ok (.istore_n 2, 1) := by decide +kernel
theorem d_V_ask_35 : decode m_V_ask.2.1 35 = .ok (.iload_n 2, 1) := by decide +kernel
theorem d_V_ask_36 : decode m_V_ask.2.1 36 = .ok (.ifCond .ne 8, 3) := by decide +kernel
theorem d_V_ask_39 : decode m_V_ask.2.1 39 = .ok (.bipush (-6), 2) := by decide +kernel
theorem d_V_ask_41 : decode m_V_ask.2.1 41 = .ok (.goto 20, 3) := by decide +kernel
theorem d_V_ask_44 : decode m_V_ask.2.1 44 = .ok (.aload_n 0, 1) := by decide +kernel
theorem d_V_ask_45 : decode m_V_ask.2.1 45 = .ok (.getfield 35, 3) := by decide +kernel
theorem d_V_ask_48 : decode m_V_ask.2.1 48 = .ok (.iload_n 2, 1) := by decide +kernel
theorem d_V_ask_49 : decode m_V_ask.2.1 49 = .ok (.iload_n 1, 1) := by decide +kernel
theorem d_V_ask_50 : decode m_V_ask.2.1 50 = .ok (.ifCond .ne 7, 3) := by decide +kernel
theorem d_V_ask_53 : decode m_V_ask.2.1 53 = .ok (.iconst 1, 1) := by decide +kernel
theorem d_V_ask_54 : decode m_V_ask.2.1 54 = .ok (.goto 4, 3) := by decide +kernel
theorem d_V_ask_57 : decode m_V_ask.2.1 57 = .ok (.iconst 0, 1) := by decide +kernel
theorem d_V_ask_58 : decode m_V_ask.2.1 58 = .ok (.invokevirtual 180, 3) := by decide +kernel
theorem d_V_ask_61 : decode m_V_ask.2.1 61 = .ok (.ireturn, 1) := by decide +kernel
theorem d_V_rumour_0 : decode m_V_rumour.2.1 0 = .ok (.iload_n 1, 1) := by decide +kernel
theorem d_V_rumour_1 : decode m_V_rumour.2.1 1 = .ok (.iconst 0, 1) := by decide +kernel
theorem d_V_rumour_2 : decode m_V_rumour.2.1 2 = .ok (.bipush 11, 2) := by decide +kernel
theorem d_V_rumour_4 : decode m_V_rumour.2.1 4 = .ok (.invokestatic 50, 3) := by decide +kernel
theorem d_V_rumour_7 : decode m_V_rumour.2.1 7 = .ok (.ifCond .ne 5, 3) := by decide +kernel
theorem d_V_rumour_10 : decode m_V_rumour.2.1 10 = .ok (.iconst (-1), 1) := by decide +kernel
theorem d_V_rumour_11 : decode m_V_rumour.2.1 11 = .ok (.ireturn, 1) := by decide +kernel
theorem d_V_rumour_12 : decode m_V_rumour.2.1 12 = .ok (.iload_n 2, 1) := by decide +kernel
theorem d_V_rumour_13 : decode m_V_rumour.2.1 13 = .ok (.iconst (-1), 1) := by decide +kernel
theorem d_V_rumour_14 : decode m_V_rumour.2.1 14 = .ok (.bipush 20, 2) := by decide +kernel
theorem d_V_rumour_16 : decode m_V_rumour.2.1 16 = .ok (.invokestatic 50, 3) := by decide +kernel
theorem d_V_rumour_19 : decode m_V_rumour.2.1 19 = .ok (.ifCond .ne 6, 3) := by decide +kernel
theorem d_V_rumour_22 : decode m_V_rumour.2.1 22 = .ok (.bipush (-2), 2) := by decide +kernel
theorem d_V_rumour_24 : decode m_V_rumour.2.1 24 = .ok (.ireturn, 1) := by decide +kernel
theorem d_V_rumour_25 : decode m_V_rumour.2.1 25 = .ok (.iload_n 2, 1) := by decide +kernel
theorem d_V_rumour_26 : decode m_V_rumour.2.1 26 = .ok (.iconst (-1), 1) := by decide +kernel
theorem d_V_rumour_27 : decode m_V_rumour.2.1 27 = .ok (.if_icmp .ne 14, 3) := by decide +kernel
theorem d_V_rumour_30 : decode m_V_rumour.2.1 30 = .ok (.aload_n 0, 1) := by decide +kernel
theorem d_V_rumour_31 : decode m_V_rumour.2.1 31 = .ok (.getfield 10, 3) := by decide +kernel
theorem d_V_rumour_34 : decode m_V_rumour.2.1 34 = .ok (.iload_n 1, 1) := by decide +kernel
theorem d_V_rumour_35 : decode m_V_rumour.2.1 35 = .ok (.invokevirtual 183, 3) := by decide +kernel
theorem d_V_rumour_38 : decode m_V_rumour.2.1 38 = .ok (.goto 15, 3) := by decide +kernel
theorem d_V_rumour_41 : decode m_V_rumour.2.1 41 = .ok (.aload_n 0, 1) := by decide +kernel
theorem d_V_rumour_42 : decode m_V_rumour.2.1 42 = .ok (.getfield 10, 3) := by decide +kernel
theorem d_V_rumour_45 : decode m_V_rumour.2.1 45 = .ok (.iload_n 1, 1) := by decide +kernel
theorem d_V_rumour_46 : decode m_V_rumour.2.1 46 = .ok (.iload_n 2, 1) := by decide +kernel
theorem d_V_rumour_47 : decode m_V_rumour.2.1 47 = .ok (.invokevirtual 186, 3) := by decide +kernel
theorem d_V_rumour_50 : decode m_V_rumour.2.1 50 = .ok (.invokestatic 189, 3) := by decide +kernel
theorem d_V_rumour_53 : decode m_V_rumour.2.1 53 = .ok (.ireturn, 1) := by decide +kernel
theorem d_V_chance_0 : decode m_V_chance.2.1 0 = .ok (.iload_n 1, 1) := by decide +kernel
theorem d_V_chance_1 : decode m_V_chance.2.1 1 = .ok (.iconst 0, 1) := by decide +kernel
theorem d_V_chance_2 : decode m_V_chance.2.1 2 = .ok (.bipush 11, 2) := by decide +kernel
theorem d_V_chance_4 : decode m_V_chance.2.1 4 = .ok (.invokestatic 50, 3) := by decide +kernel
theorem d_V_chance_7 : decode m_V_chance.2.1 7 = .ok (.ifCond .ne 7, 3) := by decide +kernel
theorem d_V_chance_10 : decode m_V_chance.2.1 10 = .ok (.ldc2_w 194, 3) := by decide +kernel
theorem d_V_chance_13 : decode m_V_chance.2.1 13 = .ok (.lreturn, 1) := by decide +kernel
theorem d_V_chance_14 : decode m_V_chance.2.1 14 = .ok (.iload_n 2, 1) := by decide +kernel
theorem d_V_chance_15 : decode m_V_chance.2.1 15 = .ok (.iconst 0, 1) := by decide +kernel
theorem d_V_chance_16 : decode m_V_chance.2.1 16 = .ok (.bipush 10, 2) := by decide +kernel
theorem d_V_chance_18 : decode m_V_chance.2.1 18 = .ok (.invokestatic 50, 3) := by decide +kernel
theorem d_V_chance_21 : decode m_V_chance.2.1 21 = .ok (.ifCond .eq 23, 3) := by decide +kernel
theorem d_V_chance_24 : decode m_V_chance.2.1 24 = .ok (.iload_n 3, 1) := by decide +kernel
theorem d_V_chance_25 : decode m_V_chance.2.1 25 = .ok (.iconst (-1), 1) := by decide +kernel
theorem d_V_chance_26 : decode m_V_chance.2.1 26 = .ok (.bipush 11, 2) := by decide +kernel
theorem d_V_chance_28 : decode m_V_chance.2.1 28 = .ok (.invokestatic 50, 3) := by decide +kernel
theorem d_V_chance_31 : decode m_V_chance.2.1 31 = .ok (.ifCond .eq 13, 3) := by decide +kernel
theorem d_V_chance_34 : decode m_V_chance.2.1 34 = .ok (.iload 4, 2) := by decide +kernel
theorem d_V_chance_36 : decode m_V_chance.2.1 36 = .ok (.iconst 0, 1) := by decide +kernel
theorem d_V_chance_37 : decode m_V_chance.2.1 37 = .ok (.iconst 1, 1) := by decide +kernel
theorem d_V_chance_38 : decode m_V_chance.2.1 38 = .ok (.invokestatic 50, 3) := by decide +kernel
theorem d_V_chance_41 : decode m_V_chance.2.1 41 = .ok (.ifCond .ne 7, 3) := by decide +kernel
theorem d_V_chance_44 : decode m_V_chance.2.1 44 = .ok (.ldc2_w 196, 3) := by decide +kernel
theorem d_V_chance_47 : decode m_V_chance.2.1 47 = .ok (.lreturn, 1) := by decide +kernel
theorem d_V_chance_48 : decode m_V_chance.2.1 48 = .ok (.aload_n 0, 1) := by decide +kernel
theorem d_V_chance_49 : decode m_V_chance.2.1 49 = .ok (.getfield 42, 3) := by decide +kernel
theorem d_V_chance_52 : decode m_V_chance.2.1 52 = .ok (.aload_n 0, 1) := by decide +kernel
theorem d_V_chance_53 : decode m_V_chance.2.1 53 = .ok (.getfield 10, 3) := by decide +kernel
theorem d_V_chance_56 : decode m_V_chance.2.1 56 = .ok (.iload_n 1, 1) := by decide +kernel
theorem d_V_chance_57 : decode m_V_chance.2.1 57 = .ok (.invokevirtual 198, 3) := by decide +kernel
theorem d_V_chance_60 : decode m_V_chance.2.1 60 = .ok (.iload_n 3, 1) := by decide +kernel
theorem d_V_chance_61 : decode m_V_chance.2.1 61 = .ok (.iconst (-1), 1) := by decide +kernel
theorem d_V_chance_62 : decode m_V_chance.2.1 62 = .ok (.if_icmp .ne 14, 3) := by decide +kernel
theorem d_V_chance_65 : decode m_V_chance.2.1 65 = .ok (.aload_n 0, 1) := by decide +kernel
theorem d_V_chance_66 : decode m_V_chance.2.1 66 = .ok (.getfield 42, 3) := by decide +kernel
theorem d_V_chance_69 : decode m_V_chance.2.1 69 = .ok (.iload_n 2, 1) := by decide +kernel
theorem d_V_chance_70 : decode m_V_chance.2.1 70 = .ok (.invokevirtual 202, 3) := by decide +kernel
theorem d_V_chance_73 : decode m_V_chance.2.1 73 = .ok (.goto 12, 3) := by decide +kernel
theorem d_V_chance_76 : decode m_V_chance.2.1 76 = .ok (.aload_n 0, 1) := by decide +kernel
theorem d_V_chance_77 : decode m_V_chance.2.1 77 = .ok (.getfield 42, 3) := by decide +kernel
theorem d_V_chance_80 : decode m_V_chance.2.1 80 = .ok (.iload_n 2, 1) := by decide +kernel
theorem d_V_chance_81 : decode m_V_chance.2.1 81 = .ok (.iload_n 3, 1) := by decide +kernel
theorem d_V_chance_82 : decode m_V_chance.2.1 82 = .ok (.invokevirtual 206, 3) := by decide +kernel
theorem d_V_chance_85 : decode m_V_chance.2.1 85 = .ok (.iload 4, 2) := by decide +kernel
theorem d_V_chance_87 : decode m_V_chance.2.1 87 = .ok (.ifCond .ne 13, 3) := by decide +kernel
theorem d_V_chance_90 : decode m_V_chance.2.1 90 = .ok (.aload_n 0, 1) := by decide +kernel
theorem d_V_chance_91 : decode m_V_chance.2.1 91 = .ok (.getfield 42, 3) := by decide +kernel
theorem d_V_chance_94 : decode m_V_chance.2.1 94 = .ok (.getfield 210, 3) := by decide +kernel
theorem d_V_chance_97 : decode m_V_chance.2.1 97 = .ok (.goto 10, 3) := by decide +kernel
theorem d_V_chance_100 : decode m_V_chance.2.1 100 = .ok (.aload_n 0, 1) := by decide +kernel
theorem d_V_chance_101 : decode m_V_chance.2.1 101 = .ok (.getfield 42, 3) := by decide +kernel
theorem d_V_chance_104 : decode m_V_chance.2.1 104 = .ok (.getfield 214, 3) := by decide +kernel
theorem d_V_chance_107 : decode m_V_chance.2.1 107 = .ok (.lreturn, 1) := by decide +kernel
theorem d_V_year_0 : decode m_V_year.2.1 0 = .ok (.iload_n 1, 1) := by decide +kernel
theorem d_V_year_1 : decode m_V_year.2.1 1 = .ok (.iconst 0, 1) := by decide +kernel
theorem d_V_year_2 : decode m_V_year.2.1 2 = .ok (.sipush 9999, 3) := by decide +kernel
theorem d_V_year_5 : decode m_V_year.2.1 5 = .ok (.invokestatic 50, 3) := by decide +kernel
theorem d_V_year_8 : decode m_V_year.2.1 8 = .ok (.ifCond .eq 22, 3) := by decide +kernel
theorem d_V_year_11 : decode m_V_year.2.1 11 = .ok (.iload_n 2, 1) := by decide +kernel
theorem d_V_year_12 : decode m_V_year.2.1 12 = .ok (.iconst 1, 1) := by decide +kernel
theorem d_V_year_13 : decode m_V_year.2.1 13 = .ok (.bipush 99, 2) := by decide +kernel
theorem d_V_year_15 : decode m_V_year.2.1 15 = .ok (.invokestatic 50, 3) := by decide +kernel
theorem d_V_year_18 : decode m_V_year.2.1 18 = .ok (.ifCond .eq 12, 3) := by decide +kernel
theorem d_V_year_21 : decode m_V_year.2.1 21 = .ok (.iload_n 3, 1) := by decide +kernel
theorem d_V_year_22 : decode m_V_year.2.1 22 = .ok (.iconst 0, 1) := by decide +kernel
theorem d_V_year_23 : decode m_V_year.2.1 23 = .ok (.iconst 2, 1) := by decide +kernel
theorem d_V_year_24 : decode m_V_year.2.1 24 = .ok (.invokestatic 50, 3) := by decide +kernel
theorem d_V_year_27 : decode m_V_year.2.1 27 = .ok (.ifCond .ne 6, 3) := by decide +kernel
theorem d_V_year_30 : decode m_V_year.2.1 30 = .ok (.bipush (-2), 2) := by decide +kernel
theorem d_V_year_32 : decode m_V_year.2.1 32 = .ok (.ireturn, 1) := by decide +kernel
theorem d_V_year_33 : decode m_V_year.2.1 33 = .ok (.aload_n 0, 1) := by decide +kernel
theorem d_V_year_34 : decode m_V_year.2.1 34 = .ok (.getfield 22, 3) := by decide +kernel
theorem d_V_year_37 : decode m_V_year.2.1 37 = .ok (.aload_n 0, 1) := by decide +kernel
theorem d_V_year_38 : decode m_V_year.2.1 38 = .ok (.getfield 10, 3) := by decide +kernel
theorem d_V_year_41 : decode m_V_year.2.1 41 = .ok (.invokevirtual 129, 3) := by decide +kernel
theorem d_V_year_44 : decode m_V_year.2.1 44 = .ok (.aload_n 0, 1) := by decide +kernel
theorem d_V_year_45 : decode m_V_year.2.1 45 = .ok (.getfield 22, 3) := by decide +kernel
theorem d_V_year_48 : decode m_V_year.2.1 48 = .ok (.iload_n 1, 1) := by decide +kernel
theorem d_V_year_49 : decode m_V_year.2.1 49 = .ok (.iload_n 2, 1) := by decide +kernel
theorem d_V_year_50 : decode m_V_year.2.1 50 = .ok (.invokevirtual 217, 3) := by decide +kernel
theorem d_V_year_53 : decode m_V_year.2.1 53 = .ok (.iload_n 3, 1) := by decide +kernel
theorem d_V_year_54 : decode m_V_year.2.1 54 = .ok (.ifCond .ne 11, 3) := by decide +kernel
theorem d_V_year_57 : decode m_V_year.2.1 57 = .ok (.aload_n 0, 1) := by decide +kernel
theorem d_V_year_58 : decode m_V_year.2.1 58 = .ok (.getfield 22, 3) := by decide +kernel
theorem d_V_year_61 : decode m_V_year.2.1 61 = .ok (.invokevirtual 220, 3) := by decide +kernel
theorem d_V_year_64 : decode m_V_year.2.1 64 = .ok (.ireturn, 1) := by decide +kernel
theorem d_V_year_65 : decode m_V_year.2.1 65 = .ok (.iload_n 3, 1) := by decide +kernel
theorem d_V_year_66 : decode m_V_year.2.1 66 = .ok (.iconst 1, 1) := by decide +kernel
theorem d_V_year_67 : decode m_V_year.2.1 67 = .ok (.if_icmp .ne 13, 3) := by decide +kernel
theorem d_V_year_70 : decode m_V_year.2.1 70 = .ok (.aload_n 0, 1) := by decide +kernel
theorem d_V_year_71 : decode m_V_year.2.1 71 = .ok (.getfield 22, 3) := by decide +kernel
theorem d_V_year_74 : decode m_V_year.2.1 74 = .ok (.getfield 87, 3) := by decide +kernel
theorem d_V_year_77 : decode m_V_year.2.1 77 = .ok (.goto 13, 3) := by decide +kernel
theorem d_V_year_80 : decode m_V_year.2.1 80 = .ok (.aload_n 0, 1) := by decide +kernel
theorem d_V_year_81 : decode m_V_year.2.1 81 = .ok (.getfield 22, 3) := by decide +kernel
theorem d_V_year_84 : decode m_V_year.2.1 84 = .ok (.getfield 102, 3) := by decide +kernel
theorem d_V_year_87 : decode m_V_year.2.1 87 = .ok (.invokestatic 189, 3) := by decide +kernel
theorem d_V_year_90 : decode m_V_year.2.1 90 = .ok (.ireturn, 1) := by decide +kernel
theorem d_V_image_0 : decode m_V_image.2.1 0 = .ok (.iload_n 1, 1) := by decide +kernel
theorem d_V_image_1 : decode m_V_image.2.1 1 = .ok (.iconst 0, 1) := by decide +kernel
theorem d_V_image_2 : decode m_V_image.2.1 2 = .ok (.iconst 1, 1) := by decide +kernel
theorem d_V_image_3 : decode m_V_image.2.1 3 = .ok (.invokestatic 50, 3) := by decide +kernel
theorem d_V_image_6 : decode m_V_image.2.1 6 = .ok (.ifCond .ne 6, 3) := by decide +kernel
theorem d_V_image_9 : decode m_V_image.2.1 9 = .ok (.bipush (-2), 2) := by decide +kernel
theorem d_V_image_11 : decode m_V_image.2.1 11 = .ok (.ireturn, 1) := by decide +kernel
theorem d_V_image_12 : decode m_V_image.2.1 12 = .ok (.aload_n 0, 1) := by decide +kernel
theorem d_V_image_13 : decode m_V_image.2.1 13 = .ok (.iload_n 1, 1) := by decide +kernel
theorem d_V_image_14 : decode m_V_image.2.1 14 = .ok (.invokevirtual 223, 3) := by decide +kernel
theorem d_V_image_17 : decode m_V_image.2.1 17 = .ok (.aload_n 0, 1) := by decide +kernel
theorem d_V_image_18 : decode m_V_image.2.1 18 = .ok (.getfield 10, 3) := by decide +kernel
theorem d_V_image_21 : decode m_V_image.2.1 21 = .ok (.invokevirtual 129, 3) := by decide +kernel
theorem d_V_image_24 : decode m_V_image.2.1 24 = .ok (.aload_n 0, 1) := by decide +kernel
theorem d_V_image_25 : decode m_V_image.2.1 25 = .ok (.dup, 1) := by decide +kernel
theorem d_V_image_26 : decode m_V_image.2.1 26 = .ok (.getfield 46, 3) := by decide +kernel
theorem d_V_image_29 : decode m_V_image.2.1 29 = .ok (.iconst 1, 1) := by decide +kernel
theorem d_V_image_30 : decode m_V_image.2.1 30 = .ok (.iload_n 1, 1) := by decide +kernel
theorem d_V_image_31 : decode m_V_image.2.1 31 = .ok (.ishl, 1) := by decide +kernel
theorem d_V_image_32 : decode m_V_image.2.1 32 = .ok (.ior, 1) := by decide +kernel
theorem d_V_image_33 : decode m_V_image.2.1 33 = .ok (.putfield 46, 3) := by decide +kernel
theorem d_V_image_36 : decode m_V_image.2.1 36 = .ok (.iconst 1, 1) := by decide +kernel
theorem d_V_image_37 : decode m_V_image.2.1 37 = .ok (.ireturn, 1) := by decide +kernel
theorem d_V_restore_0 : decode m_V_restore.2.1 0 = .ok (.iload_n 1, 1) := by decide +kernel
theorem d_V_restore_1 : decode m_V_restore.2.1 1 = .ok (.iconst 0, 1) := by decide +kernel
theorem d_V_restore_2 : decode m_V_restore.2.1 2 = .ok (.iconst 1, 1) := by decide +kernel
theorem d_V_restore_3 : decode m_V_restore.2.1 3 = .ok (.invokestatic 50, 3) := by decide +kernel
theorem d_V_restore_6 : decode m_V_restore.2.1 6 = .ok (.ifCond .ne 6, 3) := by decide +kernel
theorem d_V_restore_9 : decode m_V_restore.2.1 9 = .ok (.bipush (-2), 2) := by decide +kernel
theorem d_V_restore_11 : decode m_V_restore.2.1 11 = .ok (.ireturn, 1) := by decide +kernel
theorem d_V_restore_12 : decode m_V_restore.2.1 12 = .ok (.aload_n 0, 1) := by decide +kernel
theorem d_V_restore_13 : decode m_V_restore.2.1 13 = .ok (.getfield 46, 3) := by decide +kernel
theorem d_V_restore_16 : decode m_V_restore.2.1 16 = .ok (.iload_n 1, 1) := by decide +kernel
theorem d_V_restore_17 : decode m_V_restore.2.1 17 = .ok (.invokestatic 142, 3) := by decide +kernel
theorem d_V_restore_20 : decode m_V_restore.2.1 20 = .ok (.ifCond .ne 6, 3) := by decide +kernel
theorem d_V_restore_23 : decode m_V_restore.2.1 23 = .ok (.bipush (-3), 2) := by decide +kernel
theorem d_V_restore_25 : decode m_V_restore.2.1 25 = .ok (.ireturn, 1) := by decide +kernel
theorem d_V_restore_26 : decode m_V_restore.2.1 26 = .ok (.aload_n 0, 1) := by decide +kernel
theorem d_V_restore_27 : decode m_V_restore.2.1 27 = .ok (.getfield 10, 3) := by decide +kernel
theorem d_V_restore_30 : decode m_V_restore.2.1 30 = .ok (.aload_n 0, 1) := by decide +kernel
theorem d_V_restore_31 : decode m_V_restore.2.1 31 = .ok (.iload_n 1, 1) := by decide +kernel
theorem d_V_restore_32 : decode m_V_restore.2.1 32 = .ok (.invokevirtual 223, 3) := by decide +kernel
theorem d_V_restore_35 : decode m_V_restore.2.1 35 = .ok (.invokevirtual 129, 3) := by decide +kernel
theorem d_V_restore_38 : decode m_V_restore.2.1 38 = .ok (.iconst 1, 1) := by decide +kernel
theorem d_V_restore_39 : decode m_V_restore.2.1 39 = .ok (.ireturn, 1) := by decide +kernel
theorem d_V_imageNumbered_0 : decode m_V_imageNumbered.2.1 0 = .ok (.iload_n 1, 1) := by decide +kernel
theorem d_V_imageNumbered_1 : decode m_V_imageNumbered.2.1 1 = .ok (.ifCond .ne 10, 3) := by decide +kernel
theorem d_V_imageNumbered_4 : decode m_V_imageNumbered.2.1 4 = .ok (.aload_n 0, 1) := by decide +kernel
theorem d_V_imageNumbered_5 : decode m_V_imageNumbered.2.1 5 = .ok (.getfield 16, 3) := by decide +kernel
theorem d_V_imageNumbered_8 : decode m_V_imageNumbered.2.1 8 = .ok (.goto 7, 3) := by decide +kernel
theorem d_V_imageNumbered_11 : decode m_V_imageNumbered.2.1 11 = .ok (.aload_n 0, 1) := by decide +kernel
theorem d_V_imageNumbered_12 : decode m_V_imageNumbered.2.1 12 = .ok (.getfield 19, 3) := by decide +kernel
theorem d_V_imageNumbered_15 : decode m_V_imageNumbered.2.1 15 = .ok (.areturn, 1) := by decide +kernel
theorem d_V_told_0 : decode m_V_told.2.1 0 = .ok (.iload_n 1, 1) := by decide +kernel
theorem d_V_told_1 : decode m_V_told.2.1 1 = .ok (.iconst 0, 1) := by decide +kernel
theorem d_V_told_2 : decode m_V_told.2.1 2 = .ok (.bipush 8, 2) := by decide +kernel
theorem d_V_told_4 : decode m_V_told.2.1 4 = .ok (.invokestatic 50, 3) := by decide +kernel
theorem d_V_told_7 : decode m_V_told.2.1 7 = .ok (.ifCond .eq 9, 3) := by decide +kernel
theorem d_V_told_10 : decode m_V_told.2.1 10 = .ok (.aload_n 0, 1) := by decide +kernel
theorem d_V_told_11 : decode m_V_told.2.1 11 = .ok (.iload_n 1, 1) := by decide +kernel
theorem d_V_told_12 : decode m_V_told.2.1 12 = .ok (.invokevirtual 227, 3) := by decide +kernel
theorem d_V_told_15 : decode m_V_told.2.1 15 = .ok (.ireturn, 1) := by decide +kernel
theorem d_V_told_16 : decode m_V_told.2.1 16 = .ok (.iload_n 1, 1) := by decide +kernel
theorem d_V_told_17 : decode m_V_told.2.1 17 = .ok (.bipush 20, 2) := by decide +kernel
theorem d_V_told_19 : decode m_V_told.2.1 19 = .ok (.bipush 31, 2) := by decide +kernel
theorem d_V_told_21 : decode m_V_told.2.1 21 = .ok (.invokestatic 50, 3) := by decide +kernel
theorem d_V_told_24 : decode m_V_told.2.1 24 = .ok (.ifCond .eq 16, 3) := by decide +kernel
theorem d_V_told_27 : decode m_V_told.2.1 27 = .ok (.aload_n 0, 1) := by decide +kernel
theorem d_V_told_28 : decode m_V_told.2.1 28 = .ok (.getfield 10, 3) := by decide +kernel
theorem d_V_told_31 : decode m_V_told.2.1 31 = .ok (.getfield 54, 3) := by decide +kernel
theorem d_V_told_34 : decode m_V_told.2.1 34 = .ok (.iload_n 1, 1) := by decide +kernel
theorem d_V_told_35 : decode m_V_told.2.1 35 = .ok (.bipush 20, 2) := by decide +kernel
theorem d_V_told_37 : decode m_V_told.2.1 37 = .ok (.isub, 1) := by decide +kernel
theorem d_V_told_38 : decode m_V_told.2.1 38 = .ok (.iaload, 1) := by decide +kernel
theorem d_V_told_39 : decode m_V_told.2.1 39 = .ok (.ireturn, 1) := by decide +kernel
theorem d_V_told_40 : decode m_V_told.2.1 40 = .ok (.iload_n 1, 1) := by decide +kernel
theorem d_V_told_41 : decode m_V_told.2.1 41 = .ok (.bipush 40, 2) := by decide +kernel
theorem d_V_told_43 : decode m_V_told.2.1 43 = .ok (.bipush 50, 2) := by decide +kernel
theorem d_V_told_45 : decode m_V_told.2.1 45 = .ok (.invokestatic 50, 3) := by decide +kernel
theorem d_V_told_48 : decode m_V_told.2.1 48 = .ok (.ifCond .eq 16, 3) := by decide +kernel
theorem d_V_told_51 : decode m_V_told.2.1 51 = .ok (.aload_n 0, 1) := by decide +kernel
theorem d_V_told_52 : decode m_V_told.2.1 52 = .ok (.getfield 10, 3) := by decide +kernel
theorem d_V_told_55 : decode m_V_told.2.1 55 = .ok (.getfield 68, 3) := by decide +kernel
theorem d_V_told_58 : decode m_V_told.2.1 58 = .ok (.iload_n 1, 1) := by decide +kernel
theorem d_V_told_59 : decode m_V_told.2.1 59 = .ok (.bipush 40, 2) := by decide +kernel
theorem d_V_told_61 : decode m_V_told.2.1 61 = .ok (.isub, 1) := by decide +kernel
theorem d_V_told_62 : decode m_V_told.2.1 62 = .ok (.iaload, 1) := by decide +kernel
theorem d_V_told_63 : decode m_V_told.2.1 63 = .ok (.ireturn, 1) := by decide +kernel
theorem d_V_told_64 : decode m_V_told.2.1 64 = .ok (.iload_n 1, 1) := by decide +kernel
theorem d_V_told_65 : decode m_V_told.2.1 65 = .ok (.bipush 100, 2) := by decide +kernel
theorem d_V_told_67 : decode m_V_told.2.1 67 = .ok (.sipush 159, 3) := by decide +kernel
theorem d_V_told_70 : decode m_V_told.2.1 70 = .ok (.invokestatic 50, 3) := by decide +kernel
theorem d_V_told_73 : decode m_V_told.2.1 73 = .ok (.ifCond .eq 19, 3) := by decide +kernel
theorem d_V_told_76 : decode m_V_told.2.1 76 = .ok (.aload_n 0, 1) := by decide +kernel
theorem d_V_told_77 : decode m_V_told.2.1 77 = .ok (.iload_n 1, 1) := by decide +kernel
theorem d_V_told_78 : decode m_V_told.2.1 78 = .ok (.bipush 100, 2) := by decide +kernel
theorem d_V_told_80 : decode m_V_told.2.1 80 = .ok (.isub, 1) := by decide +kernel
theorem d_V_told_81 : decode m_V_told.2.1 81 = .ok (.bipush 10, 2) := by decide +kernel
theorem d_V_told_83 : decode m_V_told.2.1 83 = .ok (.idiv, 1) := by decide +kernel
theorem d_V_told_84 : decode m_V_told.2.1 84 = .ok (.iload_n 1, 1) := by decide +kernel
theorem d_V_told_85 : decode m_V_told.2.1 85 = .ok (.bipush 10, 2) := by decide +kernel
theorem d_V_told_87 : decode m_V_told.2.1 87 = .ok (.irem, 1) := by decide +kernel
theorem d_V_told_88 : decode m_V_told.2.1 88 = .ok (.invokevirtual 230, 3) := by decide +kernel
theorem d_V_told_91 : decode m_V_told.2.1 91 = .ok (.ireturn, 1) := by decide +kernel
theorem d_V_told_92 : decode m_V_told.2.1 92 = .ok (.bipush (-2), 2) := by decide +kernel
theorem d_V_told_94 : decode m_V_told.2.1 94 = .ok (.ireturn, 1) := by decide +kernel
theorem d_V_toldOfAll_0 : decode m_V_toldOfAll.2.1 0 = .ok (.iload_n 1, 1) := by decide +kernel
theorem d_V_toldOfAll_1 : decode m_V_toldOfAll.2.1 1 = .ok (.tableswitch 111 0 7 #[47, 55, 63, 71, 79, 87, 95, 103], 47) := by decide +kernel
theorem d_V_toldOfAll_48 : decode m_V_toldOfAll.2.1 48 = .ok (.aload_n 0, 1) := by decide +kernel
theorem d_V_toldOfAll_49 : decode m_V_toldOfAll.2.1 49 = .ok (.getfield 28, 3) := by decide +kernel
theorem d_V_toldOfAll_52 : decode m_V_toldOfAll.2.1 52 = .ok (.getfield 109, 3) := by decide +kernel
theorem d_V_toldOfAll_55 : decode m_V_toldOfAll.2.1 55 = .ok (.ireturn, 1) := by decide +kernel
theorem d_V_toldOfAll_56 : decode m_V_toldOfAll.2.1 56 = .ok (.aload_n 0, 1) := by decide +kernel
theorem d_V_toldOfAll_57 : decode m_V_toldOfAll.2.1 57 = .ok (.getfield 10, 3) := by decide +kernel
theorem d_V_toldOfAll_60 : decode m_V_toldOfAll.2.1 60 = .ok (.getfield 87, 3) := by decide +kernel
theorem d_V_toldOfAll_63 : decode m_V_toldOfAll.2.1 63 = .ok (.ireturn, 1) := by decide +kernel
theorem d_V_toldOfAll_64 : decode m_V_toldOfAll.2.1 64 = .ok (.aload_n 0, 1) := by decide +kernel
theorem d_V_toldOfAll_65 : decode m_V_toldOfAll.2.1 65 = .ok (.getfield 10, 3) := by decide +kernel
theorem d_V_toldOfAll_68 : decode m_V_toldOfAll.2.1 68 = .ok (.getfield 136, 3) := by decide +kernel
theorem d_V_toldOfAll_71 : decode m_V_toldOfAll.2.1 71 = .ok (.ireturn, 1) := by decide +kernel
theorem d_V_toldOfAll_72 : decode m_V_toldOfAll.2.1 72 = .ok (.aload_n 0, 1) := by decide +kernel
theorem d_V_toldOfAll_73 : decode m_V_toldOfAll.2.1 73 = .ok (.getfield 10, 3) := by decide +kernel
theorem d_V_toldOfAll_76 : decode m_V_toldOfAll.2.1 76 = .ok (.getfield 58, 3) := by decide +kernel
theorem d_V_toldOfAll_79 : decode m_V_toldOfAll.2.1 79 = .ok (.ireturn, 1) := by decide +kernel
theorem d_V_toldOfAll_80 : decode m_V_toldOfAll.2.1 80 = .ok (.aload_n 0, 1) := by decide +kernel
theorem d_V_toldOfAll_81 : decode m_V_toldOfAll.2.1 81 = .ok (.getfield 10, 3) := by decide +kernel
theorem d_V_toldOfAll_84 : decode m_V_toldOfAll.2.1 84 = .ok (.getfield 65, 3) := by decide +kernel
theorem d_V_toldOfAll_87 : decode m_V_toldOfAll.2.1 87 = .ok (.ireturn, 1) := by decide +kernel
theorem d_V_toldOfAll_88 : decode m_V_toldOfAll.2.1 88 = .ok (.aload_n 0, 1) := by decide +kernel
theorem d_V_toldOfAll_89 : decode m_V_toldOfAll.2.1 89 = .ok (.getfield 10, 3) := by decide +kernel
theorem d_V_toldOfAll_92 : decode m_V_toldOfAll.2.1 92 = .ok (.getfield 102, 3) := by decide +kernel
theorem d_V_toldOfAll_95 : decode m_V_toldOfAll.2.1 95 = .ok (.ireturn, 1) := by decide +kernel
theorem d_V_toldOfAll_96 : decode m_V_toldOfAll.2.1 96 = .ok (.aload_n 0, 1) := by decide +kernel
theorem d_V_toldOfAll_97 : decode m_V_toldOfAll.2.1 97 = .ok (.getfield 10, 3) := by decide +kernel
theorem d_V_toldOfAll_100 : decode m_V_toldOfAll.2.1 100 = .ok (.getfield 167, 3) := by decide +kernel
theorem d_V_toldOfAll_103 : decode m_V_toldOfAll.2.1 103 = .ok (.ireturn, 1) := by decide +kernel
theorem d_V_toldOfAll_104 : decode m_V_toldOfAll.2.1 104 = .ok (.aload_n 0, 1) := by decide +kernel
theorem d_V_toldOfAll_105 : decode m_V_toldOfAll.2.1 105 = .ok (.getfield 10, 3) := by decide +kernel
theorem d_V_toldOfAll_108 : decode m_V_toldOfAll.2.1 108 = .ok (.getfield 81, 3) := by decide +kernel
theorem d_V_toldOfAll_111 : decode m_V_toldOfAll.2.1 111 = .ok (.ireturn, 1) := by decide +kernel
theorem d_V_toldOfAll_112 : decode m_V_toldOfAll.2.1 112 = .ok (.aload_n 0, 1) := by decide +kernel
theorem d_V_toldOfAll_113 : decode m_V_toldOfAll.2.1 113 = .ok (.getfield 10, 3) := by decide +kernel
theorem d_V_toldOfAll_116 : decode m_V_toldOfAll.2.1 116 = .ok (.getfield 84, 3) := by decide +kernel
theorem d_V_toldOfAll_119 : decode m_V_toldOfAll.2.1 119 = .ok (.iconst 3, 1) := by decide +kernel
theorem d_V_toldOfAll_120 : decode m_V_toldOfAll.2.1 120 = .ok (.iadd, 1) := by decide +kernel
theorem d_V_toldOfAll_121 : decode m_V_toldOfAll.2.1 121 = .ok (.ireturn, 1) := by decide +kernel
theorem d_V_toldOfLetter_0 : decode m_V_toldOfLetter.2.1 0 = .ok (.iload_n 2, 1) := by decide +kernel
theorem d_V_toldOfLetter_1 : decode m_V_toldOfLetter.2.1 1 = .ok (.tableswitch 71 0 3 #[31, 41, 51, 61], 31) := by decide +kernel
theorem d_V_toldOfLetter_32 : decode m_V_toldOfLetter.2.1 32 = .ok (.aload_n 0, 1) := by decide +kernel
theorem d_V_toldOfLetter_33 : decode m_V_toldOfLetter.2.1 33 = .ok (.getfield 10, 3) := by decide +kernel
theorem d_V_toldOfLetter_36 : decode m_V_toldOfLetter.2.1 36 = .ok (.getfield 90, 3) := by decide +kernel
theorem d_V_toldOfLetter_39 : decode m_V_toldOfLetter.2.1 39 = .ok (.iload_n 1, 1) := by decide +kernel
theorem d_V_toldOfLetter_40 : decode m_V_toldOfLetter.2.1 40 = .ok (.iaload, 1) := by decide +kernel
theorem d_V_toldOfLetter_41 : decode m_V_toldOfLetter.2.1 41 = .ok (.ireturn, 1) := by decide +kernel
theorem d_V_toldOfLetter_42 : decode m_V_toldOfLetter.2.1 42 = .ok (.aload_n 0, 1) := by decide +kernel
theorem d_V_toldOfLetter_43 : decode m_V_toldOfLetter.2.1 43 = .ok (.getfield 10, 3) := by decide +kernel
theorem d_V_toldOfLetter_46 : decode m_V_toldOfLetter.2.1 46 = .ok (.getfield 93, 3) := by decide +kernel
theorem d_V_toldOfLetter_49 : decode m_V_toldOfLetter.2.1 49 = .ok (.iload_n 1, 1) := by decide +kernel
theorem d_V_toldOfLetter_50 : decode m_V_toldOfLetter.2.1 50 = .ok (.iaload, 1) := by decide +kernel
theorem d_V_toldOfLetter_51 : decode m_V_toldOfLetter.2.1 51 = .ok (.ireturn, 1) := by decide +kernel
theorem d_V_toldOfLetter_52 : decode m_V_toldOfLetter.2.1 52 = .ok (.aload_n 0, 1) := by decide +kernel
theorem d_V_toldOfLetter_53 : decode m_V_toldOfLetter.2.1 53 = .ok (.getfield 10, 3) := by decide +kernel
theorem d_V_toldOfLetter_56 : decode m_V_toldOfLetter.2.1 56 = .ok (.getfield 96, 3) := by decide +kernel
theorem d_V_toldOfLetter_59 : decode m_V_toldOfLetter.2.1 59 = .ok (.iload_n 1, 1) := by decide +kernel
theorem d_V_toldOfLetter_60 : decode m_V_toldOfLetter.2.1 60 = .ok (.iaload, 1) := by decide +kernel
theorem d_V_toldOfLetter_61 : decode m_V_toldOfLetter.2.1 61 = .ok (.ireturn, 1) := by decide +kernel
theorem d_V_toldOfLetter_62 : decode m_V_toldOfLetter.2.1 62 = .ok (.aload_n 0, 1) := by decide +kernel
theorem d_V_toldOfLetter_63 : decode m_V_toldOfLetter.2.1 63 = .ok (.getfield 10, 3) := by decide +kernel
theorem d_V_toldOfLetter_66 : decode m_V_toldOfLetter.2.1 66 = .ok (.getfield 99, 3) := by decide +kernel
theorem d_V_toldOfLetter_69 : decode m_V_toldOfLetter.2.1 69 = .ok (.iload_n 1, 1) := by decide +kernel
theorem d_V_toldOfLetter_70 : decode m_V_toldOfLetter.2.1 70 = .ok (.iaload, 1) := by decide +kernel
theorem d_V_toldOfLetter_71 : decode m_V_toldOfLetter.2.1 71 = .ok (.ireturn, 1) := by decide +kernel
theorem d_V_toldOfLetter_72 : decode m_V_toldOfLetter.2.1 72 = .ok (.bipush (-2), 2) := by decide +kernel
theorem d_V_toldOfLetter_74 : decode m_V_toldOfLetter.2.1 74 = .ok (.ireturn, 1) := by decide +kernel
theorem d_V_within_0 : decode m_V_within.2.1 0 = .ok (.iload_n 0, 1) := by decide +kernel
theorem d_V_within_1 : decode m_V_within.2.1 1 = .ok (.iload_n 1, 1) := by decide +kernel
theorem d_V_within_2 : decode m_V_within.2.1 2 = .ok (.if_icmp .lt 12, 3) := by decide +kernel
theorem d_V_within_5 : decode m_V_within.2.1 5 = .ok (.iload_n 0, 1) := by decide +kernel
theorem d_V_within_6 : decode m_V_within.2.1 6 = .ok (.iload_n 2, 1) := by decide +kernel
theorem d_V_within_7 : decode m_V_within.2.1 7 = .ok (.if_icmp .gt 7, 3) := by decide +kernel
theorem d_V_within_10 : decode m_V_within.2.1 10 = .ok (.iconst 1, 1) := by decide +kernel
theorem d_V_within_11 : decode m_V_within.2.1 11 = .ok (.goto 4, 3) := by decide +kernel
theorem d_V_within_14 : decode m_V_within.2.1 14 = .ok (.iconst 0, 1) := by decide +kernel
theorem d_V_within_15 : decode m_V_within.2.1 15 = .ok (.ireturn, 1) := by decide +kernel
theorem d_V_hasBit_0 : decode m_V_hasBit.2.1 0 = .ok (.iload_n 0, 1) := by decide +kernel
theorem d_V_hasBit_1 : decode m_V_hasBit.2.1 1 = .ok (.iload_n 1, 1) := by decide +kernel
theorem d_V_hasBit_2 : decode m_V_hasBit.2.1 2 = .ok (.ishr, 1) := by decide +kernel
theorem d_V_hasBit_3 : decode m_V_hasBit.2.1 3 = .ok (.iconst 1, 1) := by decide +kernel
theorem d_V_hasBit_4 : decode m_V_hasBit.2.1 4 = .ok (.iand, 1) := by decide +kernel
theorem d_V_hasBit_5 : decode m_V_hasBit.2.1 5 = .ok (.iconst 1, 1) := by decide +kernel
theorem d_V_hasBit_6 : decode m_V_hasBit.2.1 6 = .ok (.if_icmp .ne 7, 3) := by decide +kernel
theorem d_V_hasBit_9 : decode m_V_hasBit.2.1 9 = .ok (.iconst 1, 1) := by decide +kernel
theorem d_V_hasBit_10 : decode m_V_hasBit.2.1 10 = .ok (.goto 4, 3) := by decide +kernel
theorem d_V_hasBit_13 : decode m_V_hasBit.2.1 13 = .ok (.iconst 0, 1) := by decide +kernel
theorem d_V_hasBit_14 : decode m_V_hasBit.2.1 14 = .ok (.ireturn, 1) := by decide +kernel
theorem d_V_withBit_0 : decode m_V_withBit.2.1 0 = .ok (.iload_n 2, 1) := by decide +kernel
theorem d_V_withBit_1 : decode m_V_withBit.2.1 1 = .ok (.ifCond .eq 11, 3) := by decide +kernel
theorem d_V_withBit_4 : decode m_V_withBit.2.1 4 = .ok (.iload_n 0, 1) := by decide +kernel
theorem d_V_withBit_5 : decode m_V_withBit.2.1 5 = .ok (.iconst 1, 1) := by decide +kernel
theorem d_V_withBit_6 : decode m_V_withBit.2.1 6 = .ok (.iload_n 1, 1) := by decide +kernel
theorem d_V_withBit_7 : decode m_V_withBit.2.1 7 = .ok (.ishl, 1) := by decide +kernel
theorem d_V_withBit_8 : decode m_V_withBit.2.1 8 = .ok (.ior, 1) := by decide +kernel
theorem d_V_withBit_9 : decode m_V_withBit.2.1 9 = .ok (.goto 10, 3) := by decide +kernel
theorem d_V_withBit_12 : decode m_V_withBit.2.1 12 = .ok (.iload_n 0, 1) := by decide +kernel
theorem d_V_withBit_13 : decode m_V_withBit.2.1 13 = .ok (.iconst 1, 1) := by decide +kernel
theorem d_V_withBit_14 : decode m_V_withBit.2.1 14 = .ok (.iload_n 1, 1) := by decide +kernel
theorem d_V_withBit_15 : decode m_V_withBit.2.1 15 = .ok (.ishl, 1) := by decide +kernel
theorem d_V_withBit_16 : decode m_V_withBit.2.1 16 = .ok (.iconst (-1), 1) := by decide +kernel
theorem d_V_withBit_17 : decode m_V_withBit.2.1 17 = .ok (.ixor, 1) := by decide +kernel
theorem d_V_withBit_18 : decode m_V_withBit.2.1 18 = .ok (.iand, 1) := by decide +kernel
theorem d_V_withBit_19 : decode m_V_withBit.2.1 19 = .ok (.ireturn, 1) := by decide +kernel
theorem d_C_init_0 : decode m_C_init.2.1 0 = .ok (.aload_n 0, 1) := by decide +kernel
theorem d_C_init_1 : decode m_C_init.2.1 1 = .ok (.invokespecial 3, 3) := by decide +kernel
theorem d_C_init_4 : decode m_C_init.2.1 4 = .ok (.aload_n 0, 1) := by decide +kernel
theorem d_C_init_5 : decode m_C_init.2.1 5 = .ok (.bipush 12, 2) := by decide +kernel
theorem d_C_init_7 : decode m_C_init.2.1 7 = .ok (.newarray .long, 2) := by decide +kernel
theorem d_C_init_9 : decode m_C_init.2.1 9 = .ok (.putfield 9, 3) := by decide +kernel
theorem d_C_init_12 : decode m_C_init.2.1 12 = .ok (.aload_n 0, 1) := by decide +kernel
theorem d_C_init_13 : decode m_C_init.2.1 13 = .ok (.iconst 0, 1) := by decide +kernel
theorem d_C_init_14 : decode m_C_init.2.1 14 = .ok (.putfield 15, 3) := by decide +kernel
theorem d_C_init_17 : decode m_C_init.2.1 17 = .ok (.aload_n 0, 1) := by decide +kernel
theorem d_C_init_18 : decode m_C_init.2.1 18 = .ok (.iconst 0, 1) := by decide +kernel
theorem d_C_init_19 : decode m_C_init.2.1 19 = .ok (.putfield 19, 3) := by decide +kernel
theorem d_C_init_22 : decode m_C_init.2.1 22 = .ok (.aload_n 0, 1) := by decide +kernel
theorem d_C_init_23 : decode m_C_init.2.1 23 = .ok (.lconst 0, 1) := by decide +kernel
theorem d_C_init_24 : decode m_C_init.2.1 24 = .ok (.putfield 22, 3) := by decide +kernel
theorem d_C_init_27 : decode m_C_init.2.1 27 = .ok (.aload_n 0, 1) := by decide +kernel
theorem d_C_init_28 : decode m_C_init.2.1 28 = .ok (.lconst 1, 1) := by decide +kernel
theorem d_C_init_29 : decode m_C_init.2.1 29 = .ok (.putfield 26, 3) := by decide +kernel
theorem d_C_init_32 : decode m_C_init.2.1 32 = .ok (.return_, 1) := by decide +kernel
theorem d_C_weigh_0 : decode m_C_weigh.2.1 0 = .ok (.iconst 1, 1) := by decide +kernel
theorem d_C_weigh_1 : decode m_C_weigh.2.1 1 = .ok (.iload_n 2, 1) := by decide +kernel
theorem d_C_weigh_2 : decode m_C_weigh.2.1 2 = .ok (.ishl, 1) := by decide +kernel
theorem d_C_weigh_3 : decode m_C_weigh.2.1 3 = .ok (.iconst (-1), 1) := by decide +kernel
theorem d_C_weigh_4 : decode m_C_weigh.2.1 4 = .ok (.ixor, 1) := by decide +kernel
theorem d_C_weigh_5 : decode m_C_weigh.2.1 5 = .ok (.istore_n 3, 1) := by decide +kernel
theorem d_C_weigh_6 : decode m_C_weigh.2.1 6 = .ok (.aload_n 1, 1) := by decide +kernel
theorem d_C_weigh_7 : decode m_C_weigh.2.1 7 = .ok (.iload_n 2, 1) := by decide +kernel
theorem d_C_weigh_8 : decode m_C_weigh.2.1 8 = .ok (.iconst 0, 1) := by decide +kernel
theorem d_C_weigh_9 : decode m_C_weigh.2.1 9 = .ok (.invokevirtual 29, 3) := by decide +kernel
theorem d_C_weigh_12 : decode m_C_weigh.2.1 12 = .ok (.iload_n 3, 1) := by decide +kernel
theorem d_C_weigh_13 : decode m_C_weigh.2.1 13 = .ok (.iand, 1) := by decide +kernel
theorem d_C_weigh_14 : decode m_C_weigh.2.1 14 = .ok (.istore 4, 2) := by decide +kernel
theorem d_C_weigh_16 : decode m_C_weigh.2.1 16 = .ok (.aload_n 1, 1) := by decide +kernel
theorem d_C_weigh_17 : decode m_C_weigh.2.1 17 = .ok (.iload_n 2, 1) := by decide +kernel
theorem d_C_weigh_18 : decode m_C_weigh.2.1 18 = .ok (.sipush 4095, 3) := by decide +kernel
theorem d_C_weigh_21 : decode m_C_weigh.2.1 21 = .ok (.invokevirtual 29, 3) := by decide +kernel
theorem d_C_weigh_24 : decode m_C_weigh.2.1 24 = .ok (.iload_n 3, 1) := by decide +kernel
theorem d_C_weigh_25 : decode m_C_weigh.2.1 25 = .ok (.iand, 1) := by decide +kernel
theorem d_C_weigh_26 : decode m_C_weigh.2.1 26 = .ok (.istore 5, 2) := by decide +kernel
theorem d_C_weigh_28 : decode m_C_weigh.2.1 28 = .ok (.aload_n 0, 1) := by decide +kernel
theorem d_C_weigh_29 : decode m_C_weigh.2.1 29 = .ok (.iload 4, 2) := by decide +kernel
theorem d_C_weigh_31 : decode m_C_weigh.2.1 31 = .ok (.invokestatic 35, 3) := by decide +kernel
theorem d_C_weigh_34 : decode m_C_weigh.2.1 34 = .ok (.putfield 15, 3) := by decide +kernel
theorem d_C_weigh_37 : decode m_C_weigh.2.1 37 = .ok (.aload_n 0, 1) := by decide +kernel
theorem d_C_weigh_38 : decode m_C_weigh.2.1 38 = .ok (.iload 5, 2) := by decide +kernel
theorem d_C_weigh_40 : decode m_C_weigh.2.1 40 = .ok (.invokestatic 35, 3) := by decide +kernel
theorem d_C_weigh_43 : decode m_C_weigh.2.1 43 = .ok (.aload_n 0, 1) := by decide +kernel
theorem d_C_weigh_44 : decode m_C_weigh.2.1 44 = .ok (.getfield 15, 3) := by decide +kernel
theorem d_C_weigh_47 : decode m_C_weigh.2.1 47 = .ok (.isub, 1) := by decide +kernel
theorem d_C_weigh_48 : decode m_C_weigh.2.1 48 = .ok (.putfield 19, 3) := by decide +kernel
theorem d_C_weigh_51 : decode m_C_weigh.2.1 51 = .ok (.return_, 1) := by decide +kernel
theorem d_C_findMean_0 : decode m_C_findMean.2.1 0 = .ok (.aload_n 0, 1) := by decide +kernel
theorem d_C_findMean_1 : decode m_C_findMean.2.1 1 = .ok (.bipush 10, 2) := by decide +kernel
theorem d_C_findMean_3 : decode m_C_findMean.2.1 3 = .ok (.aload_n 0, 1) := by decide +kernel
theorem d_C_findMean_4 : decode m_C_findMean.2.1 4 = .ok (.getfield 15, 3) := by decide +kernel
theorem d_C_findMean_7 : decode m_C_findMean.2.1 7 = .ok (.imul, 1) := by decide +kernel
theorem d_C_findMean_8 : decode m_C_findMean.2.1 8 = .ok (.iload_n 1, 1) := by decide +kernel
theorem d_C_findMean_9 : decode m_C_findMean.2.1 9 = .ok (.aload_n 0, 1) := by decide +kernel
theorem d_C_findMean_10 : decode m_C_findMean.2.1 10 = .ok (.getfield 19, 3) := by decide +kernel
theorem d_C_findMean_13 : decode m_C_findMean.2.1 13 = .ok (.imul, 1) := by decide +kernel
theorem d_C_findMean_14 : decode m_C_findMean.2.1 14 = .ok (.iadd, 1) := by decide +kernel
theorem d_C_findMean_15 : decode m_C_findMean.2.1 15 = .ok (.i2l, 1) := by decide +kernel
theorem d_C_findMean_16 : decode m_C_findMean.2.1 16 = .ok (.ldc2_w 41, 3) := by decide +kernel
theorem d_C_findMean_19 : decode m_C_findMean.2.1 19 = .ok (.invokevirtual 43, 3) := by decide +kernel
theorem d_C_findMean_22 : decode m_C_findMean.2.1 22 = .ok (.return_, 1) := by decide +kernel
theorem d_C_findAtMost_0 : decode m_C_findAtMost.2.1 0 = .ok (.aload_n 0, 1) := by decide +kernel
theorem d_C_findAtMost_1 : decode m_C_findAtMost.2.1 1 = .ok (.iload_n 1, 1) := by decide +kernel
theorem d_C_findAtMost_2 : decode m_C_findAtMost.2.1 2 = .ok (.invokevirtual 47, 3) := by decide +kernel
theorem d_C_findAtMost_5 : decode m_C_findAtMost.2.1 5 = .ok (.lconst 0, 1) := by decide +kernel
theorem d_C_findAtMost_6 : decode m_C_findAtMost.2.1 6 = .ok (.lstore_n 3, 1) := by decide +kernel
theorem d_C_findAtMost_7 : decode m_C_findAtMost.2.1 7 = .ok (.lconst 0, 1) := by decide +kernel
theorem d_C_findAtMost_8 : decode m_C_findAtMost.2.1 8 = .ok (.lstore 5, 2) := by decide +kernel
theorem d_C_findAtMost_10 : decode m_C_findAtMost.2.1 10 = .ok (.iconst 0, 1) := by decide +kernel
theorem d_C_findAtMost_11 : decode m_C_findAtMost.2.1 11 = .ok (.istore 7, 2) := by decide +kernel
theorem d_C_findAtMost_13 : decode m_C_findAtMost.2.1 13 = .ok (.iload 7, 2) := by decide +kernel
theorem d_C_findAtMost_15 : decode m_C_findAtMost.2.1 15 = .ok (.aload_n 0, 1) := by decide +kernel
theorem d_C_findAtMost_16 : decode m_C_findAtMost.2.1 16 = .ok (.getfield 19, 3) := by decide +kernel
theorem d_C_findAtMost_19 : decode m_C_findAtMost.2.1 19 = .ok (.if_icmp .gt 49, 3) := by decide +kernel
theorem d_C_findAtMost_22 : decode m_C_findAtMost.2.1 22 = .ok (.iload 7, 2) := by decide +kernel
theorem d_C_findAtMost_24 : decode m_C_findAtMost.2.1 24 = .ok (.bipush 12, 2) := by decide +kernel
theorem d_C_findAtMost_26 : decode m_C_findAtMost.2.1 26 = .ok (.if_icmp .ge 42, 3) := by decide +kernel
theorem d_C_findAtMost_29 : decode m_C_findAtMost.2.1 29 = .ok (.lload_n 3, 1) := by decide +kernel
theorem d_C_findAtMost_30 : decode m_C_findAtMost.2.1 30 = .ok (.aload_n 0, 1) := by decide +kernel
theorem d_C_findAtMost_31 : decode m_C_findAtMost.2.1 31 = .ok (.getfield 9, 3) := by decide +kernel
theorem d_C_findAtMost_34 : decode m_C_findAtMost.2.1 34 = .ok (.iload 7, 2) := by decide +kernel
theorem d_C_findAtMost_36 : decode m_C_findAtMost.2.1 36 = .ok (.laload, 1) := by decide +kernel
theorem d_C_findAtMost_37 : decode m_C_findAtMost.2.1 37 = .ok (.ladd, 1) := by decide +kernel
theorem d_C_findAtMost_38 : decode m_C_findAtMost.2.1 38 = .ok (.lstore_n 3, 1) := by decide +kernel
theorem d_C_findAtMost_39 : decode m_C_findAtMost.2.1 39 = .ok (.aload_n 0, 1) := by decide +kernel
theorem d_C_findAtMost_40 : decode m_C_findAtMost.2.1 40 = .ok (.getfield 15, 3) := by decide +kernel
theorem d_C_findAtMost_43 : decode m_C_findAtMost.2.1 43 = .ok (.iload 7, 2) := by decide +kernel
theorem d_C_findAtMost_45 : decode m_C_findAtMost.2.1 45 = .ok (.iadd, 1) := by decide +kernel
theorem d_C_findAtMost_46 : decode m_C_findAtMost.2.1 46 = .ok (.iload_n 2, 1) := by decide +kernel
theorem d_C_findAtMost_47 : decode m_C_findAtMost.2.1 47 = .ok (.if_icmp .gt 15, 3) := by decide +kernel
theorem d_C_findAtMost_50 : decode m_C_findAtMost.2.1 50 = .ok (.lload 5, 2) := by decide +kernel
theorem d_C_findAtMost_52 : decode m_C_findAtMost.2.1 52 = .ok (.aload_n 0, 1) := by decide +kernel
theorem d_C_findAtMost_53 : decode m_C_findAtMost.2.1 53 = .ok (.getfield 9, 3) := by decide +kernel
theorem d_C_findAtMost_56 : decode m_C_findAtMost.2.1 56 = .ok (.iload 7, 2) := by decide +kernel
theorem d_C_findAtMost_58 : decode m_C_findAtMost.2.1 58 = .ok (.laload, 1) := by decide +kernel
theorem d_C_findAtMost_59 : decode m_C_findAtMost.2.1 59 = .ok (.ladd, 1) := by decide +kernel
theorem d_C_findAtMost_60 : decode m_C_findAtMost.2.1 60 = .ok (.lstore 5, 2) := by decide +kernel
theorem d_C_findAtMost_62 : decode m_C_findAtMost.2.1 62 = .ok (.iinc 7 1, 3) := by decide +kernel
theorem d_C_findAtMost_65 : decode m_C_findAtMost.2.1 65 = .ok (.goto (-52), 3) := by decide +kernel
theorem d_C_findAtMost_68 : decode m_C_findAtMost.2.1 68 = .ok (.aload_n 0, 1) := by decide +kernel
theorem d_C_findAtMost_69 : decode m_C_findAtMost.2.1 69 = .ok (.lload 5, 2) := by decide +kernel
theorem d_C_findAtMost_71 : decode m_C_findAtMost.2.1 71 = .ok (.lload_n 3, 1) := by decide +kernel
theorem d_C_findAtMost_72 : decode m_C_findAtMost.2.1 72 = .ok (.invokevirtual 43, 3) := by decide +kernel
theorem d_C_findAtMost_75 : decode m_C_findAtMost.2.1 75 = .ok (.return_, 1) := by decide +kernel
theorem d_C_countWays_0 : decode m_C_countWays.2.1 0 = .ok (.aload_n 0, 1) := by decide +kernel
theorem d_C_countWays_1 : decode m_C_countWays.2.1 1 = .ok (.getfield 9, 3) := by decide +kernel
theorem d_C_countWays_4 : decode m_C_countWays.2.1 4 = .ok (.iconst 0, 1) := by decide +kernel
theorem d_C_countWays_5 : decode m_C_countWays.2.1 5 = .ok (.lconst 1, 1) := by decide +kernel
theorem d_C_countWays_6 : decode m_C_countWays.2.1 6 = .ok (.lastore, 1) := by decide +kernel
theorem d_C_countWays_7 : decode m_C_countWays.2.1 7 = .ok (.iconst 1, 1) := by decide +kernel
theorem d_C_countWays_8 : decode m_C_countWays.2.1 8 = .ok (.istore_n 2, 1) := by decide +kernel
theorem d_C_countWays_9 : decode m_C_countWays.2.1 9 = .ok (.iload_n 2, 1) := by decide +kernel
theorem d_C_countWays_10 : decode m_C_countWays.2.1 10 = .ok (.aload_n 0, 1) := by decide +kernel
theorem d_C_countWays_11 : decode m_C_countWays.2.1 11 = .ok (.getfield 19, 3) := by decide +kernel
theorem d_C_countWays_14 : decode m_C_countWays.2.1 14 = .ok (.if_icmp .gt 91, 3) := by decide +kernel
theorem d_C_countWays_17 : decode m_C_countWays.2.1 17 = .ok (.iload_n 2, 1) := by decide +kernel
theorem d_C_countWays_18 : decode m_C_countWays.2.1 18 = .ok (.bipush 12, 2) := by decide +kernel
theorem d_C_countWays_20 : decode m_C_countWays.2.1 20 = .ok (.if_icmp .ge 85, 3) := by decide +kernel
theorem d_C_countWays_23 : decode m_C_countWays.2.1 23 = .ok (.aload_n 0, 1) := by decide +kernel
theorem d_C_countWays_24 : decode m_C_countWays.2.1 24 = .ok (.getfield 9, 3) := by decide +kernel
theorem d_C_countWays_27 : decode m_C_countWays.2.1 27 = .ok (.iload_n 2, 1) := by decide +kernel
theorem d_C_countWays_28 : decode m_C_countWays.2.1 28 = .ok (.aload_n 0, 1) := by decide +kernel
theorem d_C_countWays_29 : decode m_C_countWays.2.1 29 = .ok (.getfield 9, 3) := by decide +kernel
theorem d_C_countWays_32 : decode m_C_countWays.2.1 32 = .ok (.iload_n 2, 1) := by decide +kernel
theorem d_C_countWays_33 : decode m_C_countWays.2.1 33 = .ok (.iconst 1, 1) := by decide +kernel
theorem d_C_countWays_34 : decode m_C_countWays.2.1 34 = .ok (.isub, 1) := by decide +kernel
theorem d_C_countWays_35 : decode m_C_countWays.2.1 35 = .ok (.laload, 1) := by decide +kernel
theorem d_C_countWays_36 : decode m_C_countWays.2.1 36 = .ok (.iload_n 1, 1) := by decide +kernel
theorem d_C_countWays_37 : decode m_C_countWays.2.1 37 = .ok (.i2l, 1) := by decide +kernel
theorem d_C_countWays_38 : decode m_C_countWays.2.1 38 = .ok (.lmul, 1) := by decide +kernel
theorem d_C_countWays_39 : decode m_C_countWays.2.1 39 = .ok (.lastore, 1) := by decide +kernel
theorem d_C_countWays_40 : decode m_C_countWays.2.1 40 = .ok (.iload_n 2, 1) := by decide +kernel
theorem d_C_countWays_41 : decode m_C_countWays.2.1 41 = .ok (.iconst 1, 1) := by decide +kernel
theorem d_C_countWays_42 : decode m_C_countWays.2.1 42 = .ok (.isub, 1) := by decide +kernel
theorem d_C_countWays_43 : decode m_C_countWays.2.1 43 = .ok (.istore_n 3, 1) := by decide +kernel
theorem d_C_countWays_44 : decode m_C_countWays.2.1 44 = .ok (.iload_n 3, 1) := by decide +kernel
theorem d_C_countWays_45 : decode m_C_countWays.2.1 45 = .ok (.iconst 1, 1) := by decide +kernel
theorem d_C_countWays_46 : decode m_C_countWays.2.1 46 = .ok (.if_icmp .lt 39, 3) := by decide +kernel
theorem d_C_countWays_49 : decode m_C_countWays.2.1 49 = .ok (.aload_n 0, 1) := by decide +kernel
theorem d_C_countWays_50 : decode m_C_countWays.2.1 50 = .ok (.getfield 9, 3) := by decide +kernel
theorem d_C_countWays_53 : decode m_C_countWays.2.1 53 = .ok (.iload_n 3, 1) := by decide +kernel
theorem d_C_countWays_54 : decode m_C_countWays.2.1 54 = .ok (.aload_n 0, 1) := by decide +kernel
theorem d_C_countWays_55 : decode m_C_countWays.2.1 55 = .ok (.getfield 9, 3) := by decide +kernel
theorem d_C_countWays_58 : decode m_C_countWays.2.1 58 = .ok (.iload_n 3, 1) := by decide +kernel
theorem d_C_countWays_59 : decode m_C_countWays.2.1 59 = .ok (.laload, 1) := by decide +kernel
theorem d_C_countWays_60 : decode m_C_countWays.2.1 60 = .ok (.bipush 10, 2) := by decide +kernel
theorem d_C_countWays_62 : decode m_C_countWays.2.1 62 = .ok (.iload_n 1, 1) := by decide +kernel
theorem d_C_countWays_63 : decode m_C_countWays.2.1 63 = .ok (.isub, 1) := by decide +kernel
theorem d_C_countWays_64 : decode m_C_countWays.2.1 64 = .ok (.i2l, 1) := by decide +kernel
theorem d_C_countWays_65 : decode m_C_countWays.2.1 65 = .ok (.lmul, 1) := by decide +kernel
theorem d_C_countWays_66 : decode m_C_countWays.2.1 66 = .ok (.aload_n 0, 1) := by decide +kernel
theorem d_C_countWays_67 : decode m_C_countWays.2.1 67 = .ok (.getfield 9, 3) := by decide +kernel
theorem d_C_countWays_70 : decode m_C_countWays.2.1 70 = .ok (.iload_n 3, 1) := by decide +kernel
theorem d_C_countWays_71 : decode m_C_countWays.2.1 71 = .ok (.iconst 1, 1) := by decide +kernel
theorem d_C_countWays_72 : decode m_C_countWays.2.1 72 = .ok (.isub, 1) := by decide +kernel
theorem d_C_countWays_73 : decode m_C_countWays.2.1 73 = .ok (.laload, 1) := by decide +kernel
theorem d_C_countWays_74 : decode m_C_countWays.2.1 74 = .ok (.iload_n 1, 1) := by decide +kernel
theorem d_C_countWays_75 : decode m_C_countWays.2.1 75 = .ok (.i2l, 1) := by decide +kernel
theorem d_C_countWays_76 : decode m_C_countWays.2.1 76 = .ok (.lmul, 1) := by decide +kernel
theorem d_C_countWays_77 : decode m_C_countWays.2.1 77 = .ok (.ladd, 1) := by decide +kernel
theorem d_C_countWays_78 : decode m_C_countWays.2.1 78 = .ok (.lastore, 1) := by decide +kernel
theorem d_C_countWays_79 : decode m_C_countWays.2.1 79 = .ok (.iinc 3 (-1), 3) := by decide +kernel
theorem d_C_countWays_82 : decode m_C_countWays.2.1 82 = .ok (.goto (-38), 3) := by decide +kernel
theorem d_C_countWays_85 : decode m_C_countWays.2.1 85 = .ok (.aload_n 0, 1) := by decide +kernel
theorem d_C_countWays_86 : decode m_C_countWays.2.1 86 = .ok (.getfield 9, 3) := by decide +kernel
theorem d_C_countWays_89 : decode m_C_countWays.2.1 89 = .ok (.iconst 0, 1) := by decide +kernel
theorem d_C_countWays_90 : decode m_C_countWays.2.1 90 = .ok (.dup2, 1) := by decide +kernel
theorem d_C_countWays_91 : decode m_C_countWays.2.1 91 = .ok (.laload, 1) := by decide +kernel
theorem d_C_countWays_92 : decode m_C_countWays.2.1 92 = .ok (.bipush 10, 2) := by decide +kernel
theorem d_C_countWays_94 : decode m_C_countWays.2.1 94 = .ok (.iload_n 1, 1) := by decide +kernel
theorem d_C_countWays_95 : decode m_C_countWays.2.1 95 = .ok (.isub, 1) := by decide +kernel
theorem d_C_countWays_96 : decode m_C_countWays.2.1 96 = .ok (.i2l, 1) := by decide +kernel
theorem d_C_countWays_97 : decode m_C_countWays.2.1 97 = .ok (.lmul, 1) := by decide +kernel
theorem d_C_countWays_98 : decode m_C_countWays.2.1 98 = .ok (.lastore, 1) := by decide +kernel
theorem d_C_countWays_99 : decode m_C_countWays.2.1 99 = .ok (.iinc 2 1, 3) := by decide +kernel
theorem d_C_countWays_102 : decode m_C_countWays.2.1 102 = .ok (.goto (-93), 3) := by decide +kernel
theorem d_C_countWays_105 : decode m_C_countWays.2.1 105 = .ok (.return_, 1) := by decide +kernel
theorem d_C_putLowest_0 : decode m_C_putLowest.2.1 0 = .ok (.lload_n 1, 1) := by decide +kernel
theorem d_C_putLowest_1 : decode m_C_putLowest.2.1 1 = .ok (.lload_n 3, 1) := by decide +kernel
theorem d_C_putLowest_2 : decode m_C_putLowest.2.1 2 = .ok (.invokestatic 51, 3) := by decide +kernel
theorem d_C_putLowest_5 : decode m_C_putLowest.2.1 5 = .ok (.lstore 5, 2) := by decide +kernel
theorem d_C_putLowest_7 : decode m_C_putLowest.2.1 7 = .ok (.lload 5, 2) := by decide +kernel
theorem d_C_putLowest_9 : decode m_C_putLowest.2.1 9 = .ok (.lconst 0, 1) := by decide +kernel
theorem d_C_putLowest_10 : decode m_C_putLowest.2.1 10 = .ok (.lcmp, 1) := by decide +kernel
theorem d_C_putLowest_11 : decode m_C_putLowest.2.1 11 = .ok (.ifCond .gt 4, 3) := by decide +kernel
theorem d_C_putLowest_14 : decode m_C_putLowest.2.1 14 = .ok (.return_, 1) := by decide +kernel
theorem d_C_putLowest_15 : decode m_C_putLowest.2.1 15 = .ok (.aload_n 0, 1) := by decide +kernel
theorem d_C_putLowest_16 : decode m_C_putLowest.2.1 16 = .ok (.lload_n 1, 1) := by decide +kernel
theorem d_C_putLowest_17 : decode m_C_putLowest.2.1 17 = .ok (.lload 5, 2) := by decide +kernel
theorem d_C_putLowest_19 : decode m_C_putLowest.2.1 19 = .ok (.ldiv, 1) := by decide +kernel
theorem d_C_putLowest_20 : decode m_C_putLowest.2.1 20 = .ok (.putfield 22, 3) := by decide +kernel
theorem d_C_putLowest_23 : decode m_C_putLowest.2.1 23 = .ok (.aload_n 0, 1) := by decide +kernel
theorem d_C_putLowest_24 : decode m_C_putLowest.2.1 24 = .ok (.lload_n 3, 1) := by decide +kernel
theorem d_C_putLowest_25 : decode m_C_putLowest.2.1 25 = .ok (.lload 5, 2) := by decide +kernel
theorem d_C_putLowest_27 : decode m_C_putLowest.2.1 27 = .ok (.ldiv, 1) := by decide +kernel
theorem d_C_putLowest_28 : decode m_C_putLowest.2.1 28 = .ok (.putfield 26, 3) := by decide +kernel
theorem d_C_putLowest_31 : decode m_C_putLowest.2.1 31 = .ok (.return_, 1) := by decide +kernel
theorem d_C_greatestDivisor_0 : decode m_C_greatestDivisor.2.1 0 = .ok (.lload_n 0, 1) := by decide +kernel
theorem d_C_greatestDivisor_1 : decode m_C_greatestDivisor.2.1 1 = .ok (.lstore 4, 2) := by decide +kernel
theorem d_C_greatestDivisor_3 : decode m_C_greatestDivisor.2.1 3 = .ok (.lload_n 2, 1) := by decide +kernel
theorem d_C_greatestDivisor_4 : decode m_C_greatestDivisor.2.1 4 = .ok (.lstore 6, 2) := by decide +kernel
theorem d_C_greatestDivisor_6 : decode m_C_greatestDivisor.2.1 6 = .ok (.iconst 0, 1) := by decide +kernel
theorem d_C_greatestDivisor_7 : decode m_C_greatestDivisor.2.1 7 = .ok (.istore 8, 2) := by decide +kernel
theorem d_C_greatestDivisor_9 : decode m_C_greatestDivisor.2.1 9 = .ok (.iload 8, 2) := by decide +kernel
theorem d_C_greatestDivisor_11 : decode m_C_greatestDivisor.2.1 11 = .ok (.bipush 100, 2) := by decide +kernel
theorem d_C_greatestDivisor_13 : decode m_C_greatestDivisor.2.1 13 = .ok (.if_icmp .ge 31, 3) := by decide +kernel
theorem d_C_greatestDivisor_16 : decode m_C_greatestDivisor.2.1 16 = .ok (.lload 6, 2) := by decide +kernel
theorem d_C_greatestDivisor_18 : decode m_C_greatestDivisor.2.1 18 = .ok (.lconst 0, 1) := by decide +kernel
theorem d_C_greatestDivisor_19 : decode m_C_greatestDivisor.2.1 19 = .ok (.lcmp, 1) := by decide +kernel
theorem d_C_greatestDivisor_20 : decode m_C_greatestDivisor.2.1 20 = .ok (.ifCond .eq 24, 3) := by decide +kernel
theorem d_C_greatestDivisor_23 : decode m_C_greatestDivisor.2.1 23 = .ok (.lload 4, 2) := by decide +kernel
theorem d_C_greatestDivisor_25 : decode m_C_greatestDivisor.2.1 25 = .ok (.lload 6, 2) := by decide +kernel
theorem d_C_greatestDivisor_27 : decode m_C_greatestDivisor.2.1 27 = .ok (.lrem, 1) := by decide +kernel
theorem d_C_greatestDivisor_28 : decode m_C_greatestDivisor.2.1 28 = .ok (.lstore 9, 2) := by decide +kernel
theorem d_C_greatestDivisor_30 : decode m_C_greatestDivisor.2.1 30 = .ok (.lload 6, 2) := by decide +kernel
theorem d_C_greatestDivisor_32 : decode m_C_greatestDivisor.2.1 32 = .ok (.lstore 4, 2) := by decide +kernel
theorem d_C_greatestDivisor_34 : decode m_C_greatestDivisor.2.1 34 = .ok (.lload 9, 2) := by decide +kernel
theorem d_C_greatestDivisor_36 : decode m_C_greatestDivisor.2.1 36 = .ok (.lstore 6, 2) := by decide +kernel
theorem d_C_greatestDivisor_38 : decode m_C_greatestDivisor.2.1 38 = .ok (.iinc 8 1, 3) := by decide +kernel
theorem d_C_greatestDivisor_41 : decode m_C_greatestDivisor.2.1 41 = .ok (.goto (-32), 3) := by decide +kernel
theorem d_C_greatestDivisor_44 : decode m_C_greatestDivisor.2.1 44 = .ok (.lload 4, 2) := by decide +kernel
theorem d_C_greatestDivisor_46 : decode m_C_greatestDivisor.2.1 46 = .ok (.lreturn, 1) := by decide +kernel
theorem d_L_init_0 : decode m_L_init.2.1 0 = .ok (.aload_n 0, 1) := by decide +kernel
theorem d_L_init_1 : decode m_L_init.2.1 1 = .ok (.invokespecial 3, 3) := by decide +kernel
theorem d_L_init_4 : decode m_L_init.2.1 4 = .ok (.aload_n 0, 1) := by decide +kernel
theorem d_L_init_5 : decode m_L_init.2.1 5 = .ok (.bipush 12, 2) := by decide +kernel
theorem d_L_init_7 : decode m_L_init.2.1 7 = .ok (.newarray .int, 2) := by decide +kernel
theorem d_L_init_9 : decode m_L_init.2.1 9 = .ok (.putfield 9, 3) := by decide +kernel
theorem d_L_init_12 : decode m_L_init.2.1 12 = .ok (.aload_n 0, 1) := by decide +kernel
theorem d_L_init_13 : decode m_L_init.2.1 13 = .ok (.bipush 12, 2) := by decide +kernel
theorem d_L_init_15 : decode m_L_init.2.1 15 = .ok (.newarray .int, 2) := by decide +kernel
theorem d_L_init_17 : decode m_L_init.2.1 17 = .ok (.putfield 15, 3) := by decide +kernel
theorem d_L_init_20 : decode m_L_init.2.1 20 = .ok (.return_, 1) := by decide +kernel
theorem d_L_listen_0 : decode m_L_listen.2.1 0 = .ok (.iconst 0, 1) := by decide +kernel
theorem d_L_listen_1 : decode m_L_listen.2.1 1 = .ok (.istore_n 2, 1) := by decide +kernel
theorem d_L_listen_2 : decode m_L_listen.2.1 2 = .ok (.iload_n 2, 1) := by decide +kernel
theorem d_L_listen_3 : decode m_L_listen.2.1 3 = .ok (.bipush 12, 2) := by decide +kernel
theorem d_L_listen_5 : decode m_L_listen.2.1 5 = .ok (.if_icmp .ge 24, 3) := by decide +kernel
theorem d_L_listen_8 : decode m_L_listen.2.1 8 = .ok (.aload_n 0, 1) := by decide +kernel
theorem d_L_listen_9 : decode m_L_listen.2.1 9 = .ok (.getfield 9, 3) := by decide +kernel
theorem d_L_listen_12 : decode m_L_listen.2.1 12 = .ok (.iload_n 2, 1) := by decide +kernel
theorem d_L_listen_13 : decode m_L_listen.2.1 13 = .ok (.aload_n 1, 1) := by decide +kernel
theorem d_L_listen_14 : decode m_L_listen.2.1 14 = .ok (.iload_n 2, 1) := by decide +kernel
theorem d_L_listen_15 : decode m_L_listen.2.1 15 = .ok (.aload_n 1, 1) := by decide +kernel
theorem d_L_listen_16 : decode m_L_listen.2.1 16 = .ok (.getfield 18, 3) := by decide +kernel
theorem d_L_listen_19 : decode m_L_listen.2.1 19 = .ok (.invokevirtual 24, 3) := by decide +kernel
theorem d_L_listen_22 : decode m_L_listen.2.1 22 = .ok (.iastore, 1) := by decide +kernel
theorem d_L_listen_23 : decode m_L_listen.2.1 23 = .ok (.iinc 2 1, 3) := by decide +kernel
theorem d_L_listen_26 : decode m_L_listen.2.1 26 = .ok (.goto (-24), 3) := by decide +kernel
theorem d_L_listen_29 : decode m_L_listen.2.1 29 = .ok (.iconst 0, 1) := by decide +kernel
theorem d_L_listen_30 : decode m_L_listen.2.1 30 = .ok (.istore_n 2, 1) := by decide +kernel
theorem d_L_listen_31 : decode m_L_listen.2.1 31 = .ok (.iload_n 2, 1) := by decide +kernel
theorem d_L_listen_32 : decode m_L_listen.2.1 32 = .ok (.bipush 12, 2) := by decide +kernel
theorem d_L_listen_34 : decode m_L_listen.2.1 34 = .ok (.if_icmp .ge 20, 3) := by decide +kernel
theorem d_L_listen_37 : decode m_L_listen.2.1 37 = .ok (.aload_n 0, 1) := by decide +kernel
theorem d_L_listen_38 : decode m_L_listen.2.1 38 = .ok (.getfield 15, 3) := by decide +kernel
theorem d_L_listen_41 : decode m_L_listen.2.1 41 = .ok (.iload_n 2, 1) := by decide +kernel
theorem d_L_listen_42 : decode m_L_listen.2.1 42 = .ok (.aload_n 0, 1) := by decide +kernel
theorem d_L_listen_43 : decode m_L_listen.2.1 43 = .ok (.iload_n 2, 1) := by decide +kernel
theorem d_L_listen_44 : decode m_L_listen.2.1 44 = .ok (.invokevirtual 28, 3) := by decide +kernel
theorem d_L_listen_47 : decode m_L_listen.2.1 47 = .ok (.iastore, 1) := by decide +kernel
theorem d_L_listen_48 : decode m_L_listen.2.1 48 = .ok (.iinc 2 1, 3) := by decide +kernel
theorem d_L_listen_51 : decode m_L_listen.2.1 51 = .ok (.goto (-20), 3) := by decide +kernel
theorem d_L_listen_54 : decode m_L_listen.2.1 54 = .ok (.return_, 1) := by decide +kernel
theorem d_L_placesFor_0 : decode m_L_placesFor.2.1 0 = .ok (.iconst 0, 1) := by decide +kernel
theorem d_L_placesFor_1 : decode m_L_placesFor.2.1 1 = .ok (.istore_n 2, 1) := by decide +kernel
theorem d_L_placesFor_2 : decode m_L_placesFor.2.1 2 = .ok (.iconst 0, 1) := by decide +kernel
theorem d_L_placesFor_3 : decode m_L_placesFor.2.1 3 = .ok (.istore_n 3, 1) := by decide +kernel
theorem d_L_placesFor_4 : decode m_L_placesFor.2.1 4 = .ok (.iload_n 3, 1) := by decide +kernel
theorem d_L_placesFor_5 : decode m_L_placesFor.2.1 5 = .ok (.bipush 12, 2) := by decide +kernel
theorem d_L_placesFor_7 : decode m_L_placesFor.2.1 7 = .ok (.if_icmp .ge 28, 3) := by decide +kernel
theorem d_L_placesFor_10 : decode m_L_placesFor.2.1 10 = .ok (.aload_n 0, 1) := by decide +kernel
theorem d_L_placesFor_11 : decode m_L_placesFor.2.1 11 = .ok (.getfield 9, 3) := by decide +kernel
theorem d_L_placesFor_14 : decode m_L_placesFor.2.1 14 = .ok (.iload_n 3, 1) := by decide +kernel
theorem d_L_placesFor_15 : decode m_L_placesFor.2.1 15 = .ok (.iaload, 1) := by decide +kernel
theorem d_L_placesFor_16 : decode m_L_placesFor.2.1 16 = .ok (.iload_n 1, 1) := by decide +kernel
theorem d_L_placesFor_17 : decode m_L_placesFor.2.1 17 = .ok (.invokestatic 32, 3) := by decide +kernel
theorem d_L_placesFor_20 : decode m_L_placesFor.2.1 20 = .ok (.ifCond .eq 9, 3) := by decide +kernel
theorem d_L_placesFor_23 : decode m_L_placesFor.2.1 23 = .ok (.iload_n 2, 1) := by decide +kernel
theorem d_L_placesFor_24 : decode m_L_placesFor.2.1 24 = .ok (.iconst 1, 1) := by decide +kernel
theorem d_L_placesFor_25 : decode m_L_placesFor.2.1 25 = .ok (.iload_n 3, 1) := by decide +kernel
theorem d_L_placesFor_26 : decode m_L_placesFor.2.1 26 = .ok (.ishl, 1) := by decide +kernel
theorem d_L_placesFor_27 : decode m_L_placesFor.2.1 27 = .ok (.ior, 1) := by decide +kernel
theorem d_L_placesFor_28 : decode m_L_placesFor.2.1 28 = .ok (.istore_n 2, 1) := by decide +kernel
theorem d_L_placesFor_29 : decode m_L_placesFor.2.1 29 = .ok (.iinc 3 1, 3) := by decide +kernel
theorem d_L_placesFor_32 : decode m_L_placesFor.2.1 32 = .ok (.goto (-28), 3) := by decide +kernel
theorem d_L_placesFor_35 : decode m_L_placesFor.2.1 35 = .ok (.iload_n 2, 1) := by decide +kernel
theorem d_L_placesFor_36 : decode m_L_placesFor.2.1 36 = .ok (.ireturn, 1) := by decide +kernel
theorem d_L_bestFor_0 : decode m_L_bestFor.2.1 0 = .ok (.bipush 12, 2) := by decide +kernel
theorem d_L_bestFor_2 : decode m_L_bestFor.2.1 2 = .ok (.istore_n 3, 1) := by decide +kernel
theorem d_L_bestFor_3 : decode m_L_bestFor.2.1 3 = .ok (.bipush (-6), 2) := by decide +kernel
theorem d_L_bestFor_5 : decode m_L_bestFor.2.1 5 = .ok (.istore 4, 2) := by decide +kernel
theorem d_L_bestFor_7 : decode m_L_bestFor.2.1 7 = .ok (.iconst 0, 1) := by decide +kernel
theorem d_L_bestFor_8 : decode m_L_bestFor.2.1 8 = .ok (.istore 5, 2) := by decide +kernel
theorem d_L_bestFor_10 : decode m_L_bestFor.2.1 10 = .ok (.iload 5, 2) := by decide +kernel
theorem d_L_bestFor_12 : decode m_L_bestFor.2.1 12 = .ok (.bipush 12, 2) := by decide +kernel
theorem d_L_bestFor_14 : decode m_L_bestFor.2.1 14 = .ok (.if_icmp .ge 50, 3) := by decide +kernel
theorem d_L_bestFor_17 : decode m_L_bestFor.2.1 17 = .ok (.aload_n 0, 1) := by decide +kernel
theorem d_L_bestFor_18 : decode m_L_bestFor.2.1 18 = .ok (.getfield 9, 3) := by decide +kernel
theorem d_L_bestFor_21 : decode m_L_bestFor.2.1 21 = .ok (.iload 5, 2) := by decide +kernel
theorem d_L_bestFor_23 : decode m_L_bestFor.2.1 23 = .ok (.iaload, 1) := by decide +kernel
theorem d_L_bestFor_24 : decode m_L_bestFor.2.1 24 = .ok (.invokestatic 36, 3) := by decide +kernel
theorem d_L_bestFor_27 : decode m_L_bestFor.2.1 27 = .ok (.iconst 1, 1) := by decide +kernel
theorem d_L_bestFor_28 : decode m_L_bestFor.2.1 28 = .ok (.isub, 1) := by decide +kernel
theorem d_L_bestFor_29 : decode m_L_bestFor.2.1 29 = .ok (.istore 6, 2) := by decide +kernel
theorem d_L_bestFor_31 : decode m_L_bestFor.2.1 31 = .ok (.aload_n 0, 1) := by decide +kernel
theorem d_L_bestFor_32 : decode m_L_bestFor.2.1 32 = .ok (.getfield 9, 3) := by decide +kernel
theorem d_L_bestFor_35 : decode m_L_bestFor.2.1 35 = .ok (.iload 5, 2) := by decide +kernel
theorem d_L_bestFor_37 : decode m_L_bestFor.2.1 37 = .ok (.iaload, 1) := by decide +kernel
theorem d_L_bestFor_38 : decode m_L_bestFor.2.1 38 = .ok (.iload_n 1, 1) := by decide +kernel
theorem d_L_bestFor_39 : decode m_L_bestFor.2.1 39 = .ok (.invokestatic 32, 3) := by decide +kernel
theorem d_L_bestFor_42 : decode m_L_bestFor.2.1 42 = .ok (.ifCond .eq 16, 3) := by decide +kernel
theorem d_L_bestFor_45 : decode m_L_bestFor.2.1 45 = .ok (.iload 6, 2) := by decide +kernel
theorem d_L_bestFor_47 : decode m_L_bestFor.2.1 47 = .ok (.iload_n 3, 1) := by decide +kernel
theorem d_L_bestFor_48 : decode m_L_bestFor.2.1 48 = .ok (.if_icmp .ge 10, 3) := by decide +kernel
theorem d_L_bestFor_51 : decode m_L_bestFor.2.1 51 = .ok (.iload 6, 2) := by decide +kernel
theorem d_L_bestFor_53 : decode m_L_bestFor.2.1 53 = .ok (.istore_n 3, 1) := by decide +kernel
theorem d_L_bestFor_54 : decode m_L_bestFor.2.1 54 = .ok (.iload 5, 2) := by decide +kernel
theorem d_L_bestFor_56 : decode m_L_bestFor.2.1 56 = .ok (.istore 4, 2) := by decide +kernel
theorem d_L_bestFor_58 : decode m_L_bestFor.2.1 58 = .ok (.iinc 5 1, 3) := by decide +kernel
theorem d_L_bestFor_61 : decode m_L_bestFor.2.1 61 = .ok (.goto (-51), 3) := by decide +kernel
theorem d_L_bestFor_64 : decode m_L_bestFor.2.1 64 = .ok (.iload_n 2, 1) := by decide +kernel
theorem d_L_bestFor_65 : decode m_L_bestFor.2.1 65 = .ok (.ifCond .eq 14, 3) := by decide +kernel
theorem d_L_bestFor_68 : decode m_L_bestFor.2.1 68 = .ok (.iload 4, 2) := by decide +kernel
theorem d_L_bestFor_70 : decode m_L_bestFor.2.1 70 = .ok (.bipush (-6), 2) := by decide +kernel
theorem d_L_bestFor_72 : decode m_L_bestFor.2.1 72 = .ok (.if_icmp .eq 7, 3) := by decide +kernel
theorem d_L_bestFor_75 : decode m_L_bestFor.2.1 75 = .ok (.iload_n 3, 1) := by decide +kernel
theorem d_L_bestFor_76 : decode m_L_bestFor.2.1 76 = .ok (.goto 5, 3) := by decide +kernel
theorem d_L_bestFor_79 : decode m_L_bestFor.2.1 79 = .ok (.iload 4, 2) := by decide +kernel
theorem d_L_bestFor_81 : decode m_L_bestFor.2.1 81 = .ok (.ireturn, 1) := by decide +kernel
theorem d_L_thirdsFor_0 : decode m_L_thirdsFor.2.1 0 = .ok (.iconst 0, 1) := by decide +kernel
theorem d_L_thirdsFor_1 : decode m_L_thirdsFor.2.1 1 = .ok (.istore_n 3, 1) := by decide +kernel
theorem d_L_thirdsFor_2 : decode m_L_thirdsFor.2.1 2 = .ok (.bipush (-6), 2) := by decide +kernel
theorem d_L_thirdsFor_4 : decode m_L_thirdsFor.2.1 4 = .ok (.istore 4, 2) := by decide +kernel
theorem d_L_thirdsFor_6 : decode m_L_thirdsFor.2.1 6 = .ok (.iconst 0, 1) := by decide +kernel
theorem d_L_thirdsFor_7 : decode m_L_thirdsFor.2.1 7 = .ok (.istore 5, 2) := by decide +kernel
theorem d_L_thirdsFor_9 : decode m_L_thirdsFor.2.1 9 = .ok (.iload 5, 2) := by decide +kernel
theorem d_L_thirdsFor_11 : decode m_L_thirdsFor.2.1 11 = .ok (.bipush 12, 2) := by decide +kernel
theorem d_L_thirdsFor_13 : decode m_L_thirdsFor.2.1 13 = .ok (.if_icmp .ge 99, 3) := by decide +kernel
theorem d_L_thirdsFor_16 : decode m_L_thirdsFor.2.1 16 = .ok (.iload 5, 2) := by decide +kernel
theorem d_L_thirdsFor_18 : decode m_L_thirdsFor.2.1 18 = .ok (.istore 6, 2) := by decide +kernel
theorem d_L_thirdsFor_20 : decode m_L_thirdsFor.2.1 20 = .ok (.iload 6, 2) := by decide +kernel
theorem d_L_thirdsFor_22 : decode m_L_thirdsFor.2.1 22 = .ok (.bipush 12, 2) := by decide +kernel
theorem d_L_thirdsFor_24 : decode m_L_thirdsFor.2.1 24 = .ok (.if_icmp .ge 82, 3) := by decide +kernel
theorem d_L_thirdsFor_27 : decode m_L_thirdsFor.2.1 27 = .ok (.iload 6, 2) := by decide +kernel
theorem d_L_thirdsFor_29 : decode m_L_thirdsFor.2.1 29 = .ok (.istore 7, 2) := by decide +kernel
theorem d_L_thirdsFor_31 : decode m_L_thirdsFor.2.1 31 = .ok (.iload 7, 2) := by decide +kernel
theorem d_L_thirdsFor_33 : decode m_L_thirdsFor.2.1 33 = .ok (.bipush 12, 2) := by decide +kernel
theorem d_L_thirdsFor_35 : decode m_L_thirdsFor.2.1 35 = .ok (.if_icmp .ge 65, 3) := by decide +kernel
theorem d_L_thirdsFor_38 : decode m_L_thirdsFor.2.1 38 = .ok (.aload_n 0, 1) := by decide +kernel
theorem d_L_thirdsFor_39 : decode m_L_thirdsFor.2.1 39 = .ok (.getfield 9, 3) := by decide +kernel
theorem d_L_thirdsFor_42 : decode m_L_thirdsFor.2.1 42 = .ok (.iload 5, 2) := by decide +kernel
theorem d_L_thirdsFor_44 : decode m_L_thirdsFor.2.1 44 = .ok (.iaload, 1) := by decide +kernel
theorem d_L_thirdsFor_45 : decode m_L_thirdsFor.2.1 45 = .ok (.aload_n 0, 1) := by decide +kernel
theorem d_L_thirdsFor_46 : decode m_L_thirdsFor.2.1 46 = .ok (.getfield 9, 3) := by decide +kernel
theorem d_L_thirdsFor_49 : decode m_L_thirdsFor.2.1 49 = .ok (.iload 6, 2) := by decide +kernel
theorem d_L_thirdsFor_51 : decode m_L_thirdsFor.2.1 51 = .ok (.iaload, 1) := by decide +kernel
theorem d_L_thirdsFor_52 : decode m_L_thirdsFor.2.1 52 = .ok (.iand, 1) := by decide +kernel
theorem d_L_thirdsFor_53 : decode m_L_thirdsFor.2.1 53 = .ok (.aload_n 0, 1) := by decide +kernel
theorem d_L_thirdsFor_54 : decode m_L_thirdsFor.2.1 54 = .ok (.getfield 9, 3) := by decide +kernel
theorem d_L_thirdsFor_57 : decode m_L_thirdsFor.2.1 57 = .ok (.iload 7, 2) := by decide +kernel
theorem d_L_thirdsFor_59 : decode m_L_thirdsFor.2.1 59 = .ok (.iaload, 1) := by decide +kernel
theorem d_L_thirdsFor_60 : decode m_L_thirdsFor.2.1 60 = .ok (.iand, 1) := by decide +kernel
theorem d_L_thirdsFor_61 : decode m_L_thirdsFor.2.1 61 = .ok (.iconst 1, 1) := by decide +kernel
theorem d_L_thirdsFor_62 : decode m_L_thirdsFor.2.1 62 = .ok (.iload_n 1, 1) := by decide +kernel
theorem d_L_thirdsFor_63 : decode m_L_thirdsFor.2.1 63 = .ok (.ishl, 1) := by decide +kernel
theorem d_L_thirdsFor_64 : decode m_L_thirdsFor.2.1 64 = .ok (.if_icmp .eq 6, 3) := by decide +kernel
theorem d_L_thirdsFor_67 : decode m_L_thirdsFor.2.1 67 = .ok (.goto 27, 3) := by decide +kernel
theorem d_L_thirdsFor_70 : decode m_L_thirdsFor.2.1 70 = .ok (.iload_n 3, 1) := by decide +kernel
theorem d_L_thirdsFor_71 : decode m_L_thirdsFor.2.1 71 = .ok (.ifCond .ne 20, 3) := by decide +kernel
theorem d_L_thirdsFor_74 : decode m_L_thirdsFor.2.1 74 = .ok (.sipush 10000, 3) := by decide +kernel
theorem d_L_thirdsFor_77 : decode m_L_thirdsFor.2.1 77 = .ok (.iload 5, 2) := by decide +kernel
theorem d_L_thirdsFor_79 : decode m_L_thirdsFor.2.1 79 = .ok (.imul, 1) := by decide +kernel
theorem d_L_thirdsFor_80 : decode m_L_thirdsFor.2.1 80 = .ok (.bipush 100, 2) := by decide +kernel
theorem d_L_thirdsFor_82 : decode m_L_thirdsFor.2.1 82 = .ok (.iload 6, 2) := by decide +kernel
theorem d_L_thirdsFor_84 : decode m_L_thirdsFor.2.1 84 = .ok (.imul, 1) := by decide +kernel
theorem d_L_thirdsFor_85 : decode m_L_thirdsFor.2.1 85 = .ok (.iadd, 1) := by decide +kernel
theorem d_L_thirdsFor_86 : decode m_L_thirdsFor.2.1 86 = .ok (.iload 7, 2) := by decide +kernel
theorem d_L_thirdsFor_88 : decode m_L_thirdsFor.2.1 88 = .ok (.iadd, 1) := by decide +kernel
theorem d_L_thirdsFor_89 : decode m_L_thirdsFor.2.1 89 = .ok (.istore 4, 2) := by decide +kernel
theorem d_L_thirdsFor_91 : decode m_L_thirdsFor.2.1 91 = .ok (.iinc 3 1, 3) := by decide +kernel
theorem d_L_thirdsFor_94 : decode m_L_thirdsFor.2.1 94 = .ok (.iinc 7 1, 3) := by decide +kernel
theorem d_L_thirdsFor_97 : decode m_L_thirdsFor.2.1 97 = .ok (.goto (-66), 3) := by decide +kernel
theorem d_L_thirdsFor_100 : decode m_L_thirdsFor.2.1 100 = .ok (.iinc 6 1, 3) := by decide +kernel
theorem d_L_thirdsFor_103 : decode m_L_thirdsFor.2.1 103 = .ok (.goto (-83), 3) := by decide +kernel
theorem d_L_thirdsFor_106 : decode m_L_thirdsFor.2.1 106 = .ok (.iinc 5 1, 3) := by decide +kernel
theorem d_L_thirdsFor_109 : decode m_L_thirdsFor.2.1 109 = .ok (.goto (-100), 3) := by decide +kernel
theorem d_L_thirdsFor_112 : decode m_L_thirdsFor.2.1 112 = .ok (.iload_n 2, 1) := by decide +kernel
theorem d_L_thirdsFor_113 : decode m_L_thirdsFor.2.1 113 = .ok (.ifCond .eq 7, 3) := by decide +kernel
theorem d_L_thirdsFor_116 : decode m_L_thirdsFor.2.1 116 = .ok (.iload_n 3, 1) := by decide +kernel
theorem d_L_thirdsFor_117 : decode m_L_thirdsFor.2.1 117 = .ok (.goto 5, 3) := by decide +kernel
theorem d_L_thirdsFor_120 : decode m_L_thirdsFor.2.1 120 = .ok (.iload 4, 2) := by decide +kernel
theorem d_L_thirdsFor_122 : decode m_L_thirdsFor.2.1 122 = .ok (.ireturn, 1) := by decide +kernel
theorem d_L_leastWalk_0 : decode m_L_leastWalk.2.1 0 = .ok (.bipush (-6), 2) := by decide +kernel
theorem d_L_leastWalk_2 : decode m_L_leastWalk.2.1 2 = .ok (.istore 4, 2) := by decide +kernel
theorem d_L_leastWalk_4 : decode m_L_leastWalk.2.1 4 = .ok (.bipush (-6), 2) := by decide +kernel
theorem d_L_leastWalk_6 : decode m_L_leastWalk.2.1 6 = .ok (.istore 5, 2) := by decide +kernel
theorem d_L_leastWalk_8 : decode m_L_leastWalk.2.1 8 = .ok (.iconst 0, 1) := by decide +kernel
theorem d_L_leastWalk_9 : decode m_L_leastWalk.2.1 9 = .ok (.istore 6, 2) := by decide +kernel
theorem d_L_leastWalk_11 : decode m_L_leastWalk.2.1 11 = .ok (.iload 6, 2) := by decide +kernel
theorem d_L_leastWalk_13 : decode m_L_leastWalk.2.1 13 = .ok (.aload_n 1, 1) := by decide +kernel
theorem d_L_leastWalk_14 : decode m_L_leastWalk.2.1 14 = .ok (.getfield 41, 3) := by decide +kernel
theorem d_L_leastWalk_17 : decode m_L_leastWalk.2.1 17 = .ok (.if_icmp .gt 102, 3) := by decide +kernel
theorem d_L_leastWalk_20 : decode m_L_leastWalk.2.1 20 = .ok (.aload_n 1, 1) := by decide +kernel
theorem d_L_leastWalk_21 : decode m_L_leastWalk.2.1 21 = .ok (.getfield 41, 3) := by decide +kernel
theorem d_L_leastWalk_24 : decode m_L_leastWalk.2.1 24 = .ok (.istore 7, 2) := by decide +kernel
theorem d_L_leastWalk_26 : decode m_L_leastWalk.2.1 26 = .ok (.iload 7, 2) := by decide +kernel
theorem d_L_leastWalk_28 : decode m_L_leastWalk.2.1 28 = .ok (.bipush 12, 2) := by decide +kernel
theorem d_L_leastWalk_30 : decode m_L_leastWalk.2.1 30 = .ok (.if_icmp .ge 83, 3) := by decide +kernel
theorem d_L_leastWalk_33 : decode m_L_leastWalk.2.1 33 = .ok (.aload_n 1, 1) := by decide +kernel
theorem d_L_leastWalk_34 : decode m_L_leastWalk.2.1 34 = .ok (.getfield 41, 3) := by decide +kernel
theorem d_L_leastWalk_37 : decode m_L_leastWalk.2.1 37 = .ok (.iload 6, 2) := by decide +kernel
theorem d_L_leastWalk_39 : decode m_L_leastWalk.2.1 39 = .ok (.isub, 1) := by decide +kernel
theorem d_L_leastWalk_40 : decode m_L_leastWalk.2.1 40 = .ok (.istore 8, 2) := by decide +kernel
theorem d_L_leastWalk_42 : decode m_L_leastWalk.2.1 42 = .ok (.iload 7, 2) := by decide +kernel
theorem d_L_leastWalk_44 : decode m_L_leastWalk.2.1 44 = .ok (.aload_n 1, 1) := by decide +kernel
theorem d_L_leastWalk_45 : decode m_L_leastWalk.2.1 45 = .ok (.getfield 41, 3) := by decide +kernel
theorem d_L_leastWalk_48 : decode m_L_leastWalk.2.1 48 = .ok (.isub, 1) := by decide +kernel
theorem d_L_leastWalk_49 : decode m_L_leastWalk.2.1 49 = .ok (.istore 9, 2) := by decide +kernel
theorem d_L_leastWalk_51 : decode m_L_leastWalk.2.1 51 = .ok (.iload 8, 2) := by decide +kernel
theorem d_L_leastWalk_53 : decode m_L_leastWalk.2.1 53 = .ok (.iload 9, 2) := by decide +kernel
theorem d_L_leastWalk_55 : decode m_L_leastWalk.2.1 55 = .ok (.iadd, 1) := by decide +kernel
theorem d_L_leastWalk_56 : decode m_L_leastWalk.2.1 56 = .ok (.iload 8, 2) := by decide +kernel
theorem d_L_leastWalk_58 : decode m_L_leastWalk.2.1 58 = .ok (.iload 9, 2) := by decide +kernel
theorem d_L_leastWalk_60 : decode m_L_leastWalk.2.1 60 = .ok (.invokestatic 44, 3) := by decide +kernel
theorem d_L_leastWalk_63 : decode m_L_leastWalk.2.1 63 = .ok (.iadd, 1) := by decide +kernel
theorem d_L_leastWalk_64 : decode m_L_leastWalk.2.1 64 = .ok (.istore 10, 2) := by decide +kernel
theorem d_L_leastWalk_66 : decode m_L_leastWalk.2.1 66 = .ok (.iload 4, 2) := by decide +kernel
theorem d_L_leastWalk_68 : decode m_L_leastWalk.2.1 68 = .ok (.bipush (-6), 2) := by decide +kernel
theorem d_L_leastWalk_70 : decode m_L_leastWalk.2.1 70 = .ok (.if_icmp .eq 13, 3) := by decide +kernel
theorem d_L_leastWalk_73 : decode m_L_leastWalk.2.1 73 = .ok (.iload 10, 2) := by decide +kernel
theorem d_L_leastWalk_75 : decode m_L_leastWalk.2.1 75 = .ok (.iload 4, 2) := by decide +kernel
theorem d_L_leastWalk_77 : decode m_L_leastWalk.2.1 77 = .ok (.if_icmp .lt 6, 3) := by decide +kernel
theorem d_L_leastWalk_80 : decode m_L_leastWalk.2.1 80 = .ok (.goto 27, 3) := by decide +kernel
theorem d_L_leastWalk_83 : decode m_L_leastWalk.2.1 83 = .ok (.aload_n 0, 1) := by decide +kernel
theorem d_L_leastWalk_84 : decode m_L_leastWalk.2.1 84 = .ok (.aload_n 1, 1) := by decide +kernel
theorem d_L_leastWalk_85 : decode m_L_leastWalk.2.1 85 = .ok (.iload_n 2, 1) := by decide +kernel
theorem d_L_leastWalk_86 : decode m_L_leastWalk.2.1 86 = .ok (.iload 6, 2) := by decide +kernel
theorem d_L_leastWalk_88 : decode m_L_leastWalk.2.1 88 = .ok (.iload 7, 2) := by decide +kernel
theorem d_L_leastWalk_90 : decode m_L_leastWalk.2.1 90 = .ok (.invokevirtual 49, 3) := by decide +kernel
theorem d_L_leastWalk_93 : decode m_L_leastWalk.2.1 93 = .ok (.ifCond .ne 6, 3) := by decide +kernel
theorem d_L_leastWalk_96 : decode m_L_leastWalk.2.1 96 = .ok (.goto 11, 3) := by decide +kernel
theorem d_L_leastWalk_99 : decode m_L_leastWalk.2.1 99 = .ok (.iload 10, 2) := by decide +kernel
theorem d_L_leastWalk_101 : decode m_L_leastWalk.2.1 101 = .ok (.istore 4, 2) := by decide +kernel
theorem d_L_leastWalk_103 : decode m_L_leastWalk.2.1 103 = .ok (.iload 6, 2) := by decide +kernel
theorem d_L_leastWalk_105 : decode m_L_leastWalk.2.1 105 = .ok (.istore 5, 2) := by decide +kernel
theorem d_L_leastWalk_107 : decode m_L_leastWalk.2.1 107 = .ok (.iinc 7 1, 3) := by decide +kernel
theorem d_L_leastWalk_110 : decode m_L_leastWalk.2.1 110 = .ok (.goto (-84), 3) := by decide +kernel
theorem d_L_leastWalk_113 : decode m_L_leastWalk.2.1 113 = .ok (.iinc 6 1, 3) := by decide +kernel
theorem d_L_leastWalk_116 : decode m_L_leastWalk.2.1 116 = .ok (.goto (-105), 3) := by decide +kernel
theorem d_L_leastWalk_119 : decode m_L_leastWalk.2.1 119 = .ok (.iload_n 3, 1) := by decide +kernel
theorem d_L_leastWalk_120 : decode m_L_leastWalk.2.1 120 = .ok (.ifCond .eq 8, 3) := by decide +kernel
theorem d_L_leastWalk_123 : decode m_L_leastWalk.2.1 123 = .ok (.iload 4, 2) := by decide +kernel
theorem d_L_leastWalk_125 : decode m_L_leastWalk.2.1 125 = .ok (.goto 5, 3) := by decide +kernel
theorem d_L_leastWalk_128 : decode m_L_leastWalk.2.1 128 = .ok (.iload 5, 2) := by decide +kernel
theorem d_L_leastWalk_130 : decode m_L_leastWalk.2.1 130 = .ok (.ireturn, 1) := by decide +kernel
theorem d_L_allCanBeRead_0 : decode m_L_allCanBeRead.2.1 0 = .ok (.iconst 1, 1) := by decide +kernel
theorem d_L_allCanBeRead_1 : decode m_L_allCanBeRead.2.1 1 = .ok (.iload 4, 2) := by decide +kernel
theorem d_L_allCanBeRead_3 : decode m_L_allCanBeRead.2.1 3 = .ok (.iconst 1, 1) := by decide +kernel
theorem d_L_allCanBeRead_4 : decode m_L_allCanBeRead.2.1 4 = .ok (.iadd, 1) := by decide +kernel
theorem d_L_allCanBeRead_5 : decode m_L_allCanBeRead.2.1 5 = .ok (.ishl, 1) := by decide +kernel
theorem d_L_allCanBeRead_6 : decode m_L_allCanBeRead.2.1 6 = .ok (.iconst 1, 1) := by decide +kernel
theorem d_L_allCanBeRead_7 : decode m_L_allCanBeRead.2.1 7 = .ok (.iload_n 3, 1) := by decide +kernel
theorem d_L_allCanBeRead_8 : decode m_L_allCanBeRead.2.1 8 = .ok (.ishl, 1) := by decide +kernel
theorem d_L_allCanBeRead_9 : decode m_L_allCanBeRead.2.1 9 = .ok (.isub, 1) := by decide +kernel
theorem d_L_allCanBeRead_10 : decode m_L_allCanBeRead.2.1 10 = .ok (.istore 5, 2) := by decide +kernel
theorem d_L_allCanBeRead_12 : decode m_L_allCanBeRead.2.1 12 = .ok (.iconst 0, 1) := by decide +kernel
theorem d_L_allCanBeRead_13 : decode m_L_allCanBeRead.2.1 13 = .ok (.istore 6, 2) := by decide +kernel
theorem d_L_allCanBeRead_15 : decode m_L_allCanBeRead.2.1 15 = .ok (.iload 6, 2) := by decide +kernel
theorem d_L_allCanBeRead_17 : decode m_L_allCanBeRead.2.1 17 = .ok (.bipush 6, 2) := by decide +kernel
theorem d_L_allCanBeRead_19 : decode m_L_allCanBeRead.2.1 19 = .ok (.if_icmp .ge 41, 3) := by decide +kernel
theorem d_L_allCanBeRead_22 : decode m_L_allCanBeRead.2.1 22 = .ok (.iload_n 2, 1) := by decide +kernel
theorem d_L_allCanBeRead_23 : decode m_L_allCanBeRead.2.1 23 = .ok (.iload 6, 2) := by decide +kernel
theorem d_L_allCanBeRead_25 : decode m_L_allCanBeRead.2.1 25 = .ok (.invokestatic 32, 3) := by decide +kernel
theorem d_L_allCanBeRead_28 : decode m_L_allCanBeRead.2.1 28 = .ok (.ifCond .ne 6, 3) := by decide +kernel
theorem d_L_allCanBeRead_31 : decode m_L_allCanBeRead.2.1 31 = .ok (.goto 23, 3) := by decide +kernel
theorem d_L_allCanBeRead_34 : decode m_L_allCanBeRead.2.1 34 = .ok (.aload_n 0, 1) := by decide +kernel
theorem d_L_allCanBeRead_35 : decode m_L_allCanBeRead.2.1 35 = .ok (.getfield 15, 3) := by decide +kernel
theorem d_L_allCanBeRead_38 : decode m_L_allCanBeRead.2.1 38 = .ok (.aload_n 1, 1) := by decide +kernel
theorem d_L_allCanBeRead_39 : decode m_L_allCanBeRead.2.1 39 = .ok (.getfield 53, 3) := by decide +kernel
theorem d_L_allCanBeRead_42 : decode m_L_allCanBeRead.2.1 42 = .ok (.iload 6, 2) := by decide +kernel
theorem d_L_allCanBeRead_44 : decode m_L_allCanBeRead.2.1 44 = .ok (.iaload, 1) := by decide +kernel
theorem d_L_allCanBeRead_45 : decode m_L_allCanBeRead.2.1 45 = .ok (.iaload, 1) := by decide +kernel
theorem d_L_allCanBeRead_46 : decode m_L_allCanBeRead.2.1 46 = .ok (.iload 5, 2) := by decide +kernel
theorem d_L_allCanBeRead_48 : decode m_L_allCanBeRead.2.1 48 = .ok (.iand, 1) := by decide +kernel
theorem d_L_allCanBeRead_49 : decode m_L_allCanBeRead.2.1 49 = .ok (.ifCond .ne 5, 3) := by decide +kernel
theorem d_L_allCanBeRead_52 : decode m_L_allCanBeRead.2.1 52 = .ok (.iconst 0, 1) := by decide +kernel
theorem d_L_allCanBeRead_53 : decode m_L_allCanBeRead.2.1 53 = .ok (.ireturn, 1) := by decide +kernel
theorem d_L_allCanBeRead_54 : decode m_L_allCanBeRead.2.1 54 = .ok (.iinc 6 1, 3) := by decide +kernel
theorem d_L_allCanBeRead_57 : decode m_L_allCanBeRead.2.1 57 = .ok (.goto (-42), 3) := by decide +kernel
theorem d_L_allCanBeRead_60 : decode m_L_allCanBeRead.2.1 60 = .ok (.iconst 1, 1) := by decide +kernel
theorem d_L_allCanBeRead_61 : decode m_L_allCanBeRead.2.1 61 = .ok (.ireturn, 1) := by decide +kernel
theorem d_L_placesThatFit_0 : decode m_L_placesThatFit.2.1 0 = .ok (.iconst 0, 1) := by decide +kernel
theorem d_L_placesThatFit_1 : decode m_L_placesThatFit.2.1 1 = .ok (.istore_n 2, 1) := by decide +kernel
theorem d_L_placesThatFit_2 : decode m_L_placesThatFit.2.1 2 = .ok (.iconst 0, 1) := by decide +kernel
theorem d_L_placesThatFit_3 : decode m_L_placesThatFit.2.1 3 = .ok (.istore_n 3, 1) := by decide +kernel
theorem d_L_placesThatFit_4 : decode m_L_placesThatFit.2.1 4 = .ok (.iload_n 3, 1) := by decide +kernel
theorem d_L_placesThatFit_5 : decode m_L_placesThatFit.2.1 5 = .ok (.bipush 12, 2) := by decide +kernel
theorem d_L_placesThatFit_7 : decode m_L_placesThatFit.2.1 7 = .ok (.if_icmp .ge 71, 3) := by decide +kernel
theorem d_L_placesThatFit_10 : decode m_L_placesThatFit.2.1 10 = .ok (.aload_n 0, 1) := by decide +kernel
theorem d_L_placesThatFit_11 : decode m_L_placesThatFit.2.1 11 = .ok (.getfield 9, 3) := by decide +kernel
theorem d_L_placesThatFit_14 : decode m_L_placesThatFit.2.1 14 = .ok (.iload_n 3, 1) := by decide +kernel
theorem d_L_placesThatFit_15 : decode m_L_placesThatFit.2.1 15 = .ok (.iaload, 1) := by decide +kernel
theorem d_L_placesThatFit_16 : decode m_L_placesThatFit.2.1 16 = .ok (.aload_n 1, 1) := by decide +kernel
theorem d_L_placesThatFit_17 : decode m_L_placesThatFit.2.1 17 = .ok (.getfield 56, 3) := by decide +kernel
theorem d_L_placesThatFit_20 : decode m_L_placesThatFit.2.1 20 = .ok (.iand, 1) := by decide +kernel
theorem d_L_placesThatFit_21 : decode m_L_placesThatFit.2.1 21 = .ok (.aload_n 1, 1) := by decide +kernel
theorem d_L_placesThatFit_22 : decode m_L_placesThatFit.2.1 22 = .ok (.getfield 56, 3) := by decide +kernel
theorem d_L_placesThatFit_25 : decode m_L_placesThatFit.2.1 25 = .ok (.if_icmp .ne 7, 3) := by decide +kernel
theorem d_L_placesThatFit_28 : decode m_L_placesThatFit.2.1 28 = .ok (.iconst 1, 1) := by decide +kernel
theorem d_L_placesThatFit_29 : decode m_L_placesThatFit.2.1 29 = .ok (.goto 4, 3) := by decide +kernel
theorem d_L_placesThatFit_32 : decode m_L_placesThatFit.2.1 32 = .ok (.iconst 0, 1) := by decide +kernel
theorem d_L_placesThatFit_33 : decode m_L_placesThatFit.2.1 33 = .ok (.istore 4, 2) := by decide +kernel
theorem d_L_placesThatFit_35 : decode m_L_placesThatFit.2.1 35 = .ok (.aload_n 0, 1) := by decide +kernel
theorem d_L_placesThatFit_36 : decode m_L_placesThatFit.2.1 36 = .ok (.getfield 9, 3) := by decide +kernel
theorem d_L_placesThatFit_39 : decode m_L_placesThatFit.2.1 39 = .ok (.iload_n 3, 1) := by decide +kernel
theorem d_L_placesThatFit_40 : decode m_L_placesThatFit.2.1 40 = .ok (.iaload, 1) := by decide +kernel
theorem d_L_placesThatFit_41 : decode m_L_placesThatFit.2.1 41 = .ok (.aload_n 1, 1) := by decide +kernel
theorem d_L_placesThatFit_42 : decode m_L_placesThatFit.2.1 42 = .ok (.getfield 59, 3) := by decide +kernel
theorem d_L_placesThatFit_45 : decode m_L_placesThatFit.2.1 45 = .ok (.iand, 1) := by decide +kernel
theorem d_L_placesThatFit_46 : decode m_L_placesThatFit.2.1 46 = .ok (.ifCond .ne 7, 3) := by decide +kernel
theorem d_L_placesThatFit_49 : decode m_L_placesThatFit.2.1 49 = .ok (.iconst 1, 1) := by decide +kernel
theorem d_L_placesThatFit_50 : decode m_L_placesThatFit.2.1 50 = .ok (.goto 4, 3) := by decide +kernel
theorem d_L_placesThatFit_53 : decode m_L_placesThatFit.2.1 53 = .ok (.iconst 0, 1) := by decide +kernel
theorem d_L_placesThatFit_54 : decode m_L_placesThatFit.2.1 54 = .ok (.istore 5, 2) := by decide +kernel
theorem d_L_placesThatFit_56 : decode m_L_placesThatFit.2.1 56 = .ok (.iload 4, 2) := by decide +kernel
theorem d_L_placesThatFit_58 : decode m_L_placesThatFit.2.1 58 = .ok (.ifCond .eq 14, 3) := by decide +kernel
theorem d_L_placesThatFit_61 : decode m_L_placesThatFit.2.1 61 = .ok (.iload 5, 2) := by decide +kernel
theorem d_L_placesThatFit_63 : decode m_L_placesThatFit.2.1 63 = .ok (.ifCond .eq 9, 3) := by decide +kernel
theorem d_L_placesThatFit_66 : decode m_L_placesThatFit.2.1 66 = .ok (.iload_n 2, 1) := by decide +kernel
theorem d_L_placesThatFit_67 : decode m_L_placesThatFit.2.1 67 = .ok (.iconst 1, 1) := by decide +kernel
theorem d_L_placesThatFit_68 : decode m_L_placesThatFit.2.1 68 = .ok (.iload_n 3, 1) := by decide +kernel
theorem d_L_placesThatFit_69 : decode m_L_placesThatFit.2.1 69 = .ok (.ishl, 1) := by decide +kernel
theorem d_L_placesThatFit_70 : decode m_L_placesThatFit.2.1 70 = .ok (.ior, 1) := by decide +kernel
theorem d_L_placesThatFit_71 : decode m_L_placesThatFit.2.1 71 = .ok (.istore_n 2, 1) := by decide +kernel
theorem d_L_placesThatFit_72 : decode m_L_placesThatFit.2.1 72 = .ok (.iinc 3 1, 3) := by decide +kernel
theorem d_L_placesThatFit_75 : decode m_L_placesThatFit.2.1 75 = .ok (.goto (-71), 3) := by decide +kernel
theorem d_L_placesThatFit_78 : decode m_L_placesThatFit.2.1 78 = .ok (.iload_n 2, 1) := by decide +kernel
theorem d_L_placesThatFit_79 : decode m_L_placesThatFit.2.1 79 = .ok (.ireturn, 1) := by decide +kernel
theorem d_L_bestToAsk_0 : decode m_L_bestToAsk.2.1 0 = .ok (.iload_n 1, 1) := by decide +kernel
theorem d_L_bestToAsk_1 : decode m_L_bestToAsk.2.1 1 = .ok (.invokestatic 36, 3) := by decide +kernel
theorem d_L_bestToAsk_4 : decode m_L_bestToAsk.2.1 4 = .ok (.istore_n 3, 1) := by decide +kernel
theorem d_L_bestToAsk_5 : decode m_L_bestToAsk.2.1 5 = .ok (.iload_n 3, 1) := by decide +kernel
theorem d_L_bestToAsk_6 : decode m_L_bestToAsk.2.1 6 = .ok (.iconst 1, 1) := by decide +kernel
theorem d_L_bestToAsk_7 : decode m_L_bestToAsk.2.1 7 = .ok (.iadd, 1) := by decide +kernel
theorem d_L_bestToAsk_8 : decode m_L_bestToAsk.2.1 8 = .ok (.istore 4, 2) := by decide +kernel
theorem d_L_bestToAsk_10 : decode m_L_bestToAsk.2.1 10 = .ok (.bipush (-6), 2) := by decide +kernel
theorem d_L_bestToAsk_12 : decode m_L_bestToAsk.2.1 12 = .ok (.istore 5, 2) := by decide +kernel
theorem d_L_bestToAsk_14 : decode m_L_bestToAsk.2.1 14 = .ok (.iconst 0, 1) := by decide +kernel
theorem d_L_bestToAsk_15 : decode m_L_bestToAsk.2.1 15 = .ok (.istore 6, 2) := by decide +kernel
theorem d_L_bestToAsk_17 : decode m_L_bestToAsk.2.1 17 = .ok (.iload 6, 2) := by decide +kernel
theorem d_L_bestToAsk_19 : decode m_L_bestToAsk.2.1 19 = .ok (.bipush 12, 2) := by decide +kernel
theorem d_L_bestToAsk_21 : decode m_L_bestToAsk.2.1 21 = .ok (.if_icmp .ge 49, 3) := by decide +kernel
theorem d_L_bestToAsk_24 : decode m_L_bestToAsk.2.1 24 = .ok (.iload_n 1, 1) := by decide +kernel
theorem d_L_bestToAsk_25 : decode m_L_bestToAsk.2.1 25 = .ok (.aload_n 0, 1) := by decide +kernel
theorem d_L_bestToAsk_26 : decode m_L_bestToAsk.2.1 26 = .ok (.getfield 15, 3) := by decide +kernel
theorem d_L_bestToAsk_29 : decode m_L_bestToAsk.2.1 29 = .ok (.iload 6, 2) := by decide +kernel
theorem d_L_bestToAsk_31 : decode m_L_bestToAsk.2.1 31 = .ok (.iaload, 1) := by decide +kernel
theorem d_L_bestToAsk_32 : decode m_L_bestToAsk.2.1 32 = .ok (.iand, 1) := by decide +kernel
theorem d_L_bestToAsk_33 : decode m_L_bestToAsk.2.1 33 = .ok (.invokestatic 36, 3) := by decide +kernel
theorem d_L_bestToAsk_36 : decode m_L_bestToAsk.2.1 36 = .ok (.istore 7, 2) := by decide +kernel
theorem d_L_bestToAsk_38 : decode m_L_bestToAsk.2.1 38 = .ok (.iload 7, 2) := by decide +kernel
theorem d_L_bestToAsk_40 : decode m_L_bestToAsk.2.1 40 = .ok (.iload_n 3, 1) := by decide +kernel
theorem d_L_bestToAsk_41 : decode m_L_bestToAsk.2.1 41 = .ok (.iload 7, 2) := by decide +kernel
theorem d_L_bestToAsk_43 : decode m_L_bestToAsk.2.1 43 = .ok (.isub, 1) := by decide +kernel
theorem d_L_bestToAsk_44 : decode m_L_bestToAsk.2.1 44 = .ok (.invokestatic 62, 3) := by decide +kernel
theorem d_L_bestToAsk_47 : decode m_L_bestToAsk.2.1 47 = .ok (.istore 8, 2) := by decide +kernel
theorem d_L_bestToAsk_49 : decode m_L_bestToAsk.2.1 49 = .ok (.iload 8, 2) := by decide +kernel
theorem d_L_bestToAsk_51 : decode m_L_bestToAsk.2.1 51 = .ok (.iload 4, 2) := by decide +kernel
theorem d_L_bestToAsk_53 : decode m_L_bestToAsk.2.1 53 = .ok (.if_icmp .ge 11, 3) := by decide +kernel
theorem d_L_bestToAsk_56 : decode m_L_bestToAsk.2.1 56 = .ok (.iload 8, 2) := by decide +kernel
theorem d_L_bestToAsk_58 : decode m_L_bestToAsk.2.1 58 = .ok (.istore 4, 2) := by decide +kernel
theorem d_L_bestToAsk_60 : decode m_L_bestToAsk.2.1 60 = .ok (.iload 6, 2) := by decide +kernel
theorem d_L_bestToAsk_62 : decode m_L_bestToAsk.2.1 62 = .ok (.istore 5, 2) := by decide +kernel
theorem d_L_bestToAsk_64 : decode m_L_bestToAsk.2.1 64 = .ok (.iinc 6 1, 3) := by decide +kernel
theorem d_L_bestToAsk_67 : decode m_L_bestToAsk.2.1 67 = .ok (.goto (-50), 3) := by decide +kernel
theorem d_L_bestToAsk_70 : decode m_L_bestToAsk.2.1 70 = .ok (.iload_n 2, 1) := by decide +kernel
theorem d_L_bestToAsk_71 : decode m_L_bestToAsk.2.1 71 = .ok (.ifCond .eq 8, 3) := by decide +kernel
theorem d_L_bestToAsk_74 : decode m_L_bestToAsk.2.1 74 = .ok (.iload 5, 2) := by decide +kernel
theorem d_L_bestToAsk_76 : decode m_L_bestToAsk.2.1 76 = .ok (.goto 5, 3) := by decide +kernel
theorem d_L_bestToAsk_79 : decode m_L_bestToAsk.2.1 79 = .ok (.iload 4, 2) := by decide +kernel
theorem d_L_bestToAsk_81 : decode m_L_bestToAsk.2.1 81 = .ok (.ireturn, 1) := by decide +kernel
theorem d_P_init_0 : decode m_P_init.2.1 0 = .ok (.aload_n 0, 1) := by decide +kernel
theorem d_P_init_1 : decode m_P_init.2.1 1 = .ok (.invokespecial 3, 3) := by decide +kernel
theorem d_P_init_4 : decode m_P_init.2.1 4 = .ok (.aload_n 0, 1) := by decide +kernel
theorem d_P_init_5 : decode m_P_init.2.1 5 = .ok (.bipush 60, 2) := by decide +kernel
theorem d_P_init_7 : decode m_P_init.2.1 7 = .ok (.newarray .int, 2) := by decide +kernel
theorem d_P_init_9 : decode m_P_init.2.1 9 = .ok (.putfield 9, 3) := by decide +kernel
theorem d_P_init_12 : decode m_P_init.2.1 12 = .ok (.aload_n 0, 1) := by decide +kernel
theorem d_P_init_13 : decode m_P_init.2.1 13 = .ok (.iconst 0, 1) := by decide +kernel
theorem d_P_init_14 : decode m_P_init.2.1 14 = .ok (.putfield 15, 3) := by decide +kernel
theorem d_P_init_17 : decode m_P_init.2.1 17 = .ok (.aload_n 0, 1) := by decide +kernel
theorem d_P_init_18 : decode m_P_init.2.1 18 = .ok (.iconst 0, 1) := by decide +kernel
theorem d_P_init_19 : decode m_P_init.2.1 19 = .ok (.putfield 19, 3) := by decide +kernel
theorem d_P_init_22 : decode m_P_init.2.1 22 = .ok (.aload_n 0, 1) := by decide +kernel
theorem d_P_init_23 : decode m_P_init.2.1 23 = .ok (.bipush (-6), 2) := by decide +kernel
theorem d_P_init_25 : decode m_P_init.2.1 25 = .ok (.putfield 22, 3) := by decide +kernel
theorem d_P_init_28 : decode m_P_init.2.1 28 = .ok (.aload_n 0, 1) := by decide +kernel
theorem d_P_init_29 : decode m_P_init.2.1 29 = .ok (.bipush (-6), 2) := by decide +kernel
theorem d_P_init_31 : decode m_P_init.2.1 31 = .ok (.putfield 25, 3) := by decide +kernel
theorem d_P_init_34 : decode m_P_init.2.1 34 = .ok (.aload_n 0, 1) := by decide +kernel
theorem d_P_init_35 : decode m_P_init.2.1 35 = .ok (.bipush (-6), 2) := by decide +kernel
theorem d_P_init_37 : decode m_P_init.2.1 37 = .ok (.putfield 28, 3) := by decide +kernel
theorem d_P_init_40 : decode m_P_init.2.1 40 = .ok (.return_, 1) := by decide +kernel
theorem d_P_write_0 : decode m_P_write.2.1 0 = .ok (.aload_n 0, 1) := by decide +kernel
theorem d_P_write_1 : decode m_P_write.2.1 1 = .ok (.getfield 15, 3) := by decide +kernel
theorem d_P_write_4 : decode m_P_write.2.1 4 = .ok (.bipush 60, 2) := by decide +kernel
theorem d_P_write_6 : decode m_P_write.2.1 6 = .ok (.if_icmp .lt 5, 3) := by decide +kernel
theorem d_P_write_9 : decode m_P_write.2.1 9 = .ok (.iconst 0, 1) := by decide +kernel
theorem d_P_write_10 : decode m_P_write.2.1 10 = .ok (.ireturn, 1) := by decide +kernel
theorem d_P_write_11 : decode m_P_write.2.1 11 = .ok (.aload_n 0, 1) := by decide +kernel
theorem d_P_write_12 : decode m_P_write.2.1 12 = .ok (.getfield 9, 3) := by decide +kernel
theorem d_P_write_15 : decode m_P_write.2.1 15 = .ok (.aload_n 0, 1) := by decide +kernel
theorem d_P_write_16 : decode m_P_write.2.1 16 = .ok (.getfield 15, 3) := by decide +kernel
theorem d_P_write_19 : decode m_P_write.2.1 19 = .ok (.iload_n 1, 1) := by decide +kernel
theorem d_P_write_20 : decode m_P_write.2.1 20 = .ok (.iastore, 1) := by decide +kernel
theorem d_P_write_21 : decode m_P_write.2.1 21 = .ok (.aload_n 0, 1) := by decide +kernel
theorem d_P_write_22 : decode m_P_write.2.1 22 = .ok (.dup, 1) := by decide +kernel
theorem d_P_write_23 : decode m_P_write.2.1 23 = .ok (.getfield 15, 3) := by decide +kernel
theorem d_P_write_26 : decode m_P_write.2.1 26 = .ok (.iconst 1, 1) := by decide +kernel
theorem d_P_write_27 : decode m_P_write.2.1 27 = .ok (.iadd, 1) := by decide +kernel
theorem d_P_write_28 : decode m_P_write.2.1 28 = .ok (.putfield 15, 3) := by decide +kernel
theorem d_P_write_31 : decode m_P_write.2.1 31 = .ok (.iconst 1, 1) := by decide +kernel
theorem d_P_write_32 : decode m_P_write.2.1 32 = .ok (.ireturn, 1) := by decide +kernel
theorem d_P_clean_0 : decode m_P_clean.2.1 0 = .ok (.aload_n 0, 1) := by decide +kernel
theorem d_P_clean_1 : decode m_P_clean.2.1 1 = .ok (.getfield 15, 3) := by decide +kernel
theorem d_P_clean_4 : decode m_P_clean.2.1 4 = .ok (.istore_n 1, 1) := by decide +kernel
theorem d_P_clean_5 : decode m_P_clean.2.1 5 = .ok (.aload_n 0, 1) := by decide +kernel
theorem d_P_clean_6 : decode m_P_clean.2.1 6 = .ok (.iconst 0, 1) := by decide +kernel
theorem d_P_clean_7 : decode m_P_clean.2.1 7 = .ok (.putfield 15, 3) := by decide +kernel
theorem d_P_clean_10 : decode m_P_clean.2.1 10 = .ok (.iload_n 1, 1) := by decide +kernel
theorem d_P_clean_11 : decode m_P_clean.2.1 11 = .ok (.ireturn, 1) := by decide +kernel
theorem d_P_faultPlace_0 : decode m_P_faultPlace.2.1 0 = .ok (.iconst 0, 1) := by decide +kernel
theorem d_P_faultPlace_1 : decode m_P_faultPlace.2.1 1 = .ok (.istore_n 1, 1) := by decide +kernel
theorem d_P_faultPlace_2 : decode m_P_faultPlace.2.1 2 = .ok (.iconst 0, 1) := by decide +kernel
theorem d_P_faultPlace_3 : decode m_P_faultPlace.2.1 3 = .ok (.istore_n 2, 1) := by decide +kernel
theorem d_P_faultPlace_4 : decode m_P_faultPlace.2.1 4 = .ok (.iload_n 2, 1) := by decide +kernel
theorem d_P_faultPlace_5 : decode m_P_faultPlace.2.1 5 = .ok (.aload_n 0, 1) := by decide +kernel
theorem d_P_faultPlace_6 : decode m_P_faultPlace.2.1 6 = .ok (.getfield 15, 3) := by decide +kernel
theorem d_P_faultPlace_9 : decode m_P_faultPlace.2.1 9 = .ok (.if_icmp .ge 46, 3) := by decide +kernel
theorem d_P_faultPlace_12 : decode m_P_faultPlace.2.1 12 = .ok (.aload_n 0, 1) := by decide +kernel
theorem d_P_faultPlace_13 : decode m_P_faultPlace.2.1 13 = .ok (.getfield 9, 3) := by decide +kernel
theorem d_P_faultPlace_16 : decode m_P_faultPlace.2.1 16 = .ok (.iload_n 2, 1) := by decide +kernel
theorem d_P_faultPlace_17 : decode m_P_faultPlace.2.1 17 = .ok (.iaload, 1) := by decide +kernel
theorem d_P_faultPlace_18 : decode m_P_faultPlace.2.1 18 = .ok (.invokestatic 31, 3) := by decide +kernel
theorem d_P_faultPlace_21 : decode m_P_faultPlace.2.1 21 = .ok (.istore_n 3, 1) := by decide +kernel
theorem d_P_faultPlace_22 : decode m_P_faultPlace.2.1 22 = .ok (.iload_n 3, 1) := by decide +kernel
theorem d_P_faultPlace_23 : decode m_P_faultPlace.2.1 23 = .ok (.bipush (-6), 2) := by decide +kernel
theorem d_P_faultPlace_25 : decode m_P_faultPlace.2.1 25 = .ok (.if_icmp .eq 11, 3) := by decide +kernel
theorem d_P_faultPlace_28 : decode m_P_faultPlace.2.1 28 = .ok (.iload_n 1, 1) := by decide +kernel
theorem d_P_faultPlace_29 : decode m_P_faultPlace.2.1 29 = .ok (.ifCond .eq 9, 3) := by decide +kernel
theorem d_P_faultPlace_32 : decode m_P_faultPlace.2.1 32 = .ok (.iload_n 3, 1) := by decide +kernel
theorem d_P_faultPlace_33 : decode m_P_faultPlace.2.1 33 = .ok (.ifCond .eq 5, 3) := by decide +kernel
theorem d_P_faultPlace_36 : decode m_P_faultPlace.2.1 36 = .ok (.iload_n 2, 1) := by decide +kernel
theorem d_P_faultPlace_37 : decode m_P_faultPlace.2.1 37 = .ok (.ireturn, 1) := by decide +kernel
theorem d_P_faultPlace_38 : decode m_P_faultPlace.2.1 38 = .ok (.iload_n 3, 1) := by decide +kernel
theorem d_P_faultPlace_39 : decode m_P_faultPlace.2.1 39 = .ok (.iconst 2, 1) := by decide +kernel
theorem d_P_faultPlace_40 : decode m_P_faultPlace.2.1 40 = .ok (.if_icmp .ne 7, 3) := by decide +kernel
theorem d_P_faultPlace_43 : decode m_P_faultPlace.2.1 43 = .ok (.iconst 1, 1) := by decide +kernel
theorem d_P_faultPlace_44 : decode m_P_faultPlace.2.1 44 = .ok (.goto 4, 3) := by decide +kernel
theorem d_P_faultPlace_47 : decode m_P_faultPlace.2.1 47 = .ok (.iconst 0, 1) := by decide +kernel
theorem d_P_faultPlace_48 : decode m_P_faultPlace.2.1 48 = .ok (.istore_n 1, 1) := by decide +kernel
theorem d_P_faultPlace_49 : decode m_P_faultPlace.2.1 49 = .ok (.iinc 2 1, 3) := by decide +kernel
theorem d_P_faultPlace_52 : decode m_P_faultPlace.2.1 52 = .ok (.goto (-48), 3) := by decide +kernel
theorem d_P_faultPlace_55 : decode m_P_faultPlace.2.1 55 = .ok (.iload_n 1, 1) := by decide +kernel
theorem d_P_faultPlace_56 : decode m_P_faultPlace.2.1 56 = .ok (.ifCond .eq 10, 3) := by decide +kernel
theorem d_P_faultPlace_59 : decode m_P_faultPlace.2.1 59 = .ok (.aload_n 0, 1) := by decide +kernel
theorem d_P_faultPlace_60 : decode m_P_faultPlace.2.1 60 = .ok (.getfield 15, 3) := by decide +kernel
theorem d_P_faultPlace_63 : decode m_P_faultPlace.2.1 63 = .ok (.goto 5, 3) := by decide +kernel
theorem d_P_faultPlace_66 : decode m_P_faultPlace.2.1 66 = .ok (.bipush (-6), 2) := by decide +kernel
theorem d_P_faultPlace_68 : decode m_P_faultPlace.2.1 68 = .ok (.ireturn, 1) := by decide +kernel
theorem d_P_kindOf_0 : decode m_P_kindOf.2.1 0 = .ok (.iload_n 0, 1) := by decide +kernel
theorem d_P_kindOf_1 : decode m_P_kindOf.2.1 1 = .ok (.bipush 97, 2) := by decide +kernel
theorem d_P_kindOf_3 : decode m_P_kindOf.2.1 3 = .ok (.if_icmp .lt 11, 3) := by decide +kernel
theorem d_P_kindOf_6 : decode m_P_kindOf.2.1 6 = .ok (.iload_n 0, 1) := by decide +kernel
theorem d_P_kindOf_7 : decode m_P_kindOf.2.1 7 = .ok (.bipush 109, 2) := by decide +kernel
theorem d_P_kindOf_9 : decode m_P_kindOf.2.1 9 = .ok (.if_icmp .ge 5, 3) := by decide +kernel
theorem d_P_kindOf_12 : decode m_P_kindOf.2.1 12 = .ok (.iconst 0, 1) := by decide +kernel
theorem d_P_kindOf_13 : decode m_P_kindOf.2.1 13 = .ok (.ireturn, 1) := by decide +kernel
theorem d_P_kindOf_14 : decode m_P_kindOf.2.1 14 = .ok (.iload_n 0, 1) := by decide +kernel
theorem d_P_kindOf_15 : decode m_P_kindOf.2.1 15 = .ok (.bipush 48, 2) := by decide +kernel
theorem d_P_kindOf_17 : decode m_P_kindOf.2.1 17 = .ok (.if_icmp .lt 11, 3) := by decide +kernel
theorem d_P_kindOf_20 : decode m_P_kindOf.2.1 20 = .ok (.iload_n 0, 1) := by decide +kernel
theorem d_P_kindOf_21 : decode m_P_kindOf.2.1 21 = .ok (.bipush 54, 2) := by decide +kernel
theorem d_P_kindOf_23 : decode m_P_kindOf.2.1 23 = .ok (.if_icmp .ge 5, 3) := by decide +kernel
theorem d_P_kindOf_26 : decode m_P_kindOf.2.1 26 = .ok (.iconst 1, 1) := by decide +kernel
theorem d_P_kindOf_27 : decode m_P_kindOf.2.1 27 = .ok (.ireturn, 1) := by decide +kernel
theorem d_P_kindOf_28 : decode m_P_kindOf.2.1 28 = .ok (.iload_n 0, 1) := by decide +kernel
theorem d_P_kindOf_29 : decode m_P_kindOf.2.1 29 = .ok (.bipush 33, 2) := by decide +kernel
theorem d_P_kindOf_31 : decode m_P_kindOf.2.1 31 = .ok (.if_icmp .ne 5, 3) := by decide +kernel
theorem d_P_kindOf_34 : decode m_P_kindOf.2.1 34 = .ok (.iconst 2, 1) := by decide +kernel
theorem d_P_kindOf_35 : decode m_P_kindOf.2.1 35 = .ok (.ireturn, 1) := by decide +kernel
theorem d_P_kindOf_36 : decode m_P_kindOf.2.1 36 = .ok (.iload_n 0, 1) := by decide +kernel
theorem d_P_kindOf_37 : decode m_P_kindOf.2.1 37 = .ok (.bipush 46, 2) := by decide +kernel
theorem d_P_kindOf_39 : decode m_P_kindOf.2.1 39 = .ok (.if_icmp .ne 7, 3) := by decide +kernel
theorem d_P_kindOf_42 : decode m_P_kindOf.2.1 42 = .ok (.iconst 3, 1) := by decide +kernel
theorem d_P_kindOf_43 : decode m_P_kindOf.2.1 43 = .ok (.goto 5, 3) := by decide +kernel
theorem d_P_kindOf_46 : decode m_P_kindOf.2.1 46 = .ok (.bipush (-6), 2) := by decide +kernel
theorem d_P_kindOf_48 : decode m_P_kindOf.2.1 48 = .ok (.ireturn, 1) := by decide +kernel
theorem d_P_numberOf_0 : decode m_P_numberOf.2.1 0 = .ok (.iload_n 0, 1) := by decide +kernel
theorem d_P_numberOf_1 : decode m_P_numberOf.2.1 1 = .ok (.invokestatic 31, 3) := by decide +kernel
theorem d_P_numberOf_4 : decode m_P_numberOf.2.1 4 = .ok (.istore_n 1, 1) := by decide +kernel
theorem d_P_numberOf_5 : decode m_P_numberOf.2.1 5 = .ok (.iload_n 1, 1) := by decide +kernel
theorem d_P_numberOf_6 : decode m_P_numberOf.2.1 6 = .ok (.ifCond .ne 8, 3) := by decide +kernel
theorem d_P_numberOf_9 : decode m_P_numberOf.2.1 9 = .ok (.iload_n 0, 1) := by decide +kernel
theorem d_P_numberOf_10 : decode m_P_numberOf.2.1 10 = .ok (.bipush 97, 2) := by decide +kernel
theorem d_P_numberOf_12 : decode m_P_numberOf.2.1 12 = .ok (.isub, 1) := by decide +kernel
theorem d_P_numberOf_13 : decode m_P_numberOf.2.1 13 = .ok (.ireturn, 1) := by decide +kernel
theorem d_P_numberOf_14 : decode m_P_numberOf.2.1 14 = .ok (.iload_n 1, 1) := by decide +kernel
theorem d_P_numberOf_15 : decode m_P_numberOf.2.1 15 = .ok (.iconst 1, 1) := by decide +kernel
theorem d_P_numberOf_16 : decode m_P_numberOf.2.1 16 = .ok (.if_icmp .ne 10, 3) := by decide +kernel
theorem d_P_numberOf_19 : decode m_P_numberOf.2.1 19 = .ok (.iload_n 0, 1) := by decide +kernel
theorem d_P_numberOf_20 : decode m_P_numberOf.2.1 20 = .ok (.bipush 48, 2) := by decide +kernel
theorem d_P_numberOf_22 : decode m_P_numberOf.2.1 22 = .ok (.isub, 1) := by decide +kernel
theorem d_P_numberOf_23 : decode m_P_numberOf.2.1 23 = .ok (.goto 4, 3) := by decide +kernel
theorem d_P_numberOf_26 : decode m_P_numberOf.2.1 26 = .ok (.iconst 0, 1) := by decide +kernel
theorem d_P_numberOf_27 : decode m_P_numberOf.2.1 27 = .ok (.ireturn, 1) := by decide +kernel
theorem d_P_playsToTheEnd_0 : decode m_P_playsToTheEnd.2.1 0 = .ok (.aload_n 0, 1) := by decide +kernel
theorem d_P_playsToTheEnd_1 : decode m_P_playsToTheEnd.2.1 1 = .ok (.invokevirtual 35, 3) := by decide +kernel
theorem d_P_playsToTheEnd_4 : decode m_P_playsToTheEnd.2.1 4 = .ok (.bipush (-6), 2) := by decide +kernel
theorem d_P_playsToTheEnd_6 : decode m_P_playsToTheEnd.2.1 6 = .ok (.if_icmp .eq 5, 3) := by decide +kernel
theorem d_P_playsToTheEnd_9 : decode m_P_playsToTheEnd.2.1 9 = .ok (.iconst 0, 1) := by decide +kernel
theorem d_P_playsToTheEnd_10 : decode m_P_playsToTheEnd.2.1 10 = .ok (.ireturn, 1) := by decide +kernel
theorem d_P_playsToTheEnd_11 : decode m_P_playsToTheEnd.2.1 11 = .ok (.aload_n 2, 1) := by decide +kernel
theorem d_P_playsToTheEnd_12 : decode m_P_playsToTheEnd.2.1 12 = .ok (.aload_n 1, 1) := by decide +kernel
theorem d_P_playsToTheEnd_13 : decode m_P_playsToTheEnd.2.1 13 = .ok (.invokevirtual 39, 3) := by decide +kernel
theorem d_P_playsToTheEnd_16 : decode m_P_playsToTheEnd.2.1 16 = .ok (.aload_n 0, 1) := by decide +kernel
theorem d_P_playsToTheEnd_17 : decode m_P_playsToTheEnd.2.1 17 = .ok (.iconst 0, 1) := by decide +kernel
theorem d_P_playsToTheEnd_18 : decode m_P_playsToTheEnd.2.1 18 = .ok (.putfield 19, 3) := by decide +kernel
theorem d_P_playsToTheEnd_21 : decode m_P_playsToTheEnd.2.1 21 = .ok (.aload_n 0, 1) := by decide +kernel
theorem d_P_playsToTheEnd_22 : decode m_P_playsToTheEnd.2.1 22 = .ok (.bipush (-6), 2) := by decide +kernel
theorem d_P_playsToTheEnd_24 : decode m_P_playsToTheEnd.2.1 24 = .ok (.putfield 22, 3) := by decide +kernel
theorem d_P_playsToTheEnd_27 : decode m_P_playsToTheEnd.2.1 27 = .ok (.aload_n 0, 1) := by decide +kernel
theorem d_P_playsToTheEnd_28 : decode m_P_playsToTheEnd.2.1 28 = .ok (.bipush (-6), 2) := by decide +kernel
theorem d_P_playsToTheEnd_30 : decode m_P_playsToTheEnd.2.1 30 = .ok (.putfield 25, 3) := by decide +kernel
theorem d_P_playsToTheEnd_33 : decode m_P_playsToTheEnd.2.1 33 = .ok (.aload_n 0, 1) := by decide +kernel
theorem d_P_playsToTheEnd_34 : decode m_P_playsToTheEnd.2.1 34 = .ok (.bipush (-6), 2) := by decide +kernel
theorem d_P_playsToTheEnd_36 : decode m_P_playsToTheEnd.2.1 36 = .ok (.putfield 28, 3) := by decide +kernel
theorem d_P_playsToTheEnd_39 : decode m_P_playsToTheEnd.2.1 39 = .ok (.iconst 0, 1) := by decide +kernel
theorem d_P_playsToTheEnd_40 : decode m_P_playsToTheEnd.2.1 40 = .ok (.istore_n 3, 1) := by decide +kernel
theorem d_P_playsToTheEnd_41 : decode m_P_playsToTheEnd.2.1 41 = .ok (.iload_n 3, 1) := by decide +kernel
theorem d_P_playsToTheEnd_42 : decode m_P_playsToTheEnd.2.1 42 = .ok (.aload_n 0, 1) := by decide +kernel
theorem d_P_playsToTheEnd_43 : decode m_P_playsToTheEnd.2.1 43 = .ok (.getfield 15, 3) := by decide +kernel
theorem d_P_playsToTheEnd_46 : decode m_P_playsToTheEnd.2.1 46 = .ok (.if_icmp .ge 64, 3) := by decide +kernel
theorem d_P_playsToTheEnd_49 : decode m_P_playsToTheEnd.2.1 49 = .ok (.aload_n 0, 1) := by decide +kernel
theorem d_P_playsToTheEnd_50 : decode m_P_playsToTheEnd.2.1 50 = .ok (.getfield 22, 3) := by decide +kernel
theorem d_P_playsToTheEnd_53 : decode m_P_playsToTheEnd.2.1 53 = .ok (.bipush (-6), 2) := by decide +kernel
theorem d_P_playsToTheEnd_55 : decode m_P_playsToTheEnd.2.1 55 = .ok (.if_icmp .ne 55, 3) := by decide +kernel
theorem d_P_playsToTheEnd_58 : decode m_P_playsToTheEnd.2.1 58 = .ok (.aload_n 0, 1) := by decide +kernel
theorem d_P_playsToTheEnd_59 : decode m_P_playsToTheEnd.2.1 59 = .ok (.getfield 9, 3) := by decide +kernel
theorem d_P_playsToTheEnd_62 : decode m_P_playsToTheEnd.2.1 62 = .ok (.iload_n 3, 1) := by decide +kernel
theorem d_P_playsToTheEnd_63 : decode m_P_playsToTheEnd.2.1 63 = .ok (.iaload, 1) := by decide +kernel
theorem d_P_playsToTheEnd_64 : decode m_P_playsToTheEnd.2.1 64 = .ok (.invokestatic 31, 3) := by decide +kernel
theorem d_P_playsToTheEnd_67 : decode m_P_playsToTheEnd.2.1 67 = .ok (.istore 4, 2) := by decide +kernel
theorem d_P_playsToTheEnd_69 : decode m_P_playsToTheEnd.2.1 69 = .ok (.iload 4, 2) := by decide +kernel
theorem d_P_playsToTheEnd_71 : decode m_P_playsToTheEnd.2.1 71 = .ok (.iconst 2, 1) := by decide +kernel
theorem d_P_playsToTheEnd_72 : decode m_P_playsToTheEnd.2.1 72 = .ok (.if_icmp .ne 16, 3) := by decide +kernel
theorem d_P_playsToTheEnd_75 : decode m_P_playsToTheEnd.2.1 75 = .ok (.iload_n 3, 1) := by decide +kernel
theorem d_P_playsToTheEnd_76 : decode m_P_playsToTheEnd.2.1 76 = .ok (.iconst 1, 1) := by decide +kernel
theorem d_P_playsToTheEnd_77 : decode m_P_playsToTheEnd.2.1 77 = .ok (.iadd, 1) := by decide +kernel
theorem d_P_playsToTheEnd_78 : decode m_P_playsToTheEnd.2.1 78 = .ok (.aload_n 0, 1) := by decide +kernel
theorem d_P_playsToTheEnd_79 : decode m_P_playsToTheEnd.2.1 79 = .ok (.getfield 15, 3) := by decide +kernel
theorem d_P_playsToTheEnd_82 : decode m_P_playsToTheEnd.2.1 82 = .ok (.if_icmp .ge 6, 3) := by decide +kernel
theorem d_P_playsToTheEnd_85 : decode m_P_playsToTheEnd.2.1 85 = .ok (.iinc 3 1, 3) := by decide +kernel
theorem d_P_playsToTheEnd_88 : decode m_P_playsToTheEnd.2.1 88 = .ok (.aload_n 0, 1) := by decide +kernel
theorem d_P_playsToTheEnd_89 : decode m_P_playsToTheEnd.2.1 89 = .ok (.aload_n 2, 1) := by decide +kernel
theorem d_P_playsToTheEnd_90 : decode m_P_playsToTheEnd.2.1 90 = .ok (.iload 4, 2) := by decide +kernel
theorem d_P_playsToTheEnd_92 : decode m_P_playsToTheEnd.2.1 92 = .ok (.aload_n 0, 1) := by decide +kernel
theorem d_P_playsToTheEnd_93 : decode m_P_playsToTheEnd.2.1 93 = .ok (.getfield 9, 3) := by decide +kernel
theorem d_P_playsToTheEnd_96 : decode m_P_playsToTheEnd.2.1 96 = .ok (.iload_n 3, 1) := by decide +kernel
theorem d_P_playsToTheEnd_97 : decode m_P_playsToTheEnd.2.1 97 = .ok (.iaload, 1) := by decide +kernel
theorem d_P_playsToTheEnd_98 : decode m_P_playsToTheEnd.2.1 98 = .ok (.invokestatic 45, 3) := by decide +kernel
theorem d_P_playsToTheEnd_101 : decode m_P_playsToTheEnd.2.1 101 = .ok (.invokevirtual 48, 3) := by decide +kernel
theorem d_P_playsToTheEnd_104 : decode m_P_playsToTheEnd.2.1 104 = .ok (.iinc 3 1, 3) := by decide +kernel
theorem d_P_playsToTheEnd_107 : decode m_P_playsToTheEnd.2.1 107 = .ok (.goto (-66), 3) := by decide +kernel
theorem d_P_playsToTheEnd_110 : decode m_P_playsToTheEnd.2.1 110 = .ok (.aload_n 0, 1) := by decide +kernel
theorem d_P_playsToTheEnd_111 : decode m_P_playsToTheEnd.2.1 111 = .ok (.getfield 22, 3) := by decide +kernel
theorem d_P_playsToTheEnd_114 : decode m_P_playsToTheEnd.2.1 114 = .ok (.bipush (-6), 2) := by decide +kernel
theorem d_P_playsToTheEnd_116 : decode m_P_playsToTheEnd.2.1 116 = .ok (.if_icmp .ne 7, 3) := by decide +kernel
theorem d_P_playsToTheEnd_119 : decode m_P_playsToTheEnd.2.1 119 = .ok (.iconst 1, 1) := by decide +kernel
theorem d_P_playsToTheEnd_120 : decode m_P_playsToTheEnd.2.1 120 = .ok (.goto 4, 3) := by decide +kernel
theorem d_P_playsToTheEnd_123 : decode m_P_playsToTheEnd.2.1 123 = .ok (.iconst 0, 1) := by decide +kernel
theorem d_P_playsToTheEnd_124 : decode m_P_playsToTheEnd.2.1 124 = .ok (.ireturn, 1) := by decide +kernel
theorem d_P_playAct_0 : decode m_P_playAct.2.1 0 = .ok (.aload_n 1, 1) := by decide +kernel
theorem d_P_playAct_1 : decode m_P_playAct.2.1 1 = .ok (.iload_n 2, 1) := by decide +kernel
theorem d_P_playAct_2 : decode m_P_playAct.2.1 2 = .ok (.iload_n 3, 1) := by decide +kernel
theorem d_P_playAct_3 : decode m_P_playAct.2.1 3 = .ok (.invokevirtual 52, 3) := by decide +kernel
theorem d_P_playAct_6 : decode m_P_playAct.2.1 6 = .ok (.istore 4, 2) := by decide +kernel
theorem d_P_playAct_8 : decode m_P_playAct.2.1 8 = .ok (.iload 4, 2) := by decide +kernel
theorem d_P_playAct_10 : decode m_P_playAct.2.1 10 = .ok (.ifCond .eq 18, 3) := by decide +kernel
theorem d_P_playAct_13 : decode m_P_playAct.2.1 13 = .ok (.aload_n 0, 1) := by decide +kernel
theorem d_P_playAct_14 : decode m_P_playAct.2.1 14 = .ok (.aload_n 0, 1) := by decide +kernel
theorem d_P_playAct_15 : decode m_P_playAct.2.1 15 = .ok (.getfield 19, 3) := by decide +kernel
theorem d_P_playAct_18 : decode m_P_playAct.2.1 18 = .ok (.putfield 22, 3) := by decide +kernel
theorem d_P_playAct_21 : decode m_P_playAct.2.1 21 = .ok (.aload_n 0, 1) := by decide +kernel
theorem d_P_playAct_22 : decode m_P_playAct.2.1 22 = .ok (.iload 4, 2) := by decide +kernel
theorem d_P_playAct_24 : decode m_P_playAct.2.1 24 = .ok (.putfield 25, 3) := by decide +kernel
theorem d_P_playAct_27 : decode m_P_playAct.2.1 27 = .ok (.return_, 1) := by decide +kernel
theorem d_P_playAct_28 : decode m_P_playAct.2.1 28 = .ok (.iload_n 2, 1) := by decide +kernel
theorem d_P_playAct_29 : decode m_P_playAct.2.1 29 = .ok (.iconst 1, 1) := by decide +kernel
theorem d_P_playAct_30 : decode m_P_playAct.2.1 30 = .ok (.if_icmp .ne 28, 3) := by decide +kernel
theorem d_P_playAct_33 : decode m_P_playAct.2.1 33 = .ok (.aload_n 0, 1) := by decide +kernel
theorem d_P_playAct_34 : decode m_P_playAct.2.1 34 = .ok (.getfield 28, 3) := by decide +kernel
theorem d_P_playAct_37 : decode m_P_playAct.2.1 37 = .ok (.bipush (-6), 2) := by decide +kernel
theorem d_P_playAct_39 : decode m_P_playAct.2.1 39 = .ok (.if_icmp .ne 19, 3) := by decide +kernel
theorem d_P_playAct_42 : decode m_P_playAct.2.1 42 = .ok (.aload_n 1, 1) := by decide +kernel
theorem d_P_playAct_43 : decode m_P_playAct.2.1 43 = .ok (.iload_n 3, 1) := by decide +kernel
theorem d_P_playAct_44 : decode m_P_playAct.2.1 44 = .ok (.invokestatic 56, 3) := by decide +kernel
theorem d_P_playAct_47 : decode m_P_playAct.2.1 47 = .ok (.ifCond .eq 11, 3) := by decide +kernel
theorem d_P_playAct_50 : decode m_P_playAct.2.1 50 = .ok (.aload_n 0, 1) := by decide +kernel
theorem d_P_playAct_51 : decode m_P_playAct.2.1 51 = .ok (.aload_n 0, 1) := by decide +kernel
theorem d_P_playAct_52 : decode m_P_playAct.2.1 52 = .ok (.getfield 19, 3) := by decide +kernel
theorem d_P_playAct_55 : decode m_P_playAct.2.1 55 = .ok (.putfield 28, 3) := by decide +kernel
theorem d_P_playAct_58 : decode m_P_playAct.2.1 58 = .ok (.aload_n 1, 1) := by decide +kernel
theorem d_P_playAct_59 : decode m_P_playAct.2.1 59 = .ok (.iload_n 2, 1) := by decide +kernel
theorem d_P_playAct_60 : decode m_P_playAct.2.1 60 = .ok (.iload_n 3, 1) := by decide +kernel
theorem d_P_playAct_61 : decode m_P_playAct.2.1 61 = .ok (.invokevirtual 60, 3) := by decide +kernel
theorem d_P_playAct_64 : decode m_P_playAct.2.1 64 = .ok (.aload_n 0, 1) := by decide +kernel
theorem d_P_playAct_65 : decode m_P_playAct.2.1 65 = .ok (.dup, 1) := by decide +kernel
theorem d_P_playAct_66 : decode m_P_playAct.2.1 66 = .ok (.getfield 19, 3) := by decide +kernel
theorem d_P_playAct_69 : decode m_P_playAct.2.1 69 = .ok (.iconst 1, 1) := by decide +kernel
theorem d_P_playAct_70 : decode m_P_playAct.2.1 70 = .ok (.iadd, 1) := by decide +kernel
theorem d_P_playAct_71 : decode m_P_playAct.2.1 71 = .ok (.putfield 19, 3) := by decide +kernel
theorem d_P_playAct_74 : decode m_P_playAct.2.1 74 = .ok (.return_, 1) := by decide +kernel
theorem d_P_goesAstray_0 : decode m_P_goesAstray.2.1 0 = .ok (.aload_n 0, 1) := by decide +kernel
theorem d_P_goesAstray_1 : decode m_P_goesAstray.2.1 1 = .ok (.aload_n 0, 1) := by decide +kernel
theorem d_P_goesAstray_2 : decode m_P_goesAstray.2.1 2 = .ok (.getfield 64, 3) := by decide +kernel
theorem d_P_goesAstray_5 : decode m_P_goesAstray.2.1 5 = .ok (.aload_n 0, 1) := by decide +kernel
theorem d_P_goesAstray_6 : decode m_P_goesAstray.2.1 6 = .ok (.getfield 67, 3) := by decide +kernel
theorem d_P_goesAstray_9 : decode m_P_goesAstray.2.1 9 = .ok (.invokevirtual 70, 3) := by decide +kernel
theorem d_P_goesAstray_12 : decode m_P_goesAstray.2.1 12 = .ok (.aload_n 0, 1) := by decide +kernel
theorem d_P_goesAstray_13 : decode m_P_goesAstray.2.1 13 = .ok (.getfield 73, 3) := by decide +kernel
theorem d_P_goesAstray_16 : decode m_P_goesAstray.2.1 16 = .ok (.iload_n 1, 1) := by decide +kernel
theorem d_P_goesAstray_17 : decode m_P_goesAstray.2.1 17 = .ok (.iaload, 1) := by decide +kernel
theorem d_P_goesAstray_18 : decode m_P_goesAstray.2.1 18 = .ok (.invokestatic 76, 3) := by decide +kernel
theorem d_P_goesAstray_21 : decode m_P_goesAstray.2.1 21 = .ok (.ifCond .ne 7, 3) := by decide +kernel
theorem d_P_goesAstray_24 : decode m_P_goesAstray.2.1 24 = .ok (.iconst 1, 1) := by decide +kernel
theorem d_P_goesAstray_25 : decode m_P_goesAstray.2.1 25 = .ok (.goto 4, 3) := by decide +kernel
theorem d_P_goesAstray_28 : decode m_P_goesAstray.2.1 28 = .ok (.iconst 0, 1) := by decide +kernel
theorem d_P_goesAstray_29 : decode m_P_goesAstray.2.1 29 = .ok (.ireturn, 1) := by decide +kernel
theorem d_S_init_0 : decode m_S_init.2.1 0 = .ok (.aload_n 0, 1) := by decide +kernel
theorem d_S_init_1 : decode m_S_init.2.1 1 = .ok (.invokespecial 3, 3) := by decide +kernel
theorem d_S_init_4 : decode m_S_init.2.1 4 = .ok (.aload_n 0, 1) := by decide +kernel
theorem d_S_init_5 : decode m_S_init.2.1 5 = .ok (.bipush 12, 2) := by decide +kernel
theorem d_S_init_7 : decode m_S_init.2.1 7 = .ok (.newarray .int, 2) := by decide +kernel
theorem d_S_init_9 : decode m_S_init.2.1 9 = .ok (.putfield 9, 3) := by decide +kernel
theorem d_S_init_12 : decode m_S_init.2.1 12 = .ok (.aload_n 0, 1) := by decide +kernel
theorem d_S_init_13 : decode m_S_init.2.1 13 = .ok (.bipush 11, 2) := by decide +kernel
theorem d_S_init_15 : decode m_S_init.2.1 15 = .ok (.newarray .int, 2) := by decide +kernel
theorem d_S_init_17 : decode m_S_init.2.1 17 = .ok (.putfield 15, 3) := by decide +kernel
theorem d_S_init_20 : decode m_S_init.2.1 20 = .ok (.aload_n 0, 1) := by decide +kernel
theorem d_S_init_21 : decode m_S_init.2.1 21 = .ok (.bipush 6, 2) := by decide +kernel
theorem d_S_init_23 : decode m_S_init.2.1 23 = .ok (.newarray .int, 2) := by decide +kernel
theorem d_S_init_25 : decode m_S_init.2.1 25 = .ok (.putfield 18, 3) := by decide +kernel
theorem d_S_init_28 : decode m_S_init.2.1 28 = .ok (.aload_n 0, 1) := by decide +kernel
theorem d_S_init_29 : decode m_S_init.2.1 29 = .ok (.bipush 6, 2) := by decide +kernel
theorem d_S_init_31 : decode m_S_init.2.1 31 = .ok (.newarray .int, 2) := by decide +kernel
theorem d_S_init_33 : decode m_S_init.2.1 33 = .ok (.putfield 21, 3) := by decide +kernel
theorem d_S_init_36 : decode m_S_init.2.1 36 = .ok (.aload_n 0, 1) := by decide +kernel
theorem d_S_init_37 : decode m_S_init.2.1 37 = .ok (.bipush 6, 2) := by decide +kernel
theorem d_S_init_39 : decode m_S_init.2.1 39 = .ok (.newarray .int, 2) := by decide +kernel
theorem d_S_init_41 : decode m_S_init.2.1 41 = .ok (.putfield 24, 3) := by decide +kernel
theorem d_S_init_44 : decode m_S_init.2.1 44 = .ok (.aload_n 0, 1) := by decide +kernel
theorem d_S_init_45 : decode m_S_init.2.1 45 = .ok (.bipush 6, 2) := by decide +kernel
theorem d_S_init_47 : decode m_S_init.2.1 47 = .ok (.newarray .int, 2) := by decide +kernel
theorem d_S_init_49 : decode m_S_init.2.1 49 = .ok (.putfield 27, 3) := by decide +kernel
theorem d_S_init_52 : decode m_S_init.2.1 52 = .ok (.aload_n 0, 1) := by decide +kernel
theorem d_S_init_53 : decode m_S_init.2.1 53 = .ok (.iconst 0, 1) := by decide +kernel
theorem d_S_init_54 : decode m_S_init.2.1 54 = .ok (.putfield 30, 3) := by decide +kernel
theorem d_S_init_57 : decode m_S_init.2.1 57 = .ok (.aload_n 0, 1) := by decide +kernel
theorem d_S_init_58 : decode m_S_init.2.1 58 = .ok (.iconst 0, 1) := by decide +kernel
theorem d_S_init_59 : decode m_S_init.2.1 59 = .ok (.putfield 34, 3) := by decide +kernel
theorem d_S_init_62 : decode m_S_init.2.1 62 = .ok (.aload_n 0, 1) := by decide +kernel
theorem d_S_init_63 : decode m_S_init.2.1 63 = .ok (.iconst 0, 1) := by decide +kernel
theorem d_S_init_64 : decode m_S_init.2.1 64 = .ok (.putfield 37, 3) := by decide +kernel
theorem d_S_init_67 : decode m_S_init.2.1 67 = .ok (.aload_n 0, 1) := by decide +kernel
theorem d_S_init_68 : decode m_S_init.2.1 68 = .ok (.iconst 4, 1) := by decide +kernel
theorem d_S_init_69 : decode m_S_init.2.1 69 = .ok (.putfield 40, 3) := by decide +kernel
theorem d_S_init_72 : decode m_S_init.2.1 72 = .ok (.aload_n 0, 1) := by decide +kernel
theorem d_S_init_73 : decode m_S_init.2.1 73 = .ok (.iconst 0, 1) := by decide +kernel
theorem d_S_init_74 : decode m_S_init.2.1 74 = .ok (.putfield 43, 3) := by decide +kernel
theorem d_S_init_77 : decode m_S_init.2.1 77 = .ok (.aload_n 0, 1) := by decide +kernel
theorem d_S_init_78 : decode m_S_init.2.1 78 = .ok (.iconst 0, 1) := by decide +kernel
theorem d_S_init_79 : decode m_S_init.2.1 79 = .ok (.putfield 46, 3) := by decide +kernel
theorem d_S_init_82 : decode m_S_init.2.1 82 = .ok (.aload_n 0, 1) := by decide +kernel
theorem d_S_init_83 : decode m_S_init.2.1 83 = .ok (.iconst 0, 1) := by decide +kernel
theorem d_S_init_84 : decode m_S_init.2.1 84 = .ok (.putfield 49, 3) := by decide +kernel
theorem d_S_init_87 : decode m_S_init.2.1 87 = .ok (.aload_n 0, 1) := by decide +kernel
theorem d_S_init_88 : decode m_S_init.2.1 88 = .ok (.iconst 0, 1) := by decide +kernel
theorem d_S_init_89 : decode m_S_init.2.1 89 = .ok (.putfield 52, 3) := by decide +kernel
theorem d_S_init_92 : decode m_S_init.2.1 92 = .ok (.aload_n 0, 1) := by decide +kernel
theorem d_S_init_93 : decode m_S_init.2.1 93 = .ok (.iconst 0, 1) := by decide +kernel
theorem d_S_init_94 : decode m_S_init.2.1 94 = .ok (.putfield 55, 3) := by decide +kernel
theorem d_S_init_97 : decode m_S_init.2.1 97 = .ok (.aload_n 0, 1) := by decide +kernel
theorem d_S_init_98 : decode m_S_init.2.1 98 = .ok (.iconst 0, 1) := by decide +kernel
theorem d_S_init_99 : decode m_S_init.2.1 99 = .ok (.putfield 58, 3) := by decide +kernel
theorem d_S_init_102 : decode m_S_init.2.1 102 = .ok (.return_, 1) := by decide +kernel
theorem d_S_takeFrom_0 : decode m_S_takeFrom.2.1 0 = .ok (.aload_n 1, 1) := by decide +kernel
theorem d_S_takeFrom_1 : decode m_S_takeFrom.2.1 1 = .ok (.getfield 9, 3) := by decide +kernel
theorem d_S_takeFrom_4 : decode m_S_takeFrom.2.1 4 = .ok (.iconst 0, 1) := by decide +kernel
theorem d_S_takeFrom_5 : decode m_S_takeFrom.2.1 5 = .ok (.aload_n 0, 1) := by decide +kernel
theorem d_S_takeFrom_6 : decode m_S_takeFrom.2.1 6 = .ok (.getfield 9, 3) := by decide +kernel
theorem d_S_takeFrom_9 : decode m_S_takeFrom.2.1 9 = .ok (.iconst 0, 1) := by decide +kernel
theorem d_S_takeFrom_10 : decode m_S_takeFrom.2.1 10 = .ok (.bipush 12, 2) := by decide +kernel
theorem d_S_takeFrom_12 : decode m_S_takeFrom.2.1 12 = .ok (.invokestatic 61, 3) := by decide +kernel
theorem d_S_takeFrom_15 : decode m_S_takeFrom.2.1 15 = .ok (.aload_n 1, 1) := by decide +kernel
theorem d_S_takeFrom_16 : decode m_S_takeFrom.2.1 16 = .ok (.getfield 15, 3) := by decide +kernel
theorem d_S_takeFrom_19 : decode m_S_takeFrom.2.1 19 = .ok (.iconst 0, 1) := by decide +kernel
theorem d_S_takeFrom_20 : decode m_S_takeFrom.2.1 20 = .ok (.aload_n 0, 1) := by decide +kernel
theorem d_S_takeFrom_21 : decode m_S_takeFrom.2.1 21 = .ok (.getfield 15, 3) := by decide +kernel
theorem d_S_takeFrom_24 : decode m_S_takeFrom.2.1 24 = .ok (.iconst 0, 1) := by decide +kernel
theorem d_S_takeFrom_25 : decode m_S_takeFrom.2.1 25 = .ok (.bipush 11, 2) := by decide +kernel
theorem d_S_takeFrom_27 : decode m_S_takeFrom.2.1 27 = .ok (.invokestatic 61, 3) := by decide +kernel
theorem d_S_takeFrom_30 : decode m_S_takeFrom.2.1 30 = .ok (.aload_n 1, 1) := by decide +kernel
theorem d_S_takeFrom_31 : decode m_S_takeFrom.2.1 31 = .ok (.getfield 18, 3) := by decide +kernel
theorem d_S_takeFrom_34 : decode m_S_takeFrom.2.1 34 = .ok (.iconst 0, 1) := by decide +kernel
theorem d_S_takeFrom_35 : decode m_S_takeFrom.2.1 35 = .ok (.aload_n 0, 1) := by decide +kernel
theorem d_S_takeFrom_36 : decode m_S_takeFrom.2.1 36 = .ok (.getfield 18, 3) := by decide +kernel
theorem d_S_takeFrom_39 : decode m_S_takeFrom.2.1 39 = .ok (.iconst 0, 1) := by decide +kernel
theorem d_S_takeFrom_40 : decode m_S_takeFrom.2.1 40 = .ok (.bipush 6, 2) := by decide +kernel
theorem d_S_takeFrom_42 : decode m_S_takeFrom.2.1 42 = .ok (.invokestatic 61, 3) := by decide +kernel
theorem d_S_takeFrom_45 : decode m_S_takeFrom.2.1 45 = .ok (.aload_n 1, 1) := by decide +kernel
theorem d_S_takeFrom_46 : decode m_S_takeFrom.2.1 46 = .ok (.getfield 21, 3) := by decide +kernel
theorem d_S_takeFrom_49 : decode m_S_takeFrom.2.1 49 = .ok (.iconst 0, 1) := by decide +kernel
theorem d_S_takeFrom_50 : decode m_S_takeFrom.2.1 50 = .ok (.aload_n 0, 1) := by decide +kernel
theorem d_S_takeFrom_51 : decode m_S_takeFrom.2.1 51 = .ok (.getfield 21, 3) := by decide +kernel
theorem d_S_takeFrom_54 : decode m_S_takeFrom.2.1 54 = .ok (.iconst 0, 1) := by decide +kernel
theorem d_S_takeFrom_55 : decode m_S_takeFrom.2.1 55 = .ok (.bipush 6, 2) := by decide +kernel
theorem d_S_takeFrom_57 : decode m_S_takeFrom.2.1 57 = .ok (.invokestatic 61, 3) := by decide +kernel
theorem d_S_takeFrom_60 : decode m_S_takeFrom.2.1 60 = .ok (.aload_n 1, 1) := by decide +kernel
theorem d_S_takeFrom_61 : decode m_S_takeFrom.2.1 61 = .ok (.getfield 24, 3) := by decide +kernel
theorem d_S_takeFrom_64 : decode m_S_takeFrom.2.1 64 = .ok (.iconst 0, 1) := by decide +kernel
theorem d_S_takeFrom_65 : decode m_S_takeFrom.2.1 65 = .ok (.aload_n 0, 1) := by decide +kernel
theorem d_S_takeFrom_66 : decode m_S_takeFrom.2.1 66 = .ok (.getfield 24, 3) := by decide +kernel
theorem d_S_takeFrom_69 : decode m_S_takeFrom.2.1 69 = .ok (.iconst 0, 1) := by decide +kernel
theorem d_S_takeFrom_70 : decode m_S_takeFrom.2.1 70 = .ok (.bipush 6, 2) := by decide +kernel
theorem d_S_takeFrom_72 : decode m_S_takeFrom.2.1 72 = .ok (.invokestatic 61, 3) := by decide +kernel
theorem d_S_takeFrom_75 : decode m_S_takeFrom.2.1 75 = .ok (.aload_n 1, 1) := by decide +kernel
theorem d_S_takeFrom_76 : decode m_S_takeFrom.2.1 76 = .ok (.getfield 27, 3) := by decide +kernel
theorem d_S_takeFrom_79 : decode m_S_takeFrom.2.1 79 = .ok (.iconst 0, 1) := by decide +kernel
theorem d_S_takeFrom_80 : decode m_S_takeFrom.2.1 80 = .ok (.aload_n 0, 1) := by decide +kernel
theorem d_S_takeFrom_81 : decode m_S_takeFrom.2.1 81 = .ok (.getfield 27, 3) := by decide +kernel
theorem d_S_takeFrom_84 : decode m_S_takeFrom.2.1 84 = .ok (.iconst 0, 1) := by decide +kernel
theorem d_S_takeFrom_85 : decode m_S_takeFrom.2.1 85 = .ok (.bipush 6, 2) := by decide +kernel
theorem d_S_takeFrom_87 : decode m_S_takeFrom.2.1 87 = .ok (.invokestatic 61, 3) := by decide +kernel
theorem d_S_takeFrom_90 : decode m_S_takeFrom.2.1 90 = .ok (.aload_n 0, 1) := by decide +kernel
theorem d_S_takeFrom_91 : decode m_S_takeFrom.2.1 91 = .ok (.aload_n 1, 1) := by decide +kernel
theorem d_S_takeFrom_92 : decode m_S_takeFrom.2.1 92 = .ok (.getfield 30, 3) := by decide +kernel
theorem d_S_takeFrom_95 : decode m_S_takeFrom.2.1 95 = .ok (.putfield 30, 3) := by decide +kernel
theorem d_S_takeFrom_98 : decode m_S_takeFrom.2.1 98 = .ok (.aload_n 0, 1) := by decide +kernel
theorem d_S_takeFrom_99 : decode m_S_takeFrom.2.1 99 = .ok (.aload_n 1, 1) := by decide +kernel
theorem d_S_takeFrom_100 : decode m_S_takeFrom.2.1 100 = .ok (.getfield 34, 3) := by decide +kernel
theorem d_S_takeFrom_103 : decode m_S_takeFrom.2.1 103 = .ok (.putfield 34, 3) := by decide +kernel
theorem d_S_takeFrom_106 : decode m_S_takeFrom.2.1 106 = .ok (.aload_n 0, 1) := by decide +kernel
theorem d_S_takeFrom_107 : decode m_S_takeFrom.2.1 107 = .ok (.aload_n 1, 1) := by decide +kernel
theorem d_S_takeFrom_108 : decode m_S_takeFrom.2.1 108 = .ok (.getfield 37, 3) := by decide +kernel
theorem d_S_takeFrom_111 : decode m_S_takeFrom.2.1 111 = .ok (.putfield 37, 3) := by decide +kernel
theorem d_S_takeFrom_114 : decode m_S_takeFrom.2.1 114 = .ok (.aload_n 0, 1) := by decide +kernel
theorem d_S_takeFrom_115 : decode m_S_takeFrom.2.1 115 = .ok (.aload_n 1, 1) := by decide +kernel
theorem d_S_takeFrom_116 : decode m_S_takeFrom.2.1 116 = .ok (.getfield 40, 3) := by decide +kernel
theorem d_S_takeFrom_119 : decode m_S_takeFrom.2.1 119 = .ok (.putfield 40, 3) := by decide +kernel
theorem d_S_takeFrom_122 : decode m_S_takeFrom.2.1 122 = .ok (.aload_n 0, 1) := by decide +kernel
theorem d_S_takeFrom_123 : decode m_S_takeFrom.2.1 123 = .ok (.aload_n 1, 1) := by decide +kernel
theorem d_S_takeFrom_124 : decode m_S_takeFrom.2.1 124 = .ok (.getfield 43, 3) := by decide +kernel
theorem d_S_takeFrom_127 : decode m_S_takeFrom.2.1 127 = .ok (.putfield 43, 3) := by decide +kernel
theorem d_S_takeFrom_130 : decode m_S_takeFrom.2.1 130 = .ok (.aload_n 0, 1) := by decide +kernel
theorem d_S_takeFrom_131 : decode m_S_takeFrom.2.1 131 = .ok (.aload_n 1, 1) := by decide +kernel
theorem d_S_takeFrom_132 : decode m_S_takeFrom.2.1 132 = .ok (.getfield 46, 3) := by decide +kernel
theorem d_S_takeFrom_135 : decode m_S_takeFrom.2.1 135 = .ok (.putfield 46, 3) := by decide +kernel
theorem d_S_takeFrom_138 : decode m_S_takeFrom.2.1 138 = .ok (.aload_n 0, 1) := by decide +kernel
theorem d_S_takeFrom_139 : decode m_S_takeFrom.2.1 139 = .ok (.aload_n 1, 1) := by decide +kernel
theorem d_S_takeFrom_140 : decode m_S_takeFrom.2.1 140 = .ok (.getfield 49, 3) := by decide +kernel
theorem d_S_takeFrom_143 : decode m_S_takeFrom.2.1 143 = .ok (.putfield 49, 3) := by decide +kernel
theorem d_S_takeFrom_146 : decode m_S_takeFrom.2.1 146 = .ok (.aload_n 0, 1) := by decide +kernel
theorem d_S_takeFrom_147 : decode m_S_takeFrom.2.1 147 = .ok (.aload_n 1, 1) := by decide +kernel
theorem d_S_takeFrom_148 : decode m_S_takeFrom.2.1 148 = .ok (.getfield 52, 3) := by decide +kernel
theorem d_S_takeFrom_151 : decode m_S_takeFrom.2.1 151 = .ok (.putfield 52, 3) := by decide +kernel
theorem d_S_takeFrom_154 : decode m_S_takeFrom.2.1 154 = .ok (.aload_n 0, 1) := by decide +kernel
theorem d_S_takeFrom_155 : decode m_S_takeFrom.2.1 155 = .ok (.aload_n 1, 1) := by decide +kernel
theorem d_S_takeFrom_156 : decode m_S_takeFrom.2.1 156 = .ok (.getfield 55, 3) := by decide +kernel
theorem d_S_takeFrom_159 : decode m_S_takeFrom.2.1 159 = .ok (.putfield 55, 3) := by decide +kernel
theorem d_S_takeFrom_162 : decode m_S_takeFrom.2.1 162 = .ok (.aload_n 0, 1) := by decide +kernel
theorem d_S_takeFrom_163 : decode m_S_takeFrom.2.1 163 = .ok (.aload_n 1, 1) := by decide +kernel
theorem d_S_takeFrom_164 : decode m_S_takeFrom.2.1 164 = .ok (.getfield 58, 3) := by decide +kernel
theorem d_S_takeFrom_167 : decode m_S_takeFrom.2.1 167 = .ok (.putfield 58, 3) := by decide +kernel
theorem d_S_takeFrom_170 : decode m_S_takeFrom.2.1 170 = .ok (.return_, 1) := by decide +kernel
theorem d_S_loudness_0 : decode m_S_loudness.2.1 0 = .ok (.aload_n 0, 1) := by decide +kernel
theorem d_S_loudness_1 : decode m_S_loudness.2.1 1 = .ok (.getfield 40, 3) := by decide +kernel
theorem d_S_loudness_4 : decode m_S_loudness.2.1 4 = .ok (.istore_n 3, 1) := by decide +kernel
theorem d_S_loudness_5 : decode m_S_loudness.2.1 5 = .ok (.iload_n 1, 1) := by decide +kernel
theorem d_S_loudness_6 : decode m_S_loudness.2.1 6 = .ok (.istore 4, 2) := by decide +kernel
theorem d_S_loudness_8 : decode m_S_loudness.2.1 8 = .ok (.iload 4, 2) := by decide +kernel
theorem d_S_loudness_10 : decode m_S_loudness.2.1 10 = .ok (.iload_n 2, 1) := by decide +kernel
theorem d_S_loudness_11 : decode m_S_loudness.2.1 11 = .ok (.if_icmp .ge 35, 3) := by decide +kernel
theorem d_S_loudness_14 : decode m_S_loudness.2.1 14 = .ok (.aload_n 0, 1) := by decide +kernel
theorem d_S_loudness_15 : decode m_S_loudness.2.1 15 = .ok (.getfield 15, 3) := by decide +kernel
theorem d_S_loudness_18 : decode m_S_loudness.2.1 18 = .ok (.iload 4, 2) := by decide +kernel
theorem d_S_loudness_20 : decode m_S_loudness.2.1 20 = .ok (.iaload, 1) := by decide +kernel
theorem d_S_loudness_21 : decode m_S_loudness.2.1 21 = .ok (.iconst 1, 1) := by decide +kernel
theorem d_S_loudness_22 : decode m_S_loudness.2.1 22 = .ok (.iadd, 1) := by decide +kernel
theorem d_S_loudness_23 : decode m_S_loudness.2.1 23 = .ok (.aload_n 0, 1) := by decide +kernel
theorem d_S_loudness_24 : decode m_S_loudness.2.1 24 = .ok (.getfield 43, 3) := by decide +kernel
theorem d_S_loudness_27 : decode m_S_loudness.2.1 27 = .ok (.isub, 1) := by decide +kernel
theorem d_S_loudness_28 : decode m_S_loudness.2.1 28 = .ok (.istore 5, 2) := by decide +kernel
theorem d_S_loudness_30 : decode m_S_loudness.2.1 30 = .ok (.iload 5, 2) := by decide +kernel
theorem d_S_loudness_32 : decode m_S_loudness.2.1 32 = .ok (.ifCond .le 8, 3) := by decide +kernel
theorem d_S_loudness_35 : decode m_S_loudness.2.1 35 = .ok (.iload_n 3, 1) := by decide +kernel
theorem d_S_loudness_36 : decode m_S_loudness.2.1 36 = .ok (.iload 5, 2) := by decide +kernel
theorem d_S_loudness_38 : decode m_S_loudness.2.1 38 = .ok (.isub, 1) := by decide +kernel
theorem d_S_loudness_39 : decode m_S_loudness.2.1 39 = .ok (.istore_n 3, 1) := by decide +kernel
theorem d_S_loudness_40 : decode m_S_loudness.2.1 40 = .ok (.iinc 4 1, 3) := by decide +kernel
theorem d_S_loudness_43 : decode m_S_loudness.2.1 43 = .ok (.goto (-35), 3) := by decide +kernel
theorem d_S_loudness_46 : decode m_S_loudness.2.1 46 = .ok (.iload_n 1, 1) := by decide +kernel
theorem d_S_loudness_47 : decode m_S_loudness.2.1 47 = .ok (.istore 4, 2) := by decide +kernel
theorem d_S_loudness_49 : decode m_S_loudness.2.1 49 = .ok (.iload 4, 2) := by decide +kernel
theorem d_S_loudness_51 : decode m_S_loudness.2.1 51 = .ok (.iload_n 2, 1) := by decide +kernel
theorem d_S_loudness_52 : decode m_S_loudness.2.1 52 = .ok (.if_icmp .le 37, 3) := by decide +kernel
theorem d_S_loudness_55 : decode m_S_loudness.2.1 55 = .ok (.aload_n 0, 1) := by decide +kernel
theorem d_S_loudness_56 : decode m_S_loudness.2.1 56 = .ok (.getfield 15, 3) := by decide +kernel
theorem d_S_loudness_59 : decode m_S_loudness.2.1 59 = .ok (.iload 4, 2) := by decide +kernel
theorem d_S_loudness_61 : decode m_S_loudness.2.1 61 = .ok (.iconst 1, 1) := by decide +kernel
theorem d_S_loudness_62 : decode m_S_loudness.2.1 62 = .ok (.isub, 1) := by decide +kernel
theorem d_S_loudness_63 : decode m_S_loudness.2.1 63 = .ok (.iaload, 1) := by decide +kernel
theorem d_S_loudness_64 : decode m_S_loudness.2.1 64 = .ok (.iconst 1, 1) := by decide +kernel
theorem d_S_loudness_65 : decode m_S_loudness.2.1 65 = .ok (.iadd, 1) := by decide +kernel
theorem d_S_loudness_66 : decode m_S_loudness.2.1 66 = .ok (.aload_n 0, 1) := by decide +kernel
theorem d_S_loudness_67 : decode m_S_loudness.2.1 67 = .ok (.getfield 43, 3) := by decide +kernel
theorem d_S_loudness_70 : decode m_S_loudness.2.1 70 = .ok (.iadd, 1) := by decide +kernel
theorem d_S_loudness_71 : decode m_S_loudness.2.1 71 = .ok (.istore 5, 2) := by decide +kernel
theorem d_S_loudness_73 : decode m_S_loudness.2.1 73 = .ok (.iload 5, 2) := by decide +kernel
theorem d_S_loudness_75 : decode m_S_loudness.2.1 75 = .ok (.ifCond .le 8, 3) := by decide +kernel
theorem d_S_loudness_78 : decode m_S_loudness.2.1 78 = .ok (.iload_n 3, 1) := by decide +kernel
theorem d_S_loudness_79 : decode m_S_loudness.2.1 79 = .ok (.iload 5, 2) := by decide +kernel
theorem d_S_loudness_81 : decode m_S_loudness.2.1 81 = .ok (.isub, 1) := by decide +kernel
theorem d_S_loudness_82 : decode m_S_loudness.2.1 82 = .ok (.istore_n 3, 1) := by decide +kernel
theorem d_S_loudness_83 : decode m_S_loudness.2.1 83 = .ok (.iinc 4 (-1), 3) := by decide +kernel
theorem d_S_loudness_86 : decode m_S_loudness.2.1 86 = .ok (.goto (-37), 3) := by decide +kernel
theorem d_S_loudness_89 : decode m_S_loudness.2.1 89 = .ok (.iconst 0, 1) := by decide +kernel
theorem d_S_loudness_90 : decode m_S_loudness.2.1 90 = .ok (.iload_n 3, 1) := by decide +kernel
theorem d_S_loudness_91 : decode m_S_loudness.2.1 91 = .ok (.invokestatic 67, 3) := by decide +kernel
theorem d_S_loudness_94 : decode m_S_loudness.2.1 94 = .ok (.ireturn, 1) := by decide +kernel
theorem d_S_reached_0 : decode m_S_reached.2.1 0 = .ok (.iconst 1, 1) := by decide +kernel
theorem d_S_reached_1 : decode m_S_reached.2.1 1 = .ok (.iload_n 1, 1) := by decide +kernel
theorem d_S_reached_2 : decode m_S_reached.2.1 2 = .ok (.ishl, 1) := by decide +kernel
theorem d_S_reached_3 : decode m_S_reached.2.1 3 = .ok (.istore_n 3, 1) := by decide +kernel
theorem d_S_reached_4 : decode m_S_reached.2.1 4 = .ok (.aload_n 0, 1) := by decide +kernel
theorem d_S_reached_5 : decode m_S_reached.2.1 5 = .ok (.getfield 40, 3) := by decide +kernel
theorem d_S_reached_8 : decode m_S_reached.2.1 8 = .ok (.istore 4, 2) := by decide +kernel
theorem d_S_reached_10 : decode m_S_reached.2.1 10 = .ok (.iload_n 1, 1) := by decide +kernel
theorem d_S_reached_11 : decode m_S_reached.2.1 11 = .ok (.iconst 1, 1) := by decide +kernel
theorem d_S_reached_12 : decode m_S_reached.2.1 12 = .ok (.iadd, 1) := by decide +kernel
theorem d_S_reached_13 : decode m_S_reached.2.1 13 = .ok (.istore 5, 2) := by decide +kernel
theorem d_S_reached_15 : decode m_S_reached.2.1 15 = .ok (.iload 5, 2) := by decide +kernel
theorem d_S_reached_17 : decode m_S_reached.2.1 17 = .ok (.bipush 12, 2) := by decide +kernel
theorem d_S_reached_19 : decode m_S_reached.2.1 19 = .ok (.if_icmp .ge 52, 3) := by decide +kernel
theorem d_S_reached_22 : decode m_S_reached.2.1 22 = .ok (.aload_n 0, 1) := by decide +kernel
theorem d_S_reached_23 : decode m_S_reached.2.1 23 = .ok (.getfield 15, 3) := by decide +kernel
theorem d_S_reached_26 : decode m_S_reached.2.1 26 = .ok (.iload 5, 2) := by decide +kernel
theorem d_S_reached_28 : decode m_S_reached.2.1 28 = .ok (.iconst 1, 1) := by decide +kernel
theorem d_S_reached_29 : decode m_S_reached.2.1 29 = .ok (.isub, 1) := by decide +kernel
theorem d_S_reached_30 : decode m_S_reached.2.1 30 = .ok (.iaload, 1) := by decide +kernel
theorem d_S_reached_31 : decode m_S_reached.2.1 31 = .ok (.iconst 1, 1) := by decide +kernel
theorem d_S_reached_32 : decode m_S_reached.2.1 32 = .ok (.iadd, 1) := by decide +kernel
theorem d_S_reached_33 : decode m_S_reached.2.1 33 = .ok (.aload_n 0, 1) := by decide +kernel
theorem d_S_reached_34 : decode m_S_reached.2.1 34 = .ok (.getfield 43, 3) := by decide +kernel
theorem d_S_reached_37 : decode m_S_reached.2.1 37 = .ok (.isub, 1) := by decide +kernel
theorem d_S_reached_38 : decode m_S_reached.2.1 38 = .ok (.istore 6, 2) := by decide +kernel
theorem d_S_reached_40 : decode m_S_reached.2.1 40 = .ok (.iload 6, 2) := by decide +kernel
theorem d_S_reached_42 : decode m_S_reached.2.1 42 = .ok (.ifCond .le 10, 3) := by decide +kernel
theorem d_S_reached_45 : decode m_S_reached.2.1 45 = .ok (.iload 4, 2) := by decide +kernel
theorem d_S_reached_47 : decode m_S_reached.2.1 47 = .ok (.iload 6, 2) := by decide +kernel
theorem d_S_reached_49 : decode m_S_reached.2.1 49 = .ok (.isub, 1) := by decide +kernel
theorem d_S_reached_50 : decode m_S_reached.2.1 50 = .ok (.istore 4, 2) := by decide +kernel
theorem d_S_reached_52 : decode m_S_reached.2.1 52 = .ok (.iload 4, 2) := by decide +kernel
theorem d_S_reached_54 : decode m_S_reached.2.1 54 = .ok (.iload_n 2, 1) := by decide +kernel
theorem d_S_reached_55 : decode m_S_reached.2.1 55 = .ok (.if_icmp .lt 10, 3) := by decide +kernel
theorem d_S_reached_58 : decode m_S_reached.2.1 58 = .ok (.iload_n 3, 1) := by decide +kernel
theorem d_S_reached_59 : decode m_S_reached.2.1 59 = .ok (.iconst 1, 1) := by decide +kernel
theorem d_S_reached_60 : decode m_S_reached.2.1 60 = .ok (.iload 5, 2) := by decide +kernel
theorem d_S_reached_62 : decode m_S_reached.2.1 62 = .ok (.ishl, 1) := by decide +kernel
theorem d_S_reached_63 : decode m_S_reached.2.1 63 = .ok (.ior, 1) := by decide +kernel
theorem d_S_reached_64 : decode m_S_reached.2.1 64 = .ok (.istore_n 3, 1) := by decide +kernel
theorem d_S_reached_65 : decode m_S_reached.2.1 65 = .ok (.iinc 5 1, 3) := by decide +kernel
theorem d_S_reached_68 : decode m_S_reached.2.1 68 = .ok (.goto (-53), 3) := by decide +kernel
theorem d_S_reached_71 : decode m_S_reached.2.1 71 = .ok (.aload_n 0, 1) := by decide +kernel
theorem d_S_reached_72 : decode m_S_reached.2.1 72 = .ok (.getfield 40, 3) := by decide +kernel
theorem d_S_reached_75 : decode m_S_reached.2.1 75 = .ok (.istore 4, 2) := by decide +kernel
theorem d_S_reached_77 : decode m_S_reached.2.1 77 = .ok (.iload_n 1, 1) := by decide +kernel
theorem d_S_reached_78 : decode m_S_reached.2.1 78 = .ok (.iconst 1, 1) := by decide +kernel
theorem d_S_reached_79 : decode m_S_reached.2.1 79 = .ok (.isub, 1) := by decide +kernel
theorem d_S_reached_80 : decode m_S_reached.2.1 80 = .ok (.istore 5, 2) := by decide +kernel
theorem d_S_reached_82 : decode m_S_reached.2.1 82 = .ok (.iload 5, 2) := by decide +kernel
theorem d_S_reached_84 : decode m_S_reached.2.1 84 = .ok (.ifCond .lt 50, 3) := by decide +kernel
theorem d_S_reached_87 : decode m_S_reached.2.1 87 = .ok (.aload_n 0, 1) := by decide +kernel
theorem d_S_reached_88 : decode m_S_reached.2.1 88 = .ok (.getfield 15, 3) := by decide +kernel
theorem d_S_reached_91 : decode m_S_reached.2.1 91 = .ok (.iload 5, 2) := by decide +kernel
theorem d_S_reached_93 : decode m_S_reached.2.1 93 = .ok (.iaload, 1) := by decide +kernel
theorem d_S_reached_94 : decode m_S_reached.2.1 94 = .ok (.iconst 1, 1) := by decide +kernel
theorem d_S_reached_95 : decode m_S_reached.2.1 95 = .ok (.iadd, 1) := by decide +kernel
theorem d_S_reached_96 : decode m_S_reached.2.1 96 = .ok (.aload_n 0, 1) := by decide +kernel
theorem d_S_reached_97 : decode m_S_reached.2.1 97 = .ok (.getfield 43, 3) := by decide +kernel
theorem d_S_reached_100 : decode m_S_reached.2.1 100 = .ok (.iadd, 1) := by decide +kernel
theorem d_S_reached_101 : decode m_S_reached.2.1 101 = .ok (.istore 6, 2) := by decide +kernel
theorem d_S_reached_103 : decode m_S_reached.2.1 103 = .ok (.iload 6, 2) := by decide +kernel
theorem d_S_reached_105 : decode m_S_reached.2.1 105 = .ok (.ifCond .le 10, 3) := by decide +kernel
theorem d_S_reached_108 : decode m_S_reached.2.1 108 = .ok (.iload 4, 2) := by decide +kernel
theorem d_S_reached_110 : decode m_S_reached.2.1 110 = .ok (.iload 6, 2) := by decide +kernel
theorem d_S_reached_112 : decode m_S_reached.2.1 112 = .ok (.isub, 1) := by decide +kernel
theorem d_S_reached_113 : decode m_S_reached.2.1 113 = .ok (.istore 4, 2) := by decide +kernel
theorem d_S_reached_115 : decode m_S_reached.2.1 115 = .ok (.iload 4, 2) := by decide +kernel
theorem d_S_reached_117 : decode m_S_reached.2.1 117 = .ok (.iload_n 2, 1) := by decide +kernel
theorem d_S_reached_118 : decode m_S_reached.2.1 118 = .ok (.if_icmp .lt 10, 3) := by decide +kernel
theorem d_S_reached_121 : decode m_S_reached.2.1 121 = .ok (.iload_n 3, 1) := by decide +kernel
theorem d_S_reached_122 : decode m_S_reached.2.1 122 = .ok (.iconst 1, 1) := by decide +kernel
theorem d_S_reached_123 : decode m_S_reached.2.1 123 = .ok (.iload 5, 2) := by decide +kernel
theorem d_S_reached_125 : decode m_S_reached.2.1 125 = .ok (.ishl, 1) := by decide +kernel
theorem d_S_reached_126 : decode m_S_reached.2.1 126 = .ok (.ior, 1) := by decide +kernel
theorem d_S_reached_127 : decode m_S_reached.2.1 127 = .ok (.istore_n 3, 1) := by decide +kernel
theorem d_S_reached_128 : decode m_S_reached.2.1 128 = .ok (.iinc 5 (-1), 3) := by decide +kernel
theorem d_S_reached_131 : decode m_S_reached.2.1 131 = .ok (.goto (-49), 3) := by decide +kernel
theorem d_S_reached_134 : decode m_S_reached.2.1 134 = .ok (.iload_n 3, 1) := by decide +kernel
theorem d_S_reached_135 : decode m_S_reached.2.1 135 = .ok (.ireturn, 1) := by decide +kernel
theorem d_S_hearers_0 : decode m_S_hearers.2.1 0 = .ok (.aload_n 0, 1) := by decide +kernel
theorem d_S_hearers_1 : decode m_S_hearers.2.1 1 = .ok (.iload_n 1, 1) := by decide +kernel
theorem d_S_hearers_2 : decode m_S_hearers.2.1 2 = .ok (.iconst 3, 1) := by decide +kernel
theorem d_S_hearers_3 : decode m_S_hearers.2.1 3 = .ok (.invokevirtual 73, 3) := by decide +kernel
theorem d_S_hearers_6 : decode m_S_hearers.2.1 6 = .ok (.istore_n 3, 1) := by decide +kernel
theorem d_S_hearers_7 : decode m_S_hearers.2.1 7 = .ok (.aload_n 0, 1) := by decide +kernel
theorem d_S_hearers_8 : decode m_S_hearers.2.1 8 = .ok (.iload_n 1, 1) := by decide +kernel
theorem d_S_hearers_9 : decode m_S_hearers.2.1 9 = .ok (.iconst 1, 1) := by decide +kernel
theorem d_S_hearers_10 : decode m_S_hearers.2.1 10 = .ok (.invokevirtual 73, 3) := by decide +kernel
theorem d_S_hearers_13 : decode m_S_hearers.2.1 13 = .ok (.iload_n 2, 1) := by decide +kernel
theorem d_S_hearers_14 : decode m_S_hearers.2.1 14 = .ok (.iand, 1) := by decide +kernel
theorem d_S_hearers_15 : decode m_S_hearers.2.1 15 = .ok (.istore 4, 2) := by decide +kernel
theorem d_S_hearers_17 : decode m_S_hearers.2.1 17 = .ok (.iload_n 3, 1) := by decide +kernel
theorem d_S_hearers_18 : decode m_S_hearers.2.1 18 = .ok (.iload 4, 2) := by decide +kernel
theorem d_S_hearers_20 : decode m_S_hearers.2.1 20 = .ok (.ior, 1) := by decide +kernel
theorem d_S_hearers_21 : decode m_S_hearers.2.1 21 = .ok (.aload_n 0, 1) := by decide +kernel
theorem d_S_hearers_22 : decode m_S_hearers.2.1 22 = .ok (.getfield 34, 3) := by decide +kernel
theorem d_S_hearers_25 : decode m_S_hearers.2.1 25 = .ok (.iconst (-1), 1) := by decide +kernel
theorem d_S_hearers_26 : decode m_S_hearers.2.1 26 = .ok (.ixor, 1) := by decide +kernel
theorem d_S_hearers_27 : decode m_S_hearers.2.1 27 = .ok (.iand, 1) := by decide +kernel
theorem d_S_hearers_28 : decode m_S_hearers.2.1 28 = .ok (.ireturn, 1) := by decide +kernel
theorem d_S_whyNot_0 : decode m_S_whyNot.2.1 0 = .ok (.iload_n 1, 1) := by decide +kernel
theorem d_S_whyNot_1 : decode m_S_whyNot.2.1 1 = .ok (.ifCond .ne 13, 3) := by decide +kernel
theorem d_S_whyNot_4 : decode m_S_whyNot.2.1 4 = .ok (.aload_n 0, 1) := by decide +kernel
theorem d_S_whyNot_5 : decode m_S_whyNot.2.1 5 = .ok (.getfield 46, 3) := by decide +kernel
theorem d_S_whyNot_8 : decode m_S_whyNot.2.1 8 = .ok (.iload_n 2, 1) := by decide +kernel
theorem d_S_whyNot_9 : decode m_S_whyNot.2.1 9 = .ok (.if_icmp .ne 5, 3) := by decide +kernel
theorem d_S_whyNot_12 : decode m_S_whyNot.2.1 12 = .ok (.iconst 1, 1) := by decide +kernel
theorem d_S_whyNot_13 : decode m_S_whyNot.2.1 13 = .ok (.ireturn, 1) := by decide +kernel
theorem d_S_whyNot_14 : decode m_S_whyNot.2.1 14 = .ok (.iload_n 1, 1) := by decide +kernel
theorem d_S_whyNot_15 : decode m_S_whyNot.2.1 15 = .ok (.iconst 1, 1) := by decide +kernel
theorem d_S_whyNot_16 : decode m_S_whyNot.2.1 16 = .ok (.if_icmp .ne 16, 3) := by decide +kernel
theorem d_S_whyNot_19 : decode m_S_whyNot.2.1 19 = .ok (.aload_n 0, 1) := by decide +kernel
theorem d_S_whyNot_20 : decode m_S_whyNot.2.1 20 = .ok (.getfield 37, 3) := by decide +kernel
theorem d_S_whyNot_23 : decode m_S_whyNot.2.1 23 = .ok (.iload_n 2, 1) := by decide +kernel
theorem d_S_whyNot_24 : decode m_S_whyNot.2.1 24 = .ok (.invokestatic 76, 3) := by decide +kernel
theorem d_S_whyNot_27 : decode m_S_whyNot.2.1 27 = .ok (.ifCond .eq 5, 3) := by decide +kernel
theorem d_S_whyNot_30 : decode m_S_whyNot.2.1 30 = .ok (.iconst 2, 1) := by decide +kernel
theorem d_S_whyNot_31 : decode m_S_whyNot.2.1 31 = .ok (.ireturn, 1) := by decide +kernel
theorem d_S_whyNot_32 : decode m_S_whyNot.2.1 32 = .ok (.iload_n 1, 1) := by decide +kernel
theorem d_S_whyNot_33 : decode m_S_whyNot.2.1 33 = .ok (.iconst 3, 1) := by decide +kernel
theorem d_S_whyNot_34 : decode m_S_whyNot.2.1 34 = .ok (.if_icmp .ne 14, 3) := by decide +kernel
theorem d_S_whyNot_37 : decode m_S_whyNot.2.1 37 = .ok (.aload_n 0, 1) := by decide +kernel
theorem d_S_whyNot_38 : decode m_S_whyNot.2.1 38 = .ok (.getfield 49, 3) := by decide +kernel
theorem d_S_whyNot_41 : decode m_S_whyNot.2.1 41 = .ok (.bipush 99, 2) := by decide +kernel
theorem d_S_whyNot_43 : decode m_S_whyNot.2.1 43 = .ok (.if_icmp .lt 5, 3) := by decide +kernel
theorem d_S_whyNot_46 : decode m_S_whyNot.2.1 46 = .ok (.iconst 3, 1) := by decide +kernel
theorem d_S_whyNot_47 : decode m_S_whyNot.2.1 47 = .ok (.ireturn, 1) := by decide +kernel
theorem d_S_whyNot_48 : decode m_S_whyNot.2.1 48 = .ok (.iconst 0, 1) := by decide +kernel
theorem d_S_whyNot_49 : decode m_S_whyNot.2.1 49 = .ok (.ireturn, 1) := by decide +kernel
theorem d_S_carryOut_0 : decode m_S_carryOut.2.1 0 = .ok (.iload_n 1, 1) := by decide +kernel
theorem d_S_carryOut_1 : decode m_S_carryOut.2.1 1 = .ok (.ifCond .ne 11, 3) := by decide +kernel
theorem d_S_carryOut_4 : decode m_S_carryOut.2.1 4 = .ok (.aload_n 0, 1) := by decide +kernel
theorem d_S_carryOut_5 : decode m_S_carryOut.2.1 5 = .ok (.iload_n 2, 1) := by decide +kernel
theorem d_S_carryOut_6 : decode m_S_carryOut.2.1 6 = .ok (.putfield 46, 3) := by decide +kernel
theorem d_S_carryOut_9 : decode m_S_carryOut.2.1 9 = .ok (.goto 40, 3) := by decide +kernel
theorem d_S_carryOut_12 : decode m_S_carryOut.2.1 12 = .ok (.iload_n 1, 1) := by decide +kernel
theorem d_S_carryOut_13 : decode m_S_carryOut.2.1 13 = .ok (.iconst 1, 1) := by decide +kernel
theorem d_S_carryOut_14 : decode m_S_carryOut.2.1 14 = .ok (.if_icmp .ne 11, 3) := by decide +kernel
theorem d_S_carryOut_17 : decode m_S_carryOut.2.1 17 = .ok (.aload_n 0, 1) := by decide +kernel
theorem d_S_carryOut_18 : decode m_S_carryOut.2.1 18 = .ok (.iload_n 2, 1) := by decide +kernel
theorem d_S_carryOut_19 : decode m_S_carryOut.2.1 19 = .ok (.invokevirtual 80, 3) := by decide +kernel
theorem d_S_carryOut_22 : decode m_S_carryOut.2.1 22 = .ok (.goto 27, 3) := by decide +kernel
theorem d_S_carryOut_25 : decode m_S_carryOut.2.1 25 = .ok (.iload_n 1, 1) := by decide +kernel
theorem d_S_carryOut_26 : decode m_S_carryOut.2.1 26 = .ok (.iconst 2, 1) := by decide +kernel
theorem d_S_carryOut_27 : decode m_S_carryOut.2.1 27 = .ok (.if_icmp .ne 18, 3) := by decide +kernel
theorem d_S_carryOut_30 : decode m_S_carryOut.2.1 30 = .ok (.aload_n 0, 1) := by decide +kernel
theorem d_S_carryOut_31 : decode m_S_carryOut.2.1 31 = .ok (.dup, 1) := by decide +kernel
theorem d_S_carryOut_32 : decode m_S_carryOut.2.1 32 = .ok (.getfield 30, 3) := by decide +kernel
theorem d_S_carryOut_35 : decode m_S_carryOut.2.1 35 = .ok (.iconst 1, 1) := by decide +kernel
theorem d_S_carryOut_36 : decode m_S_carryOut.2.1 36 = .ok (.iload_n 2, 1) := by decide +kernel
theorem d_S_carryOut_37 : decode m_S_carryOut.2.1 37 = .ok (.ishl, 1) := by decide +kernel
theorem d_S_carryOut_38 : decode m_S_carryOut.2.1 38 = .ok (.ixor, 1) := by decide +kernel
theorem d_S_carryOut_39 : decode m_S_carryOut.2.1 39 = .ok (.putfield 30, 3) := by decide +kernel
theorem d_S_carryOut_42 : decode m_S_carryOut.2.1 42 = .ok (.goto 7, 3) := by decide +kernel
theorem d_S_carryOut_45 : decode m_S_carryOut.2.1 45 = .ok (.aload_n 0, 1) := by decide +kernel
theorem d_S_carryOut_46 : decode m_S_carryOut.2.1 46 = .ok (.invokevirtual 84, 3) := by decide +kernel
theorem d_S_carryOut_49 : decode m_S_carryOut.2.1 49 = .ok (.return_, 1) := by decide +kernel
theorem d_S_readOut_0 : decode m_S_readOut.2.1 0 = .ok (.aload_n 0, 1) := by decide +kernel
theorem d_S_readOut_1 : decode m_S_readOut.2.1 1 = .ok (.aload_n 0, 1) := by decide +kernel
theorem d_S_readOut_2 : decode m_S_readOut.2.1 2 = .ok (.getfield 46, 3) := by decide +kernel
theorem d_S_readOut_5 : decode m_S_readOut.2.1 5 = .ok (.aload_n 0, 1) := by decide +kernel
theorem d_S_readOut_6 : decode m_S_readOut.2.1 6 = .ok (.getfield 30, 3) := by decide +kernel
theorem d_S_readOut_9 : decode m_S_readOut.2.1 9 = .ok (.invokevirtual 87, 3) := by decide +kernel
theorem d_S_readOut_12 : decode m_S_readOut.2.1 12 = .ok (.istore_n 2, 1) := by decide +kernel
theorem d_S_readOut_13 : decode m_S_readOut.2.1 13 = .ok (.iconst 0, 1) := by decide +kernel
theorem d_S_readOut_14 : decode m_S_readOut.2.1 14 = .ok (.istore_n 3, 1) := by decide +kernel
theorem d_S_readOut_15 : decode m_S_readOut.2.1 15 = .ok (.iload_n 3, 1) := by decide +kernel
theorem d_S_readOut_16 : decode m_S_readOut.2.1 16 = .ok (.bipush 12, 2) := by decide +kernel
theorem d_S_readOut_18 : decode m_S_readOut.2.1 18 = .ok (.if_icmp .ge 63, 3) := by decide +kernel
theorem d_S_readOut_21 : decode m_S_readOut.2.1 21 = .ok (.iload_n 2, 1) := by decide +kernel
theorem d_S_readOut_22 : decode m_S_readOut.2.1 22 = .ok (.iload_n 3, 1) := by decide +kernel
theorem d_S_readOut_23 : decode m_S_readOut.2.1 23 = .ok (.invokestatic 76, 3) := by decide +kernel
theorem d_S_readOut_26 : decode m_S_readOut.2.1 26 = .ok (.ifCond .ne 6, 3) := by decide +kernel
theorem d_S_readOut_29 : decode m_S_readOut.2.1 29 = .ok (.goto 46, 3) := by decide +kernel
theorem d_S_readOut_32 : decode m_S_readOut.2.1 32 = .ok (.aload_n 0, 1) := by decide +kernel
theorem d_S_readOut_33 : decode m_S_readOut.2.1 33 = .ok (.getfield 9, 3) := by decide +kernel
theorem d_S_readOut_36 : decode m_S_readOut.2.1 36 = .ok (.iload_n 3, 1) := by decide +kernel
theorem d_S_readOut_37 : decode m_S_readOut.2.1 37 = .ok (.dup2, 1) := by decide +kernel
theorem d_S_readOut_38 : decode m_S_readOut.2.1 38 = .ok (.iaload, 1) := by decide +kernel
theorem d_S_readOut_39 : decode m_S_readOut.2.1 39 = .ok (.aload_n 0, 1) := by decide +kernel
theorem d_S_readOut_40 : decode m_S_readOut.2.1 40 = .ok (.getfield 21, 3) := by decide +kernel
theorem d_S_readOut_43 : decode m_S_readOut.2.1 43 = .ok (.iload_n 1, 1) := by decide +kernel
theorem d_S_readOut_44 : decode m_S_readOut.2.1 44 = .ok (.iaload, 1) := by decide +kernel
theorem d_S_readOut_45 : decode m_S_readOut.2.1 45 = .ok (.ior, 1) := by decide +kernel
theorem d_S_readOut_46 : decode m_S_readOut.2.1 46 = .ok (.iastore, 1) := by decide +kernel
theorem d_S_readOut_47 : decode m_S_readOut.2.1 47 = .ok (.aload_n 0, 1) := by decide +kernel
theorem d_S_readOut_48 : decode m_S_readOut.2.1 48 = .ok (.getfield 27, 3) := by decide +kernel
theorem d_S_readOut_51 : decode m_S_readOut.2.1 51 = .ok (.iload_n 1, 1) := by decide +kernel
theorem d_S_readOut_52 : decode m_S_readOut.2.1 52 = .ok (.iaload, 1) := by decide +kernel
theorem d_S_readOut_53 : decode m_S_readOut.2.1 53 = .ok (.iload_n 3, 1) := by decide +kernel
theorem d_S_readOut_54 : decode m_S_readOut.2.1 54 = .ok (.invokestatic 76, 3) := by decide +kernel
theorem d_S_readOut_57 : decode m_S_readOut.2.1 57 = .ok (.ifCond .eq 18, 3) := by decide +kernel
theorem d_S_readOut_60 : decode m_S_readOut.2.1 60 = .ok (.aload_n 0, 1) := by decide +kernel
theorem d_S_readOut_61 : decode m_S_readOut.2.1 61 = .ok (.getfield 9, 3) := by decide +kernel
theorem d_S_readOut_64 : decode m_S_readOut.2.1 64 = .ok (.iload_n 3, 1) := by decide +kernel
theorem d_S_readOut_65 : decode m_S_readOut.2.1 65 = .ok (.dup2, 1) := by decide +kernel
theorem d_S_readOut_66 : decode m_S_readOut.2.1 66 = .ok (.iaload, 1) := by decide +kernel
theorem d_S_readOut_67 : decode m_S_readOut.2.1 67 = .ok (.aload_n 0, 1) := by decide +kernel
theorem d_S_readOut_68 : decode m_S_readOut.2.1 68 = .ok (.getfield 24, 3) := by decide +kernel
theorem d_S_readOut_71 : decode m_S_readOut.2.1 71 = .ok (.iload_n 1, 1) := by decide +kernel
theorem d_S_readOut_72 : decode m_S_readOut.2.1 72 = .ok (.iaload, 1) := by decide +kernel
theorem d_S_readOut_73 : decode m_S_readOut.2.1 73 = .ok (.ior, 1) := by decide +kernel
theorem d_S_readOut_74 : decode m_S_readOut.2.1 74 = .ok (.iastore, 1) := by decide +kernel
theorem d_S_readOut_75 : decode m_S_readOut.2.1 75 = .ok (.iinc 3 1, 3) := by decide +kernel
theorem d_S_readOut_78 : decode m_S_readOut.2.1 78 = .ok (.goto (-63), 3) := by decide +kernel
theorem d_S_readOut_81 : decode m_S_readOut.2.1 81 = .ok (.aload_n 0, 1) := by decide +kernel
theorem d_S_readOut_82 : decode m_S_readOut.2.1 82 = .ok (.dup, 1) := by decide +kernel
theorem d_S_readOut_83 : decode m_S_readOut.2.1 83 = .ok (.getfield 37, 3) := by decide +kernel
theorem d_S_readOut_86 : decode m_S_readOut.2.1 86 = .ok (.iconst 1, 1) := by decide +kernel
theorem d_S_readOut_87 : decode m_S_readOut.2.1 87 = .ok (.iload_n 1, 1) := by decide +kernel
theorem d_S_readOut_88 : decode m_S_readOut.2.1 88 = .ok (.ishl, 1) := by decide +kernel
theorem d_S_readOut_89 : decode m_S_readOut.2.1 89 = .ok (.ior, 1) := by decide +kernel
theorem d_S_readOut_90 : decode m_S_readOut.2.1 90 = .ok (.putfield 37, 3) := by decide +kernel
theorem d_S_readOut_93 : decode m_S_readOut.2.1 93 = .ok (.return_, 1) := by decide +kernel
theorem d_S_passEvening_0 : decode m_S_passEvening.2.1 0 = .ok (.iconst 0, 1) := by decide +kernel
theorem d_S_passEvening_1 : decode m_S_passEvening.2.1 1 = .ok (.istore_n 1, 1) := by decide +kernel
theorem d_S_passEvening_2 : decode m_S_passEvening.2.1 2 = .ok (.iconst 0, 1) := by decide +kernel
theorem d_S_passEvening_3 : decode m_S_passEvening.2.1 3 = .ok (.istore_n 2, 1) := by decide +kernel
theorem d_S_passEvening_4 : decode m_S_passEvening.2.1 4 = .ok (.iload_n 2, 1) := by decide +kernel
theorem d_S_passEvening_5 : decode m_S_passEvening.2.1 5 = .ok (.bipush 12, 2) := by decide +kernel
theorem d_S_passEvening_7 : decode m_S_passEvening.2.1 7 = .ok (.if_icmp .ge 74, 3) := by decide +kernel
theorem d_S_passEvening_10 : decode m_S_passEvening.2.1 10 = .ok (.aload_n 0, 1) := by decide +kernel
theorem d_S_passEvening_11 : decode m_S_passEvening.2.1 11 = .ok (.getfield 9, 3) := by decide +kernel
theorem d_S_passEvening_14 : decode m_S_passEvening.2.1 14 = .ok (.iload_n 2, 1) := by decide +kernel
theorem d_S_passEvening_15 : decode m_S_passEvening.2.1 15 = .ok (.iaload, 1) := by decide +kernel
theorem d_S_passEvening_16 : decode m_S_passEvening.2.1 16 = .ok (.istore_n 3, 1) := by decide +kernel
theorem d_S_passEvening_17 : decode m_S_passEvening.2.1 17 = .ok (.aload_n 0, 1) := by decide +kernel
theorem d_S_passEvening_18 : decode m_S_passEvening.2.1 18 = .ok (.getfield 34, 3) := by decide +kernel
theorem d_S_passEvening_21 : decode m_S_passEvening.2.1 21 = .ok (.iload_n 2, 1) := by decide +kernel
theorem d_S_passEvening_22 : decode m_S_passEvening.2.1 22 = .ok (.invokestatic 76, 3) := by decide +kernel
theorem d_S_passEvening_25 : decode m_S_passEvening.2.1 25 = .ok (.ifCond .ne 48, 3) := by decide +kernel
theorem d_S_passEvening_28 : decode m_S_passEvening.2.1 28 = .ok (.aload_n 0, 1) := by decide +kernel
theorem d_S_passEvening_29 : decode m_S_passEvening.2.1 29 = .ok (.iload_n 2, 1) := by decide +kernel
theorem d_S_passEvening_30 : decode m_S_passEvening.2.1 30 = .ok (.iconst 1, 1) := by decide +kernel
theorem d_S_passEvening_31 : decode m_S_passEvening.2.1 31 = .ok (.isub, 1) := by decide +kernel
theorem d_S_passEvening_32 : decode m_S_passEvening.2.1 32 = .ok (.invokevirtual 90, 3) := by decide +kernel
theorem d_S_passEvening_35 : decode m_S_passEvening.2.1 35 = .ok (.ifCond .eq 13, 3) := by decide +kernel
theorem d_S_passEvening_38 : decode m_S_passEvening.2.1 38 = .ok (.aload_n 0, 1) := by decide +kernel
theorem d_S_passEvening_39 : decode m_S_passEvening.2.1 39 = .ok (.getfield 9, 3) := by decide +kernel
theorem d_S_passEvening_42 : decode m_S_passEvening.2.1 42 = .ok (.iload_n 2, 1) := by decide +kernel
theorem d_S_passEvening_43 : decode m_S_passEvening.2.1 43 = .ok (.dup2, 1) := by decide +kernel
theorem d_S_passEvening_44 : decode m_S_passEvening.2.1 44 = .ok (.iaload, 1) := by decide +kernel
theorem d_S_passEvening_45 : decode m_S_passEvening.2.1 45 = .ok (.iload_n 1, 1) := by decide +kernel
theorem d_S_passEvening_46 : decode m_S_passEvening.2.1 46 = .ok (.ior, 1) := by decide +kernel
theorem d_S_passEvening_47 : decode m_S_passEvening.2.1 47 = .ok (.iastore, 1) := by decide +kernel
theorem d_S_passEvening_48 : decode m_S_passEvening.2.1 48 = .ok (.aload_n 0, 1) := by decide +kernel
theorem d_S_passEvening_49 : decode m_S_passEvening.2.1 49 = .ok (.iload_n 2, 1) := by decide +kernel
theorem d_S_passEvening_50 : decode m_S_passEvening.2.1 50 = .ok (.invokevirtual 90, 3) := by decide +kernel
theorem d_S_passEvening_53 : decode m_S_passEvening.2.1 53 = .ok (.ifCond .eq 20, 3) := by decide +kernel
theorem d_S_passEvening_56 : decode m_S_passEvening.2.1 56 = .ok (.aload_n 0, 1) := by decide +kernel
theorem d_S_passEvening_57 : decode m_S_passEvening.2.1 57 = .ok (.getfield 9, 3) := by decide +kernel
theorem d_S_passEvening_60 : decode m_S_passEvening.2.1 60 = .ok (.iload_n 2, 1) := by decide +kernel
theorem d_S_passEvening_61 : decode m_S_passEvening.2.1 61 = .ok (.dup2, 1) := by decide +kernel
theorem d_S_passEvening_62 : decode m_S_passEvening.2.1 62 = .ok (.iaload, 1) := by decide +kernel
theorem d_S_passEvening_63 : decode m_S_passEvening.2.1 63 = .ok (.aload_n 0, 1) := by decide +kernel
theorem d_S_passEvening_64 : decode m_S_passEvening.2.1 64 = .ok (.getfield 9, 3) := by decide +kernel
theorem d_S_passEvening_67 : decode m_S_passEvening.2.1 67 = .ok (.iload_n 2, 1) := by decide +kernel
theorem d_S_passEvening_68 : decode m_S_passEvening.2.1 68 = .ok (.iconst 1, 1) := by decide +kernel
theorem d_S_passEvening_69 : decode m_S_passEvening.2.1 69 = .ok (.iadd, 1) := by decide +kernel
theorem d_S_passEvening_70 : decode m_S_passEvening.2.1 70 = .ok (.iaload, 1) := by decide +kernel
theorem d_S_passEvening_71 : decode m_S_passEvening.2.1 71 = .ok (.ior, 1) := by decide +kernel
theorem d_S_passEvening_72 : decode m_S_passEvening.2.1 72 = .ok (.iastore, 1) := by decide +kernel
theorem d_S_passEvening_73 : decode m_S_passEvening.2.1 73 = .ok (.iload_n 3, 1) := by decide +kernel
theorem d_S_passEvening_74 : decode m_S_passEvening.2.1 74 = .ok (.istore_n 1, 1) := by decide +kernel
theorem d_S_passEvening_75 : decode m_S_passEvening.2.1 75 = .ok (.iinc 2 1, 3) := by decide +kernel
theorem d_S_passEvening_78 : decode m_S_passEvening.2.1 78 = .ok (.goto (-74), 3) := by decide +kernel
theorem d_S_passEvening_81 : decode m_S_passEvening.2.1 81 = .ok (.aload_n 0, 1) := by decide +kernel
theorem d_S_passEvening_82 : decode m_S_passEvening.2.1 82 = .ok (.dup, 1) := by decide +kernel
theorem d_S_passEvening_83 : decode m_S_passEvening.2.1 83 = .ok (.getfield 49, 3) := by decide +kernel
theorem d_S_passEvening_86 : decode m_S_passEvening.2.1 86 = .ok (.iconst 1, 1) := by decide +kernel
theorem d_S_passEvening_87 : decode m_S_passEvening.2.1 87 = .ok (.iadd, 1) := by decide +kernel
theorem d_S_passEvening_88 : decode m_S_passEvening.2.1 88 = .ok (.putfield 49, 3) := by decide +kernel
theorem d_S_passEvening_91 : decode m_S_passEvening.2.1 91 = .ok (.return_, 1) := by decide +kernel
theorem d_S_tellsEastward_0 : decode m_S_tellsEastward.2.1 0 = .ok (.iload_n 1, 1) := by decide +kernel
theorem d_S_tellsEastward_1 : decode m_S_tellsEastward.2.1 1 = .ok (.ifCond .lt 23, 3) := by decide +kernel
theorem d_S_tellsEastward_4 : decode m_S_tellsEastward.2.1 4 = .ok (.iload_n 1, 1) := by decide +kernel
theorem d_S_tellsEastward_5 : decode m_S_tellsEastward.2.1 5 = .ok (.bipush 11, 2) := by decide +kernel
theorem d_S_tellsEastward_7 : decode m_S_tellsEastward.2.1 7 = .ok (.if_icmp .ge 17, 3) := by decide +kernel
theorem d_S_tellsEastward_10 : decode m_S_tellsEastward.2.1 10 = .ok (.aload_n 0, 1) := by decide +kernel
theorem d_S_tellsEastward_11 : decode m_S_tellsEastward.2.1 11 = .ok (.getfield 15, 3) := by decide +kernel
theorem d_S_tellsEastward_14 : decode m_S_tellsEastward.2.1 14 = .ok (.iload_n 1, 1) := by decide +kernel
theorem d_S_tellsEastward_15 : decode m_S_tellsEastward.2.1 15 = .ok (.iaload, 1) := by decide +kernel
theorem d_S_tellsEastward_16 : decode m_S_tellsEastward.2.1 16 = .ok (.iconst 4, 1) := by decide +kernel
theorem d_S_tellsEastward_17 : decode m_S_tellsEastward.2.1 17 = .ok (.if_icmp .gt 7, 3) := by decide +kernel
theorem d_S_tellsEastward_20 : decode m_S_tellsEastward.2.1 20 = .ok (.iconst 1, 1) := by decide +kernel
theorem d_S_tellsEastward_21 : decode m_S_tellsEastward.2.1 21 = .ok (.goto 4, 3) := by decide +kernel
theorem d_S_tellsEastward_24 : decode m_S_tellsEastward.2.1 24 = .ok (.iconst 0, 1) := by decide +kernel
theorem d_S_tellsEastward_25 : decode m_S_tellsEastward.2.1 25 = .ok (.ireturn, 1) := by decide +kernel
theorem d_S_knowersOfRumour_0 : decode m_S_knowersOfRumour.2.1 0 = .ok (.iconst 1, 1) := by decide +kernel
theorem d_S_knowersOfRumour_1 : decode m_S_knowersOfRumour.2.1 1 = .ok (.iload_n 1, 1) := by decide +kernel
theorem d_S_knowersOfRumour_2 : decode m_S_knowersOfRumour.2.1 2 = .ok (.ishl, 1) := by decide +kernel
theorem d_S_knowersOfRumour_3 : decode m_S_knowersOfRumour.2.1 3 = .ok (.istore_n 3, 1) := by decide +kernel
theorem d_S_knowersOfRumour_4 : decode m_S_knowersOfRumour.2.1 4 = .ok (.iconst 0, 1) := by decide +kernel
theorem d_S_knowersOfRumour_5 : decode m_S_knowersOfRumour.2.1 5 = .ok (.istore 4, 2) := by decide +kernel
theorem d_S_knowersOfRumour_7 : decode m_S_knowersOfRumour.2.1 7 = .ok (.iload 4, 2) := by decide +kernel
theorem d_S_knowersOfRumour_9 : decode m_S_knowersOfRumour.2.1 9 = .ok (.iload_n 2, 1) := by decide +kernel
theorem d_S_knowersOfRumour_10 : decode m_S_knowersOfRumour.2.1 10 = .ok (.if_icmp .ge 15, 3) := by decide +kernel
theorem d_S_knowersOfRumour_13 : decode m_S_knowersOfRumour.2.1 13 = .ok (.aload_n 0, 1) := by decide +kernel
theorem d_S_knowersOfRumour_14 : decode m_S_knowersOfRumour.2.1 14 = .ok (.iload_n 3, 1) := by decide +kernel
theorem d_S_knowersOfRumour_15 : decode m_S_knowersOfRumour.2.1 15 = .ok (.invokevirtual 94, 3) := by decide +kernel
theorem d_S_knowersOfRumour_18 : decode m_S_knowersOfRumour.2.1 18 = .ok (.istore_n 3, 1) := by decide +kernel
theorem d_S_knowersOfRumour_19 : decode m_S_knowersOfRumour.2.1 19 = .ok (.iinc 4 1, 3) := by decide +kernel
theorem d_S_knowersOfRumour_22 : decode m_S_knowersOfRumour.2.1 22 = .ok (.goto (-15), 3) := by decide +kernel
theorem d_S_knowersOfRumour_25 : decode m_S_knowersOfRumour.2.1 25 = .ok (.iload_n 3, 1) := by decide +kernel
theorem d_S_knowersOfRumour_26 : decode m_S_knowersOfRumour.2.1 26 = .ok (.ireturn, 1) := by decide +kernel
theorem d_S_eveningsOfRumour_0 : decode m_S_eveningsOfRumour.2.1 0 = .ok (.iconst 1, 1) := by decide +kernel
theorem d_S_eveningsOfRumour_1 : decode m_S_eveningsOfRumour.2.1 1 = .ok (.iload_n 1, 1) := by decide +kernel
theorem d_S_eveningsOfRumour_2 : decode m_S_eveningsOfRumour.2.1 2 = .ok (.ishl, 1) := by decide +kernel
theorem d_S_eveningsOfRumour_3 : decode m_S_eveningsOfRumour.2.1 3 = .ok (.istore_n 2, 1) := by decide +kernel
theorem d_S_eveningsOfRumour_4 : decode m_S_eveningsOfRumour.2.1 4 = .ok (.iconst 0, 1) := by decide +kernel
theorem d_S_eveningsOfRumour_5 : decode m_S_eveningsOfRumour.2.1 5 = .ok (.istore_n 3, 1) := by decide +kernel
theorem d_S_eveningsOfRumour_6 : decode m_S_eveningsOfRumour.2.1 6 = .ok (.iload_n 3, 1) := by decide +kernel
theorem d_S_eveningsOfRumour_7 : decode m_S_eveningsOfRumour.2.1 7 = .ok (.bipush 12, 2) := by decide +kernel
theorem d_S_eveningsOfRumour_9 : decode m_S_eveningsOfRumour.2.1 9 = .ok (.if_icmp .ge 27, 3) := by decide +kernel
theorem d_S_eveningsOfRumour_12 : decode m_S_eveningsOfRumour.2.1 12 = .ok (.aload_n 0, 1) := by decide +kernel
theorem d_S_eveningsOfRumour_13 : decode m_S_eveningsOfRumour.2.1 13 = .ok (.iload_n 2, 1) := by decide +kernel
theorem d_S_eveningsOfRumour_14 : decode m_S_eveningsOfRumour.2.1 14 = .ok (.invokevirtual 94, 3) := by decide +kernel
theorem d_S_eveningsOfRumour_17 : decode m_S_eveningsOfRumour.2.1 17 = .ok (.istore 4, 2) := by decide +kernel
theorem d_S_eveningsOfRumour_19 : decode m_S_eveningsOfRumour.2.1 19 = .ok (.iload 4, 2) := by decide +kernel
theorem d_S_eveningsOfRumour_21 : decode m_S_eveningsOfRumour.2.1 21 = .ok (.iload_n 2, 1) := by decide +kernel
theorem d_S_eveningsOfRumour_22 : decode m_S_eveningsOfRumour.2.1 22 = .ok (.if_icmp .ne 5, 3) := by decide +kernel
theorem d_S_eveningsOfRumour_25 : decode m_S_eveningsOfRumour.2.1 25 = .ok (.iload_n 3, 1) := by decide +kernel
theorem d_S_eveningsOfRumour_26 : decode m_S_eveningsOfRumour.2.1 26 = .ok (.ireturn, 1) := by decide +kernel
theorem d_S_eveningsOfRumour_27 : decode m_S_eveningsOfRumour.2.1 27 = .ok (.iload 4, 2) := by decide +kernel
theorem d_S_eveningsOfRumour_29 : decode m_S_eveningsOfRumour.2.1 29 = .ok (.istore_n 2, 1) := by decide +kernel
theorem d_S_eveningsOfRumour_30 : decode m_S_eveningsOfRumour.2.1 30 = .ok (.iinc 3 1, 3) := by decide +kernel
theorem d_S_eveningsOfRumour_33 : decode m_S_eveningsOfRumour.2.1 33 = .ok (.goto (-27), 3) := by decide +kernel
theorem d_S_eveningsOfRumour_36 : decode m_S_eveningsOfRumour.2.1 36 = .ok (.bipush 12, 2) := by decide +kernel
theorem d_S_eveningsOfRumour_38 : decode m_S_eveningsOfRumour.2.1 38 = .ok (.ireturn, 1) := by decide +kernel
theorem d_S_toldOnward_0 : decode m_S_toldOnward.2.1 0 = .ok (.iload_n 1, 1) := by decide +kernel
theorem d_S_toldOnward_1 : decode m_S_toldOnward.2.1 1 = .ok (.istore_n 2, 1) := by decide +kernel
theorem d_S_toldOnward_2 : decode m_S_toldOnward.2.1 2 = .ok (.iconst 0, 1) := by decide +kernel
theorem d_S_toldOnward_3 : decode m_S_toldOnward.2.1 3 = .ok (.istore_n 3, 1) := by decide +kernel
theorem d_S_toldOnward_4 : decode m_S_toldOnward.2.1 4 = .ok (.iload_n 3, 1) := by decide +kernel
theorem d_S_toldOnward_5 : decode m_S_toldOnward.2.1 5 = .ok (.bipush 11, 2) := by decide +kernel
theorem d_S_toldOnward_7 : decode m_S_toldOnward.2.1 7 = .ok (.if_icmp .ge 76, 3) := by decide +kernel
theorem d_S_toldOnward_10 : decode m_S_toldOnward.2.1 10 = .ok (.aload_n 0, 1) := by decide +kernel
theorem d_S_toldOnward_11 : decode m_S_toldOnward.2.1 11 = .ok (.iload_n 3, 1) := by decide +kernel
theorem d_S_toldOnward_12 : decode m_S_toldOnward.2.1 12 = .ok (.invokevirtual 90, 3) := by decide +kernel
theorem d_S_toldOnward_15 : decode m_S_toldOnward.2.1 15 = .ok (.ifCond .ne 6, 3) := by decide +kernel
theorem d_S_toldOnward_18 : decode m_S_toldOnward.2.1 18 = .ok (.goto 59, 3) := by decide +kernel
theorem d_S_toldOnward_21 : decode m_S_toldOnward.2.1 21 = .ok (.iload_n 1, 1) := by decide +kernel
theorem d_S_toldOnward_22 : decode m_S_toldOnward.2.1 22 = .ok (.iload_n 3, 1) := by decide +kernel
theorem d_S_toldOnward_23 : decode m_S_toldOnward.2.1 23 = .ok (.invokestatic 76, 3) := by decide +kernel
theorem d_S_toldOnward_26 : decode m_S_toldOnward.2.1 26 = .ok (.ifCond .eq 24, 3) := by decide +kernel
theorem d_S_toldOnward_29 : decode m_S_toldOnward.2.1 29 = .ok (.aload_n 0, 1) := by decide +kernel
theorem d_S_toldOnward_30 : decode m_S_toldOnward.2.1 30 = .ok (.getfield 34, 3) := by decide +kernel
theorem d_S_toldOnward_33 : decode m_S_toldOnward.2.1 33 = .ok (.iload_n 3, 1) := by decide +kernel
theorem d_S_toldOnward_34 : decode m_S_toldOnward.2.1 34 = .ok (.iconst 1, 1) := by decide +kernel
theorem d_S_toldOnward_35 : decode m_S_toldOnward.2.1 35 = .ok (.iadd, 1) := by decide +kernel
theorem d_S_toldOnward_36 : decode m_S_toldOnward.2.1 36 = .ok (.invokestatic 76, 3) := by decide +kernel
theorem d_S_toldOnward_39 : decode m_S_toldOnward.2.1 39 = .ok (.ifCond .ne 11, 3) := by decide +kernel
theorem d_S_toldOnward_42 : decode m_S_toldOnward.2.1 42 = .ok (.iload_n 2, 1) := by decide +kernel
theorem d_S_toldOnward_43 : decode m_S_toldOnward.2.1 43 = .ok (.iconst 1, 1) := by decide +kernel
theorem d_S_toldOnward_44 : decode m_S_toldOnward.2.1 44 = .ok (.iload_n 3, 1) := by decide +kernel
theorem d_S_toldOnward_45 : decode m_S_toldOnward.2.1 45 = .ok (.iconst 1, 1) := by decide +kernel
theorem d_S_toldOnward_46 : decode m_S_toldOnward.2.1 46 = .ok (.iadd, 1) := by decide +kernel
theorem d_S_toldOnward_47 : decode m_S_toldOnward.2.1 47 = .ok (.ishl, 1) := by decide +kernel
theorem d_S_toldOnward_48 : decode m_S_toldOnward.2.1 48 = .ok (.ior, 1) := by decide +kernel
theorem d_S_toldOnward_49 : decode m_S_toldOnward.2.1 49 = .ok (.istore_n 2, 1) := by decide +kernel
theorem d_S_toldOnward_50 : decode m_S_toldOnward.2.1 50 = .ok (.iload_n 1, 1) := by decide +kernel
theorem d_S_toldOnward_51 : decode m_S_toldOnward.2.1 51 = .ok (.iload_n 3, 1) := by decide +kernel
theorem d_S_toldOnward_52 : decode m_S_toldOnward.2.1 52 = .ok (.iconst 1, 1) := by decide +kernel
theorem d_S_toldOnward_53 : decode m_S_toldOnward.2.1 53 = .ok (.iadd, 1) := by decide +kernel
theorem d_S_toldOnward_54 : decode m_S_toldOnward.2.1 54 = .ok (.invokestatic 76, 3) := by decide +kernel
theorem d_S_toldOnward_57 : decode m_S_toldOnward.2.1 57 = .ok (.ifCond .eq 20, 3) := by decide +kernel
theorem d_S_toldOnward_60 : decode m_S_toldOnward.2.1 60 = .ok (.aload_n 0, 1) := by decide +kernel
theorem d_S_toldOnward_61 : decode m_S_toldOnward.2.1 61 = .ok (.getfield 34, 3) := by decide +kernel
theorem d_S_toldOnward_64 : decode m_S_toldOnward.2.1 64 = .ok (.iload_n 3, 1) := by decide +kernel
theorem d_S_toldOnward_65 : decode m_S_toldOnward.2.1 65 = .ok (.invokestatic 76, 3) := by decide +kernel
theorem d_S_toldOnward_68 : decode m_S_toldOnward.2.1 68 = .ok (.ifCond .ne 9, 3) := by decide +kernel
theorem d_S_toldOnward_71 : decode m_S_toldOnward.2.1 71 = .ok (.iload_n 2, 1) := by decide +kernel
theorem d_S_toldOnward_72 : decode m_S_toldOnward.2.1 72 = .ok (.iconst 1, 1) := by decide +kernel
theorem d_S_toldOnward_73 : decode m_S_toldOnward.2.1 73 = .ok (.iload_n 3, 1) := by decide +kernel
theorem d_S_toldOnward_74 : decode m_S_toldOnward.2.1 74 = .ok (.ishl, 1) := by decide +kernel
theorem d_S_toldOnward_75 : decode m_S_toldOnward.2.1 75 = .ok (.ior, 1) := by decide +kernel
theorem d_S_toldOnward_76 : decode m_S_toldOnward.2.1 76 = .ok (.istore_n 2, 1) := by decide +kernel
theorem d_S_toldOnward_77 : decode m_S_toldOnward.2.1 77 = .ok (.iinc 3 1, 3) := by decide +kernel
theorem d_S_toldOnward_80 : decode m_S_toldOnward.2.1 80 = .ok (.goto (-76), 3) := by decide +kernel
theorem d_S_toldOnward_83 : decode m_S_toldOnward.2.1 83 = .ok (.iload_n 2, 1) := by decide +kernel
theorem d_S_toldOnward_84 : decode m_S_toldOnward.2.1 84 = .ok (.ireturn, 1) := by decide +kernel
theorem d_S_drawYear_0 : decode m_S_drawYear.2.1 0 = .ok (.iload_n 1, 1) := by decide +kernel
theorem d_S_drawYear_1 : decode m_S_drawYear.2.1 1 = .ok (.istore_n 3, 1) := by decide +kernel
theorem d_S_drawYear_2 : decode m_S_drawYear.2.1 2 = .ok (.iconst 0, 1) := by decide +kernel
theorem d_S_drawYear_3 : decode m_S_drawYear.2.1 3 = .ok (.istore 4, 2) := by decide +kernel
theorem d_S_drawYear_5 : decode m_S_drawYear.2.1 5 = .ok (.iload 4, 2) := by decide +kernel
theorem d_S_drawYear_7 : decode m_S_drawYear.2.1 7 = .ok (.iload_n 2, 1) := by decide +kernel
theorem d_S_drawYear_8 : decode m_S_drawYear.2.1 8 = .ok (.if_icmp .ge 68, 3) := by decide +kernel
theorem d_S_drawYear_11 : decode m_S_drawYear.2.1 11 = .ok (.bipush 75, 2) := by decide +kernel
theorem d_S_drawYear_13 : decode m_S_drawYear.2.1 13 = .ok (.iload_n 3, 1) := by decide +kernel
theorem d_S_drawYear_14 : decode m_S_drawYear.2.1 14 = .ok (.imul, 1) := by decide +kernel
theorem d_S_drawYear_15 : decode m_S_drawYear.2.1 15 = .ok (.bipush 74, 2) := by decide +kernel
theorem d_S_drawYear_17 : decode m_S_drawYear.2.1 17 = .ok (.iadd, 1) := by decide +kernel
theorem d_S_drawYear_18 : decode m_S_drawYear.2.1 18 = .ok (.ldc 98, 2) := by decide +kernel
theorem d_S_drawYear_20 : decode m_S_drawYear.2.1 20 = .ok (.irem, 1) := by decide +kernel
theorem d_S_drawYear_21 : decode m_S_drawYear.2.1 21 = .ok (.istore_n 3, 1) := by decide +kernel
theorem d_S_drawYear_22 : decode m_S_drawYear.2.1 22 = .ok (.iload_n 3, 1) := by decide +kernel
theorem d_S_drawYear_23 : decode m_S_drawYear.2.1 23 = .ok (.bipush 8, 2) := by decide +kernel
theorem d_S_drawYear_25 : decode m_S_drawYear.2.1 25 = .ok (.irem, 1) := by decide +kernel
theorem d_S_drawYear_26 : decode m_S_drawYear.2.1 26 = .ok (.invokestatic 99, 3) := by decide +kernel
theorem d_S_drawYear_29 : decode m_S_drawYear.2.1 29 = .ok (.istore 5, 2) := by decide +kernel
theorem d_S_drawYear_31 : decode m_S_drawYear.2.1 31 = .ok (.iload_n 3, 1) := by decide +kernel
theorem d_S_drawYear_32 : decode m_S_drawYear.2.1 32 = .ok (.bipush 8, 2) := by decide +kernel
theorem d_S_drawYear_34 : decode m_S_drawYear.2.1 34 = .ok (.idiv, 1) := by decide +kernel
theorem d_S_drawYear_35 : decode m_S_drawYear.2.1 35 = .ok (.iload 5, 2) := by decide +kernel
theorem d_S_drawYear_37 : decode m_S_drawYear.2.1 37 = .ok (.iconst 1, 1) := by decide +kernel
theorem d_S_drawYear_38 : decode m_S_drawYear.2.1 38 = .ok (.if_icmp .ne 8, 3) := by decide +kernel
theorem d_S_drawYear_41 : decode m_S_drawYear.2.1 41 = .ok (.bipush 6, 2) := by decide +kernel
theorem d_S_drawYear_43 : decode m_S_drawYear.2.1 43 = .ok (.goto 5, 3) := by decide +kernel
theorem d_S_drawYear_46 : decode m_S_drawYear.2.1 46 = .ok (.bipush 12, 2) := by decide +kernel
theorem d_S_drawYear_48 : decode m_S_drawYear.2.1 48 = .ok (.irem, 1) := by decide +kernel
theorem d_S_drawYear_49 : decode m_S_drawYear.2.1 49 = .ok (.istore 6, 2) := by decide +kernel
theorem d_S_drawYear_51 : decode m_S_drawYear.2.1 51 = .ok (.aload_n 0, 1) := by decide +kernel
theorem d_S_drawYear_52 : decode m_S_drawYear.2.1 52 = .ok (.iload 5, 2) := by decide +kernel
theorem d_S_drawYear_54 : decode m_S_drawYear.2.1 54 = .ok (.iload 6, 2) := by decide +kernel
theorem d_S_drawYear_56 : decode m_S_drawYear.2.1 56 = .ok (.invokevirtual 102, 3) := by decide +kernel
theorem d_S_drawYear_59 : decode m_S_drawYear.2.1 59 = .ok (.ifCond .ne 11, 3) := by decide +kernel
theorem d_S_drawYear_62 : decode m_S_drawYear.2.1 62 = .ok (.aload_n 0, 1) := by decide +kernel
theorem d_S_drawYear_63 : decode m_S_drawYear.2.1 63 = .ok (.iload 5, 2) := by decide +kernel
theorem d_S_drawYear_65 : decode m_S_drawYear.2.1 65 = .ok (.iload 6, 2) := by decide +kernel
theorem d_S_drawYear_67 : decode m_S_drawYear.2.1 67 = .ok (.invokevirtual 105, 3) := by decide +kernel
theorem d_S_drawYear_70 : decode m_S_drawYear.2.1 70 = .ok (.iinc 4 1, 3) := by decide +kernel
theorem d_S_drawYear_73 : decode m_S_drawYear.2.1 73 = .ok (.goto (-68), 3) := by decide +kernel
theorem d_S_drawYear_76 : decode m_S_drawYear.2.1 76 = .ok (.return_, 1) := by decide +kernel
theorem d_S_drawnKind_0 : decode m_S_drawnKind.2.1 0 = .ok (.iload_n 0, 1) := by decide +kernel
theorem d_S_drawnKind_1 : decode m_S_drawnKind.2.1 1 = .ok (.ifCond .ne 5, 3) := by decide +kernel
theorem d_S_drawnKind_4 : decode m_S_drawnKind.2.1 4 = .ok (.iconst 3, 1) := by decide +kernel
theorem d_S_drawnKind_5 : decode m_S_drawnKind.2.1 5 = .ok (.ireturn, 1) := by decide +kernel
theorem d_S_drawnKind_6 : decode m_S_drawnKind.2.1 6 = .ok (.iload_n 0, 1) := by decide +kernel
theorem d_S_drawnKind_7 : decode m_S_drawnKind.2.1 7 = .ok (.iconst 1, 1) := by decide +kernel
theorem d_S_drawnKind_8 : decode m_S_drawnKind.2.1 8 = .ok (.if_icmp .ne 5, 3) := by decide +kernel
theorem d_S_drawnKind_11 : decode m_S_drawnKind.2.1 11 = .ok (.iconst 2, 1) := by decide +kernel
theorem d_S_drawnKind_12 : decode m_S_drawnKind.2.1 12 = .ok (.ireturn, 1) := by decide +kernel
theorem d_S_drawnKind_13 : decode m_S_drawnKind.2.1 13 = .ok (.iload_n 0, 1) := by decide +kernel
theorem d_S_drawnKind_14 : decode m_S_drawnKind.2.1 14 = .ok (.iconst 4, 1) := by decide +kernel
theorem d_S_drawnKind_15 : decode m_S_drawnKind.2.1 15 = .ok (.if_icmp .gt 7, 3) := by decide +kernel
theorem d_S_drawnKind_18 : decode m_S_drawnKind.2.1 18 = .ok (.iconst 0, 1) := by decide +kernel
theorem d_S_drawnKind_19 : decode m_S_drawnKind.2.1 19 = .ok (.goto 4, 3) := by decide +kernel
theorem d_S_drawnKind_22 : decode m_S_drawnKind.2.1 22 = .ok (.iconst 1, 1) := by decide +kernel
theorem d_S_drawnKind_23 : decode m_S_drawnKind.2.1 23 = .ok (.ireturn, 1) := by decide +kernel
theorem d_S_factsKnown_0 : decode m_S_factsKnown.2.1 0 = .ok (.iconst 0, 1) := by decide +kernel
theorem d_S_factsKnown_1 : decode m_S_factsKnown.2.1 1 = .ok (.istore_n 1, 1) := by decide +kernel
theorem d_S_factsKnown_2 : decode m_S_factsKnown.2.1 2 = .ok (.iconst 0, 1) := by decide +kernel
theorem d_S_factsKnown_3 : decode m_S_factsKnown.2.1 3 = .ok (.istore_n 2, 1) := by decide +kernel
theorem d_S_factsKnown_4 : decode m_S_factsKnown.2.1 4 = .ok (.iload_n 2, 1) := by decide +kernel
theorem d_S_factsKnown_5 : decode m_S_factsKnown.2.1 5 = .ok (.bipush 12, 2) := by decide +kernel
theorem d_S_factsKnown_7 : decode m_S_factsKnown.2.1 7 = .ok (.if_icmp .ge 21, 3) := by decide +kernel
theorem d_S_factsKnown_10 : decode m_S_factsKnown.2.1 10 = .ok (.iload_n 1, 1) := by decide +kernel
theorem d_S_factsKnown_11 : decode m_S_factsKnown.2.1 11 = .ok (.aload_n 0, 1) := by decide +kernel
theorem d_S_factsKnown_12 : decode m_S_factsKnown.2.1 12 = .ok (.getfield 9, 3) := by decide +kernel
theorem d_S_factsKnown_15 : decode m_S_factsKnown.2.1 15 = .ok (.iload_n 2, 1) := by decide +kernel
theorem d_S_factsKnown_16 : decode m_S_factsKnown.2.1 16 = .ok (.iaload, 1) := by decide +kernel
theorem d_S_factsKnown_17 : decode m_S_factsKnown.2.1 17 = .ok (.invokestatic 109, 3) := by decide +kernel
theorem d_S_factsKnown_20 : decode m_S_factsKnown.2.1 20 = .ok (.iadd, 1) := by decide +kernel
theorem d_S_factsKnown_21 : decode m_S_factsKnown.2.1 21 = .ok (.istore_n 1, 1) := by decide +kernel
theorem d_S_factsKnown_22 : decode m_S_factsKnown.2.1 22 = .ok (.iinc 2 1, 3) := by decide +kernel
theorem d_S_factsKnown_25 : decode m_S_factsKnown.2.1 25 = .ok (.goto (-21), 3) := by decide +kernel
theorem d_S_factsKnown_28 : decode m_S_factsKnown.2.1 28 = .ok (.iload_n 1, 1) := by decide +kernel
theorem d_S_factsKnown_29 : decode m_S_factsKnown.2.1 29 = .ok (.ireturn, 1) := by decide +kernel
theorem d_B_bitCount_0 : decode m_B_bitCount.2.1 0 = .ok (.iload_n 0, 1) := by decide +kernel
theorem d_B_bitCount_1 : decode m_B_bitCount.2.1 1 = .ok (.iload_n 0, 1) := by decide +kernel
theorem d_B_bitCount_2 : decode m_B_bitCount.2.1 2 = .ok (.iconst 1, 1) := by decide +kernel
theorem d_B_bitCount_3 : decode m_B_bitCount.2.1 3 = .ok (.iushr, 1) := by decide +kernel
theorem d_B_bitCount_4 : decode m_B_bitCount.2.1 4 = .ok (.ldc_w 265, 3) := by decide +kernel
theorem d_B_bitCount_7 : decode m_B_bitCount.2.1 7 = .ok (.iand, 1) := by decide +kernel
theorem d_B_bitCount_8 : decode m_B_bitCount.2.1 8 = .ok (.isub, 1) := by decide +kernel
theorem d_B_bitCount_9 : decode m_B_bitCount.2.1 9 = .ok (.istore_n 0, 1) := by decide +kernel
theorem d_B_bitCount_10 : decode m_B_bitCount.2.1 10 = .ok (.iload_n 0, 1) := by decide +kernel
theorem d_B_bitCount_11 : decode m_B_bitCount.2.1 11 = .ok (.ldc_w 266, 3) := by decide +kernel
theorem d_B_bitCount_14 : decode m_B_bitCount.2.1 14 = .ok (.iand, 1) := by decide +kernel
theorem d_B_bitCount_15 : decode m_B_bitCount.2.1 15 = .ok (.iload_n 0, 1) := by decide +kernel
theorem d_B_bitCount_16 : decode m_B_bitCount.2.1 16 = .ok (.iconst 2, 1) := by decide +kernel
theorem d_B_bitCount_17 : decode m_B_bitCount.2.1 17 = .ok (.iushr, 1) := by decide +kernel
theorem d_B_bitCount_18 : decode m_B_bitCount.2.1 18 = .ok (.ldc_w 266, 3) := by decide +kernel
theorem d_B_bitCount_21 : decode m_B_bitCount.2.1 21 = .ok (.iand, 1) := by decide +kernel
theorem d_B_bitCount_22 : decode m_B_bitCount.2.1 22 = .ok (.iadd, 1) := by decide +kernel
theorem d_B_bitCount_23 : decode m_B_bitCount.2.1 23 = .ok (.istore_n 0, 1) := by decide +kernel
theorem d_B_bitCount_24 : decode m_B_bitCount.2.1 24 = .ok (.iload_n 0, 1) := by decide +kernel
theorem d_B_bitCount_25 : decode m_B_bitCount.2.1 25 = .ok (.iload_n 0, 1) := by decide +kernel
theorem d_B_bitCount_26 : decode m_B_bitCount.2.1 26 = .ok (.iconst 4, 1) := by decide +kernel
theorem d_B_bitCount_27 : decode m_B_bitCount.2.1 27 = .ok (.iushr, 1) := by decide +kernel
theorem d_B_bitCount_28 : decode m_B_bitCount.2.1 28 = .ok (.iadd, 1) := by decide +kernel
theorem d_B_bitCount_29 : decode m_B_bitCount.2.1 29 = .ok (.ldc_w 267, 3) := by decide +kernel
theorem d_B_bitCount_32 : decode m_B_bitCount.2.1 32 = .ok (.iand, 1) := by decide +kernel
theorem d_B_bitCount_33 : decode m_B_bitCount.2.1 33 = .ok (.istore_n 0, 1) := by decide +kernel
theorem d_B_bitCount_34 : decode m_B_bitCount.2.1 34 = .ok (.iload_n 0, 1) := by decide +kernel
theorem d_B_bitCount_35 : decode m_B_bitCount.2.1 35 = .ok (.iload_n 0, 1) := by decide +kernel
theorem d_B_bitCount_36 : decode m_B_bitCount.2.1 36 = .ok (.bipush 8, 2) := by decide +kernel
theorem d_B_bitCount_38 : decode m_B_bitCount.2.1 38 = .ok (.iushr, 1) := by decide +kernel
theorem d_B_bitCount_39 : decode m_B_bitCount.2.1 39 = .ok (.iadd, 1) := by decide +kernel
theorem d_B_bitCount_40 : decode m_B_bitCount.2.1 40 = .ok (.istore_n 0, 1) := by decide +kernel
theorem d_B_bitCount_41 : decode m_B_bitCount.2.1 41 = .ok (.iload_n 0, 1) := by decide +kernel
theorem d_B_bitCount_42 : decode m_B_bitCount.2.1 42 = .ok (.iload_n 0, 1) := by decide +kernel
theorem d_B_bitCount_43 : decode m_B_bitCount.2.1 43 = .ok (.bipush 16, 2) := by decide +kernel
theorem d_B_bitCount_45 : decode m_B_bitCount.2.1 45 = .ok (.iushr, 1) := by decide +kernel
theorem d_B_bitCount_46 : decode m_B_bitCount.2.1 46 = .ok (.iadd, 1) := by decide +kernel
theorem d_B_bitCount_47 : decode m_B_bitCount.2.1 47 = .ok (.istore_n 0, 1) := by decide +kernel
theorem d_B_bitCount_48 : decode m_B_bitCount.2.1 48 = .ok (.iload_n 0, 1) := by decide +kernel
theorem d_B_bitCount_49 : decode m_B_bitCount.2.1 49 = .ok (.bipush 63, 2) := by decide +kernel
theorem d_B_bitCount_51 : decode m_B_bitCount.2.1 51 = .ok (.iand, 1) := by decide +kernel
theorem d_B_bitCount_52 : decode m_B_bitCount.2.1 52 = .ok (.ireturn, 1) := by decide +kernel
