theorem dX0_init_0 : decode cX0_init 0 = .ok (.aload_n 0, 1) := by decide +kernel
theorem dX0_init_1 : decode cX0_init 1 = .ok (.invokespecial 1, 3) := by decide +kernel
theorem dX0_init_4 : decode cX0_init 4 = .ok (.aload_n 0, 1) := by decide +kernel
theorem dX0_init_5 : decode cX0_init 5 = .ok (.iconst (-1), 1) := by decide +kernel
theorem dX0_init_6 : decode cX0_init 6 = .ok (.putfield 7, 3) := by decide +kernel
theorem dX0_init_9 : decode cX0_init 9 = .ok (.aload_n 0, 1) := by decide +kernel
theorem dX0_init_10 : decode cX0_init 10 = .ok (.bipush 6, 2) := by decide +kernel
theorem dX0_init_12 : decode cX0_init 12 = .ok (.newarray .int, 2) := by decide +kernel
theorem dX0_init_14 : decode cX0_init 14 = .ok (.putfield 13, 3) := by decide +kernel
theorem dX0_init_17 : decode cX0_init 17 = .ok (.aload_n 0, 1) := by decide +kernel
theorem dX0_init_18 : decode cX0_init 18 = .ok (.bipush 6, 2) := by decide +kernel
theorem dX0_init_20 : decode cX0_init 20 = .ok (.newarray .int, 2) := by decide +kernel
theorem dX0_init_22 : decode cX0_init 22 = .ok (.putfield 17, 3) := by decide +kernel
theorem dX0_init_25 : decode cX0_init 25 = .ok (.aload_n 0, 1) := by decide +kernel
theorem dX0_init_26 : decode cX0_init 26 = .ok (.bipush 8, 2) := by decide +kernel
theorem dX0_init_28 : decode cX0_init 28 = .ok (.newarray .int, 2) := by decide +kernel
theorem dX0_init_30 : decode cX0_init 30 = .ok (.putfield 20, 3) := by decide +kernel
theorem dX0_init_33 : decode cX0_init 33 = .ok (.aload_n 0, 1) := by decide +kernel
theorem dX0_init_34 : decode cX0_init 34 = .ok (.bipush 8, 2) := by decide +kernel
theorem dX0_init_36 : decode cX0_init 36 = .ok (.newarray .int, 2) := by decide +kernel
theorem dX0_init_38 : decode cX0_init 38 = .ok (.putfield 23, 3) := by decide +kernel
theorem dX0_init_41 : decode cX0_init 41 = .ok (.aload_n 0, 1) := by decide +kernel
theorem dX0_init_42 : decode cX0_init 42 = .ok (.bipush 8, 2) := by decide +kernel
theorem dX0_init_44 : decode cX0_init 44 = .ok (.newarray .int, 2) := by decide +kernel
theorem dX0_init_46 : decode cX0_init 46 = .ok (.putfield 26, 3) := by decide +kernel
theorem dX0_init_49 : decode cX0_init 49 = .ok (.return_, 1) := by decide +kernel
theorem dX0_becomes_0 : decode cX0_becomes 0 = .ok (.aload_n 0, 1) := by decide +kernel
theorem dX0_becomes_1 : decode cX0_becomes 1 = .ok (.aload_n 1, 1) := by decide +kernel
theorem dX0_becomes_2 : decode cX0_becomes 2 = .ok (.getfield 29, 3) := by decide +kernel
theorem dX0_becomes_5 : decode cX0_becomes 5 = .ok (.putfield 29, 3) := by decide +kernel
theorem dX0_becomes_8 : decode cX0_becomes 8 = .ok (.aload_n 0, 1) := by decide +kernel
theorem dX0_becomes_9 : decode cX0_becomes 9 = .ok (.aload_n 1, 1) := by decide +kernel
theorem dX0_becomes_10 : decode cX0_becomes 10 = .ok (.getfield 7, 3) := by decide +kernel
theorem dX0_becomes_13 : decode cX0_becomes 13 = .ok (.putfield 7, 3) := by decide +kernel
theorem dX0_becomes_16 : decode cX0_becomes 16 = .ok (.aload_n 0, 1) := by decide +kernel
theorem dX0_becomes_17 : decode cX0_becomes 17 = .ok (.aload_n 1, 1) := by decide +kernel
theorem dX0_becomes_18 : decode cX0_becomes 18 = .ok (.getfield 32, 3) := by decide +kernel
theorem dX0_becomes_21 : decode cX0_becomes 21 = .ok (.putfield 32, 3) := by decide +kernel
theorem dX0_becomes_24 : decode cX0_becomes 24 = .ok (.aload_n 0, 1) := by decide +kernel
theorem dX0_becomes_25 : decode cX0_becomes 25 = .ok (.aload_n 1, 1) := by decide +kernel
theorem dX0_becomes_26 : decode cX0_becomes 26 = .ok (.getfield 35, 3) := by decide +kernel
theorem dX0_becomes_29 : decode cX0_becomes 29 = .ok (.putfield 35, 3) := by decide +kernel
theorem dX0_becomes_32 : decode cX0_becomes 32 = .ok (.aload_n 0, 1) := by decide +kernel
theorem dX0_becomes_33 : decode cX0_becomes 33 = .ok (.aload_n 1, 1) := by decide +kernel
theorem dX0_becomes_34 : decode cX0_becomes 34 = .ok (.getfield 38, 3) := by decide +kernel
theorem dX0_becomes_37 : decode cX0_becomes 37 = .ok (.putfield 38, 3) := by decide +kernel
theorem dX0_becomes_40 : decode cX0_becomes 40 = .ok (.iconst 0, 1) := by decide +kernel
theorem dX0_becomes_41 : decode cX0_becomes 41 = .ok (.istore_n 2, 1) := by decide +kernel
theorem dX0_becomes_42 : decode cX0_becomes 42 = .ok (.iload_n 2, 1) := by decide +kernel
theorem dX0_becomes_43 : decode cX0_becomes 43 = .ok (.bipush 6, 2) := by decide +kernel
theorem dX0_becomes_45 : decode cX0_becomes 45 = .ok (.if_icmp .ge 33, 3) := by decide +kernel
theorem dX0_becomes_48 : decode cX0_becomes 48 = .ok (.aload_n 0, 1) := by decide +kernel
theorem dX0_becomes_49 : decode cX0_becomes 49 = .ok (.getfield 13, 3) := by decide +kernel
theorem dX0_becomes_52 : decode cX0_becomes 52 = .ok (.iload_n 2, 1) := by decide +kernel
theorem dX0_becomes_53 : decode cX0_becomes 53 = .ok (.aload_n 1, 1) := by decide +kernel
theorem dX0_becomes_54 : decode cX0_becomes 54 = .ok (.getfield 13, 3) := by decide +kernel
theorem dX0_becomes_57 : decode cX0_becomes 57 = .ok (.iload_n 2, 1) := by decide +kernel
theorem dX0_becomes_58 : decode cX0_becomes 58 = .ok (.iaload, 1) := by decide +kernel
theorem dX0_becomes_59 : decode cX0_becomes 59 = .ok (.iastore, 1) := by decide +kernel
theorem dX0_becomes_60 : decode cX0_becomes 60 = .ok (.aload_n 0, 1) := by decide +kernel
theorem dX0_becomes_61 : decode cX0_becomes 61 = .ok (.getfield 17, 3) := by decide +kernel
theorem dX0_becomes_64 : decode cX0_becomes 64 = .ok (.iload_n 2, 1) := by decide +kernel
theorem dX0_becomes_65 : decode cX0_becomes 65 = .ok (.aload_n 1, 1) := by decide +kernel
theorem dX0_becomes_66 : decode cX0_becomes 66 = .ok (.getfield 17, 3) := by decide +kernel
theorem dX0_becomes_69 : decode cX0_becomes 69 = .ok (.iload_n 2, 1) := by decide +kernel
theorem dX0_becomes_70 : decode cX0_becomes 70 = .ok (.iaload, 1) := by decide +kernel
theorem dX0_becomes_71 : decode cX0_becomes 71 = .ok (.iastore, 1) := by decide +kernel
theorem dX0_becomes_72 : decode cX0_becomes 72 = .ok (.iinc 2 1, 3) := by decide +kernel
theorem dX0_becomes_75 : decode cX0_becomes 75 = .ok (.goto (-33), 3) := by decide +kernel
theorem dX0_becomes_78 : decode cX0_becomes 78 = .ok (.iconst 0, 1) := by decide +kernel
theorem dX0_becomes_79 : decode cX0_becomes 79 = .ok (.istore_n 2, 1) := by decide +kernel
theorem dX0_becomes_80 : decode cX0_becomes 80 = .ok (.iload_n 2, 1) := by decide +kernel
theorem dX0_becomes_81 : decode cX0_becomes 81 = .ok (.bipush 8, 2) := by decide +kernel
theorem dX0_becomes_83 : decode cX0_becomes 83 = .ok (.if_icmp .ge 45, 3) := by decide +kernel
theorem dX0_becomes_86 : decode cX0_becomes 86 = .ok (.aload_n 0, 1) := by decide +kernel
theorem dX0_becomes_87 : decode cX0_becomes 87 = .ok (.getfield 20, 3) := by decide +kernel
theorem dX0_becomes_90 : decode cX0_becomes 90 = .ok (.iload_n 2, 1) := by decide +kernel
theorem dX0_becomes_91 : decode cX0_becomes 91 = .ok (.aload_n 1, 1) := by decide +kernel
theorem dX0_becomes_92 : decode cX0_becomes 92 = .ok (.getfield 20, 3) := by decide +kernel
theorem dX0_becomes_95 : decode cX0_becomes 95 = .ok (.iload_n 2, 1) := by decide +kernel
theorem dX0_becomes_96 : decode cX0_becomes 96 = .ok (.iaload, 1) := by decide +kernel
theorem dX0_becomes_97 : decode cX0_becomes 97 = .ok (.iastore, 1) := by decide +kernel
theorem dX0_becomes_98 : decode cX0_becomes 98 = .ok (.aload_n 0, 1) := by decide +kernel
theorem dX0_becomes_99 : decode cX0_becomes 99 = .ok (.getfield 23, 3) := by decide +kernel
theorem dX0_becomes_102 : decode cX0_becomes 102 = .ok (.iload_n 2, 1) := by decide +kernel
theorem dX0_becomes_103 : decode cX0_becomes 103 = .ok (.aload_n 1, 1) := by decide +kernel
theorem dX0_becomes_104 : decode cX0_becomes 104 = .ok (.getfield 23, 3) := by decide +kernel
theorem dX0_becomes_107 : decode cX0_becomes 107 = .ok (.iload_n 2, 1) := by decide +kernel
theorem dX0_becomes_108 : decode cX0_becomes 108 = .ok (.iaload, 1) := by decide +kernel
theorem dX0_becomes_109 : decode cX0_becomes 109 = .ok (.iastore, 1) := by decide +kernel
theorem dX0_becomes_110 : decode cX0_becomes 110 = .ok (.aload_n 0, 1) := by decide +kernel
theorem dX0_becomes_111 : decode cX0_becomes 111 = .ok (.getfield 26, 3) := by decide +kernel
theorem dX0_becomes_114 : decode cX0_becomes 114 = .ok (.iload_n 2, 1) := by decide +kernel
theorem dX0_becomes_115 : decode cX0_becomes 115 = .ok (.aload_n 1, 1) := by decide +kernel
theorem dX0_becomes_116 : decode cX0_becomes 116 = .ok (.getfield 26, 3) := by decide +kernel
theorem dX0_becomes_119 : decode cX0_becomes 119 = .ok (.iload_n 2, 1) := by decide +kernel
theorem dX0_becomes_120 : decode cX0_becomes 120 = .ok (.iaload, 1) := by decide +kernel
theorem dX0_becomes_121 : decode cX0_becomes 121 = .ok (.iastore, 1) := by decide +kernel
theorem dX0_becomes_122 : decode cX0_becomes 122 = .ok (.iinc 2 1, 3) := by decide +kernel
theorem dX0_becomes_125 : decode cX0_becomes 125 = .ok (.goto (-45), 3) := by decide +kernel
theorem dX0_becomes_128 : decode cX0_becomes 128 = .ok (.return_, 1) := by decide +kernel
theorem dX0_hasMan_0 : decode cX0_hasMan 0 = .ok (.iload_n 1, 1) := by decide +kernel
theorem dX0_hasMan_1 : decode cX0_hasMan 1 = .ok (.ifCond .lt 15, 3) := by decide +kernel
theorem dX0_hasMan_4 : decode cX0_hasMan 4 = .ok (.iload_n 1, 1) := by decide +kernel
theorem dX0_hasMan_5 : decode cX0_hasMan 5 = .ok (.aload_n 0, 1) := by decide +kernel
theorem dX0_hasMan_6 : decode cX0_hasMan 6 = .ok (.getfield 35, 3) := by decide +kernel
theorem dX0_hasMan_9 : decode cX0_hasMan 9 = .ok (.if_icmp .ge 7, 3) := by decide +kernel
theorem dX0_hasMan_12 : decode cX0_hasMan 12 = .ok (.iconst 1, 1) := by decide +kernel
theorem dX0_hasMan_13 : decode cX0_hasMan 13 = .ok (.goto 4, 3) := by decide +kernel
theorem dX0_hasMan_16 : decode cX0_hasMan 16 = .ok (.iconst 0, 1) := by decide +kernel
theorem dX0_hasMan_17 : decode cX0_hasMan 17 = .ok (.ireturn, 1) := by decide +kernel
theorem dX0_hasSheep_0 : decode cX0_hasSheep 0 = .ok (.iload_n 1, 1) := by decide +kernel
theorem dX0_hasSheep_1 : decode cX0_hasSheep 1 = .ok (.ifCond .lt 15, 3) := by decide +kernel
theorem dX0_hasSheep_4 : decode cX0_hasSheep 4 = .ok (.iload_n 1, 1) := by decide +kernel
theorem dX0_hasSheep_5 : decode cX0_hasSheep 5 = .ok (.aload_n 0, 1) := by decide +kernel
theorem dX0_hasSheep_6 : decode cX0_hasSheep 6 = .ok (.getfield 38, 3) := by decide +kernel
theorem dX0_hasSheep_9 : decode cX0_hasSheep 9 = .ok (.if_icmp .ge 7, 3) := by decide +kernel
theorem dX0_hasSheep_12 : decode cX0_hasSheep 12 = .ok (.iconst 1, 1) := by decide +kernel
theorem dX0_hasSheep_13 : decode cX0_hasSheep 13 = .ok (.goto 4, 3) := by decide +kernel
theorem dX0_hasSheep_16 : decode cX0_hasSheep 16 = .ok (.iconst 0, 1) := by decide +kernel
theorem dX0_hasSheep_17 : decode cX0_hasSheep 17 = .ok (.ireturn, 1) := by decide +kernel
theorem dX0_hasRoomForMan_0 : decode cX0_hasRoomForMan 0 = .ok (.aload_n 0, 1) := by decide +kernel
theorem dX0_hasRoomForMan_1 : decode cX0_hasRoomForMan 1 = .ok (.getfield 35, 3) := by decide +kernel
theorem dX0_hasRoomForMan_4 : decode cX0_hasRoomForMan 4 = .ok (.bipush 6, 2) := by decide +kernel
theorem dX0_hasRoomForMan_6 : decode cX0_hasRoomForMan 6 = .ok (.if_icmp .ge 7, 3) := by decide +kernel
theorem dX0_hasRoomForMan_9 : decode cX0_hasRoomForMan 9 = .ok (.iconst 1, 1) := by decide +kernel
theorem dX0_hasRoomForMan_10 : decode cX0_hasRoomForMan 10 = .ok (.goto 4, 3) := by decide +kernel
theorem dX0_hasRoomForMan_13 : decode cX0_hasRoomForMan 13 = .ok (.iconst 0, 1) := by decide +kernel
theorem dX0_hasRoomForMan_14 : decode cX0_hasRoomForMan 14 = .ok (.ireturn, 1) := by decide +kernel
theorem dX0_hasRoomForSheep_0 : decode cX0_hasRoomForSheep 0 = .ok (.aload_n 0, 1) := by decide +kernel
theorem dX0_hasRoomForSheep_1 : decode cX0_hasRoomForSheep 1 = .ok (.getfield 38, 3) := by decide +kernel
theorem dX0_hasRoomForSheep_4 : decode cX0_hasRoomForSheep 4 = .ok (.bipush 8, 2) := by decide +kernel
theorem dX0_hasRoomForSheep_6 : decode cX0_hasRoomForSheep 6 = .ok (.if_icmp .ge 7, 3) := by decide +kernel
theorem dX0_hasRoomForSheep_9 : decode cX0_hasRoomForSheep 9 = .ok (.iconst 1, 1) := by decide +kernel
theorem dX0_hasRoomForSheep_10 : decode cX0_hasRoomForSheep 10 = .ok (.goto 4, 3) := by decide +kernel
theorem dX0_hasRoomForSheep_13 : decode cX0_hasRoomForSheep 13 = .ok (.iconst 0, 1) := by decide +kernel
theorem dX0_hasRoomForSheep_14 : decode cX0_hasRoomForSheep 14 = .ok (.ireturn, 1) := by decide +kernel
theorem dX0_addMan_0 : decode cX0_addMan 0 = .ok (.aload_n 0, 1) := by decide +kernel
theorem dX0_addMan_1 : decode cX0_addMan 1 = .ok (.getfield 35, 3) := by decide +kernel
theorem dX0_addMan_4 : decode cX0_addMan 4 = .ok (.istore_n 3, 1) := by decide +kernel
theorem dX0_addMan_5 : decode cX0_addMan 5 = .ok (.aload_n 0, 1) := by decide +kernel
theorem dX0_addMan_6 : decode cX0_addMan 6 = .ok (.invokevirtual 41, 3) := by decide +kernel
theorem dX0_addMan_9 : decode cX0_addMan 9 = .ok (.ifCond .eq 27, 3) := by decide +kernel
theorem dX0_addMan_12 : decode cX0_addMan 12 = .ok (.aload_n 0, 1) := by decide +kernel
theorem dX0_addMan_13 : decode cX0_addMan 13 = .ok (.getfield 13, 3) := by decide +kernel
theorem dX0_addMan_16 : decode cX0_addMan 16 = .ok (.iload_n 3, 1) := by decide +kernel
theorem dX0_addMan_17 : decode cX0_addMan 17 = .ok (.iload_n 1, 1) := by decide +kernel
theorem dX0_addMan_18 : decode cX0_addMan 18 = .ok (.iastore, 1) := by decide +kernel
theorem dX0_addMan_19 : decode cX0_addMan 19 = .ok (.aload_n 0, 1) := by decide +kernel
theorem dX0_addMan_20 : decode cX0_addMan 20 = .ok (.getfield 17, 3) := by decide +kernel
theorem dX0_addMan_23 : decode cX0_addMan 23 = .ok (.iload_n 3, 1) := by decide +kernel
theorem dX0_addMan_24 : decode cX0_addMan 24 = .ok (.iload_n 2, 1) := by decide +kernel
theorem dX0_addMan_25 : decode cX0_addMan 25 = .ok (.iastore, 1) := by decide +kernel
theorem dX0_addMan_26 : decode cX0_addMan 26 = .ok (.aload_n 0, 1) := by decide +kernel
theorem dX0_addMan_27 : decode cX0_addMan 27 = .ok (.dup, 1) := by decide +kernel
theorem dX0_addMan_28 : decode cX0_addMan 28 = .ok (.getfield 35, 3) := by decide +kernel
theorem dX0_addMan_31 : decode cX0_addMan 31 = .ok (.iconst 1, 1) := by decide +kernel
theorem dX0_addMan_32 : decode cX0_addMan 32 = .ok (.iadd, 1) := by decide +kernel
theorem dX0_addMan_33 : decode cX0_addMan 33 = .ok (.putfield 35, 3) := by decide +kernel
theorem dX0_addMan_36 : decode cX0_addMan 36 = .ok (.iload_n 3, 1) := by decide +kernel
theorem dX0_addMan_37 : decode cX0_addMan 37 = .ok (.ireturn, 1) := by decide +kernel
theorem dX0_addSheep_0 : decode cX0_addSheep 0 = .ok (.aload_n 0, 1) := by decide +kernel
theorem dX0_addSheep_1 : decode cX0_addSheep 1 = .ok (.getfield 38, 3) := by decide +kernel
theorem dX0_addSheep_4 : decode cX0_addSheep 4 = .ok (.istore_n 3, 1) := by decide +kernel
theorem dX0_addSheep_5 : decode cX0_addSheep 5 = .ok (.aload_n 0, 1) := by decide +kernel
theorem dX0_addSheep_6 : decode cX0_addSheep 6 = .ok (.invokevirtual 45, 3) := by decide +kernel
theorem dX0_addSheep_9 : decode cX0_addSheep 9 = .ok (.ifCond .eq 34, 3) := by decide +kernel
theorem dX0_addSheep_12 : decode cX0_addSheep 12 = .ok (.aload_n 0, 1) := by decide +kernel
theorem dX0_addSheep_13 : decode cX0_addSheep 13 = .ok (.getfield 20, 3) := by decide +kernel
theorem dX0_addSheep_16 : decode cX0_addSheep 16 = .ok (.iload_n 3, 1) := by decide +kernel
theorem dX0_addSheep_17 : decode cX0_addSheep 17 = .ok (.iload_n 1, 1) := by decide +kernel
theorem dX0_addSheep_18 : decode cX0_addSheep 18 = .ok (.iastore, 1) := by decide +kernel
theorem dX0_addSheep_19 : decode cX0_addSheep 19 = .ok (.aload_n 0, 1) := by decide +kernel
theorem dX0_addSheep_20 : decode cX0_addSheep 20 = .ok (.getfield 23, 3) := by decide +kernel
theorem dX0_addSheep_23 : decode cX0_addSheep 23 = .ok (.iload_n 3, 1) := by decide +kernel
theorem dX0_addSheep_24 : decode cX0_addSheep 24 = .ok (.iload_n 2, 1) := by decide +kernel
theorem dX0_addSheep_25 : decode cX0_addSheep 25 = .ok (.iastore, 1) := by decide +kernel
theorem dX0_addSheep_26 : decode cX0_addSheep 26 = .ok (.aload_n 0, 1) := by decide +kernel
theorem dX0_addSheep_27 : decode cX0_addSheep 27 = .ok (.getfield 26, 3) := by decide +kernel
theorem dX0_addSheep_30 : decode cX0_addSheep 30 = .ok (.iload_n 3, 1) := by decide +kernel
theorem dX0_addSheep_31 : decode cX0_addSheep 31 = .ok (.iconst 0, 1) := by decide +kernel
theorem dX0_addSheep_32 : decode cX0_addSheep 32 = .ok (.iastore, 1) := by decide +kernel
theorem dX0_addSheep_33 : decode cX0_addSheep 33 = .ok (.aload_n 0, 1) := by decide +kernel
theorem dX0_addSheep_34 : decode cX0_addSheep 34 = .ok (.dup, 1) := by decide +kernel
theorem dX0_addSheep_35 : decode cX0_addSheep 35 = .ok (.getfield 38, 3) := by decide +kernel
theorem dX0_addSheep_38 : decode cX0_addSheep 38 = .ok (.iconst 1, 1) := by decide +kernel
theorem dX0_addSheep_39 : decode cX0_addSheep 39 = .ok (.iadd, 1) := by decide +kernel
theorem dX0_addSheep_40 : decode cX0_addSheep 40 = .ok (.putfield 38, 3) := by decide +kernel
theorem dX0_addSheep_43 : decode cX0_addSheep 43 = .ok (.iload_n 3, 1) := by decide +kernel
theorem dX0_addSheep_44 : decode cX0_addSheep 44 = .ok (.ireturn, 1) := by decide +kernel
theorem dX0_dropLastMan_0 : decode cX0_dropLastMan 0 = .ok (.aload_n 0, 1) := by decide +kernel
theorem dX0_dropLastMan_1 : decode cX0_dropLastMan 1 = .ok (.getfield 35, 3) := by decide +kernel
theorem dX0_dropLastMan_4 : decode cX0_dropLastMan 4 = .ok (.ifCond .le 29, 3) := by decide +kernel
theorem dX0_dropLastMan_7 : decode cX0_dropLastMan 7 = .ok (.aload_n 0, 1) := by decide +kernel
theorem dX0_dropLastMan_8 : decode cX0_dropLastMan 8 = .ok (.dup, 1) := by decide +kernel
theorem dX0_dropLastMan_9 : decode cX0_dropLastMan 9 = .ok (.getfield 35, 3) := by decide +kernel
theorem dX0_dropLastMan_12 : decode cX0_dropLastMan 12 = .ok (.iconst 1, 1) := by decide +kernel
theorem dX0_dropLastMan_13 : decode cX0_dropLastMan 13 = .ok (.isub, 1) := by decide +kernel
theorem dX0_dropLastMan_14 : decode cX0_dropLastMan 14 = .ok (.putfield 35, 3) := by decide +kernel
theorem dX0_dropLastMan_17 : decode cX0_dropLastMan 17 = .ok (.aload_n 0, 1) := by decide +kernel
theorem dX0_dropLastMan_18 : decode cX0_dropLastMan 18 = .ok (.getfield 32, 3) := by decide +kernel
theorem dX0_dropLastMan_21 : decode cX0_dropLastMan 21 = .ok (.aload_n 0, 1) := by decide +kernel
theorem dX0_dropLastMan_22 : decode cX0_dropLastMan 22 = .ok (.getfield 35, 3) := by decide +kernel
theorem dX0_dropLastMan_25 : decode cX0_dropLastMan 25 = .ok (.if_icmp .lt 8, 3) := by decide +kernel
theorem dX0_dropLastMan_28 : decode cX0_dropLastMan 28 = .ok (.aload_n 0, 1) := by decide +kernel
theorem dX0_dropLastMan_29 : decode cX0_dropLastMan 29 = .ok (.iconst 0, 1) := by decide +kernel
theorem dX0_dropLastMan_30 : decode cX0_dropLastMan 30 = .ok (.putfield 32, 3) := by decide +kernel
theorem dX0_dropLastMan_33 : decode cX0_dropLastMan 33 = .ok (.return_, 1) := by decide +kernel
theorem dX0_exchange_0 : decode cX0_exchange 0 = .ok (.aload_n 0, 1) := by decide +kernel
theorem dX0_exchange_1 : decode cX0_exchange 1 = .ok (.getfield 13, 3) := by decide +kernel
theorem dX0_exchange_4 : decode cX0_exchange 4 = .ok (.iload_n 1, 1) := by decide +kernel
theorem dX0_exchange_5 : decode cX0_exchange 5 = .ok (.iaload, 1) := by decide +kernel
theorem dX0_exchange_6 : decode cX0_exchange 6 = .ok (.istore_n 3, 1) := by decide +kernel
theorem dX0_exchange_7 : decode cX0_exchange 7 = .ok (.aload_n 0, 1) := by decide +kernel
theorem dX0_exchange_8 : decode cX0_exchange 8 = .ok (.getfield 17, 3) := by decide +kernel
theorem dX0_exchange_11 : decode cX0_exchange 11 = .ok (.iload_n 1, 1) := by decide +kernel
theorem dX0_exchange_12 : decode cX0_exchange 12 = .ok (.iaload, 1) := by decide +kernel
theorem dX0_exchange_13 : decode cX0_exchange 13 = .ok (.istore 4, 2) := by decide +kernel
theorem dX0_exchange_15 : decode cX0_exchange 15 = .ok (.aload_n 0, 1) := by decide +kernel
theorem dX0_exchange_16 : decode cX0_exchange 16 = .ok (.getfield 13, 3) := by decide +kernel
theorem dX0_exchange_19 : decode cX0_exchange 19 = .ok (.iload_n 1, 1) := by decide +kernel
theorem dX0_exchange_20 : decode cX0_exchange 20 = .ok (.aload_n 0, 1) := by decide +kernel
theorem dX0_exchange_21 : decode cX0_exchange 21 = .ok (.getfield 13, 3) := by decide +kernel
theorem dX0_exchange_24 : decode cX0_exchange 24 = .ok (.iload_n 2, 1) := by decide +kernel
theorem dX0_exchange_25 : decode cX0_exchange 25 = .ok (.iaload, 1) := by decide +kernel
theorem dX0_exchange_26 : decode cX0_exchange 26 = .ok (.iastore, 1) := by decide +kernel
theorem dX0_exchange_27 : decode cX0_exchange 27 = .ok (.aload_n 0, 1) := by decide +kernel
theorem dX0_exchange_28 : decode cX0_exchange 28 = .ok (.getfield 17, 3) := by decide +kernel
theorem dX0_exchange_31 : decode cX0_exchange 31 = .ok (.iload_n 1, 1) := by decide +kernel
theorem dX0_exchange_32 : decode cX0_exchange 32 = .ok (.aload_n 0, 1) := by decide +kernel
theorem dX0_exchange_33 : decode cX0_exchange 33 = .ok (.getfield 17, 3) := by decide +kernel
theorem dX0_exchange_36 : decode cX0_exchange 36 = .ok (.iload_n 2, 1) := by decide +kernel
theorem dX0_exchange_37 : decode cX0_exchange 37 = .ok (.iaload, 1) := by decide +kernel
theorem dX0_exchange_38 : decode cX0_exchange 38 = .ok (.iastore, 1) := by decide +kernel
theorem dX0_exchange_39 : decode cX0_exchange 39 = .ok (.aload_n 0, 1) := by decide +kernel
theorem dX0_exchange_40 : decode cX0_exchange 40 = .ok (.getfield 13, 3) := by decide +kernel
theorem dX0_exchange_43 : decode cX0_exchange 43 = .ok (.iload_n 2, 1) := by decide +kernel
theorem dX0_exchange_44 : decode cX0_exchange 44 = .ok (.iload_n 3, 1) := by decide +kernel
theorem dX0_exchange_45 : decode cX0_exchange 45 = .ok (.iastore, 1) := by decide +kernel
theorem dX0_exchange_46 : decode cX0_exchange 46 = .ok (.aload_n 0, 1) := by decide +kernel
theorem dX0_exchange_47 : decode cX0_exchange 47 = .ok (.getfield 17, 3) := by decide +kernel
theorem dX0_exchange_50 : decode cX0_exchange 50 = .ok (.iload_n 2, 1) := by decide +kernel
theorem dX0_exchange_51 : decode cX0_exchange 51 = .ok (.iload 4, 2) := by decide +kernel
theorem dX0_exchange_53 : decode cX0_exchange 53 = .ok (.iastore, 1) := by decide +kernel
theorem dX0_exchange_54 : decode cX0_exchange 54 = .ok (.return_, 1) := by decide +kernel
theorem dX0_wearOut_0 : decode cX0_wearOut 0 = .ok (.iconst 0, 1) := by decide +kernel
theorem dX0_wearOut_1 : decode cX0_wearOut 1 = .ok (.istore_n 2, 1) := by decide +kernel
theorem dX0_wearOut_2 : decode cX0_wearOut 2 = .ok (.iload_n 2, 1) := by decide +kernel
theorem dX0_wearOut_3 : decode cX0_wearOut 3 = .ok (.aload_n 0, 1) := by decide +kernel
theorem dX0_wearOut_4 : decode cX0_wearOut 4 = .ok (.getfield 35, 3) := by decide +kernel
theorem dX0_wearOut_7 : decode cX0_wearOut 7 = .ok (.if_icmp .ge 25, 3) := by decide +kernel
theorem dX0_wearOut_10 : decode cX0_wearOut 10 = .ok (.iload_n 2, 1) := by decide +kernel
theorem dX0_wearOut_11 : decode cX0_wearOut 11 = .ok (.iload_n 1, 1) := by decide +kernel
theorem dX0_wearOut_12 : decode cX0_wearOut 12 = .ok (.invokestatic 48, 3) := by decide +kernel
theorem dX0_wearOut_15 : decode cX0_wearOut 15 = .ok (.ifCond .eq 11, 3) := by decide +kernel
theorem dX0_wearOut_18 : decode cX0_wearOut 18 = .ok (.aload_n 0, 1) := by decide +kernel
theorem dX0_wearOut_19 : decode cX0_wearOut 19 = .ok (.getfield 17, 3) := by decide +kernel
theorem dX0_wearOut_22 : decode cX0_wearOut 22 = .ok (.iload_n 2, 1) := by decide +kernel
theorem dX0_wearOut_23 : decode cX0_wearOut 23 = .ok (.bipush 99, 2) := by decide +kernel
theorem dX0_wearOut_25 : decode cX0_wearOut 25 = .ok (.iastore, 1) := by decide +kernel
theorem dX0_wearOut_26 : decode cX0_wearOut 26 = .ok (.iinc 2 1, 3) := by decide +kernel
theorem dX0_wearOut_29 : decode cX0_wearOut 29 = .ok (.goto (-27), 3) := by decide +kernel
theorem dX0_wearOut_32 : decode cX0_wearOut 32 = .ok (.return_, 1) := by decide +kernel
theorem dX0_isIn_0 : decode cX0_isIn 0 = .ok (.iload_n 1, 1) := by decide +kernel
theorem dX0_isIn_1 : decode cX0_isIn 1 = .ok (.iload_n 0, 1) := by decide +kernel
theorem dX0_isIn_2 : decode cX0_isIn 2 = .ok (.ishr, 1) := by decide +kernel
theorem dX0_isIn_3 : decode cX0_isIn 3 = .ok (.iconst 1, 1) := by decide +kernel
theorem dX0_isIn_4 : decode cX0_isIn 4 = .ok (.iand, 1) := by decide +kernel
theorem dX0_isIn_5 : decode cX0_isIn 5 = .ok (.iconst 1, 1) := by decide +kernel
theorem dX0_isIn_6 : decode cX0_isIn 6 = .ok (.if_icmp .ne 7, 3) := by decide +kernel
theorem dX0_isIn_9 : decode cX0_isIn 9 = .ok (.iconst 1, 1) := by decide +kernel
theorem dX0_isIn_10 : decode cX0_isIn 10 = .ok (.goto 4, 3) := by decide +kernel
theorem dX0_isIn_13 : decode cX0_isIn 13 = .ok (.iconst 0, 1) := by decide +kernel
theorem dX0_isIn_14 : decode cX0_isIn 14 = .ok (.ireturn, 1) := by decide +kernel
theorem dX0_isAsleep_0 : decode cX0_isAsleep 0 = .ok (.aload_n 0, 1) := by decide +kernel
theorem dX0_isAsleep_1 : decode cX0_isAsleep 1 = .ok (.getfield 23, 3) := by decide +kernel
theorem dX0_isAsleep_4 : decode cX0_isAsleep 4 = .ok (.iload_n 1, 1) := by decide +kernel
theorem dX0_isAsleep_5 : decode cX0_isAsleep 5 = .ok (.iaload, 1) := by decide +kernel
theorem dX0_isAsleep_6 : decode cX0_isAsleep 6 = .ok (.ifCond .ne 7, 3) := by decide +kernel
theorem dX0_isAsleep_9 : decode cX0_isAsleep 9 = .ok (.iconst 1, 1) := by decide +kernel
theorem dX0_isAsleep_10 : decode cX0_isAsleep 10 = .ok (.goto 4, 3) := by decide +kernel
theorem dX0_isAsleep_13 : decode cX0_isAsleep 13 = .ok (.iconst 0, 1) := by decide +kernel
theorem dX0_isAsleep_14 : decode cX0_isAsleep 14 = .ok (.ireturn, 1) := by decide +kernel
theorem dX0_canPass_0 : decode cX0_canPass 0 = .ok (.aload_n 0, 1) := by decide +kernel
theorem dX0_canPass_1 : decode cX0_canPass 1 = .ok (.getfield 17, 3) := by decide +kernel
theorem dX0_canPass_4 : decode cX0_canPass 4 = .ok (.iload_n 1, 1) := by decide +kernel
theorem dX0_canPass_5 : decode cX0_canPass 5 = .ok (.iaload, 1) := by decide +kernel
theorem dX0_canPass_6 : decode cX0_canPass 6 = .ok (.bipush 99, 2) := by decide +kernel
theorem dX0_canPass_8 : decode cX0_canPass 8 = .ok (.if_icmp .ge 7, 3) := by decide +kernel
theorem dX0_canPass_11 : decode cX0_canPass 11 = .ok (.iconst 1, 1) := by decide +kernel
theorem dX0_canPass_12 : decode cX0_canPass 12 = .ok (.goto 4, 3) := by decide +kernel
theorem dX0_canPass_15 : decode cX0_canPass 15 = .ok (.iconst 0, 1) := by decide +kernel
theorem dX0_canPass_16 : decode cX0_canPass 16 = .ok (.ireturn, 1) := by decide +kernel
theorem dX0_sleepers_0 : decode cX0_sleepers 0 = .ok (.iconst 0, 1) := by decide +kernel
theorem dX0_sleepers_1 : decode cX0_sleepers 1 = .ok (.istore_n 1, 1) := by decide +kernel
theorem dX0_sleepers_2 : decode cX0_sleepers 2 = .ok (.iconst 0, 1) := by decide +kernel
theorem dX0_sleepers_3 : decode cX0_sleepers 3 = .ok (.istore_n 2, 1) := by decide +kernel
theorem dX0_sleepers_4 : decode cX0_sleepers 4 = .ok (.iload_n 2, 1) := by decide +kernel
theorem dX0_sleepers_5 : decode cX0_sleepers 5 = .ok (.aload_n 0, 1) := by decide +kernel
theorem dX0_sleepers_6 : decode cX0_sleepers 6 = .ok (.getfield 38, 3) := by decide +kernel
theorem dX0_sleepers_9 : decode cX0_sleepers 9 = .ok (.if_icmp .ge 23, 3) := by decide +kernel
theorem dX0_sleepers_12 : decode cX0_sleepers 12 = .ok (.aload_n 0, 1) := by decide +kernel
theorem dX0_sleepers_13 : decode cX0_sleepers 13 = .ok (.iload_n 2, 1) := by decide +kernel
theorem dX0_sleepers_14 : decode cX0_sleepers 14 = .ok (.invokevirtual 52, 3) := by decide +kernel
theorem dX0_sleepers_17 : decode cX0_sleepers 17 = .ok (.ifCond .eq 9, 3) := by decide +kernel
theorem dX0_sleepers_20 : decode cX0_sleepers 20 = .ok (.iload_n 1, 1) := by decide +kernel
theorem dX0_sleepers_21 : decode cX0_sleepers 21 = .ok (.iconst 1, 1) := by decide +kernel
theorem dX0_sleepers_22 : decode cX0_sleepers 22 = .ok (.iload_n 2, 1) := by decide +kernel
theorem dX0_sleepers_23 : decode cX0_sleepers 23 = .ok (.ishl, 1) := by decide +kernel
theorem dX0_sleepers_24 : decode cX0_sleepers 24 = .ok (.ior, 1) := by decide +kernel
theorem dX0_sleepers_25 : decode cX0_sleepers 25 = .ok (.istore_n 1, 1) := by decide +kernel
theorem dX0_sleepers_26 : decode cX0_sleepers 26 = .ok (.iinc 2 1, 3) := by decide +kernel
theorem dX0_sleepers_29 : decode cX0_sleepers 29 = .ok (.goto (-25), 3) := by decide +kernel
theorem dX0_sleepers_32 : decode cX0_sleepers 32 = .ok (.iload_n 1, 1) := by decide +kernel
theorem dX0_sleepers_33 : decode cX0_sleepers 33 = .ok (.ireturn, 1) := by decide +kernel
theorem dX0_passers_0 : decode cX0_passers 0 = .ok (.iconst 0, 1) := by decide +kernel
theorem dX0_passers_1 : decode cX0_passers 1 = .ok (.istore_n 1, 1) := by decide +kernel
theorem dX0_passers_2 : decode cX0_passers 2 = .ok (.iconst 0, 1) := by decide +kernel
theorem dX0_passers_3 : decode cX0_passers 3 = .ok (.istore_n 2, 1) := by decide +kernel
theorem dX0_passers_4 : decode cX0_passers 4 = .ok (.iload_n 2, 1) := by decide +kernel
theorem dX0_passers_5 : decode cX0_passers 5 = .ok (.aload_n 0, 1) := by decide +kernel
theorem dX0_passers_6 : decode cX0_passers 6 = .ok (.getfield 35, 3) := by decide +kernel
theorem dX0_passers_9 : decode cX0_passers 9 = .ok (.if_icmp .ge 23, 3) := by decide +kernel
theorem dX0_passers_12 : decode cX0_passers 12 = .ok (.aload_n 0, 1) := by decide +kernel
theorem dX0_passers_13 : decode cX0_passers 13 = .ok (.iload_n 2, 1) := by decide +kernel
theorem dX0_passers_14 : decode cX0_passers 14 = .ok (.invokevirtual 56, 3) := by decide +kernel
theorem dX0_passers_17 : decode cX0_passers 17 = .ok (.ifCond .eq 9, 3) := by decide +kernel
theorem dX0_passers_20 : decode cX0_passers 20 = .ok (.iload_n 1, 1) := by decide +kernel
theorem dX0_passers_21 : decode cX0_passers 21 = .ok (.iconst 1, 1) := by decide +kernel
theorem dX0_passers_22 : decode cX0_passers 22 = .ok (.iload_n 2, 1) := by decide +kernel
theorem dX0_passers_23 : decode cX0_passers 23 = .ok (.ishl, 1) := by decide +kernel
theorem dX0_passers_24 : decode cX0_passers 24 = .ok (.ior, 1) := by decide +kernel
theorem dX0_passers_25 : decode cX0_passers 25 = .ok (.istore_n 1, 1) := by decide +kernel
theorem dX0_passers_26 : decode cX0_passers 26 = .ok (.iinc 2 1, 3) := by decide +kernel
theorem dX0_passers_29 : decode cX0_passers 29 = .ok (.goto (-25), 3) := by decide +kernel
theorem dX0_passers_32 : decode cX0_passers 32 = .ok (.iload_n 1, 1) := by decide +kernel
theorem dX0_passers_33 : decode cX0_passers 33 = .ok (.ireturn, 1) := by decide +kernel
theorem dX0_wantsOfAll_0 : decode cX0_wantsOfAll 0 = .ok (.iconst 0, 1) := by decide +kernel
theorem dX0_wantsOfAll_1 : decode cX0_wantsOfAll 1 = .ok (.istore_n 1, 1) := by decide +kernel
theorem dX0_wantsOfAll_2 : decode cX0_wantsOfAll 2 = .ok (.iconst 0, 1) := by decide +kernel
theorem dX0_wantsOfAll_3 : decode cX0_wantsOfAll 3 = .ok (.istore_n 2, 1) := by decide +kernel
theorem dX0_wantsOfAll_4 : decode cX0_wantsOfAll 4 = .ok (.iload_n 2, 1) := by decide +kernel
theorem dX0_wantsOfAll_5 : decode cX0_wantsOfAll 5 = .ok (.aload_n 0, 1) := by decide +kernel
theorem dX0_wantsOfAll_6 : decode cX0_wantsOfAll 6 = .ok (.getfield 38, 3) := by decide +kernel
theorem dX0_wantsOfAll_9 : decode cX0_wantsOfAll 9 = .ok (.if_icmp .ge 18, 3) := by decide +kernel
theorem dX0_wantsOfAll_12 : decode cX0_wantsOfAll 12 = .ok (.iload_n 1, 1) := by decide +kernel
theorem dX0_wantsOfAll_13 : decode cX0_wantsOfAll 13 = .ok (.aload_n 0, 1) := by decide +kernel
theorem dX0_wantsOfAll_14 : decode cX0_wantsOfAll 14 = .ok (.getfield 23, 3) := by decide +kernel
theorem dX0_wantsOfAll_17 : decode cX0_wantsOfAll 17 = .ok (.iload_n 2, 1) := by decide +kernel
theorem dX0_wantsOfAll_18 : decode cX0_wantsOfAll 18 = .ok (.iaload, 1) := by decide +kernel
theorem dX0_wantsOfAll_19 : decode cX0_wantsOfAll 19 = .ok (.iadd, 1) := by decide +kernel
theorem dX0_wantsOfAll_20 : decode cX0_wantsOfAll 20 = .ok (.istore_n 1, 1) := by decide +kernel
theorem dX0_wantsOfAll_21 : decode cX0_wantsOfAll 21 = .ok (.iinc 2 1, 3) := by decide +kernel
theorem dX0_wantsOfAll_24 : decode cX0_wantsOfAll 24 = .ok (.goto (-20), 3) := by decide +kernel
theorem dX0_wantsOfAll_27 : decode cX0_wantsOfAll 27 = .ok (.iload_n 1, 1) := by decide +kernel
theorem dX0_wantsOfAll_28 : decode cX0_wantsOfAll 28 = .ok (.ireturn, 1) := by decide +kernel
theorem dX0_seenByAll_0 : decode cX0_seenByAll 0 = .ok (.iconst 0, 1) := by decide +kernel
theorem dX0_seenByAll_1 : decode cX0_seenByAll 1 = .ok (.istore_n 1, 1) := by decide +kernel
theorem dX0_seenByAll_2 : decode cX0_seenByAll 2 = .ok (.iconst 0, 1) := by decide +kernel
theorem dX0_seenByAll_3 : decode cX0_seenByAll 3 = .ok (.istore_n 2, 1) := by decide +kernel
theorem dX0_seenByAll_4 : decode cX0_seenByAll 4 = .ok (.iload_n 2, 1) := by decide +kernel
theorem dX0_seenByAll_5 : decode cX0_seenByAll 5 = .ok (.aload_n 0, 1) := by decide +kernel
theorem dX0_seenByAll_6 : decode cX0_seenByAll 6 = .ok (.getfield 38, 3) := by decide +kernel
theorem dX0_seenByAll_9 : decode cX0_seenByAll 9 = .ok (.if_icmp .ge 18, 3) := by decide +kernel
theorem dX0_seenByAll_12 : decode cX0_seenByAll 12 = .ok (.iload_n 1, 1) := by decide +kernel
theorem dX0_seenByAll_13 : decode cX0_seenByAll 13 = .ok (.aload_n 0, 1) := by decide +kernel
theorem dX0_seenByAll_14 : decode cX0_seenByAll 14 = .ok (.getfield 26, 3) := by decide +kernel
theorem dX0_seenByAll_17 : decode cX0_seenByAll 17 = .ok (.iload_n 2, 1) := by decide +kernel
theorem dX0_seenByAll_18 : decode cX0_seenByAll 18 = .ok (.iaload, 1) := by decide +kernel
theorem dX0_seenByAll_19 : decode cX0_seenByAll 19 = .ok (.iadd, 1) := by decide +kernel
theorem dX0_seenByAll_20 : decode cX0_seenByAll 20 = .ok (.istore_n 1, 1) := by decide +kernel
theorem dX0_seenByAll_21 : decode cX0_seenByAll 21 = .ok (.iinc 2 1, 3) := by decide +kernel
theorem dX0_seenByAll_24 : decode cX0_seenByAll 24 = .ok (.goto (-20), 3) := by decide +kernel
theorem dX0_seenByAll_27 : decode cX0_seenByAll 27 = .ok (.iload_n 1, 1) := by decide +kernel
theorem dX0_seenByAll_28 : decode cX0_seenByAll 28 = .ok (.ireturn, 1) := by decide +kernel
theorem dX0_wearWithout_0 : decode cX0_wearWithout 0 = .ok (.iconst 0, 1) := by decide +kernel
theorem dX0_wearWithout_1 : decode cX0_wearWithout 1 = .ok (.istore_n 2, 1) := by decide +kernel
theorem dX0_wearWithout_2 : decode cX0_wearWithout 2 = .ok (.iconst 0, 1) := by decide +kernel
theorem dX0_wearWithout_3 : decode cX0_wearWithout 3 = .ok (.istore_n 3, 1) := by decide +kernel
theorem dX0_wearWithout_4 : decode cX0_wearWithout 4 = .ok (.iload_n 3, 1) := by decide +kernel
theorem dX0_wearWithout_5 : decode cX0_wearWithout 5 = .ok (.aload_n 0, 1) := by decide +kernel
theorem dX0_wearWithout_6 : decode cX0_wearWithout 6 = .ok (.getfield 35, 3) := by decide +kernel
theorem dX0_wearWithout_9 : decode cX0_wearWithout 9 = .ok (.if_icmp .ge 26, 3) := by decide +kernel
theorem dX0_wearWithout_12 : decode cX0_wearWithout 12 = .ok (.iload_n 3, 1) := by decide +kernel
theorem dX0_wearWithout_13 : decode cX0_wearWithout 13 = .ok (.iload_n 1, 1) := by decide +kernel
theorem dX0_wearWithout_14 : decode cX0_wearWithout 14 = .ok (.invokestatic 48, 3) := by decide +kernel
theorem dX0_wearWithout_17 : decode cX0_wearWithout 17 = .ok (.ifCond .ne 12, 3) := by decide +kernel
theorem dX0_wearWithout_20 : decode cX0_wearWithout 20 = .ok (.iload_n 2, 1) := by decide +kernel
theorem dX0_wearWithout_21 : decode cX0_wearWithout 21 = .ok (.aload_n 0, 1) := by decide +kernel
theorem dX0_wearWithout_22 : decode cX0_wearWithout 22 = .ok (.getfield 17, 3) := by decide +kernel
theorem dX0_wearWithout_25 : decode cX0_wearWithout 25 = .ok (.iload_n 3, 1) := by decide +kernel
theorem dX0_wearWithout_26 : decode cX0_wearWithout 26 = .ok (.iaload, 1) := by decide +kernel
theorem dX0_wearWithout_27 : decode cX0_wearWithout 27 = .ok (.iadd, 1) := by decide +kernel
theorem dX0_wearWithout_28 : decode cX0_wearWithout 28 = .ok (.istore_n 2, 1) := by decide +kernel
theorem dX0_wearWithout_29 : decode cX0_wearWithout 29 = .ok (.iinc 3 1, 3) := by decide +kernel
theorem dX0_wearWithout_32 : decode cX0_wearWithout 32 = .ok (.goto (-28), 3) := by decide +kernel
theorem dX0_wearWithout_35 : decode cX0_wearWithout 35 = .ok (.iload_n 2, 1) := by decide +kernel
theorem dX0_wearWithout_36 : decode cX0_wearWithout 36 = .ok (.ireturn, 1) := by decide +kernel
theorem dX0_isQuiet_0 : decode cX0_isQuiet 0 = .ok (.iconst 0, 1) := by decide +kernel
theorem dX0_isQuiet_1 : decode cX0_isQuiet 1 = .ok (.istore_n 1, 1) := by decide +kernel
theorem dX0_isQuiet_2 : decode cX0_isQuiet 2 = .ok (.iload_n 1, 1) := by decide +kernel
theorem dX0_isQuiet_3 : decode cX0_isQuiet 3 = .ok (.aload_n 0, 1) := by decide +kernel
theorem dX0_isQuiet_4 : decode cX0_isQuiet 4 = .ok (.getfield 38, 3) := by decide +kernel
theorem dX0_isQuiet_7 : decode cX0_isQuiet 7 = .ok (.if_icmp .ge 19, 3) := by decide +kernel
theorem dX0_isQuiet_10 : decode cX0_isQuiet 10 = .ok (.aload_n 0, 1) := by decide +kernel
theorem dX0_isQuiet_11 : decode cX0_isQuiet 11 = .ok (.iload_n 1, 1) := by decide +kernel
theorem dX0_isQuiet_12 : decode cX0_isQuiet 12 = .ok (.invokevirtual 52, 3) := by decide +kernel
theorem dX0_isQuiet_15 : decode cX0_isQuiet 15 = .ok (.ifCond .ne 5, 3) := by decide +kernel
theorem dX0_isQuiet_18 : decode cX0_isQuiet 18 = .ok (.iconst 0, 1) := by decide +kernel
theorem dX0_isQuiet_19 : decode cX0_isQuiet 19 = .ok (.ireturn, 1) := by decide +kernel
theorem dX0_isQuiet_20 : decode cX0_isQuiet 20 = .ok (.iinc 1 1, 3) := by decide +kernel
theorem dX0_isQuiet_23 : decode cX0_isQuiet 23 = .ok (.goto (-21), 3) := by decide +kernel
theorem dX0_isQuiet_26 : decode cX0_isQuiet 26 = .ok (.iconst 1, 1) := by decide +kernel
theorem dX0_isQuiet_27 : decode cX0_isQuiet 27 = .ok (.ireturn, 1) := by decide +kernel
theorem dX0_play_0 : decode cX0_play 0 = .ok (.iconst 0, 1) := by decide +kernel
theorem dX0_play_1 : decode cX0_play 1 = .ok (.istore_n 2, 1) := by decide +kernel
theorem dX0_play_2 : decode cX0_play 2 = .ok (.iload_n 2, 1) := by decide +kernel
theorem dX0_play_3 : decode cX0_play 3 = .ok (.iload_n 1, 1) := by decide +kernel
theorem dX0_play_4 : decode cX0_play 4 = .ok (.if_icmp .ge 13, 3) := by decide +kernel
theorem dX0_play_7 : decode cX0_play 7 = .ok (.aload_n 0, 1) := by decide +kernel
theorem dX0_play_8 : decode cX0_play 8 = .ok (.invokevirtual 59, 3) := by decide +kernel
theorem dX0_play_11 : decode cX0_play 11 = .ok (.iinc 2 1, 3) := by decide +kernel
theorem dX0_play_14 : decode cX0_play 14 = .ok (.goto (-12), 3) := by decide +kernel
theorem dX0_play_17 : decode cX0_play 17 = .ok (.return_, 1) := by decide +kernel
theorem dX0_playMinute_0 : decode cX0_playMinute 0 = .ok (.aload_n 0, 1) := by decide +kernel
theorem dX0_playMinute_1 : decode cX0_playMinute 1 = .ok (.aload_n 0, 1) := by decide +kernel
theorem dX0_playMinute_2 : decode cX0_playMinute 2 = .ok (.getfield 32, 3) := by decide +kernel
theorem dX0_playMinute_5 : decode cX0_playMinute 5 = .ok (.invokevirtual 62, 3) := by decide +kernel
theorem dX0_playMinute_8 : decode cX0_playMinute 8 = .ok (.ifCond .eq 25, 3) := by decide +kernel
theorem dX0_playMinute_11 : decode cX0_playMinute 11 = .ok (.aload_n 0, 1) := by decide +kernel
theorem dX0_playMinute_12 : decode cX0_playMinute 12 = .ok (.aload_n 0, 1) := by decide +kernel
theorem dX0_playMinute_13 : decode cX0_playMinute 13 = .ok (.getfield 32, 3) := by decide +kernel
theorem dX0_playMinute_16 : decode cX0_playMinute 16 = .ok (.invokevirtual 56, 3) := by decide +kernel
theorem dX0_playMinute_19 : decode cX0_playMinute 19 = .ok (.ifCond .eq 14, 3) := by decide +kernel
theorem dX0_playMinute_22 : decode cX0_playMinute 22 = .ok (.aload_n 0, 1) := by decide +kernel
theorem dX0_playMinute_23 : decode cX0_playMinute 23 = .ok (.aload_n 0, 1) := by decide +kernel
theorem dX0_playMinute_24 : decode cX0_playMinute 24 = .ok (.getfield 32, 3) := by decide +kernel
theorem dX0_playMinute_27 : decode cX0_playMinute 27 = .ok (.invokevirtual 65, 3) := by decide +kernel
theorem dX0_playMinute_30 : decode cX0_playMinute 30 = .ok (.goto 7, 3) := by decide +kernel
theorem dX0_playMinute_33 : decode cX0_playMinute 33 = .ok (.aload_n 0, 1) := by decide +kernel
theorem dX0_playMinute_34 : decode cX0_playMinute 34 = .ok (.invokevirtual 69, 3) := by decide +kernel
theorem dX0_playMinute_37 : decode cX0_playMinute 37 = .ok (.aload_n 0, 1) := by decide +kernel
theorem dX0_playMinute_38 : decode cX0_playMinute 38 = .ok (.aload_n 0, 1) := by decide +kernel
theorem dX0_playMinute_39 : decode cX0_playMinute 39 = .ok (.getfield 32, 3) := by decide +kernel
theorem dX0_playMinute_42 : decode cX0_playMinute 42 = .ok (.iconst 1, 1) := by decide +kernel
theorem dX0_playMinute_43 : decode cX0_playMinute 43 = .ok (.iadd, 1) := by decide +kernel
theorem dX0_playMinute_44 : decode cX0_playMinute 44 = .ok (.aload_n 0, 1) := by decide +kernel
theorem dX0_playMinute_45 : decode cX0_playMinute 45 = .ok (.getfield 35, 3) := by decide +kernel
theorem dX0_playMinute_48 : decode cX0_playMinute 48 = .ok (.if_icmp .ge 12, 3) := by decide +kernel
theorem dX0_playMinute_51 : decode cX0_playMinute 51 = .ok (.aload_n 0, 1) := by decide +kernel
theorem dX0_playMinute_52 : decode cX0_playMinute 52 = .ok (.getfield 32, 3) := by decide +kernel
theorem dX0_playMinute_55 : decode cX0_playMinute 55 = .ok (.iconst 1, 1) := by decide +kernel
theorem dX0_playMinute_56 : decode cX0_playMinute 56 = .ok (.iadd, 1) := by decide +kernel
theorem dX0_playMinute_57 : decode cX0_playMinute 57 = .ok (.goto 4, 3) := by decide +kernel
theorem dX0_playMinute_60 : decode cX0_playMinute 60 = .ok (.iconst 0, 1) := by decide +kernel
theorem dX0_playMinute_61 : decode cX0_playMinute 61 = .ok (.putfield 32, 3) := by decide +kernel
theorem dX0_playMinute_64 : decode cX0_playMinute 64 = .ok (.aload_n 0, 1) := by decide +kernel
theorem dX0_playMinute_65 : decode cX0_playMinute 65 = .ok (.dup, 1) := by decide +kernel
theorem dX0_playMinute_66 : decode cX0_playMinute 66 = .ok (.getfield 29, 3) := by decide +kernel
theorem dX0_playMinute_69 : decode cX0_playMinute 69 = .ok (.iconst 1, 1) := by decide +kernel
theorem dX0_playMinute_70 : decode cX0_playMinute 70 = .ok (.iadd, 1) := by decide +kernel
theorem dX0_playMinute_71 : decode cX0_playMinute 71 = .ok (.putfield 29, 3) := by decide +kernel
theorem dX0_playMinute_74 : decode cX0_playMinute 74 = .ok (.return_, 1) := by decide +kernel
theorem dX0_pass_0 : decode cX0_pass 0 = .ok (.aload_n 0, 1) := by decide +kernel
theorem dX0_pass_1 : decode cX0_pass 1 = .ok (.getfield 17, 3) := by decide +kernel
theorem dX0_pass_4 : decode cX0_pass 4 = .ok (.iload_n 1, 1) := by decide +kernel
theorem dX0_pass_5 : decode cX0_pass 5 = .ok (.iaload, 1) := by decide +kernel
theorem dX0_pass_6 : decode cX0_pass 6 = .ok (.istore_n 2, 1) := by decide +kernel
theorem dX0_pass_7 : decode cX0_pass 7 = .ok (.aload_n 0, 1) := by decide +kernel
theorem dX0_pass_8 : decode cX0_pass 8 = .ok (.getfield 13, 3) := by decide +kernel
theorem dX0_pass_11 : decode cX0_pass 11 = .ok (.iload_n 1, 1) := by decide +kernel
theorem dX0_pass_12 : decode cX0_pass 12 = .ok (.iaload, 1) := by decide +kernel
theorem dX0_pass_13 : decode cX0_pass 13 = .ok (.aload_n 0, 1) := by decide +kernel
theorem dX0_pass_14 : decode cX0_pass 14 = .ok (.getfield 7, 3) := by decide +kernel
theorem dX0_pass_17 : decode cX0_pass 17 = .ok (.invokestatic 72, 3) := by decide +kernel
theorem dX0_pass_20 : decode cX0_pass 20 = .ok (.istore_n 3, 1) := by decide +kernel
theorem dX0_pass_21 : decode cX0_pass 21 = .ok (.iconst 0, 1) := by decide +kernel
theorem dX0_pass_22 : decode cX0_pass 22 = .ok (.istore 4, 2) := by decide +kernel
theorem dX0_pass_24 : decode cX0_pass 24 = .ok (.iload 4, 2) := by decide +kernel
theorem dX0_pass_26 : decode cX0_pass 26 = .ok (.aload_n 0, 1) := by decide +kernel
theorem dX0_pass_27 : decode cX0_pass 27 = .ok (.getfield 38, 3) := by decide +kernel
theorem dX0_pass_30 : decode cX0_pass 30 = .ok (.if_icmp .ge 97, 3) := by decide +kernel
theorem dX0_pass_33 : decode cX0_pass 33 = .ok (.aload_n 0, 1) := by decide +kernel
theorem dX0_pass_34 : decode cX0_pass 34 = .ok (.iload 4, 2) := by decide +kernel
theorem dX0_pass_36 : decode cX0_pass 36 = .ok (.invokevirtual 52, 3) := by decide +kernel
theorem dX0_pass_39 : decode cX0_pass 39 = .ok (.ifCond .ne 82, 3) := by decide +kernel
theorem dX0_pass_42 : decode cX0_pass 42 = .ok (.aload_n 0, 1) := by decide +kernel
theorem dX0_pass_43 : decode cX0_pass 43 = .ok (.getfield 20, 3) := by decide +kernel
theorem dX0_pass_46 : decode cX0_pass 46 = .ok (.iload 4, 2) := by decide +kernel
theorem dX0_pass_48 : decode cX0_pass 48 = .ok (.iaload, 1) := by decide +kernel
theorem dX0_pass_49 : decode cX0_pass 49 = .ok (.aload_n 0, 1) := by decide +kernel
theorem dX0_pass_50 : decode cX0_pass 50 = .ok (.getfield 13, 3) := by decide +kernel
theorem dX0_pass_53 : decode cX0_pass 53 = .ok (.iload_n 1, 1) := by decide +kernel
theorem dX0_pass_54 : decode cX0_pass 54 = .ok (.iaload, 1) := by decide +kernel
theorem dX0_pass_55 : decode cX0_pass 55 = .ok (.iload_n 3, 1) := by decide +kernel
theorem dX0_pass_56 : decode cX0_pass 56 = .ok (.aload_n 0, 1) := by decide +kernel
theorem dX0_pass_57 : decode cX0_pass 57 = .ok (.getfield 29, 3) := by decide +kernel
theorem dX0_pass_60 : decode cX0_pass 60 = .ok (.invokestatic 78, 3) := by decide +kernel
theorem dX0_pass_63 : decode cX0_pass 63 = .ok (.istore 5, 2) := by decide +kernel
theorem dX0_pass_65 : decode cX0_pass 65 = .ok (.aload_n 0, 1) := by decide +kernel
theorem dX0_pass_66 : decode cX0_pass 66 = .ok (.getfield 23, 3) := by decide +kernel
theorem dX0_pass_69 : decode cX0_pass 69 = .ok (.iload 4, 2) := by decide +kernel
theorem dX0_pass_71 : decode cX0_pass 71 = .ok (.iconst 0, 1) := by decide +kernel
theorem dX0_pass_72 : decode cX0_pass 72 = .ok (.aload_n 0, 1) := by decide +kernel
theorem dX0_pass_73 : decode cX0_pass 73 = .ok (.getfield 23, 3) := by decide +kernel
theorem dX0_pass_76 : decode cX0_pass 76 = .ok (.iload 4, 2) := by decide +kernel
theorem dX0_pass_78 : decode cX0_pass 78 = .ok (.iaload, 1) := by decide +kernel
theorem dX0_pass_79 : decode cX0_pass 79 = .ok (.iload 5, 2) := by decide +kernel
theorem dX0_pass_81 : decode cX0_pass 81 = .ok (.isub, 1) := by decide +kernel
theorem dX0_pass_82 : decode cX0_pass 82 = .ok (.invokestatic 82, 3) := by decide +kernel
theorem dX0_pass_85 : decode cX0_pass 85 = .ok (.iastore, 1) := by decide +kernel
theorem dX0_pass_86 : decode cX0_pass 86 = .ok (.aload_n 0, 1) := by decide +kernel
theorem dX0_pass_87 : decode cX0_pass 87 = .ok (.getfield 26, 3) := by decide +kernel
theorem dX0_pass_90 : decode cX0_pass 90 = .ok (.iload 4, 2) := by decide +kernel
theorem dX0_pass_92 : decode cX0_pass 92 = .ok (.sipush 9999, 3) := by decide +kernel
theorem dX0_pass_95 : decode cX0_pass 95 = .ok (.aload_n 0, 1) := by decide +kernel
theorem dX0_pass_96 : decode cX0_pass 96 = .ok (.getfield 26, 3) := by decide +kernel
theorem dX0_pass_99 : decode cX0_pass 99 = .ok (.iload 4, 2) := by decide +kernel
theorem dX0_pass_101 : decode cX0_pass 101 = .ok (.iaload, 1) := by decide +kernel
theorem dX0_pass_102 : decode cX0_pass 102 = .ok (.iconst 1, 1) := by decide +kernel
theorem dX0_pass_103 : decode cX0_pass 103 = .ok (.iadd, 1) := by decide +kernel
theorem dX0_pass_104 : decode cX0_pass 104 = .ok (.invokestatic 87, 3) := by decide +kernel
theorem dX0_pass_107 : decode cX0_pass 107 = .ok (.iastore, 1) := by decide +kernel
theorem dX0_pass_108 : decode cX0_pass 108 = .ok (.iload_n 2, 1) := by decide +kernel
theorem dX0_pass_109 : decode cX0_pass 109 = .ok (.aload_n 0, 1) := by decide +kernel
theorem dX0_pass_110 : decode cX0_pass 110 = .ok (.getfield 20, 3) := by decide +kernel
theorem dX0_pass_113 : decode cX0_pass 113 = .ok (.iload 4, 2) := by decide +kernel
theorem dX0_pass_115 : decode cX0_pass 115 = .ok (.iaload, 1) := by decide +kernel
theorem dX0_pass_116 : decode cX0_pass 116 = .ok (.invokestatic 90, 3) := by decide +kernel
theorem dX0_pass_119 : decode cX0_pass 119 = .ok (.iadd, 1) := by decide +kernel
theorem dX0_pass_120 : decode cX0_pass 120 = .ok (.istore_n 2, 1) := by decide +kernel
theorem dX0_pass_121 : decode cX0_pass 121 = .ok (.iinc 4 1, 3) := by decide +kernel
theorem dX0_pass_124 : decode cX0_pass 124 = .ok (.goto (-100), 3) := by decide +kernel
theorem dX0_pass_127 : decode cX0_pass 127 = .ok (.aload_n 0, 1) := by decide +kernel
theorem dX0_pass_128 : decode cX0_pass 128 = .ok (.getfield 17, 3) := by decide +kernel
theorem dX0_pass_131 : decode cX0_pass 131 = .ok (.iload_n 1, 1) := by decide +kernel
theorem dX0_pass_132 : decode cX0_pass 132 = .ok (.bipush 99, 2) := by decide +kernel
theorem dX0_pass_134 : decode cX0_pass 134 = .ok (.iload_n 2, 1) := by decide +kernel
theorem dX0_pass_135 : decode cX0_pass 135 = .ok (.invokestatic 87, 3) := by decide +kernel
theorem dX0_pass_138 : decode cX0_pass 138 = .ok (.iastore, 1) := by decide +kernel
theorem dX0_pass_139 : decode cX0_pass 139 = .ok (.aload_n 0, 1) := by decide +kernel
theorem dX0_pass_140 : decode cX0_pass 140 = .ok (.aload_n 0, 1) := by decide +kernel
theorem dX0_pass_141 : decode cX0_pass 141 = .ok (.getfield 13, 3) := by decide +kernel
theorem dX0_pass_144 : decode cX0_pass 144 = .ok (.iload_n 1, 1) := by decide +kernel
theorem dX0_pass_145 : decode cX0_pass 145 = .ok (.iaload, 1) := by decide +kernel
theorem dX0_pass_146 : decode cX0_pass 146 = .ok (.putfield 7, 3) := by decide +kernel
theorem dX0_pass_149 : decode cX0_pass 149 = .ok (.return_, 1) := by decide +kernel
theorem dX0_stayAlone_0 : decode cX0_stayAlone 0 = .ok (.iconst 0, 1) := by decide +kernel
theorem dX0_stayAlone_1 : decode cX0_stayAlone 1 = .ok (.istore_n 1, 1) := by decide +kernel
theorem dX0_stayAlone_2 : decode cX0_stayAlone 2 = .ok (.iload_n 1, 1) := by decide +kernel
theorem dX0_stayAlone_3 : decode cX0_stayAlone 3 = .ok (.aload_n 0, 1) := by decide +kernel
theorem dX0_stayAlone_4 : decode cX0_stayAlone 4 = .ok (.getfield 38, 3) := by decide +kernel
theorem dX0_stayAlone_7 : decode cX0_stayAlone 7 = .ok (.if_icmp .ge 36, 3) := by decide +kernel
theorem dX0_stayAlone_10 : decode cX0_stayAlone 10 = .ok (.aload_n 0, 1) := by decide +kernel
theorem dX0_stayAlone_11 : decode cX0_stayAlone 11 = .ok (.getfield 23, 3) := by decide +kernel
theorem dX0_stayAlone_14 : decode cX0_stayAlone 14 = .ok (.iload_n 1, 1) := by decide +kernel
theorem dX0_stayAlone_15 : decode cX0_stayAlone 15 = .ok (.bipush 99, 2) := by decide +kernel
theorem dX0_stayAlone_17 : decode cX0_stayAlone 17 = .ok (.aload_n 0, 1) := by decide +kernel
theorem dX0_stayAlone_18 : decode cX0_stayAlone 18 = .ok (.getfield 23, 3) := by decide +kernel
theorem dX0_stayAlone_21 : decode cX0_stayAlone 21 = .ok (.iload_n 1, 1) := by decide +kernel
theorem dX0_stayAlone_22 : decode cX0_stayAlone 22 = .ok (.iaload, 1) := by decide +kernel
theorem dX0_stayAlone_23 : decode cX0_stayAlone 23 = .ok (.aload_n 0, 1) := by decide +kernel
theorem dX0_stayAlone_24 : decode cX0_stayAlone 24 = .ok (.getfield 20, 3) := by decide +kernel
theorem dX0_stayAlone_27 : decode cX0_stayAlone 27 = .ok (.iload_n 1, 1) := by decide +kernel
theorem dX0_stayAlone_28 : decode cX0_stayAlone 28 = .ok (.iaload, 1) := by decide +kernel
theorem dX0_stayAlone_29 : decode cX0_stayAlone 29 = .ok (.invokestatic 94, 3) := by decide +kernel
theorem dX0_stayAlone_32 : decode cX0_stayAlone 32 = .ok (.iadd, 1) := by decide +kernel
theorem dX0_stayAlone_33 : decode cX0_stayAlone 33 = .ok (.invokestatic 87, 3) := by decide +kernel
theorem dX0_stayAlone_36 : decode cX0_stayAlone 36 = .ok (.iastore, 1) := by decide +kernel
theorem dX0_stayAlone_37 : decode cX0_stayAlone 37 = .ok (.iinc 1 1, 3) := by decide +kernel
theorem dX0_stayAlone_40 : decode cX0_stayAlone 40 = .ok (.goto (-38), 3) := by decide +kernel
theorem dX0_stayAlone_43 : decode cX0_stayAlone 43 = .ok (.aload_n 0, 1) := by decide +kernel
theorem dX0_stayAlone_44 : decode cX0_stayAlone 44 = .ok (.iconst (-1), 1) := by decide +kernel
theorem dX0_stayAlone_45 : decode cX0_stayAlone 45 = .ok (.putfield 7, 3) := by decide +kernel
theorem dX0_stayAlone_48 : decode cX0_stayAlone 48 = .ok (.return_, 1) := by decide +kernel
theorem dX0_playTillQuiet_0 : decode cX0_playTillQuiet 0 = .ok (.iconst 0, 1) := by decide +kernel
theorem dX0_playTillQuiet_1 : decode cX0_playTillQuiet 1 = .ok (.istore_n 2, 1) := by decide +kernel
theorem dX0_playTillQuiet_2 : decode cX0_playTillQuiet 2 = .ok (.iload_n 2, 1) := by decide +kernel
theorem dX0_playTillQuiet_3 : decode cX0_playTillQuiet 3 = .ok (.iload_n 1, 1) := by decide +kernel
theorem dX0_playTillQuiet_4 : decode cX0_playTillQuiet 4 = .ok (.if_icmp .gt 22, 3) := by decide +kernel
theorem dX0_playTillQuiet_7 : decode cX0_playTillQuiet 7 = .ok (.aload_n 0, 1) := by decide +kernel
theorem dX0_playTillQuiet_8 : decode cX0_playTillQuiet 8 = .ok (.invokevirtual 97, 3) := by decide +kernel
theorem dX0_playTillQuiet_11 : decode cX0_playTillQuiet 11 = .ok (.ifCond .eq 5, 3) := by decide +kernel
theorem dX0_playTillQuiet_14 : decode cX0_playTillQuiet 14 = .ok (.iload_n 2, 1) := by decide +kernel
theorem dX0_playTillQuiet_15 : decode cX0_playTillQuiet 15 = .ok (.ireturn, 1) := by decide +kernel
theorem dX0_playTillQuiet_16 : decode cX0_playTillQuiet 16 = .ok (.aload_n 0, 1) := by decide +kernel
theorem dX0_playTillQuiet_17 : decode cX0_playTillQuiet 17 = .ok (.invokevirtual 59, 3) := by decide +kernel
theorem dX0_playTillQuiet_20 : decode cX0_playTillQuiet 20 = .ok (.iinc 2 1, 3) := by decide +kernel
theorem dX0_playTillQuiet_23 : decode cX0_playTillQuiet 23 = .ok (.goto (-21), 3) := by decide +kernel
theorem dX0_playTillQuiet_26 : decode cX0_playTillQuiet 26 = .ok (.iload_n 1, 1) := by decide +kernel
theorem dX0_playTillQuiet_27 : decode cX0_playTillQuiet 27 = .ok (.iconst 1, 1) := by decide +kernel
theorem dX0_playTillQuiet_28 : decode cX0_playTillQuiet 28 = .ok (.iadd, 1) := by decide +kernel
theorem dX0_playTillQuiet_29 : decode cX0_playTillQuiet 29 = .ok (.ireturn, 1) := by decide +kernel
theorem dX0_playTillAsleep_0 : decode cX0_playTillAsleep 0 = .ok (.iconst 0, 1) := by decide +kernel
theorem dX0_playTillAsleep_1 : decode cX0_playTillAsleep 1 = .ok (.istore_n 3, 1) := by decide +kernel
theorem dX0_playTillAsleep_2 : decode cX0_playTillAsleep 2 = .ok (.iload_n 3, 1) := by decide +kernel
theorem dX0_playTillAsleep_3 : decode cX0_playTillAsleep 3 = .ok (.iload_n 2, 1) := by decide +kernel
theorem dX0_playTillAsleep_4 : decode cX0_playTillAsleep 4 = .ok (.if_icmp .gt 23, 3) := by decide +kernel
theorem dX0_playTillAsleep_7 : decode cX0_playTillAsleep 7 = .ok (.aload_n 0, 1) := by decide +kernel
theorem dX0_playTillAsleep_8 : decode cX0_playTillAsleep 8 = .ok (.iload_n 1, 1) := by decide +kernel
theorem dX0_playTillAsleep_9 : decode cX0_playTillAsleep 9 = .ok (.invokevirtual 52, 3) := by decide +kernel
theorem dX0_playTillAsleep_12 : decode cX0_playTillAsleep 12 = .ok (.ifCond .eq 5, 3) := by decide +kernel
theorem dX0_playTillAsleep_15 : decode cX0_playTillAsleep 15 = .ok (.iload_n 3, 1) := by decide +kernel
theorem dX0_playTillAsleep_16 : decode cX0_playTillAsleep 16 = .ok (.ireturn, 1) := by decide +kernel
theorem dX0_playTillAsleep_17 : decode cX0_playTillAsleep 17 = .ok (.aload_n 0, 1) := by decide +kernel
theorem dX0_playTillAsleep_18 : decode cX0_playTillAsleep 18 = .ok (.invokevirtual 59, 3) := by decide +kernel
theorem dX0_playTillAsleep_21 : decode cX0_playTillAsleep 21 = .ok (.iinc 3 1, 3) := by decide +kernel
theorem dX0_playTillAsleep_24 : decode cX0_playTillAsleep 24 = .ok (.goto (-22), 3) := by decide +kernel
theorem dX0_playTillAsleep_27 : decode cX0_playTillAsleep 27 = .ok (.iload_n 2, 1) := by decide +kernel
theorem dX0_playTillAsleep_28 : decode cX0_playTillAsleep 28 = .ok (.iconst 1, 1) := by decide +kernel
theorem dX0_playTillAsleep_29 : decode cX0_playTillAsleep 29 = .ok (.iadd, 1) := by decide +kernel
theorem dX0_playTillAsleep_30 : decode cX0_playTillAsleep 30 = .ok (.ireturn, 1) := by decide +kernel
theorem dX0_playTillBare_0 : decode cX0_playTillBare 0 = .ok (.iconst 0, 1) := by decide +kernel
theorem dX0_playTillBare_1 : decode cX0_playTillBare 1 = .ok (.istore_n 3, 1) := by decide +kernel
theorem dX0_playTillBare_2 : decode cX0_playTillBare 2 = .ok (.iload_n 3, 1) := by decide +kernel
theorem dX0_playTillBare_3 : decode cX0_playTillBare 3 = .ok (.iload_n 2, 1) := by decide +kernel
theorem dX0_playTillBare_4 : decode cX0_playTillBare 4 = .ok (.if_icmp .gt 23, 3) := by decide +kernel
theorem dX0_playTillBare_7 : decode cX0_playTillBare 7 = .ok (.aload_n 0, 1) := by decide +kernel
theorem dX0_playTillBare_8 : decode cX0_playTillBare 8 = .ok (.iload_n 1, 1) := by decide +kernel
theorem dX0_playTillBare_9 : decode cX0_playTillBare 9 = .ok (.invokevirtual 56, 3) := by decide +kernel
theorem dX0_playTillBare_12 : decode cX0_playTillBare 12 = .ok (.ifCond .ne 5, 3) := by decide +kernel
theorem dX0_playTillBare_15 : decode cX0_playTillBare 15 = .ok (.iload_n 3, 1) := by decide +kernel
theorem dX0_playTillBare_16 : decode cX0_playTillBare 16 = .ok (.ireturn, 1) := by decide +kernel
theorem dX0_playTillBare_17 : decode cX0_playTillBare 17 = .ok (.aload_n 0, 1) := by decide +kernel
theorem dX0_playTillBare_18 : decode cX0_playTillBare 18 = .ok (.invokevirtual 59, 3) := by decide +kernel
theorem dX0_playTillBare_21 : decode cX0_playTillBare 21 = .ok (.iinc 3 1, 3) := by decide +kernel
theorem dX0_playTillBare_24 : decode cX0_playTillBare 24 = .ok (.goto (-22), 3) := by decide +kernel
theorem dX0_playTillBare_27 : decode cX0_playTillBare 27 = .ok (.iload_n 2, 1) := by decide +kernel
theorem dX0_playTillBare_28 : decode cX0_playTillBare 28 = .ok (.iconst 1, 1) := by decide +kernel
theorem dX0_playTillBare_29 : decode cX0_playTillBare 29 = .ok (.iadd, 1) := by decide +kernel
theorem dX0_playTillBare_30 : decode cX0_playTillBare 30 = .ok (.ireturn, 1) := by decide +kernel
theorem dX1_isKind_0 : decode cX1_isKind 0 = .ok (.iload_n 0, 1) := by decide +kernel
theorem dX1_isKind_1 : decode cX1_isKind 1 = .ok (.ifCond .lt 13, 3) := by decide +kernel
theorem dX1_isKind_4 : decode cX1_isKind 4 = .ok (.iload_n 0, 1) := by decide +kernel
theorem dX1_isKind_5 : decode cX1_isKind 5 = .ok (.bipush 6, 2) := by decide +kernel
theorem dX1_isKind_7 : decode cX1_isKind 7 = .ok (.if_icmp .ge 7, 3) := by decide +kernel
theorem dX1_isKind_10 : decode cX1_isKind 10 = .ok (.iconst 1, 1) := by decide +kernel
theorem dX1_isKind_11 : decode cX1_isKind 11 = .ok (.goto 4, 3) := by decide +kernel
theorem dX1_isKind_14 : decode cX1_isKind 14 = .ok (.iconst 0, 1) := by decide +kernel
theorem dX1_isKind_15 : decode cX1_isKind 15 = .ok (.ireturn, 1) := by decide +kernel
theorem dX1_nameOf_0 : decode cX1_nameOf 0 = .ok (.iload_n 0, 1) := by decide +kernel
theorem dX1_nameOf_1 : decode cX1_nameOf 1 = .ok (.tableswitch 50 1 5 #[35, 38, 41, 44, 47], 35) := by decide +kernel
theorem dX1_nameOf_36 : decode cX1_nameOf 36 = .ok (.ldc 9, 2) := by decide +kernel
theorem dX1_nameOf_38 : decode cX1_nameOf 38 = .ok (.areturn, 1) := by decide +kernel
theorem dX1_nameOf_39 : decode cX1_nameOf 39 = .ok (.ldc 11, 2) := by decide +kernel
theorem dX1_nameOf_41 : decode cX1_nameOf 41 = .ok (.areturn, 1) := by decide +kernel
theorem dX1_nameOf_42 : decode cX1_nameOf 42 = .ok (.ldc 13, 2) := by decide +kernel
theorem dX1_nameOf_44 : decode cX1_nameOf 44 = .ok (.areturn, 1) := by decide +kernel
theorem dX1_nameOf_45 : decode cX1_nameOf 45 = .ok (.ldc 15, 2) := by decide +kernel
theorem dX1_nameOf_47 : decode cX1_nameOf 47 = .ok (.areturn, 1) := by decide +kernel
theorem dX1_nameOf_48 : decode cX1_nameOf 48 = .ok (.ldc 17, 2) := by decide +kernel
theorem dX1_nameOf_50 : decode cX1_nameOf 50 = .ok (.areturn, 1) := by decide +kernel
theorem dX1_nameOf_51 : decode cX1_nameOf 51 = .ok (.ldc 19, 2) := by decide +kernel
theorem dX1_nameOf_53 : decode cX1_nameOf 53 = .ok (.areturn, 1) := by decide +kernel
theorem dX1_wakesBy_0 : decode cX1_wakesBy 0 = .ok (.iload_n 0, 1) := by decide +kernel
theorem dX1_wakesBy_1 : decode cX1_wakesBy 1 = .ok (.invokestatic 21, 3) := by decide +kernel
theorem dX1_wakesBy_4 : decode cX1_wakesBy 4 = .ok (.ifCond .eq 11, 3) := by decide +kernel
theorem dX1_wakesBy_7 : decode cX1_wakesBy 7 = .ok (.getstatic 25, 3) := by decide +kernel
theorem dX1_wakesBy_10 : decode cX1_wakesBy 10 = .ok (.iload_n 0, 1) := by decide +kernel
theorem dX1_wakesBy_11 : decode cX1_wakesBy 11 = .ok (.iaload, 1) := by decide +kernel
theorem dX1_wakesBy_12 : decode cX1_wakesBy 12 = .ok (.goto 4, 3) := by decide +kernel
theorem dX1_wakesBy_15 : decode cX1_wakesBy 15 = .ok (.iconst 0, 1) := by decide +kernel
theorem dX1_wakesBy_16 : decode cX1_wakesBy 16 = .ok (.ireturn, 1) := by decide +kernel
theorem dX1_tiresBy_0 : decode cX1_tiresBy 0 = .ok (.iload_n 0, 1) := by decide +kernel
theorem dX1_tiresBy_1 : decode cX1_tiresBy 1 = .ok (.invokestatic 21, 3) := by decide +kernel
theorem dX1_tiresBy_4 : decode cX1_tiresBy 4 = .ok (.ifCond .eq 11, 3) := by decide +kernel
theorem dX1_tiresBy_7 : decode cX1_tiresBy 7 = .ok (.getstatic 29, 3) := by decide +kernel
theorem dX1_tiresBy_10 : decode cX1_tiresBy 10 = .ok (.iload_n 0, 1) := by decide +kernel
theorem dX1_tiresBy_11 : decode cX1_tiresBy 11 = .ok (.iaload, 1) := by decide +kernel
theorem dX1_tiresBy_12 : decode cX1_tiresBy 12 = .ok (.goto 4, 3) := by decide +kernel
theorem dX1_tiresBy_15 : decode cX1_tiresBy 15 = .ok (.iconst 0, 1) := by decide +kernel
theorem dX1_tiresBy_16 : decode cX1_tiresBy 16 = .ok (.ireturn, 1) := by decide +kernel
theorem dX1_isOf_0 : decode cX1_isOf 0 = .ok (.iload_n 0, 1) := by decide +kernel
theorem dX1_isOf_1 : decode cX1_isOf 1 = .ok (.istore_n 2, 1) := by decide +kernel
theorem dX1_isOf_2 : decode cX1_isOf 2 = .ok (.iconst 0, 1) := by decide +kernel
theorem dX1_isOf_3 : decode cX1_isOf 3 = .ok (.istore_n 3, 1) := by decide +kernel
theorem dX1_isOf_4 : decode cX1_isOf 4 = .ok (.iload_n 3, 1) := by decide +kernel
theorem dX1_isOf_5 : decode cX1_isOf 5 = .ok (.bipush 6, 2) := by decide +kernel
theorem dX1_isOf_7 : decode cX1_isOf 7 = .ok (.if_icmp .ge 29, 3) := by decide +kernel
theorem dX1_isOf_10 : decode cX1_isOf 10 = .ok (.iload_n 2, 1) := by decide +kernel
theorem dX1_isOf_11 : decode cX1_isOf 11 = .ok (.invokestatic 21, 3) := by decide +kernel
theorem dX1_isOf_14 : decode cX1_isOf 14 = .ok (.ifCond .eq 22, 3) := by decide +kernel
theorem dX1_isOf_17 : decode cX1_isOf 17 = .ok (.iload_n 2, 1) := by decide +kernel
theorem dX1_isOf_18 : decode cX1_isOf 18 = .ok (.iload_n 1, 1) := by decide +kernel
theorem dX1_isOf_19 : decode cX1_isOf 19 = .ok (.if_icmp .ne 5, 3) := by decide +kernel
theorem dX1_isOf_22 : decode cX1_isOf 22 = .ok (.iconst 1, 1) := by decide +kernel
theorem dX1_isOf_23 : decode cX1_isOf 23 = .ok (.ireturn, 1) := by decide +kernel
theorem dX1_isOf_24 : decode cX1_isOf 24 = .ok (.getstatic 32, 3) := by decide +kernel
theorem dX1_isOf_27 : decode cX1_isOf 27 = .ok (.iload_n 2, 1) := by decide +kernel
theorem dX1_isOf_28 : decode cX1_isOf 28 = .ok (.iaload, 1) := by decide +kernel
theorem dX1_isOf_29 : decode cX1_isOf 29 = .ok (.istore_n 2, 1) := by decide +kernel
theorem dX1_isOf_30 : decode cX1_isOf 30 = .ok (.iinc 3 1, 3) := by decide +kernel
theorem dX1_isOf_33 : decode cX1_isOf 33 = .ok (.goto (-29), 3) := by decide +kernel
theorem dX1_isOf_36 : decode cX1_isOf 36 = .ok (.iconst 0, 1) := by decide +kernel
theorem dX1_isOf_37 : decode cX1_isOf 37 = .ok (.ireturn, 1) := by decide +kernel
theorem dX1_unlike_0 : decode cX1_unlike 0 = .ok (.iload_n 0, 1) := by decide +kernel
theorem dX1_unlike_1 : decode cX1_unlike 1 = .ok (.iconst (-1), 1) := by decide +kernel
theorem dX1_unlike_2 : decode cX1_unlike 2 = .ok (.if_icmp .eq 8, 3) := by decide +kernel
theorem dX1_unlike_5 : decode cX1_unlike 5 = .ok (.iload_n 1, 1) := by decide +kernel
theorem dX1_unlike_6 : decode cX1_unlike 6 = .ok (.iconst (-1), 1) := by decide +kernel
theorem dX1_unlike_7 : decode cX1_unlike 7 = .ok (.if_icmp .ne 7, 3) := by decide +kernel
theorem dX1_unlike_10 : decode cX1_unlike 10 = .ok (.iconst 3, 1) := by decide +kernel
theorem dX1_unlike_11 : decode cX1_unlike 11 = .ok (.goto 9, 3) := by decide +kernel
theorem dX1_unlike_14 : decode cX1_unlike 14 = .ok (.iload_n 0, 1) := by decide +kernel
theorem dX1_unlike_15 : decode cX1_unlike 15 = .ok (.iload_n 1, 1) := by decide +kernel
theorem dX1_unlike_16 : decode cX1_unlike 16 = .ok (.ixor, 1) := by decide +kernel
theorem dX1_unlike_17 : decode cX1_unlike 17 = .ok (.invokestatic 35, 3) := by decide +kernel
theorem dX1_unlike_20 : decode cX1_unlike 20 = .ok (.ireturn, 1) := by decide +kernel
theorem dX1_takesOff_0 : decode cX1_takesOff 0 = .ok (.iconst 1, 1) := by decide +kernel
theorem dX1_takesOff_1 : decode cX1_takesOff 1 = .ok (.iload_n 2, 1) := by decide +kernel
theorem dX1_takesOff_2 : decode cX1_takesOff 2 = .ok (.iadd, 1) := by decide +kernel
theorem dX1_takesOff_3 : decode cX1_takesOff 3 = .ok (.istore 4, 2) := by decide +kernel
theorem dX1_takesOff_5 : decode cX1_takesOff 5 = .ok (.iload_n 2, 1) := by decide +kernel
theorem dX1_takesOff_6 : decode cX1_takesOff 6 = .ok (.ifCond .ne 7, 3) := by decide +kernel
theorem dX1_takesOff_9 : decode cX1_takesOff 9 = .ok (.iconst 0, 1) := by decide +kernel
theorem dX1_takesOff_10 : decode cX1_takesOff 10 = .ok (.goto 5, 3) := by decide +kernel
theorem dX1_takesOff_13 : decode cX1_takesOff 13 = .ok (.iload 4, 2) := by decide +kernel
theorem dX1_takesOff_15 : decode cX1_takesOff 15 = .ok (.istore 5, 2) := by decide +kernel
theorem dX1_takesOff_17 : decode cX1_takesOff 17 = .ok (.iload_n 1, 1) := by decide +kernel
theorem dX1_takesOff_18 : decode cX1_takesOff 18 = .ok (.iconst 2, 1) := by decide +kernel
theorem dX1_takesOff_19 : decode cX1_takesOff 19 = .ok (.iand, 1) := by decide +kernel
theorem dX1_takesOff_20 : decode cX1_takesOff 20 = .ok (.ifCond .eq 7, 3) := by decide +kernel
theorem dX1_takesOff_23 : decode cX1_takesOff 23 = .ok (.iconst 1, 1) := by decide +kernel
theorem dX1_takesOff_24 : decode cX1_takesOff 24 = .ok (.goto 4, 3) := by decide +kernel
theorem dX1_takesOff_27 : decode cX1_takesOff 27 = .ok (.iconst 0, 1) := by decide +kernel
theorem dX1_takesOff_28 : decode cX1_takesOff 28 = .ok (.istore 6, 2) := by decide +kernel
theorem dX1_takesOff_30 : decode cX1_takesOff 30 = .ok (.iload_n 1, 1) := by decide +kernel
theorem dX1_takesOff_31 : decode cX1_takesOff 31 = .ok (.iconst 1, 1) := by decide +kernel
theorem dX1_takesOff_32 : decode cX1_takesOff 32 = .ok (.iand, 1) := by decide +kernel
theorem dX1_takesOff_33 : decode cX1_takesOff 33 = .ok (.ifCond .eq 7, 3) := by decide +kernel
theorem dX1_takesOff_36 : decode cX1_takesOff 36 = .ok (.iconst 2, 1) := by decide +kernel
theorem dX1_takesOff_37 : decode cX1_takesOff 37 = .ok (.goto 4, 3) := by decide +kernel
theorem dX1_takesOff_40 : decode cX1_takesOff 40 = .ok (.iconst 0, 1) := by decide +kernel
theorem dX1_takesOff_41 : decode cX1_takesOff 41 = .ok (.istore 7, 2) := by decide +kernel
theorem dX1_takesOff_43 : decode cX1_takesOff 43 = .ok (.iload_n 0, 1) := by decide +kernel
theorem dX1_takesOff_44 : decode cX1_takesOff 44 = .ok (.tableswitch 70 1 5 #[36, 42, 47, 50, 64], 36) := by decide +kernel
theorem dX1_takesOff_80 : decode cX1_takesOff 80 = .ok (.iload 4, 2) := by decide +kernel
theorem dX1_takesOff_82 : decode cX1_takesOff 82 = .ok (.iload 6, 2) := by decide +kernel
theorem dX1_takesOff_84 : decode cX1_takesOff 84 = .ok (.iadd, 1) := by decide +kernel
theorem dX1_takesOff_85 : decode cX1_takesOff 85 = .ok (.ireturn, 1) := by decide +kernel
theorem dX1_takesOff_86 : decode cX1_takesOff 86 = .ok (.iconst 2, 1) := by decide +kernel
theorem dX1_takesOff_87 : decode cX1_takesOff 87 = .ok (.iload 4, 2) := by decide +kernel
theorem dX1_takesOff_89 : decode cX1_takesOff 89 = .ok (.imul, 1) := by decide +kernel
theorem dX1_takesOff_90 : decode cX1_takesOff 90 = .ok (.ireturn, 1) := by decide +kernel
theorem dX1_takesOff_91 : decode cX1_takesOff 91 = .ok (.iload 5, 2) := by decide +kernel
theorem dX1_takesOff_93 : decode cX1_takesOff 93 = .ok (.ireturn, 1) := by decide +kernel
theorem dX1_takesOff_94 : decode cX1_takesOff 94 = .ok (.iconst 0, 1) := by decide +kernel
theorem dX1_takesOff_95 : decode cX1_takesOff 95 = .ok (.iload 4, 2) := by decide +kernel
theorem dX1_takesOff_97 : decode cX1_takesOff 97 = .ok (.iload 6, 2) := by decide +kernel
theorem dX1_takesOff_99 : decode cX1_takesOff 99 = .ok (.iadd, 1) := by decide +kernel
theorem dX1_takesOff_100 : decode cX1_takesOff 100 = .ok (.iload_n 3, 1) := by decide +kernel
theorem dX1_takesOff_101 : decode cX1_takesOff 101 = .ok (.iconst 1, 1) := by decide +kernel
theorem dX1_takesOff_102 : decode cX1_takesOff 102 = .ok (.iand, 1) := by decide +kernel
theorem dX1_takesOff_103 : decode cX1_takesOff 103 = .ok (.isub, 1) := by decide +kernel
theorem dX1_takesOff_104 : decode cX1_takesOff 104 = .ok (.invokestatic 41, 3) := by decide +kernel
theorem dX1_takesOff_107 : decode cX1_takesOff 107 = .ok (.ireturn, 1) := by decide +kernel
theorem dX1_takesOff_108 : decode cX1_takesOff 108 = .ok (.iload 5, 2) := by decide +kernel
theorem dX1_takesOff_110 : decode cX1_takesOff 110 = .ok (.iload 7, 2) := by decide +kernel
theorem dX1_takesOff_112 : decode cX1_takesOff 112 = .ok (.iadd, 1) := by decide +kernel
theorem dX1_takesOff_113 : decode cX1_takesOff 113 = .ok (.ireturn, 1) := by decide +kernel
theorem dX1_takesOff_114 : decode cX1_takesOff 114 = .ok (.iload 4, 2) := by decide +kernel
theorem dX1_takesOff_116 : decode cX1_takesOff 116 = .ok (.ireturn, 1) := by decide +kernel
theorem dX2_init_0 : decode cX2_init 0 = .ok (.aload_n 0, 1) := by decide +kernel
theorem dX2_init_1 : decode cX2_init 1 = .ok (.invokespecial 1, 3) := by decide +kernel
theorem dX2_init_4 : decode cX2_init 4 = .ok (.aload_n 0, 1) := by decide +kernel
theorem dX2_init_5 : decode cX2_init 5 = .ok (.bipush 40, 2) := by decide +kernel
theorem dX2_init_7 : decode cX2_init 7 = .ok (.newarray .long, 2) := by decide +kernel
theorem dX2_init_9 : decode cX2_init 9 = .ok (.putfield 9, 3) := by decide +kernel
theorem dX2_init_12 : decode cX2_init 12 = .ok (.return_, 1) := by decide +kernel
theorem dX2_isWidth_0 : decode cX2_isWidth 0 = .ok (.iload_n 0, 1) := by decide +kernel
theorem dX2_isWidth_1 : decode cX2_isWidth 1 = .ok (.bipush 8, 2) := by decide +kernel
theorem dX2_isWidth_3 : decode cX2_isWidth 3 = .ok (.if_icmp .eq 15, 3) := by decide +kernel
theorem dX2_isWidth_6 : decode cX2_isWidth 6 = .ok (.iload_n 0, 1) := by decide +kernel
theorem dX2_isWidth_7 : decode cX2_isWidth 7 = .ok (.bipush 16, 2) := by decide +kernel
theorem dX2_isWidth_9 : decode cX2_isWidth 9 = .ok (.if_icmp .eq 9, 3) := by decide +kernel
theorem dX2_isWidth_12 : decode cX2_isWidth 12 = .ok (.iload_n 0, 1) := by decide +kernel
theorem dX2_isWidth_13 : decode cX2_isWidth 13 = .ok (.bipush 64, 2) := by decide +kernel
theorem dX2_isWidth_15 : decode cX2_isWidth 15 = .ok (.if_icmp .ne 7, 3) := by decide +kernel
theorem dX2_isWidth_18 : decode cX2_isWidth 18 = .ok (.iconst 1, 1) := by decide +kernel
theorem dX2_isWidth_19 : decode cX2_isWidth 19 = .ok (.goto 4, 3) := by decide +kernel
theorem dX2_isWidth_22 : decode cX2_isWidth 22 = .ok (.iconst 0, 1) := by decide +kernel
theorem dX2_isWidth_23 : decode cX2_isWidth 23 = .ok (.ireturn, 1) := by decide +kernel
theorem dX2_isMissing_0 : decode cX2_isMissing 0 = .ok (.aload_n 0, 1) := by decide +kernel
theorem dX2_isMissing_1 : decode cX2_isMissing 1 = .ok (.getfield 13, 3) := by decide +kernel
theorem dX2_isMissing_4 : decode cX2_isMissing 4 = .ok (.ifCond .ne 7, 3) := by decide +kernel
theorem dX2_isMissing_7 : decode cX2_isMissing 7 = .ok (.iconst 1, 1) := by decide +kernel
theorem dX2_isMissing_8 : decode cX2_isMissing 8 = .ok (.goto 4, 3) := by decide +kernel
theorem dX2_isMissing_11 : decode cX2_isMissing 11 = .ok (.iconst 0, 1) := by decide +kernel
theorem dX2_isMissing_12 : decode cX2_isMissing 12 = .ok (.ireturn, 1) := by decide +kernel
theorem dX2_ruleAnew_0 : decode cX2_ruleAnew 0 = .ok (.aload_n 0, 1) := by decide +kernel
theorem dX2_ruleAnew_1 : decode cX2_ruleAnew 1 = .ok (.iload_n 1, 1) := by decide +kernel
theorem dX2_ruleAnew_2 : decode cX2_ruleAnew 2 = .ok (.putfield 13, 3) := by decide +kernel
theorem dX2_ruleAnew_5 : decode cX2_ruleAnew 5 = .ok (.aload_n 0, 1) := by decide +kernel
theorem dX2_ruleAnew_6 : decode cX2_ruleAnew 6 = .ok (.iload_n 1, 1) := by decide +kernel
theorem dX2_ruleAnew_7 : decode cX2_ruleAnew 7 = .ok (.ifCond .ne 7, 3) := by decide +kernel
theorem dX2_ruleAnew_10 : decode cX2_ruleAnew 10 = .ok (.iconst 0, 1) := by decide +kernel
theorem dX2_ruleAnew_11 : decode cX2_ruleAnew 11 = .ok (.goto 4, 3) := by decide +kernel
theorem dX2_ruleAnew_14 : decode cX2_ruleAnew 14 = .ok (.iload_n 2, 1) := by decide +kernel
theorem dX2_ruleAnew_15 : decode cX2_ruleAnew 15 = .ok (.putfield 17, 3) := by decide +kernel
theorem dX2_ruleAnew_18 : decode cX2_ruleAnew 18 = .ok (.iconst 0, 1) := by decide +kernel
theorem dX2_ruleAnew_19 : decode cX2_ruleAnew 19 = .ok (.istore_n 3, 1) := by decide +kernel
theorem dX2_ruleAnew_20 : decode cX2_ruleAnew 20 = .ok (.iload_n 3, 1) := by decide +kernel
theorem dX2_ruleAnew_21 : decode cX2_ruleAnew 21 = .ok (.bipush 40, 2) := by decide +kernel
theorem dX2_ruleAnew_23 : decode cX2_ruleAnew 23 = .ok (.if_icmp .ge 16, 3) := by decide +kernel
theorem dX2_ruleAnew_26 : decode cX2_ruleAnew 26 = .ok (.aload_n 0, 1) := by decide +kernel
theorem dX2_ruleAnew_27 : decode cX2_ruleAnew 27 = .ok (.getfield 9, 3) := by decide +kernel
theorem dX2_ruleAnew_30 : decode cX2_ruleAnew 30 = .ok (.iload_n 3, 1) := by decide +kernel
theorem dX2_ruleAnew_31 : decode cX2_ruleAnew 31 = .ok (.lconst 0, 1) := by decide +kernel
theorem dX2_ruleAnew_32 : decode cX2_ruleAnew 32 = .ok (.lastore, 1) := by decide +kernel
theorem dX2_ruleAnew_33 : decode cX2_ruleAnew 33 = .ok (.iinc 3 1, 3) := by decide +kernel
theorem dX2_ruleAnew_36 : decode cX2_ruleAnew 36 = .ok (.goto (-16), 3) := by decide +kernel
theorem dX2_ruleAnew_39 : decode cX2_ruleAnew 39 = .ok (.return_, 1) := by decide +kernel
theorem dX2_put_0 : decode cX2_put 0 = .ok (.aload_n 0, 1) := by decide +kernel
theorem dX2_put_1 : decode cX2_put 1 = .ok (.getfield 13, 3) := by decide +kernel
theorem dX2_put_4 : decode cX2_put 4 = .ok (.bipush 8, 2) := by decide +kernel
theorem dX2_put_6 : decode cX2_put 6 = .ok (.if_icmp .ne 16, 3) := by decide +kernel
theorem dX2_put_9 : decode cX2_put 9 = .ok (.aload_n 0, 1) := by decide +kernel
theorem dX2_put_10 : decode cX2_put 10 = .ok (.getfield 9, 3) := by decide +kernel
theorem dX2_put_13 : decode cX2_put 13 = .ok (.iload_n 1, 1) := by decide +kernel
theorem dX2_put_14 : decode cX2_put 14 = .ok (.lload_n 2, 1) := by decide +kernel
theorem dX2_put_15 : decode cX2_put 15 = .ok (.l2i, 1) := by decide +kernel
theorem dX2_put_16 : decode cX2_put 16 = .ok (.i2b, 1) := by decide +kernel
theorem dX2_put_17 : decode cX2_put 17 = .ok (.i2l, 1) := by decide +kernel
theorem dX2_put_18 : decode cX2_put 18 = .ok (.lastore, 1) := by decide +kernel
theorem dX2_put_19 : decode cX2_put 19 = .ok (.goto 32, 3) := by decide +kernel
theorem dX2_put_22 : decode cX2_put 22 = .ok (.aload_n 0, 1) := by decide +kernel
theorem dX2_put_23 : decode cX2_put 23 = .ok (.getfield 13, 3) := by decide +kernel
theorem dX2_put_26 : decode cX2_put 26 = .ok (.bipush 16, 2) := by decide +kernel
theorem dX2_put_28 : decode cX2_put 28 = .ok (.if_icmp .ne 16, 3) := by decide +kernel
theorem dX2_put_31 : decode cX2_put 31 = .ok (.aload_n 0, 1) := by decide +kernel
theorem dX2_put_32 : decode cX2_put 32 = .ok (.getfield 9, 3) := by decide +kernel
theorem dX2_put_35 : decode cX2_put 35 = .ok (.iload_n 1, 1) := by decide +kernel
theorem dX2_put_36 : decode cX2_put 36 = .ok (.lload_n 2, 1) := by decide +kernel
theorem dX2_put_37 : decode cX2_put 37 = .ok (.l2i, 1) := by decide +kernel
theorem dX2_put_38 : decode cX2_put 38 = .ok (.i2s, 1) := by decide +kernel
theorem dX2_put_39 : decode cX2_put 39 = .ok (.i2l, 1) := by decide +kernel
theorem dX2_put_40 : decode cX2_put 40 = .ok (.lastore, 1) := by decide +kernel
theorem dX2_put_41 : decode cX2_put 41 = .ok (.goto 10, 3) := by decide +kernel
theorem dX2_put_44 : decode cX2_put 44 = .ok (.aload_n 0, 1) := by decide +kernel
theorem dX2_put_45 : decode cX2_put 45 = .ok (.getfield 9, 3) := by decide +kernel
theorem dX2_put_48 : decode cX2_put 48 = .ok (.iload_n 1, 1) := by decide +kernel
theorem dX2_put_49 : decode cX2_put 49 = .ok (.lload_n 2, 1) := by decide +kernel
theorem dX2_put_50 : decode cX2_put 50 = .ok (.lastore, 1) := by decide +kernel
theorem dX2_put_51 : decode cX2_put 51 = .ok (.return_, 1) := by decide +kernel
theorem dX2_hasRun_0 : decode cX2_hasRun 0 = .ok (.iload_n 1, 1) := by decide +kernel
theorem dX2_hasRun_1 : decode cX2_hasRun 1 = .ok (.ifCond .lt 21, 3) := by decide +kernel
theorem dX2_hasRun_4 : decode cX2_hasRun 4 = .ok (.iload_n 2, 1) := by decide +kernel
theorem dX2_hasRun_5 : decode cX2_hasRun 5 = .ok (.ifCond .lt 17, 3) := by decide +kernel
theorem dX2_hasRun_8 : decode cX2_hasRun 8 = .ok (.iload_n 1, 1) := by decide +kernel
theorem dX2_hasRun_9 : decode cX2_hasRun 9 = .ok (.aload_n 0, 1) := by decide +kernel
theorem dX2_hasRun_10 : decode cX2_hasRun 10 = .ok (.getfield 17, 3) := by decide +kernel
theorem dX2_hasRun_13 : decode cX2_hasRun 13 = .ok (.iload_n 2, 1) := by decide +kernel
theorem dX2_hasRun_14 : decode cX2_hasRun 14 = .ok (.isub, 1) := by decide +kernel
theorem dX2_hasRun_15 : decode cX2_hasRun 15 = .ok (.if_icmp .gt 7, 3) := by decide +kernel
theorem dX2_hasRun_18 : decode cX2_hasRun 18 = .ok (.iconst 1, 1) := by decide +kernel
theorem dX2_hasRun_19 : decode cX2_hasRun 19 = .ok (.goto 4, 3) := by decide +kernel
theorem dX2_hasRun_22 : decode cX2_hasRun 22 = .ok (.iconst 0, 1) := by decide +kernel
theorem dX2_hasRun_23 : decode cX2_hasRun 23 = .ok (.ireturn, 1) := by decide +kernel
theorem dX3_init_0 : decode cX3_init 0 = .ok (.aload_n 0, 1) := by decide +kernel
theorem dX3_init_1 : decode cX3_init 1 = .ok (.invokespecial 1, 3) := by decide +kernel
theorem dX3_init_4 : decode cX3_init 4 = .ok (.aload_n 0, 1) := by decide +kernel
theorem dX3_init_5 : decode cX3_init 5 = .ok (.bipush 120, 2) := by decide +kernel
theorem dX3_init_7 : decode cX3_init 7 = .ok (.newarray .int, 2) := by decide +kernel
theorem dX3_init_9 : decode cX3_init 9 = .ok (.putfield 9, 3) := by decide +kernel
theorem dX3_init_12 : decode cX3_init 12 = .ok (.return_, 1) := by decide +kernel
theorem dX3_hasRoomFor_0 : decode cX3_hasRoomFor 0 = .ok (.iload_n 1, 1) := by decide +kernel
theorem dX3_hasRoomFor_1 : decode cX3_hasRoomFor 1 = .ok (.bipush 120, 2) := by decide +kernel
theorem dX3_hasRoomFor_3 : decode cX3_hasRoomFor 3 = .ok (.aload_n 0, 1) := by decide +kernel
theorem dX3_hasRoomFor_4 : decode cX3_hasRoomFor 4 = .ok (.getfield 13, 3) := by decide +kernel
theorem dX3_hasRoomFor_7 : decode cX3_hasRoomFor 7 = .ok (.isub, 1) := by decide +kernel
theorem dX3_hasRoomFor_8 : decode cX3_hasRoomFor 8 = .ok (.if_icmp .gt 7, 3) := by decide +kernel
theorem dX3_hasRoomFor_11 : decode cX3_hasRoomFor 11 = .ok (.iconst 1, 1) := by decide +kernel
theorem dX3_hasRoomFor_12 : decode cX3_hasRoomFor 12 = .ok (.goto 4, 3) := by decide +kernel
theorem dX3_hasRoomFor_15 : decode cX3_hasRoomFor 15 = .ok (.iconst 0, 1) := by decide +kernel
theorem dX3_hasRoomFor_16 : decode cX3_hasRoomFor 16 = .ok (.ireturn, 1) := by decide +kernel
theorem dX3_append_0 : decode cX3_append 0 = .ok (.aload_n 0, 1) := by decide +kernel
theorem dX3_append_1 : decode cX3_append 1 = .ok (.iconst 1, 1) := by decide +kernel
theorem dX3_append_2 : decode cX3_append 2 = .ok (.invokevirtual 17, 3) := by decide +kernel
theorem dX3_append_5 : decode cX3_append 5 = .ok (.ifCond .eq 23, 3) := by decide +kernel
theorem dX3_append_8 : decode cX3_append 8 = .ok (.aload_n 0, 1) := by decide +kernel
theorem dX3_append_9 : decode cX3_append 9 = .ok (.getfield 9, 3) := by decide +kernel
theorem dX3_append_12 : decode cX3_append 12 = .ok (.aload_n 0, 1) := by decide +kernel
theorem dX3_append_13 : decode cX3_append 13 = .ok (.getfield 13, 3) := by decide +kernel
theorem dX3_append_16 : decode cX3_append 16 = .ok (.iload_n 1, 1) := by decide +kernel
theorem dX3_append_17 : decode cX3_append 17 = .ok (.iastore, 1) := by decide +kernel
theorem dX3_append_18 : decode cX3_append 18 = .ok (.aload_n 0, 1) := by decide +kernel
theorem dX3_append_19 : decode cX3_append 19 = .ok (.dup, 1) := by decide +kernel
theorem dX3_append_20 : decode cX3_append 20 = .ok (.getfield 13, 3) := by decide +kernel
theorem dX3_append_23 : decode cX3_append 23 = .ok (.iconst 1, 1) := by decide +kernel
theorem dX3_append_24 : decode cX3_append 24 = .ok (.iadd, 1) := by decide +kernel
theorem dX3_append_25 : decode cX3_append 25 = .ok (.putfield 13, 3) := by decide +kernel
theorem dX3_append_28 : decode cX3_append 28 = .ok (.return_, 1) := by decide +kernel
theorem dX3_tellInto_0 : decode cX3_tellInto 0 = .ok (.aload_n 0, 1) := by decide +kernel
theorem dX3_tellInto_1 : decode cX3_tellInto 1 = .ok (.iconst 0, 1) := by decide +kernel
theorem dX3_tellInto_2 : decode cX3_tellInto 2 = .ok (.putfield 21, 3) := by decide +kernel
theorem dX3_tellInto_5 : decode cX3_tellInto 5 = .ok (.aload_n 0, 1) := by decide +kernel
theorem dX3_tellInto_6 : decode cX3_tellInto 6 = .ok (.invokevirtual 24, 3) := by decide +kernel
theorem dX3_tellInto_9 : decode cX3_tellInto 9 = .ok (.iconst 1, 1) := by decide +kernel
theorem dX3_tellInto_10 : decode cX3_tellInto 10 = .ok (.istore_n 2, 1) := by decide +kernel
theorem dX3_tellInto_11 : decode cX3_tellInto 11 = .ok (.iload_n 2, 1) := by decide +kernel
theorem dX3_tellInto_12 : decode cX3_tellInto 12 = .ok (.bipush 120, 2) := by decide +kernel
theorem dX3_tellInto_14 : decode cX3_tellInto 14 = .ok (.if_icmp .gt 53, 3) := by decide +kernel
theorem dX3_tellInto_17 : decode cX3_tellInto 17 = .ok (.aload_n 0, 1) := by decide +kernel
theorem dX3_tellInto_18 : decode cX3_tellInto 18 = .ok (.aload_n 1, 1) := by decide +kernel
theorem dX3_tellInto_19 : decode cX3_tellInto 19 = .ok (.invokevirtual 27, 3) := by decide +kernel
theorem dX3_tellInto_22 : decode cX3_tellInto 22 = .ok (.ifCond .ne 10, 3) := by decide +kernel
theorem dX3_tellInto_25 : decode cX3_tellInto 25 = .ok (.iconst (-1), 1) := by decide +kernel
theorem dX3_tellInto_26 : decode cX3_tellInto 26 = .ok (.aload_n 0, 1) := by decide +kernel
theorem dX3_tellInto_27 : decode cX3_tellInto 27 = .ok (.getfield 31, 3) := by decide +kernel
theorem dX3_tellInto_30 : decode cX3_tellInto 30 = .ok (.isub, 1) := by decide +kernel
theorem dX3_tellInto_31 : decode cX3_tellInto 31 = .ok (.ireturn, 1) := by decide +kernel
theorem dX3_tellInto_32 : decode cX3_tellInto 32 = .ok (.aload_n 0, 1) := by decide +kernel
theorem dX3_tellInto_33 : decode cX3_tellInto 33 = .ok (.getfield 34, 3) := by decide +kernel
theorem dX3_tellInto_36 : decode cX3_tellInto 36 = .ok (.iconst 5, 1) := by decide +kernel
theorem dX3_tellInto_37 : decode cX3_tellInto 37 = .ok (.if_icmp .ne 5, 3) := by decide +kernel
theorem dX3_tellInto_40 : decode cX3_tellInto 40 = .ok (.iload_n 2, 1) := by decide +kernel
theorem dX3_tellInto_41 : decode cX3_tellInto 41 = .ok (.ireturn, 1) := by decide +kernel
theorem dX3_tellInto_42 : decode cX3_tellInto 42 = .ok (.aload_n 0, 1) := by decide +kernel
theorem dX3_tellInto_43 : decode cX3_tellInto 43 = .ok (.getfield 34, 3) := by decide +kernel
theorem dX3_tellInto_46 : decode cX3_tellInto 46 = .ok (.iconst 3, 1) := by decide +kernel
theorem dX3_tellInto_47 : decode cX3_tellInto 47 = .ok (.if_icmp .eq 10, 3) := by decide +kernel
theorem dX3_tellInto_50 : decode cX3_tellInto 50 = .ok (.iconst (-1), 1) := by decide +kernel
theorem dX3_tellInto_51 : decode cX3_tellInto 51 = .ok (.aload_n 0, 1) := by decide +kernel
theorem dX3_tellInto_52 : decode cX3_tellInto 52 = .ok (.getfield 31, 3) := by decide +kernel
theorem dX3_tellInto_55 : decode cX3_tellInto 55 = .ok (.isub, 1) := by decide +kernel
theorem dX3_tellInto_56 : decode cX3_tellInto 56 = .ok (.ireturn, 1) := by decide +kernel
theorem dX3_tellInto_57 : decode cX3_tellInto 57 = .ok (.aload_n 0, 1) := by decide +kernel
theorem dX3_tellInto_58 : decode cX3_tellInto 58 = .ok (.invokevirtual 24, 3) := by decide +kernel
theorem dX3_tellInto_61 : decode cX3_tellInto 61 = .ok (.iinc 2 1, 3) := by decide +kernel
theorem dX3_tellInto_64 : decode cX3_tellInto 64 = .ok (.goto (-53), 3) := by decide +kernel
theorem dX3_tellInto_67 : decode cX3_tellInto 67 = .ok (.iconst (-1), 1) := by decide +kernel
theorem dX3_tellInto_68 : decode cX3_tellInto 68 = .ok (.aload_n 0, 1) := by decide +kernel
theorem dX3_tellInto_69 : decode cX3_tellInto 69 = .ok (.getfield 31, 3) := by decide +kernel
theorem dX3_tellInto_72 : decode cX3_tellInto 72 = .ok (.isub, 1) := by decide +kernel
theorem dX3_tellInto_73 : decode cX3_tellInto 73 = .ok (.ireturn, 1) := by decide +kernel
theorem dX3_takeItem_0 : decode cX3_takeItem 0 = .ok (.aload_n 0, 1) := by decide +kernel
theorem dX3_takeItem_1 : decode cX3_takeItem 1 = .ok (.ldc 37, 2) := by decide +kernel
theorem dX3_takeItem_3 : decode cX3_takeItem 3 = .ok (.invokevirtual 39, 3) := by decide +kernel
theorem dX3_takeItem_6 : decode cX3_takeItem 6 = .ok (.ifCond .eq 24, 3) := by decide +kernel
theorem dX3_takeItem_9 : decode cX3_takeItem 9 = .ok (.aload_n 1, 1) := by decide +kernel
theorem dX3_takeItem_10 : decode cX3_takeItem 10 = .ok (.invokevirtual 43, 3) := by decide +kernel
theorem dX3_takeItem_13 : decode cX3_takeItem 13 = .ok (.ifCond .eq 15, 3) := by decide +kernel
theorem dX3_takeItem_16 : decode cX3_takeItem 16 = .ok (.aload_n 0, 1) := by decide +kernel
theorem dX3_takeItem_17 : decode cX3_takeItem 17 = .ok (.aload_n 1, 1) := by decide +kernel
theorem dX3_takeItem_18 : decode cX3_takeItem 18 = .ok (.invokevirtual 49, 3) := by decide +kernel
theorem dX3_takeItem_21 : decode cX3_takeItem 21 = .ok (.ifCond .eq 7, 3) := by decide +kernel
theorem dX3_takeItem_24 : decode cX3_takeItem 24 = .ok (.iconst 1, 1) := by decide +kernel
theorem dX3_takeItem_25 : decode cX3_takeItem 25 = .ok (.goto 4, 3) := by decide +kernel
theorem dX3_takeItem_28 : decode cX3_takeItem 28 = .ok (.iconst 0, 1) := by decide +kernel
theorem dX3_takeItem_29 : decode cX3_takeItem 29 = .ok (.ireturn, 1) := by decide +kernel
theorem dX3_takeItem_30 : decode cX3_takeItem 30 = .ok (.aload_n 0, 1) := by decide +kernel
theorem dX3_takeItem_31 : decode cX3_takeItem 31 = .ok (.invokevirtual 52, 3) := by decide +kernel
theorem dX3_takeItem_34 : decode cX3_takeItem 34 = .ok (.istore_n 2, 1) := by decide +kernel
theorem dX3_takeItem_35 : decode cX3_takeItem 35 = .ok (.iload_n 2, 1) := by decide +kernel
theorem dX3_takeItem_36 : decode cX3_takeItem 36 = .ok (.invokestatic 56, 3) := by decide +kernel
theorem dX3_takeItem_39 : decode cX3_takeItem 39 = .ok (.ifCond .eq 23, 3) := by decide +kernel
theorem dX3_takeItem_42 : decode cX3_takeItem 42 = .ok (.aload_n 1, 1) := by decide +kernel
theorem dX3_takeItem_43 : decode cX3_takeItem 43 = .ok (.invokevirtual 61, 3) := by decide +kernel
theorem dX3_takeItem_46 : decode cX3_takeItem 46 = .ok (.ifCond .eq 16, 3) := by decide +kernel
theorem dX3_takeItem_49 : decode cX3_takeItem 49 = .ok (.aload_n 0, 1) := by decide +kernel
theorem dX3_takeItem_50 : decode cX3_takeItem 50 = .ok (.aload_n 1, 1) := by decide +kernel
theorem dX3_takeItem_51 : decode cX3_takeItem 51 = .ok (.iload_n 2, 1) := by decide +kernel
theorem dX3_takeItem_52 : decode cX3_takeItem 52 = .ok (.invokevirtual 64, 3) := by decide +kernel
theorem dX3_takeItem_55 : decode cX3_takeItem 55 = .ok (.ifCond .eq 7, 3) := by decide +kernel
theorem dX3_takeItem_58 : decode cX3_takeItem 58 = .ok (.iconst 1, 1) := by decide +kernel
theorem dX3_takeItem_59 : decode cX3_takeItem 59 = .ok (.goto 4, 3) := by decide +kernel
theorem dX3_takeItem_62 : decode cX3_takeItem 62 = .ok (.iconst 0, 1) := by decide +kernel
theorem dX3_takeItem_63 : decode cX3_takeItem 63 = .ok (.ireturn, 1) := by decide +kernel
theorem dX3_takeSheep_0 : decode cX3_takeSheep 0 = .ok (.aload_n 0, 1) := by decide +kernel
theorem dX3_takeSheep_1 : decode cX3_takeSheep 1 = .ok (.invokevirtual 24, 3) := by decide +kernel
theorem dX3_takeSheep_4 : decode cX3_takeSheep 4 = .ok (.aload_n 0, 1) := by decide +kernel
theorem dX3_takeSheep_5 : decode cX3_takeSheep 5 = .ok (.ldc 68, 2) := by decide +kernel
theorem dX3_takeSheep_7 : decode cX3_takeSheep 7 = .ok (.bipush 20, 2) := by decide +kernel
theorem dX3_takeSheep_9 : decode cX3_takeSheep 9 = .ok (.bipush 99, 2) := by decide +kernel
theorem dX3_takeSheep_11 : decode cX3_takeSheep 11 = .ok (.invokevirtual 70, 3) := by decide +kernel
theorem dX3_takeSheep_14 : decode cX3_takeSheep 14 = .ok (.istore_n 3, 1) := by decide +kernel
theorem dX3_takeSheep_15 : decode cX3_takeSheep 15 = .ok (.iload_n 3, 1) := by decide +kernel
theorem dX3_takeSheep_16 : decode cX3_takeSheep 16 = .ok (.ifCond .ge 5, 3) := by decide +kernel
theorem dX3_takeSheep_19 : decode cX3_takeSheep 19 = .ok (.iconst 0, 1) := by decide +kernel
theorem dX3_takeSheep_20 : decode cX3_takeSheep 20 = .ok (.ireturn, 1) := by decide +kernel
theorem dX3_takeSheep_21 : decode cX3_takeSheep 21 = .ok (.aload_n 1, 1) := by decide +kernel
theorem dX3_takeSheep_22 : decode cX3_takeSheep 22 = .ok (.iload_n 2, 1) := by decide +kernel
theorem dX3_takeSheep_23 : decode cX3_takeSheep 23 = .ok (.iload_n 3, 1) := by decide +kernel
theorem dX3_takeSheep_24 : decode cX3_takeSheep 24 = .ok (.invokevirtual 74, 3) := by decide +kernel
theorem dX3_takeSheep_27 : decode cX3_takeSheep 27 = .ok (.pop, 1) := by decide +kernel
theorem dX3_takeSheep_28 : decode cX3_takeSheep 28 = .ok (.iconst 1, 1) := by decide +kernel
theorem dX3_takeSheep_29 : decode cX3_takeSheep 29 = .ok (.ireturn, 1) := by decide +kernel
theorem dX3_takeMan_0 : decode cX3_takeMan 0 = .ok (.aload_n 0, 1) := by decide +kernel
theorem dX3_takeMan_1 : decode cX3_takeMan 1 = .ok (.invokevirtual 24, 3) := by decide +kernel
theorem dX3_takeMan_4 : decode cX3_takeMan 4 = .ok (.aload_n 0, 1) := by decide +kernel
theorem dX3_takeMan_5 : decode cX3_takeMan 5 = .ok (.ldc 78, 2) := by decide +kernel
theorem dX3_takeMan_7 : decode cX3_takeMan 7 = .ok (.invokevirtual 80, 3) := by decide +kernel
theorem dX3_takeMan_10 : decode cX3_takeMan 10 = .ok (.ifCond .eq 7, 3) := by decide +kernel
theorem dX3_takeMan_13 : decode cX3_takeMan 13 = .ok (.iconst 1, 1) := by decide +kernel
theorem dX3_takeMan_14 : decode cX3_takeMan 14 = .ok (.goto 4, 3) := by decide +kernel
theorem dX3_takeMan_17 : decode cX3_takeMan 17 = .ok (.iconst 0, 1) := by decide +kernel
theorem dX3_takeMan_18 : decode cX3_takeMan 18 = .ok (.istore_n 2, 1) := by decide +kernel
theorem dX3_takeMan_19 : decode cX3_takeMan 19 = .ok (.iload_n 2, 1) := by decide +kernel
theorem dX3_takeMan_20 : decode cX3_takeMan 20 = .ok (.aload_n 0, 1) := by decide +kernel
theorem dX3_takeMan_21 : decode cX3_takeMan 21 = .ok (.ldc 83, 2) := by decide +kernel
theorem dX3_takeMan_23 : decode cX3_takeMan 23 = .ok (.invokevirtual 80, 3) := by decide +kernel
theorem dX3_takeMan_26 : decode cX3_takeMan 26 = .ok (.ifCond .eq 7, 3) := by decide +kernel
theorem dX3_takeMan_29 : decode cX3_takeMan 29 = .ok (.iconst 2, 1) := by decide +kernel
theorem dX3_takeMan_30 : decode cX3_takeMan 30 = .ok (.goto 4, 3) := by decide +kernel
theorem dX3_takeMan_33 : decode cX3_takeMan 33 = .ok (.iconst 0, 1) := by decide +kernel
theorem dX3_takeMan_34 : decode cX3_takeMan 34 = .ok (.ior, 1) := by decide +kernel
theorem dX3_takeMan_35 : decode cX3_takeMan 35 = .ok (.istore_n 2, 1) := by decide +kernel
theorem dX3_takeMan_36 : decode cX3_takeMan 36 = .ok (.iload_n 2, 1) := by decide +kernel
theorem dX3_takeMan_37 : decode cX3_takeMan 37 = .ok (.aload_n 0, 1) := by decide +kernel
theorem dX3_takeMan_38 : decode cX3_takeMan 38 = .ok (.ldc 85, 2) := by decide +kernel
theorem dX3_takeMan_40 : decode cX3_takeMan 40 = .ok (.invokevirtual 80, 3) := by decide +kernel
theorem dX3_takeMan_43 : decode cX3_takeMan 43 = .ok (.ifCond .eq 7, 3) := by decide +kernel
theorem dX3_takeMan_46 : decode cX3_takeMan 46 = .ok (.iconst 4, 1) := by decide +kernel
theorem dX3_takeMan_47 : decode cX3_takeMan 47 = .ok (.goto 4, 3) := by decide +kernel
theorem dX3_takeMan_50 : decode cX3_takeMan 50 = .ok (.iconst 0, 1) := by decide +kernel
theorem dX3_takeMan_51 : decode cX3_takeMan 51 = .ok (.ior, 1) := by decide +kernel
theorem dX3_takeMan_52 : decode cX3_takeMan 52 = .ok (.istore_n 2, 1) := by decide +kernel
theorem dX3_takeMan_53 : decode cX3_takeMan 53 = .ok (.aload_n 0, 1) := by decide +kernel
theorem dX3_takeMan_54 : decode cX3_takeMan 54 = .ok (.ldc 87, 2) := by decide +kernel
theorem dX3_takeMan_56 : decode cX3_takeMan 56 = .ok (.iconst 0, 1) := by decide +kernel
theorem dX3_takeMan_57 : decode cX3_takeMan 57 = .ok (.bipush 99, 2) := by decide +kernel
theorem dX3_takeMan_59 : decode cX3_takeMan 59 = .ok (.invokevirtual 70, 3) := by decide +kernel
theorem dX3_takeMan_62 : decode cX3_takeMan 62 = .ok (.istore_n 3, 1) := by decide +kernel
theorem dX3_takeMan_63 : decode cX3_takeMan 63 = .ok (.iload_n 3, 1) := by decide +kernel
theorem dX3_takeMan_64 : decode cX3_takeMan 64 = .ok (.ifCond .ge 5, 3) := by decide +kernel
theorem dX3_takeMan_67 : decode cX3_takeMan 67 = .ok (.iconst 0, 1) := by decide +kernel
theorem dX3_takeMan_68 : decode cX3_takeMan 68 = .ok (.ireturn, 1) := by decide +kernel
theorem dX3_takeMan_69 : decode cX3_takeMan 69 = .ok (.aload_n 1, 1) := by decide +kernel
theorem dX3_takeMan_70 : decode cX3_takeMan 70 = .ok (.iload_n 2, 1) := by decide +kernel
theorem dX3_takeMan_71 : decode cX3_takeMan 71 = .ok (.iload_n 3, 1) := by decide +kernel
theorem dX3_takeMan_72 : decode cX3_takeMan 72 = .ok (.invokevirtual 89, 3) := by decide +kernel
theorem dX3_takeMan_75 : decode cX3_takeMan 75 = .ok (.pop, 1) := by decide +kernel
theorem dX3_takeMan_76 : decode cX3_takeMan 76 = .ok (.iconst 1, 1) := by decide +kernel
theorem dX3_takeMan_77 : decode cX3_takeMan 77 = .ok (.ireturn, 1) := by decide +kernel
theorem dX3_takeNumberAfter_0 : decode cX3_takeNumberAfter 0 = .ok (.aload_n 0, 1) := by decide +kernel
theorem dX3_takeNumberAfter_1 : decode cX3_takeNumberAfter 1 = .ok (.aload_n 1, 1) := by decide +kernel
theorem dX3_takeNumberAfter_2 : decode cX3_takeNumberAfter 2 = .ok (.invokevirtual 39, 3) := by decide +kernel
theorem dX3_takeNumberAfter_5 : decode cX3_takeNumberAfter 5 = .ok (.ifCond .ne 5, 3) := by decide +kernel
theorem dX3_takeNumberAfter_8 : decode cX3_takeNumberAfter 8 = .ok (.iload_n 2, 1) := by decide +kernel
theorem dX3_takeNumberAfter_9 : decode cX3_takeNumberAfter 9 = .ok (.ireturn, 1) := by decide +kernel
theorem dX3_takeNumberAfter_10 : decode cX3_takeNumberAfter 10 = .ok (.aload_n 0, 1) := by decide +kernel
theorem dX3_takeNumberAfter_11 : decode cX3_takeNumberAfter 11 = .ok (.invokevirtual 24, 3) := by decide +kernel
theorem dX3_takeNumberAfter_14 : decode cX3_takeNumberAfter 14 = .ok (.aload_n 0, 1) := by decide +kernel
theorem dX3_takeNumberAfter_15 : decode cX3_takeNumberAfter 15 = .ok (.invokevirtual 92, 3) := by decide +kernel
theorem dX3_takeNumberAfter_18 : decode cX3_takeNumberAfter 18 = .ok (.istore 4, 2) := by decide +kernel
theorem dX3_takeNumberAfter_20 : decode cX3_takeNumberAfter 20 = .ok (.iload 4, 2) := by decide +kernel
theorem dX3_takeNumberAfter_22 : decode cX3_takeNumberAfter 22 = .ok (.iload_n 3, 1) := by decide +kernel
theorem dX3_takeNumberAfter_23 : decode cX3_takeNumberAfter 23 = .ok (.if_icmp .le 5, 3) := by decide +kernel
theorem dX3_takeNumberAfter_26 : decode cX3_takeNumberAfter 26 = .ok (.iconst (-1), 1) := by decide +kernel
theorem dX3_takeNumberAfter_27 : decode cX3_takeNumberAfter 27 = .ok (.ireturn, 1) := by decide +kernel
theorem dX3_takeNumberAfter_28 : decode cX3_takeNumberAfter 28 = .ok (.aload_n 0, 1) := by decide +kernel
theorem dX3_takeNumberAfter_29 : decode cX3_takeNumberAfter 29 = .ok (.invokevirtual 24, 3) := by decide +kernel
theorem dX3_takeNumberAfter_32 : decode cX3_takeNumberAfter 32 = .ok (.iload 4, 2) := by decide +kernel
theorem dX3_takeNumberAfter_34 : decode cX3_takeNumberAfter 34 = .ok (.ireturn, 1) := by decide +kernel
theorem dX3_takeWord_0 : decode cX3_takeWord 0 = .ok (.aload_n 0, 1) := by decide +kernel
theorem dX3_takeWord_1 : decode cX3_takeWord 1 = .ok (.aload_n 1, 1) := by decide +kernel
theorem dX3_takeWord_2 : decode cX3_takeWord 2 = .ok (.invokevirtual 39, 3) := by decide +kernel
theorem dX3_takeWord_5 : decode cX3_takeWord 5 = .ok (.ifCond .ne 5, 3) := by decide +kernel
theorem dX3_takeWord_8 : decode cX3_takeWord 8 = .ok (.iconst 0, 1) := by decide +kernel
theorem dX3_takeWord_9 : decode cX3_takeWord 9 = .ok (.ireturn, 1) := by decide +kernel
theorem dX3_takeWord_10 : decode cX3_takeWord 10 = .ok (.aload_n 0, 1) := by decide +kernel
theorem dX3_takeWord_11 : decode cX3_takeWord 11 = .ok (.invokevirtual 24, 3) := by decide +kernel
theorem dX3_takeWord_14 : decode cX3_takeWord 14 = .ok (.iconst 1, 1) := by decide +kernel
theorem dX3_takeWord_15 : decode cX3_takeWord 15 = .ok (.ireturn, 1) := by decide +kernel
theorem dX3_kindNamed_0 : decode cX3_kindNamed 0 = .ok (.iconst 0, 1) := by decide +kernel
theorem dX3_kindNamed_1 : decode cX3_kindNamed 1 = .ok (.istore_n 1, 1) := by decide +kernel
theorem dX3_kindNamed_2 : decode cX3_kindNamed 2 = .ok (.iload_n 1, 1) := by decide +kernel
theorem dX3_kindNamed_3 : decode cX3_kindNamed 3 = .ok (.bipush 6, 2) := by decide +kernel
theorem dX3_kindNamed_5 : decode cX3_kindNamed 5 = .ok (.if_icmp .ge 22, 3) := by decide +kernel
theorem dX3_kindNamed_8 : decode cX3_kindNamed 8 = .ok (.aload_n 0, 1) := by decide +kernel
theorem dX3_kindNamed_9 : decode cX3_kindNamed 9 = .ok (.iload_n 1, 1) := by decide +kernel
theorem dX3_kindNamed_10 : decode cX3_kindNamed 10 = .ok (.invokestatic 95, 3) := by decide +kernel
theorem dX3_kindNamed_13 : decode cX3_kindNamed 13 = .ok (.invokevirtual 39, 3) := by decide +kernel
theorem dX3_kindNamed_16 : decode cX3_kindNamed 16 = .ok (.ifCond .eq 5, 3) := by decide +kernel
theorem dX3_kindNamed_19 : decode cX3_kindNamed 19 = .ok (.iload_n 1, 1) := by decide +kernel
theorem dX3_kindNamed_20 : decode cX3_kindNamed 20 = .ok (.ireturn, 1) := by decide +kernel
theorem dX3_kindNamed_21 : decode cX3_kindNamed 21 = .ok (.iinc 1 1, 3) := by decide +kernel
theorem dX3_kindNamed_24 : decode cX3_kindNamed 24 = .ok (.goto (-22), 3) := by decide +kernel
theorem dX3_kindNamed_27 : decode cX3_kindNamed 27 = .ok (.iconst (-1), 1) := by decide +kernel
theorem dX3_kindNamed_28 : decode cX3_kindNamed 28 = .ok (.ireturn, 1) := by decide +kernel
theorem dX3_isWord_0 : decode cX3_isWord 0 = .ok (.aload_n 0, 1) := by decide +kernel
theorem dX3_isWord_1 : decode cX3_isWord 1 = .ok (.getfield 34, 3) := by decide +kernel
theorem dX3_isWord_4 : decode cX3_isWord 4 = .ok (.iconst 1, 1) := by decide +kernel
theorem dX3_isWord_5 : decode cX3_isWord 5 = .ok (.if_icmp .ne 19, 3) := by decide +kernel
theorem dX3_isWord_8 : decode cX3_isWord 8 = .ok (.aload_n 0, 1) := by decide +kernel
theorem dX3_isWord_9 : decode cX3_isWord 9 = .ok (.getfield 21, 3) := by decide +kernel
theorem dX3_isWord_12 : decode cX3_isWord 12 = .ok (.aload_n 0, 1) := by decide +kernel
theorem dX3_isWord_13 : decode cX3_isWord 13 = .ok (.getfield 31, 3) := by decide +kernel
theorem dX3_isWord_16 : decode cX3_isWord 16 = .ok (.isub, 1) := by decide +kernel
theorem dX3_isWord_17 : decode cX3_isWord 17 = .ok (.aload_n 1, 1) := by decide +kernel
theorem dX3_isWord_18 : decode cX3_isWord 18 = .ok (.invokevirtual 99, 3) := by decide +kernel
theorem dX3_isWord_21 : decode cX3_isWord 21 = .ok (.if_icmp .eq 5, 3) := by decide +kernel
theorem dX3_isWord_24 : decode cX3_isWord 24 = .ok (.iconst 0, 1) := by decide +kernel
theorem dX3_isWord_25 : decode cX3_isWord 25 = .ok (.ireturn, 1) := by decide +kernel
theorem dX3_isWord_26 : decode cX3_isWord 26 = .ok (.iconst 0, 1) := by decide +kernel
theorem dX3_isWord_27 : decode cX3_isWord 27 = .ok (.istore_n 2, 1) := by decide +kernel
theorem dX3_isWord_28 : decode cX3_isWord 28 = .ok (.iload_n 2, 1) := by decide +kernel
theorem dX3_isWord_29 : decode cX3_isWord 29 = .ok (.aload_n 1, 1) := by decide +kernel
theorem dX3_isWord_30 : decode cX3_isWord 30 = .ok (.invokevirtual 99, 3) := by decide +kernel
theorem dX3_isWord_33 : decode cX3_isWord 33 = .ok (.if_icmp .ge 30, 3) := by decide +kernel
theorem dX3_isWord_36 : decode cX3_isWord 36 = .ok (.aload_n 0, 1) := by decide +kernel
theorem dX3_isWord_37 : decode cX3_isWord 37 = .ok (.getfield 9, 3) := by decide +kernel
theorem dX3_isWord_40 : decode cX3_isWord 40 = .ok (.aload_n 0, 1) := by decide +kernel
theorem dX3_isWord_41 : decode cX3_isWord 41 = .ok (.getfield 31, 3) := by decide +kernel
theorem dX3_isWord_44 : decode cX3_isWord 44 = .ok (.iload_n 2, 1) := by decide +kernel
theorem dX3_isWord_45 : decode cX3_isWord 45 = .ok (.iadd, 1) := by decide +kernel
theorem dX3_isWord_46 : decode cX3_isWord 46 = .ok (.iaload, 1) := by decide +kernel
theorem dX3_isWord_47 : decode cX3_isWord 47 = .ok (.aload_n 1, 1) := by decide +kernel
theorem dX3_isWord_48 : decode cX3_isWord 48 = .ok (.iload_n 2, 1) := by decide +kernel
theorem dX3_isWord_49 : decode cX3_isWord 49 = .ok (.invokevirtual 103, 3) := by decide +kernel
theorem dX3_isWord_52 : decode cX3_isWord 52 = .ok (.if_icmp .eq 5, 3) := by decide +kernel
theorem dX3_isWord_55 : decode cX3_isWord 55 = .ok (.iconst 0, 1) := by decide +kernel
theorem dX3_isWord_56 : decode cX3_isWord 56 = .ok (.ireturn, 1) := by decide +kernel
theorem dX3_isWord_57 : decode cX3_isWord 57 = .ok (.iinc 2 1, 3) := by decide +kernel
theorem dX3_isWord_60 : decode cX3_isWord 60 = .ok (.goto (-32), 3) := by decide +kernel
theorem dX3_isWord_63 : decode cX3_isWord 63 = .ok (.iconst 1, 1) := by decide +kernel
theorem dX3_isWord_64 : decode cX3_isWord 64 = .ok (.ireturn, 1) := by decide +kernel
theorem dX3_nextToken_0 : decode cX3_nextToken 0 = .ok (.aload_n 0, 1) := by decide +kernel
theorem dX3_nextToken_1 : decode cX3_nextToken 1 = .ok (.aload_n 0, 1) := by decide +kernel
theorem dX3_nextToken_2 : decode cX3_nextToken 2 = .ok (.getfield 21, 3) := by decide +kernel
theorem dX3_nextToken_5 : decode cX3_nextToken 5 = .ok (.putfield 31, 3) := by decide +kernel
theorem dX3_nextToken_8 : decode cX3_nextToken 8 = .ok (.aload_n 0, 1) := by decide +kernel
theorem dX3_nextToken_9 : decode cX3_nextToken 9 = .ok (.getfield 31, 3) := by decide +kernel
theorem dX3_nextToken_12 : decode cX3_nextToken 12 = .ok (.aload_n 0, 1) := by decide +kernel
theorem dX3_nextToken_13 : decode cX3_nextToken 13 = .ok (.getfield 13, 3) := by decide +kernel
theorem dX3_nextToken_16 : decode cX3_nextToken 16 = .ok (.if_icmp .ge 30, 3) := by decide +kernel
theorem dX3_nextToken_19 : decode cX3_nextToken 19 = .ok (.aload_n 0, 1) := by decide +kernel
theorem dX3_nextToken_20 : decode cX3_nextToken 20 = .ok (.getfield 9, 3) := by decide +kernel
theorem dX3_nextToken_23 : decode cX3_nextToken 23 = .ok (.aload_n 0, 1) := by decide +kernel
theorem dX3_nextToken_24 : decode cX3_nextToken 24 = .ok (.getfield 31, 3) := by decide +kernel
theorem dX3_nextToken_27 : decode cX3_nextToken 27 = .ok (.iaload, 1) := by decide +kernel
theorem dX3_nextToken_28 : decode cX3_nextToken 28 = .ok (.bipush 32, 2) := by decide +kernel
theorem dX3_nextToken_30 : decode cX3_nextToken 30 = .ok (.if_icmp .ne 16, 3) := by decide +kernel
theorem dX3_nextToken_33 : decode cX3_nextToken 33 = .ok (.aload_n 0, 1) := by decide +kernel
theorem dX3_nextToken_34 : decode cX3_nextToken 34 = .ok (.dup, 1) := by decide +kernel
theorem dX3_nextToken_35 : decode cX3_nextToken 35 = .ok (.getfield 31, 3) := by decide +kernel
theorem dX3_nextToken_38 : decode cX3_nextToken 38 = .ok (.iconst 1, 1) := by decide +kernel
theorem dX3_nextToken_39 : decode cX3_nextToken 39 = .ok (.iadd, 1) := by decide +kernel
theorem dX3_nextToken_40 : decode cX3_nextToken 40 = .ok (.putfield 31, 3) := by decide +kernel
theorem dX3_nextToken_43 : decode cX3_nextToken 43 = .ok (.goto (-35), 3) := by decide +kernel
theorem dX3_nextToken_46 : decode cX3_nextToken 46 = .ok (.aload_n 0, 1) := by decide +kernel
theorem dX3_nextToken_47 : decode cX3_nextToken 47 = .ok (.aload_n 0, 1) := by decide +kernel
theorem dX3_nextToken_48 : decode cX3_nextToken 48 = .ok (.aload_n 0, 1) := by decide +kernel
theorem dX3_nextToken_49 : decode cX3_nextToken 49 = .ok (.getfield 31, 3) := by decide +kernel
theorem dX3_nextToken_52 : decode cX3_nextToken 52 = .ok (.invokevirtual 107, 3) := by decide +kernel
theorem dX3_nextToken_55 : decode cX3_nextToken 55 = .ok (.putfield 34, 3) := by decide +kernel
theorem dX3_nextToken_58 : decode cX3_nextToken 58 = .ok (.aload_n 0, 1) := by decide +kernel
theorem dX3_nextToken_59 : decode cX3_nextToken 59 = .ok (.aload_n 0, 1) := by decide +kernel
theorem dX3_nextToken_60 : decode cX3_nextToken 60 = .ok (.getfield 13, 3) := by decide +kernel
theorem dX3_nextToken_63 : decode cX3_nextToken 63 = .ok (.aload_n 0, 1) := by decide +kernel
theorem dX3_nextToken_64 : decode cX3_nextToken 64 = .ok (.getfield 31, 3) := by decide +kernel
theorem dX3_nextToken_67 : decode cX3_nextToken 67 = .ok (.iconst 1, 1) := by decide +kernel
theorem dX3_nextToken_68 : decode cX3_nextToken 68 = .ok (.iadd, 1) := by decide +kernel
theorem dX3_nextToken_69 : decode cX3_nextToken 69 = .ok (.invokestatic 111, 3) := by decide +kernel
theorem dX3_nextToken_72 : decode cX3_nextToken 72 = .ok (.putfield 21, 3) := by decide +kernel
theorem dX3_nextToken_75 : decode cX3_nextToken 75 = .ok (.aload_n 0, 1) := by decide +kernel
theorem dX3_nextToken_76 : decode cX3_nextToken 76 = .ok (.getfield 21, 3) := by decide +kernel
theorem dX3_nextToken_79 : decode cX3_nextToken 79 = .ok (.aload_n 0, 1) := by decide +kernel
theorem dX3_nextToken_80 : decode cX3_nextToken 80 = .ok (.getfield 13, 3) := by decide +kernel
theorem dX3_nextToken_83 : decode cX3_nextToken 83 = .ok (.if_icmp .ge 47, 3) := by decide +kernel
theorem dX3_nextToken_86 : decode cX3_nextToken 86 = .ok (.aload_n 0, 1) := by decide +kernel
theorem dX3_nextToken_87 : decode cX3_nextToken 87 = .ok (.getfield 34, 3) := by decide +kernel
theorem dX3_nextToken_90 : decode cX3_nextToken 90 = .ok (.iconst 1, 1) := by decide +kernel
theorem dX3_nextToken_91 : decode cX3_nextToken 91 = .ok (.if_icmp .eq 11, 3) := by decide +kernel
theorem dX3_nextToken_94 : decode cX3_nextToken 94 = .ok (.aload_n 0, 1) := by decide +kernel
theorem dX3_nextToken_95 : decode cX3_nextToken 95 = .ok (.getfield 34, 3) := by decide +kernel
theorem dX3_nextToken_98 : decode cX3_nextToken 98 = .ok (.iconst 2, 1) := by decide +kernel
theorem dX3_nextToken_99 : decode cX3_nextToken 99 = .ok (.if_icmp .ne 31, 3) := by decide +kernel
theorem dX3_nextToken_102 : decode cX3_nextToken 102 = .ok (.aload_n 0, 1) := by decide +kernel
theorem dX3_nextToken_103 : decode cX3_nextToken 103 = .ok (.aload_n 0, 1) := by decide +kernel
theorem dX3_nextToken_104 : decode cX3_nextToken 104 = .ok (.getfield 21, 3) := by decide +kernel
theorem dX3_nextToken_107 : decode cX3_nextToken 107 = .ok (.invokevirtual 107, 3) := by decide +kernel
theorem dX3_nextToken_110 : decode cX3_nextToken 110 = .ok (.aload_n 0, 1) := by decide +kernel
theorem dX3_nextToken_111 : decode cX3_nextToken 111 = .ok (.getfield 34, 3) := by decide +kernel
theorem dX3_nextToken_114 : decode cX3_nextToken 114 = .ok (.if_icmp .ne 16, 3) := by decide +kernel
theorem dX3_nextToken_117 : decode cX3_nextToken 117 = .ok (.aload_n 0, 1) := by decide +kernel
theorem dX3_nextToken_118 : decode cX3_nextToken 118 = .ok (.dup, 1) := by decide +kernel
theorem dX3_nextToken_119 : decode cX3_nextToken 119 = .ok (.getfield 21, 3) := by decide +kernel
theorem dX3_nextToken_122 : decode cX3_nextToken 122 = .ok (.iconst 1, 1) := by decide +kernel
theorem dX3_nextToken_123 : decode cX3_nextToken 123 = .ok (.iadd, 1) := by decide +kernel
theorem dX3_nextToken_124 : decode cX3_nextToken 124 = .ok (.putfield 21, 3) := by decide +kernel
theorem dX3_nextToken_127 : decode cX3_nextToken 127 = .ok (.goto (-52), 3) := by decide +kernel
theorem dX3_nextToken_130 : decode cX3_nextToken 130 = .ok (.return_, 1) := by decide +kernel
theorem dX3_sortAt_0 : decode cX3_sortAt 0 = .ok (.iload_n 1, 1) := by decide +kernel
theorem dX3_sortAt_1 : decode cX3_sortAt 1 = .ok (.ifCond .lt 11, 3) := by decide +kernel
theorem dX3_sortAt_4 : decode cX3_sortAt 4 = .ok (.iload_n 1, 1) := by decide +kernel
theorem dX3_sortAt_5 : decode cX3_sortAt 5 = .ok (.aload_n 0, 1) := by decide +kernel
theorem dX3_sortAt_6 : decode cX3_sortAt 6 = .ok (.getfield 13, 3) := by decide +kernel
theorem dX3_sortAt_9 : decode cX3_sortAt 9 = .ok (.if_icmp .lt 5, 3) := by decide +kernel
theorem dX3_sortAt_12 : decode cX3_sortAt 12 = .ok (.iconst 5, 1) := by decide +kernel
theorem dX3_sortAt_13 : decode cX3_sortAt 13 = .ok (.ireturn, 1) := by decide +kernel
theorem dX3_sortAt_14 : decode cX3_sortAt 14 = .ok (.aload_n 0, 1) := by decide +kernel
theorem dX3_sortAt_15 : decode cX3_sortAt 15 = .ok (.getfield 9, 3) := by decide +kernel
theorem dX3_sortAt_18 : decode cX3_sortAt 18 = .ok (.iload_n 1, 1) := by decide +kernel
theorem dX3_sortAt_19 : decode cX3_sortAt 19 = .ok (.iaload, 1) := by decide +kernel
theorem dX3_sortAt_20 : decode cX3_sortAt 20 = .ok (.istore_n 2, 1) := by decide +kernel
theorem dX3_sortAt_21 : decode cX3_sortAt 21 = .ok (.iload_n 2, 1) := by decide +kernel
theorem dX3_sortAt_22 : decode cX3_sortAt 22 = .ok (.bipush 97, 2) := by decide +kernel
theorem dX3_sortAt_24 : decode cX3_sortAt 24 = .ok (.if_icmp .lt 11, 3) := by decide +kernel
theorem dX3_sortAt_27 : decode cX3_sortAt 27 = .ok (.iload_n 2, 1) := by decide +kernel
theorem dX3_sortAt_28 : decode cX3_sortAt 28 = .ok (.bipush 122, 2) := by decide +kernel
theorem dX3_sortAt_30 : decode cX3_sortAt 30 = .ok (.if_icmp .gt 5, 3) := by decide +kernel
theorem dX3_sortAt_33 : decode cX3_sortAt 33 = .ok (.iconst 1, 1) := by decide +kernel
theorem dX3_sortAt_34 : decode cX3_sortAt 34 = .ok (.ireturn, 1) := by decide +kernel
theorem dX3_sortAt_35 : decode cX3_sortAt 35 = .ok (.iload_n 2, 1) := by decide +kernel
theorem dX3_sortAt_36 : decode cX3_sortAt 36 = .ok (.bipush 48, 2) := by decide +kernel
theorem dX3_sortAt_38 : decode cX3_sortAt 38 = .ok (.if_icmp .lt 11, 3) := by decide +kernel
theorem dX3_sortAt_41 : decode cX3_sortAt 41 = .ok (.iload_n 2, 1) := by decide +kernel
theorem dX3_sortAt_42 : decode cX3_sortAt 42 = .ok (.bipush 57, 2) := by decide +kernel
theorem dX3_sortAt_44 : decode cX3_sortAt 44 = .ok (.if_icmp .gt 5, 3) := by decide +kernel
theorem dX3_sortAt_47 : decode cX3_sortAt 47 = .ok (.iconst 2, 1) := by decide +kernel
theorem dX3_sortAt_48 : decode cX3_sortAt 48 = .ok (.ireturn, 1) := by decide +kernel
theorem dX3_sortAt_49 : decode cX3_sortAt 49 = .ok (.iload_n 2, 1) := by decide +kernel
theorem dX3_sortAt_50 : decode cX3_sortAt 50 = .ok (.bipush 59, 2) := by decide +kernel
theorem dX3_sortAt_52 : decode cX3_sortAt 52 = .ok (.if_icmp .ne 7, 3) := by decide +kernel
theorem dX3_sortAt_55 : decode cX3_sortAt 55 = .ok (.iconst 3, 1) := by decide +kernel
theorem dX3_sortAt_56 : decode cX3_sortAt 56 = .ok (.goto 4, 3) := by decide +kernel
theorem dX3_sortAt_59 : decode cX3_sortAt 59 = .ok (.iconst 4, 1) := by decide +kernel
theorem dX3_sortAt_60 : decode cX3_sortAt 60 = .ok (.ireturn, 1) := by decide +kernel
theorem dX3_numberHere_0 : decode cX3_numberHere 0 = .ok (.aload_n 0, 1) := by decide +kernel
theorem dX3_numberHere_1 : decode cX3_numberHere 1 = .ok (.getfield 34, 3) := by decide +kernel
theorem dX3_numberHere_4 : decode cX3_numberHere 4 = .ok (.iconst 2, 1) := by decide +kernel
theorem dX3_numberHere_5 : decode cX3_numberHere 5 = .ok (.if_icmp .eq 7, 3) := by decide +kernel
theorem dX3_numberHere_8 : decode cX3_numberHere 8 = .ok (.sipush 1000, 3) := by decide +kernel
theorem dX3_numberHere_11 : decode cX3_numberHere 11 = .ok (.ireturn, 1) := by decide +kernel
theorem dX3_numberHere_12 : decode cX3_numberHere 12 = .ok (.iconst 0, 1) := by decide +kernel
theorem dX3_numberHere_13 : decode cX3_numberHere 13 = .ok (.istore_n 1, 1) := by decide +kernel
theorem dX3_numberHere_14 : decode cX3_numberHere 14 = .ok (.aload_n 0, 1) := by decide +kernel
theorem dX3_numberHere_15 : decode cX3_numberHere 15 = .ok (.getfield 31, 3) := by decide +kernel
theorem dX3_numberHere_18 : decode cX3_numberHere 18 = .ok (.istore_n 2, 1) := by decide +kernel
theorem dX3_numberHere_19 : decode cX3_numberHere 19 = .ok (.iload_n 2, 1) := by decide +kernel
theorem dX3_numberHere_20 : decode cX3_numberHere 20 = .ok (.aload_n 0, 1) := by decide +kernel
theorem dX3_numberHere_21 : decode cX3_numberHere 21 = .ok (.getfield 21, 3) := by decide +kernel
theorem dX3_numberHere_24 : decode cX3_numberHere 24 = .ok (.if_icmp .ge 38, 3) := by decide +kernel
theorem dX3_numberHere_27 : decode cX3_numberHere 27 = .ok (.iload_n 2, 1) := by decide +kernel
theorem dX3_numberHere_28 : decode cX3_numberHere 28 = .ok (.aload_n 0, 1) := by decide +kernel
theorem dX3_numberHere_29 : decode cX3_numberHere 29 = .ok (.getfield 13, 3) := by decide +kernel
theorem dX3_numberHere_32 : decode cX3_numberHere 32 = .ok (.if_icmp .ge 30, 3) := by decide +kernel
theorem dX3_numberHere_35 : decode cX3_numberHere 35 = .ok (.sipush 1000, 3) := by decide +kernel
theorem dX3_numberHere_38 : decode cX3_numberHere 38 = .ok (.bipush 10, 2) := by decide +kernel
theorem dX3_numberHere_40 : decode cX3_numberHere 40 = .ok (.iload_n 1, 1) := by decide +kernel
theorem dX3_numberHere_41 : decode cX3_numberHere 41 = .ok (.imul, 1) := by decide +kernel
theorem dX3_numberHere_42 : decode cX3_numberHere 42 = .ok (.aload_n 0, 1) := by decide +kernel
theorem dX3_numberHere_43 : decode cX3_numberHere 43 = .ok (.getfield 9, 3) := by decide +kernel
theorem dX3_numberHere_46 : decode cX3_numberHere 46 = .ok (.iload_n 2, 1) := by decide +kernel
theorem dX3_numberHere_47 : decode cX3_numberHere 47 = .ok (.iaload, 1) := by decide +kernel
theorem dX3_numberHere_48 : decode cX3_numberHere 48 = .ok (.iadd, 1) := by decide +kernel
theorem dX3_numberHere_49 : decode cX3_numberHere 49 = .ok (.bipush 48, 2) := by decide +kernel
theorem dX3_numberHere_51 : decode cX3_numberHere 51 = .ok (.isub, 1) := by decide +kernel
theorem dX3_numberHere_52 : decode cX3_numberHere 52 = .ok (.invokestatic 111, 3) := by decide +kernel
theorem dX3_numberHere_55 : decode cX3_numberHere 55 = .ok (.istore_n 1, 1) := by decide +kernel
theorem dX3_numberHere_56 : decode cX3_numberHere 56 = .ok (.iinc 2 1, 3) := by decide +kernel
theorem dX3_numberHere_59 : decode cX3_numberHere 59 = .ok (.goto (-40), 3) := by decide +kernel
theorem dX3_numberHere_62 : decode cX3_numberHere 62 = .ok (.iload_n 1, 1) := by decide +kernel
theorem dX3_numberHere_63 : decode cX3_numberHere 63 = .ok (.ireturn, 1) := by decide +kernel
theorem dX4_init_0 : decode cX4_init 0 = .ok (.aload_n 0, 1) := by decide +kernel
theorem dX4_init_1 : decode cX4_init 1 = .ok (.invokespecial 1, 3) := by decide +kernel
theorem dX4_init_4 : decode cX4_init 4 = .ok (.aload_n 0, 1) := by decide +kernel
theorem dX4_init_5 : decode cX4_init 5 = .ok (.new 7, 3) := by decide +kernel
theorem dX4_init_8 : decode cX4_init 8 = .ok (.dup, 1) := by decide +kernel
theorem dX4_init_9 : decode cX4_init 9 = .ok (.invokespecial 9, 3) := by decide +kernel
theorem dX4_init_12 : decode cX4_init 12 = .ok (.putfield 10, 3) := by decide +kernel
theorem dX4_init_15 : decode cX4_init 15 = .ok (.aload_n 0, 1) := by decide +kernel
theorem dX4_init_16 : decode cX4_init 16 = .ok (.new 7, 3) := by decide +kernel
theorem dX4_init_19 : decode cX4_init 19 = .ok (.dup, 1) := by decide +kernel
theorem dX4_init_20 : decode cX4_init 20 = .ok (.invokespecial 9, 3) := by decide +kernel
theorem dX4_init_23 : decode cX4_init 23 = .ok (.putfield 16, 3) := by decide +kernel
theorem dX4_init_26 : decode cX4_init 26 = .ok (.aload_n 0, 1) := by decide +kernel
theorem dX4_init_27 : decode cX4_init 27 = .ok (.new 7, 3) := by decide +kernel
theorem dX4_init_30 : decode cX4_init 30 = .ok (.dup, 1) := by decide +kernel
theorem dX4_init_31 : decode cX4_init 31 = .ok (.invokespecial 9, 3) := by decide +kernel
theorem dX4_init_34 : decode cX4_init 34 = .ok (.putfield 19, 3) := by decide +kernel
theorem dX4_init_37 : decode cX4_init 37 = .ok (.aload_n 0, 1) := by decide +kernel
theorem dX4_init_38 : decode cX4_init 38 = .ok (.new 22, 3) := by decide +kernel
theorem dX4_init_41 : decode cX4_init 41 = .ok (.dup, 1) := by decide +kernel
theorem dX4_init_42 : decode cX4_init 42 = .ok (.invokespecial 24, 3) := by decide +kernel
theorem dX4_init_45 : decode cX4_init 45 = .ok (.putfield 25, 3) := by decide +kernel
theorem dX4_init_48 : decode cX4_init 48 = .ok (.aload_n 0, 1) := by decide +kernel
theorem dX4_init_49 : decode cX4_init 49 = .ok (.iconst 4, 1) := by decide +kernel
theorem dX4_init_50 : decode cX4_init 50 = .ok (.anewarray 29, 3) := by decide +kernel
theorem dX4_init_53 : decode cX4_init 53 = .ok (.dup, 1) := by decide +kernel
theorem dX4_init_54 : decode cX4_init 54 = .ok (.iconst 0, 1) := by decide +kernel
theorem dX4_init_55 : decode cX4_init 55 = .ok (.new 29, 3) := by decide +kernel
theorem dX4_init_58 : decode cX4_init 58 = .ok (.dup, 1) := by decide +kernel
theorem dX4_init_59 : decode cX4_init 59 = .ok (.invokespecial 31, 3) := by decide +kernel
theorem dX4_init_62 : decode cX4_init 62 = .ok (.aastore, 1) := by decide +kernel
theorem dX4_init_63 : decode cX4_init 63 = .ok (.dup, 1) := by decide +kernel
theorem dX4_init_64 : decode cX4_init 64 = .ok (.iconst 1, 1) := by decide +kernel
theorem dX4_init_65 : decode cX4_init 65 = .ok (.new 29, 3) := by decide +kernel
theorem dX4_init_68 : decode cX4_init 68 = .ok (.dup, 1) := by decide +kernel
theorem dX4_init_69 : decode cX4_init 69 = .ok (.invokespecial 31, 3) := by decide +kernel
theorem dX4_init_72 : decode cX4_init 72 = .ok (.aastore, 1) := by decide +kernel
theorem dX4_init_73 : decode cX4_init 73 = .ok (.dup, 1) := by decide +kernel
theorem dX4_init_74 : decode cX4_init 74 = .ok (.iconst 2, 1) := by decide +kernel
theorem dX4_init_75 : decode cX4_init 75 = .ok (.new 29, 3) := by decide +kernel
theorem dX4_init_78 : decode cX4_init 78 = .ok (.dup, 1) := by decide +kernel
theorem dX4_init_79 : decode cX4_init 79 = .ok (.invokespecial 31, 3) := by decide +kernel
theorem dX4_init_82 : decode cX4_init 82 = .ok (.aastore, 1) := by decide +kernel
theorem dX4_init_83 : decode cX4_init 83 = .ok (.dup, 1) := by decide +kernel
theorem dX4_init_84 : decode cX4_init 84 = .ok (.iconst 3, 1) := by decide +kernel
theorem dX4_init_85 : decode cX4_init 85 = .ok (.new 29, 3) := by decide +kernel
theorem dX4_init_88 : decode cX4_init 88 = .ok (.dup, 1) := by decide +kernel
theorem dX4_init_89 : decode cX4_init 89 = .ok (.invokespecial 31, 3) := by decide +kernel
theorem dX4_init_92 : decode cX4_init 92 = .ok (.aastore, 1) := by decide +kernel
theorem dX4_init_93 : decode cX4_init 93 = .ok (.putfield 32, 3) := by decide +kernel
theorem dX4_init_96 : decode cX4_init 96 = .ok (.aload_n 0, 1) := by decide +kernel
theorem dX4_init_97 : decode cX4_init 97 = .ok (.bipush 7, 2) := by decide +kernel
theorem dX4_init_99 : decode cX4_init 99 = .ok (.newarray .int, 2) := by decide +kernel
theorem dX4_init_101 : decode cX4_init 101 = .ok (.putfield 36, 3) := by decide +kernel
theorem dX4_init_104 : decode cX4_init 104 = .ok (.return_, 1) := by decide +kernel
theorem dX4_man_0 : decode cX4_man 0 = .ok (.iload_n 1, 1) := by decide +kernel
theorem dX4_man_1 : decode cX4_man 1 = .ok (.invokestatic 40, 3) := by decide +kernel
theorem dX4_man_4 : decode cX4_man 4 = .ok (.ifCond .ne 10, 3) := by decide +kernel
theorem dX4_man_7 : decode cX4_man 7 = .ok (.aload_n 0, 1) := by decide +kernel
theorem dX4_man_8 : decode cX4_man 8 = .ok (.ldc 44, 2) := by decide +kernel
theorem dX4_man_10 : decode cX4_man 10 = .ok (.invokevirtual 45, 3) := by decide +kernel
theorem dX4_man_13 : decode cX4_man 13 = .ok (.ireturn, 1) := by decide +kernel
theorem dX4_man_14 : decode cX4_man 14 = .ok (.aload_n 0, 1) := by decide +kernel
theorem dX4_man_15 : decode cX4_man 15 = .ok (.getfield 10, 3) := by decide +kernel
theorem dX4_man_18 : decode cX4_man 18 = .ok (.invokevirtual 49, 3) := by decide +kernel
theorem dX4_man_21 : decode cX4_man 21 = .ok (.ifCond .ne 10, 3) := by decide +kernel
theorem dX4_man_24 : decode cX4_man 24 = .ok (.aload_n 0, 1) := by decide +kernel
theorem dX4_man_25 : decode cX4_man 25 = .ok (.ldc 53, 2) := by decide +kernel
theorem dX4_man_27 : decode cX4_man 27 = .ok (.invokevirtual 45, 3) := by decide +kernel
theorem dX4_man_30 : decode cX4_man 30 = .ok (.ireturn, 1) := by decide +kernel
theorem dX4_man_31 : decode cX4_man 31 = .ok (.aload_n 0, 1) := by decide +kernel
theorem dX4_man_32 : decode cX4_man 32 = .ok (.getfield 10, 3) := by decide +kernel
theorem dX4_man_35 : decode cX4_man 35 = .ok (.iload_n 1, 1) := by decide +kernel
theorem dX4_man_36 : decode cX4_man 36 = .ok (.iconst 0, 1) := by decide +kernel
theorem dX4_man_37 : decode cX4_man 37 = .ok (.invokevirtual 54, 3) := by decide +kernel
theorem dX4_man_40 : decode cX4_man 40 = .ok (.ireturn, 1) := by decide +kernel
theorem dX4_manOf_0 : decode cX4_manOf 0 = .ok (.aload_n 0, 1) := by decide +kernel
theorem dX4_manOf_1 : decode cX4_manOf 1 = .ok (.getfield 10, 3) := by decide +kernel
theorem dX4_manOf_4 : decode cX4_manOf 4 = .ok (.iload_n 1, 1) := by decide +kernel
theorem dX4_manOf_5 : decode cX4_manOf 5 = .ok (.invokevirtual 58, 3) := by decide +kernel
theorem dX4_manOf_8 : decode cX4_manOf 8 = .ok (.ifCond .eq 12, 3) := by decide +kernel
theorem dX4_manOf_11 : decode cX4_manOf 11 = .ok (.iload_n 2, 1) := by decide +kernel
theorem dX4_manOf_12 : decode cX4_manOf 12 = .ok (.ifCond .lt 8, 3) := by decide +kernel
theorem dX4_manOf_15 : decode cX4_manOf 15 = .ok (.iload_n 2, 1) := by decide +kernel
theorem dX4_manOf_16 : decode cX4_manOf 16 = .ok (.iconst 1, 1) := by decide +kernel
theorem dX4_manOf_17 : decode cX4_manOf 17 = .ok (.if_icmp .le 10, 3) := by decide +kernel
theorem dX4_manOf_20 : decode cX4_manOf 20 = .ok (.aload_n 0, 1) := by decide +kernel
theorem dX4_manOf_21 : decode cX4_manOf 21 = .ok (.ldc 44, 2) := by decide +kernel
theorem dX4_manOf_23 : decode cX4_manOf 23 = .ok (.invokevirtual 45, 3) := by decide +kernel
theorem dX4_manOf_26 : decode cX4_manOf 26 = .ok (.ireturn, 1) := by decide +kernel
theorem dX4_manOf_27 : decode cX4_manOf 27 = .ok (.iload_n 2, 1) := by decide +kernel
theorem dX4_manOf_28 : decode cX4_manOf 28 = .ok (.ifCond .ne 15, 3) := by decide +kernel
theorem dX4_manOf_31 : decode cX4_manOf 31 = .ok (.aload_n 0, 1) := by decide +kernel
theorem dX4_manOf_32 : decode cX4_manOf 32 = .ok (.getfield 10, 3) := by decide +kernel
theorem dX4_manOf_35 : decode cX4_manOf 35 = .ok (.getfield 61, 3) := by decide +kernel
theorem dX4_manOf_38 : decode cX4_manOf 38 = .ok (.iload_n 1, 1) := by decide +kernel
theorem dX4_manOf_39 : decode cX4_manOf 39 = .ok (.iaload, 1) := by decide +kernel
theorem dX4_manOf_40 : decode cX4_manOf 40 = .ok (.goto 12, 3) := by decide +kernel
theorem dX4_manOf_43 : decode cX4_manOf 43 = .ok (.aload_n 0, 1) := by decide +kernel
theorem dX4_manOf_44 : decode cX4_manOf 44 = .ok (.getfield 10, 3) := by decide +kernel
theorem dX4_manOf_47 : decode cX4_manOf 47 = .ok (.getfield 64, 3) := by decide +kernel
theorem dX4_manOf_50 : decode cX4_manOf 50 = .ok (.iload_n 1, 1) := by decide +kernel
theorem dX4_manOf_51 : decode cX4_manOf 51 = .ok (.iaload, 1) := by decide +kernel
theorem dX4_manOf_52 : decode cX4_manOf 52 = .ok (.ireturn, 1) := by decide +kernel
theorem dX4_dress_0 : decode cX4_dress 0 = .ok (.aload_n 0, 1) := by decide +kernel
theorem dX4_dress_1 : decode cX4_dress 1 = .ok (.getfield 10, 3) := by decide +kernel
theorem dX4_dress_4 : decode cX4_dress 4 = .ok (.iload_n 1, 1) := by decide +kernel
theorem dX4_dress_5 : decode cX4_dress 5 = .ok (.invokevirtual 58, 3) := by decide +kernel
theorem dX4_dress_8 : decode cX4_dress 8 = .ok (.ifCond .ne 10, 3) := by decide +kernel
theorem dX4_dress_11 : decode cX4_dress 11 = .ok (.aload_n 0, 1) := by decide +kernel
theorem dX4_dress_12 : decode cX4_dress 12 = .ok (.ldc 44, 2) := by decide +kernel
theorem dX4_dress_14 : decode cX4_dress 14 = .ok (.invokevirtual 45, 3) := by decide +kernel
theorem dX4_dress_17 : decode cX4_dress 17 = .ok (.ireturn, 1) := by decide +kernel
theorem dX4_dress_18 : decode cX4_dress 18 = .ok (.iload_n 2, 1) := by decide +kernel
theorem dX4_dress_19 : decode cX4_dress 19 = .ok (.ifCond .ne 34, 3) := by decide +kernel
theorem dX4_dress_22 : decode cX4_dress 22 = .ok (.iload_n 3, 1) := by decide +kernel
theorem dX4_dress_23 : decode cX4_dress 23 = .ok (.invokestatic 40, 3) := by decide +kernel
theorem dX4_dress_26 : decode cX4_dress 26 = .ok (.ifCond .eq 27, 3) := by decide +kernel
theorem dX4_dress_29 : decode cX4_dress 29 = .ok (.aload_n 0, 1) := by decide +kernel
theorem dX4_dress_30 : decode cX4_dress 30 = .ok (.getfield 10, 3) := by decide +kernel
theorem dX4_dress_33 : decode cX4_dress 33 = .ok (.getfield 61, 3) := by decide +kernel
theorem dX4_dress_36 : decode cX4_dress 36 = .ok (.iload_n 1, 1) := by decide +kernel
theorem dX4_dress_37 : decode cX4_dress 37 = .ok (.iaload, 1) := by decide +kernel
theorem dX4_dress_38 : decode cX4_dress 38 = .ok (.istore 4, 2) := by decide +kernel
theorem dX4_dress_40 : decode cX4_dress 40 = .ok (.aload_n 0, 1) := by decide +kernel
theorem dX4_dress_41 : decode cX4_dress 41 = .ok (.getfield 10, 3) := by decide +kernel
theorem dX4_dress_44 : decode cX4_dress 44 = .ok (.getfield 61, 3) := by decide +kernel
theorem dX4_dress_47 : decode cX4_dress 47 = .ok (.iload_n 1, 1) := by decide +kernel
theorem dX4_dress_48 : decode cX4_dress 48 = .ok (.iload_n 3, 1) := by decide +kernel
theorem dX4_dress_49 : decode cX4_dress 49 = .ok (.iastore, 1) := by decide +kernel
theorem dX4_dress_50 : decode cX4_dress 50 = .ok (.iload 4, 2) := by decide +kernel
theorem dX4_dress_52 : decode cX4_dress 52 = .ok (.ireturn, 1) := by decide +kernel
theorem dX4_dress_53 : decode cX4_dress 53 = .ok (.iload_n 2, 1) := by decide +kernel
theorem dX4_dress_54 : decode cX4_dress 54 = .ok (.iconst 1, 1) := by decide +kernel
theorem dX4_dress_55 : decode cX4_dress 55 = .ok (.if_icmp .ne 37, 3) := by decide +kernel
theorem dX4_dress_58 : decode cX4_dress 58 = .ok (.iload_n 3, 1) := by decide +kernel
theorem dX4_dress_59 : decode cX4_dress 59 = .ok (.iconst 0, 1) := by decide +kernel
theorem dX4_dress_60 : decode cX4_dress 60 = .ok (.bipush 99, 2) := by decide +kernel
theorem dX4_dress_62 : decode cX4_dress 62 = .ok (.invokestatic 67, 3) := by decide +kernel
theorem dX4_dress_65 : decode cX4_dress 65 = .ok (.ifCond .eq 27, 3) := by decide +kernel
theorem dX4_dress_68 : decode cX4_dress 68 = .ok (.aload_n 0, 1) := by decide +kernel
theorem dX4_dress_69 : decode cX4_dress 69 = .ok (.getfield 10, 3) := by decide +kernel
theorem dX4_dress_72 : decode cX4_dress 72 = .ok (.getfield 64, 3) := by decide +kernel
theorem dX4_dress_75 : decode cX4_dress 75 = .ok (.iload_n 1, 1) := by decide +kernel
theorem dX4_dress_76 : decode cX4_dress 76 = .ok (.iaload, 1) := by decide +kernel
theorem dX4_dress_77 : decode cX4_dress 77 = .ok (.istore 4, 2) := by decide +kernel
theorem dX4_dress_79 : decode cX4_dress 79 = .ok (.aload_n 0, 1) := by decide +kernel
theorem dX4_dress_80 : decode cX4_dress 80 = .ok (.getfield 10, 3) := by decide +kernel
theorem dX4_dress_83 : decode cX4_dress 83 = .ok (.getfield 64, 3) := by decide +kernel
theorem dX4_dress_86 : decode cX4_dress 86 = .ok (.iload_n 1, 1) := by decide +kernel
theorem dX4_dress_87 : decode cX4_dress 87 = .ok (.iload_n 3, 1) := by decide +kernel
theorem dX4_dress_88 : decode cX4_dress 88 = .ok (.iastore, 1) := by decide +kernel
theorem dX4_dress_89 : decode cX4_dress 89 = .ok (.iload 4, 2) := by decide +kernel
theorem dX4_dress_91 : decode cX4_dress 91 = .ok (.ireturn, 1) := by decide +kernel
theorem dX4_dress_92 : decode cX4_dress 92 = .ok (.aload_n 0, 1) := by decide +kernel
theorem dX4_dress_93 : decode cX4_dress 93 = .ok (.ldc 44, 2) := by decide +kernel
theorem dX4_dress_95 : decode cX4_dress 95 = .ok (.invokevirtual 45, 3) := by decide +kernel
theorem dX4_dress_98 : decode cX4_dress 98 = .ok (.ireturn, 1) := by decide +kernel
theorem dX4_first_0 : decode cX4_first 0 = .ok (.aload_n 0, 1) := by decide +kernel
theorem dX4_first_1 : decode cX4_first 1 = .ok (.getfield 10, 3) := by decide +kernel
theorem dX4_first_4 : decode cX4_first 4 = .ok (.iload_n 1, 1) := by decide +kernel
theorem dX4_first_5 : decode cX4_first 5 = .ok (.invokevirtual 58, 3) := by decide +kernel
theorem dX4_first_8 : decode cX4_first 8 = .ok (.ifCond .ne 10, 3) := by decide +kernel
theorem dX4_first_11 : decode cX4_first 11 = .ok (.aload_n 0, 1) := by decide +kernel
theorem dX4_first_12 : decode cX4_first 12 = .ok (.ldc 44, 2) := by decide +kernel
theorem dX4_first_14 : decode cX4_first 14 = .ok (.invokevirtual 45, 3) := by decide +kernel
theorem dX4_first_17 : decode cX4_first 17 = .ok (.ireturn, 1) := by decide +kernel
theorem dX4_first_18 : decode cX4_first 18 = .ok (.aload_n 0, 1) := by decide +kernel
theorem dX4_first_19 : decode cX4_first 19 = .ok (.getfield 10, 3) := by decide +kernel
theorem dX4_first_22 : decode cX4_first 22 = .ok (.getfield 71, 3) := by decide +kernel
theorem dX4_first_25 : decode cX4_first 25 = .ok (.istore_n 2, 1) := by decide +kernel
theorem dX4_first_26 : decode cX4_first 26 = .ok (.aload_n 0, 1) := by decide +kernel
theorem dX4_first_27 : decode cX4_first 27 = .ok (.getfield 10, 3) := by decide +kernel
theorem dX4_first_30 : decode cX4_first 30 = .ok (.iload_n 1, 1) := by decide +kernel
theorem dX4_first_31 : decode cX4_first 31 = .ok (.putfield 71, 3) := by decide +kernel
theorem dX4_first_34 : decode cX4_first 34 = .ok (.iload_n 2, 1) := by decide +kernel
theorem dX4_first_35 : decode cX4_first 35 = .ok (.ireturn, 1) := by decide +kernel
theorem dX4_goesHome_0 : decode cX4_goesHome 0 = .ok (.aload_n 0, 1) := by decide +kernel
theorem dX4_goesHome_1 : decode cX4_goesHome 1 = .ok (.getfield 10, 3) := by decide +kernel
theorem dX4_goesHome_4 : decode cX4_goesHome 4 = .ok (.getfield 75, 3) := by decide +kernel
theorem dX4_goesHome_7 : decode cX4_goesHome 7 = .ok (.ifCond .ne 10, 3) := by decide +kernel
theorem dX4_goesHome_10 : decode cX4_goesHome 10 = .ok (.aload_n 0, 1) := by decide +kernel
theorem dX4_goesHome_11 : decode cX4_goesHome 11 = .ok (.ldc 78, 2) := by decide +kernel
theorem dX4_goesHome_13 : decode cX4_goesHome 13 = .ok (.invokevirtual 45, 3) := by decide +kernel
theorem dX4_goesHome_16 : decode cX4_goesHome 16 = .ok (.ireturn, 1) := by decide +kernel
theorem dX4_goesHome_17 : decode cX4_goesHome 17 = .ok (.aload_n 0, 1) := by decide +kernel
theorem dX4_goesHome_18 : decode cX4_goesHome 18 = .ok (.getfield 10, 3) := by decide +kernel
theorem dX4_goesHome_21 : decode cX4_goesHome 21 = .ok (.invokevirtual 79, 3) := by decide +kernel
theorem dX4_goesHome_24 : decode cX4_goesHome 24 = .ok (.aload_n 0, 1) := by decide +kernel
theorem dX4_goesHome_25 : decode cX4_goesHome 25 = .ok (.getfield 10, 3) := by decide +kernel
theorem dX4_goesHome_28 : decode cX4_goesHome 28 = .ok (.getfield 75, 3) := by decide +kernel
theorem dX4_goesHome_31 : decode cX4_goesHome 31 = .ok (.ireturn, 1) := by decide +kernel
theorem dX4_sheep_0 : decode cX4_sheep 0 = .ok (.iload_n 1, 1) := by decide +kernel
theorem dX4_sheep_1 : decode cX4_sheep 1 = .ok (.invokestatic 82, 3) := by decide +kernel
theorem dX4_sheep_4 : decode cX4_sheep 4 = .ok (.ifCond .ne 10, 3) := by decide +kernel
theorem dX4_sheep_7 : decode cX4_sheep 7 = .ok (.aload_n 0, 1) := by decide +kernel
theorem dX4_sheep_8 : decode cX4_sheep 8 = .ok (.ldc 44, 2) := by decide +kernel
theorem dX4_sheep_10 : decode cX4_sheep 10 = .ok (.invokevirtual 45, 3) := by decide +kernel
theorem dX4_sheep_13 : decode cX4_sheep 13 = .ok (.ireturn, 1) := by decide +kernel
theorem dX4_sheep_14 : decode cX4_sheep 14 = .ok (.aload_n 0, 1) := by decide +kernel
theorem dX4_sheep_15 : decode cX4_sheep 15 = .ok (.getfield 10, 3) := by decide +kernel
theorem dX4_sheep_18 : decode cX4_sheep 18 = .ok (.invokevirtual 87, 3) := by decide +kernel
theorem dX4_sheep_21 : decode cX4_sheep 21 = .ok (.ifCond .ne 10, 3) := by decide +kernel
theorem dX4_sheep_24 : decode cX4_sheep 24 = .ok (.aload_n 0, 1) := by decide +kernel
theorem dX4_sheep_25 : decode cX4_sheep 25 = .ok (.ldc 53, 2) := by decide +kernel
theorem dX4_sheep_27 : decode cX4_sheep 27 = .ok (.invokevirtual 45, 3) := by decide +kernel
theorem dX4_sheep_30 : decode cX4_sheep 30 = .ok (.ireturn, 1) := by decide +kernel
theorem dX4_sheep_31 : decode cX4_sheep 31 = .ok (.aload_n 0, 1) := by decide +kernel
theorem dX4_sheep_32 : decode cX4_sheep 32 = .ok (.getfield 10, 3) := by decide +kernel
theorem dX4_sheep_35 : decode cX4_sheep 35 = .ok (.iload_n 1, 1) := by decide +kernel
theorem dX4_sheep_36 : decode cX4_sheep 36 = .ok (.bipush 20, 2) := by decide +kernel
theorem dX4_sheep_38 : decode cX4_sheep 38 = .ok (.invokevirtual 90, 3) := by decide +kernel
theorem dX4_sheep_41 : decode cX4_sheep 41 = .ok (.ireturn, 1) := by decide +kernel
theorem dX4_of_0 : decode cX4_of 0 = .ok (.aload_n 0, 1) := by decide +kernel
theorem dX4_of_1 : decode cX4_of 1 = .ok (.getfield 10, 3) := by decide +kernel
theorem dX4_of_4 : decode cX4_of 4 = .ok (.iload_n 1, 1) := by decide +kernel
theorem dX4_of_5 : decode cX4_of 5 = .ok (.invokevirtual 93, 3) := by decide +kernel
theorem dX4_of_8 : decode cX4_of 8 = .ok (.ifCond .ne 10, 3) := by decide +kernel
theorem dX4_of_11 : decode cX4_of 11 = .ok (.aload_n 0, 1) := by decide +kernel
theorem dX4_of_12 : decode cX4_of 12 = .ok (.ldc 44, 2) := by decide +kernel
theorem dX4_of_14 : decode cX4_of 14 = .ok (.invokevirtual 45, 3) := by decide +kernel
theorem dX4_of_17 : decode cX4_of 17 = .ok (.ireturn, 1) := by decide +kernel
theorem dX4_of_18 : decode cX4_of 18 = .ok (.iload_n 2, 1) := by decide +kernel
theorem dX4_of_19 : decode cX4_of 19 = .ok (.tableswitch 110 0 5 #[37, 47, 57, 67, 84, 97], 37) := by decide +kernel
theorem dX4_of_56 : decode cX4_of 56 = .ok (.aload_n 0, 1) := by decide +kernel
theorem dX4_of_57 : decode cX4_of 57 = .ok (.getfield 10, 3) := by decide +kernel
theorem dX4_of_60 : decode cX4_of 60 = .ok (.getfield 96, 3) := by decide +kernel
theorem dX4_of_63 : decode cX4_of 63 = .ok (.iload_n 1, 1) := by decide +kernel
theorem dX4_of_64 : decode cX4_of 64 = .ok (.iaload, 1) := by decide +kernel
theorem dX4_of_65 : decode cX4_of 65 = .ok (.ireturn, 1) := by decide +kernel
theorem dX4_of_66 : decode cX4_of 66 = .ok (.aload_n 0, 1) := by decide +kernel
theorem dX4_of_67 : decode cX4_of 67 = .ok (.getfield 10, 3) := by decide +kernel
theorem dX4_of_70 : decode cX4_of 70 = .ok (.getfield 99, 3) := by decide +kernel
theorem dX4_of_73 : decode cX4_of 73 = .ok (.iload_n 1, 1) := by decide +kernel
theorem dX4_of_74 : decode cX4_of 74 = .ok (.iaload, 1) := by decide +kernel
theorem dX4_of_75 : decode cX4_of 75 = .ok (.ireturn, 1) := by decide +kernel
theorem dX4_of_76 : decode cX4_of 76 = .ok (.aload_n 0, 1) := by decide +kernel
theorem dX4_of_77 : decode cX4_of 77 = .ok (.getfield 10, 3) := by decide +kernel
theorem dX4_of_80 : decode cX4_of 80 = .ok (.getfield 102, 3) := by decide +kernel
theorem dX4_of_83 : decode cX4_of 83 = .ok (.iload_n 1, 1) := by decide +kernel
theorem dX4_of_84 : decode cX4_of 84 = .ok (.iaload, 1) := by decide +kernel
theorem dX4_of_85 : decode cX4_of 85 = .ok (.ireturn, 1) := by decide +kernel
theorem dX4_of_86 : decode cX4_of 86 = .ok (.aload_n 0, 1) := by decide +kernel
theorem dX4_of_87 : decode cX4_of 87 = .ok (.getfield 10, 3) := by decide +kernel
theorem dX4_of_90 : decode cX4_of 90 = .ok (.iload_n 1, 1) := by decide +kernel
theorem dX4_of_91 : decode cX4_of 91 = .ok (.invokevirtual 105, 3) := by decide +kernel
theorem dX4_of_94 : decode cX4_of 94 = .ok (.ifCond .eq 7, 3) := by decide +kernel
theorem dX4_of_97 : decode cX4_of 97 = .ok (.iconst 1, 1) := by decide +kernel
theorem dX4_of_98 : decode cX4_of 98 = .ok (.goto 4, 3) := by decide +kernel
theorem dX4_of_101 : decode cX4_of 101 = .ok (.iconst 0, 1) := by decide +kernel
theorem dX4_of_102 : decode cX4_of 102 = .ok (.ireturn, 1) := by decide +kernel
theorem dX4_of_103 : decode cX4_of 103 = .ok (.aload_n 0, 1) := by decide +kernel
theorem dX4_of_104 : decode cX4_of 104 = .ok (.getfield 10, 3) := by decide +kernel
theorem dX4_of_107 : decode cX4_of 107 = .ok (.getfield 96, 3) := by decide +kernel
theorem dX4_of_110 : decode cX4_of 110 = .ok (.iload_n 1, 1) := by decide +kernel
theorem dX4_of_111 : decode cX4_of 111 = .ok (.iaload, 1) := by decide +kernel
theorem dX4_of_112 : decode cX4_of 112 = .ok (.invokestatic 108, 3) := by decide +kernel
theorem dX4_of_115 : decode cX4_of 115 = .ok (.ireturn, 1) := by decide +kernel
theorem dX4_of_116 : decode cX4_of 116 = .ok (.aload_n 0, 1) := by decide +kernel
theorem dX4_of_117 : decode cX4_of 117 = .ok (.getfield 10, 3) := by decide +kernel
theorem dX4_of_120 : decode cX4_of 120 = .ok (.getfield 96, 3) := by decide +kernel
theorem dX4_of_123 : decode cX4_of 123 = .ok (.iload_n 1, 1) := by decide +kernel
theorem dX4_of_124 : decode cX4_of 124 = .ok (.iaload, 1) := by decide +kernel
theorem dX4_of_125 : decode cX4_of 125 = .ok (.invokestatic 111, 3) := by decide +kernel
theorem dX4_of_128 : decode cX4_of 128 = .ok (.ireturn, 1) := by decide +kernel
theorem dX4_of_129 : decode cX4_of 129 = .ok (.aload_n 0, 1) := by decide +kernel
theorem dX4_of_130 : decode cX4_of 130 = .ok (.ldc 44, 2) := by decide +kernel
theorem dX4_of_132 : decode cX4_of 132 = .ok (.invokevirtual 45, 3) := by decide +kernel
theorem dX4_of_135 : decode cX4_of 135 = .ok (.ireturn, 1) := by decide +kernel
theorem dX4_set_0 : decode cX4_set 0 = .ok (.aload_n 0, 1) := by decide +kernel
theorem dX4_set_1 : decode cX4_set 1 = .ok (.getfield 10, 3) := by decide +kernel
theorem dX4_set_4 : decode cX4_set 4 = .ok (.iload_n 1, 1) := by decide +kernel
theorem dX4_set_5 : decode cX4_set 5 = .ok (.invokevirtual 93, 3) := by decide +kernel
theorem dX4_set_8 : decode cX4_set 8 = .ok (.ifCond .ne 10, 3) := by decide +kernel
theorem dX4_set_11 : decode cX4_set 11 = .ok (.aload_n 0, 1) := by decide +kernel
theorem dX4_set_12 : decode cX4_set 12 = .ok (.ldc 44, 2) := by decide +kernel
theorem dX4_set_14 : decode cX4_set 14 = .ok (.invokevirtual 45, 3) := by decide +kernel
theorem dX4_set_17 : decode cX4_set 17 = .ok (.ireturn, 1) := by decide +kernel
theorem dX4_set_18 : decode cX4_set 18 = .ok (.iload_n 2, 1) := by decide +kernel
theorem dX4_set_19 : decode cX4_set 19 = .ok (.iconst 1, 1) := by decide +kernel
theorem dX4_set_20 : decode cX4_set 20 = .ok (.if_icmp .ne 37, 3) := by decide +kernel
theorem dX4_set_23 : decode cX4_set 23 = .ok (.iload_n 3, 1) := by decide +kernel
theorem dX4_set_24 : decode cX4_set 24 = .ok (.iconst 0, 1) := by decide +kernel
theorem dX4_set_25 : decode cX4_set 25 = .ok (.bipush 99, 2) := by decide +kernel
theorem dX4_set_27 : decode cX4_set 27 = .ok (.invokestatic 67, 3) := by decide +kernel
theorem dX4_set_30 : decode cX4_set 30 = .ok (.ifCond .eq 27, 3) := by decide +kernel
theorem dX4_set_33 : decode cX4_set 33 = .ok (.aload_n 0, 1) := by decide +kernel
theorem dX4_set_34 : decode cX4_set 34 = .ok (.getfield 10, 3) := by decide +kernel
theorem dX4_set_37 : decode cX4_set 37 = .ok (.getfield 99, 3) := by decide +kernel
theorem dX4_set_40 : decode cX4_set 40 = .ok (.iload_n 1, 1) := by decide +kernel
theorem dX4_set_41 : decode cX4_set 41 = .ok (.iaload, 1) := by decide +kernel
theorem dX4_set_42 : decode cX4_set 42 = .ok (.istore 4, 2) := by decide +kernel
theorem dX4_set_44 : decode cX4_set 44 = .ok (.aload_n 0, 1) := by decide +kernel
theorem dX4_set_45 : decode cX4_set 45 = .ok (.getfield 10, 3) := by decide +kernel
theorem dX4_set_48 : decode cX4_set 48 = .ok (.getfield 99, 3) := by decide +kernel
theorem dX4_set_51 : decode cX4_set 51 = .ok (.iload_n 1, 1) := by decide +kernel
theorem dX4_set_52 : decode cX4_set 52 = .ok (.iload_n 3, 1) := by decide +kernel
theorem dX4_set_53 : decode cX4_set 53 = .ok (.iastore, 1) := by decide +kernel
theorem dX4_set_54 : decode cX4_set 54 = .ok (.iload 4, 2) := by decide +kernel
theorem dX4_set_56 : decode cX4_set 56 = .ok (.ireturn, 1) := by decide +kernel
theorem dX4_set_57 : decode cX4_set 57 = .ok (.iload_n 2, 1) := by decide +kernel
theorem dX4_set_58 : decode cX4_set 58 = .ok (.iconst 2, 1) := by decide +kernel
theorem dX4_set_59 : decode cX4_set 59 = .ok (.if_icmp .ne 38, 3) := by decide +kernel
theorem dX4_set_62 : decode cX4_set 62 = .ok (.iload_n 3, 1) := by decide +kernel
theorem dX4_set_63 : decode cX4_set 63 = .ok (.iconst 0, 1) := by decide +kernel
theorem dX4_set_64 : decode cX4_set 64 = .ok (.sipush 9999, 3) := by decide +kernel
theorem dX4_set_67 : decode cX4_set 67 = .ok (.invokestatic 67, 3) := by decide +kernel
theorem dX4_set_70 : decode cX4_set 70 = .ok (.ifCond .eq 27, 3) := by decide +kernel
theorem dX4_set_73 : decode cX4_set 73 = .ok (.aload_n 0, 1) := by decide +kernel
theorem dX4_set_74 : decode cX4_set 74 = .ok (.getfield 10, 3) := by decide +kernel
theorem dX4_set_77 : decode cX4_set 77 = .ok (.getfield 102, 3) := by decide +kernel
theorem dX4_set_80 : decode cX4_set 80 = .ok (.iload_n 1, 1) := by decide +kernel
theorem dX4_set_81 : decode cX4_set 81 = .ok (.iaload, 1) := by decide +kernel
theorem dX4_set_82 : decode cX4_set 82 = .ok (.istore 4, 2) := by decide +kernel
theorem dX4_set_84 : decode cX4_set 84 = .ok (.aload_n 0, 1) := by decide +kernel
theorem dX4_set_85 : decode cX4_set 85 = .ok (.getfield 10, 3) := by decide +kernel
theorem dX4_set_88 : decode cX4_set 88 = .ok (.getfield 102, 3) := by decide +kernel
theorem dX4_set_91 : decode cX4_set 91 = .ok (.iload_n 1, 1) := by decide +kernel
theorem dX4_set_92 : decode cX4_set 92 = .ok (.iload_n 3, 1) := by decide +kernel
theorem dX4_set_93 : decode cX4_set 93 = .ok (.iastore, 1) := by decide +kernel
theorem dX4_set_94 : decode cX4_set 94 = .ok (.iload 4, 2) := by decide +kernel
theorem dX4_set_96 : decode cX4_set 96 = .ok (.ireturn, 1) := by decide +kernel
theorem dX4_set_97 : decode cX4_set 97 = .ok (.aload_n 0, 1) := by decide +kernel
theorem dX4_set_98 : decode cX4_set 98 = .ok (.ldc 44, 2) := by decide +kernel
theorem dX4_set_100 : decode cX4_set 100 = .ok (.invokevirtual 45, 3) := by decide +kernel
theorem dX4_set_103 : decode cX4_set 103 = .ok (.ireturn, 1) := by decide +kernel
theorem dX4_turn_0 : decode cX4_turn 0 = .ok (.aload_n 0, 1) := by decide +kernel
theorem dX4_turn_1 : decode cX4_turn 1 = .ok (.getfield 10, 3) := by decide +kernel
theorem dX4_turn_4 : decode cX4_turn 4 = .ok (.iload_n 1, 1) := by decide +kernel
theorem dX4_turn_5 : decode cX4_turn 5 = .ok (.invokevirtual 93, 3) := by decide +kernel
theorem dX4_turn_8 : decode cX4_turn 8 = .ok (.ifCond .eq 10, 3) := by decide +kernel
theorem dX4_turn_11 : decode cX4_turn 11 = .ok (.iload_n 2, 1) := by decide +kernel
theorem dX4_turn_12 : decode cX4_turn 12 = .ok (.invokestatic 82, 3) := by decide +kernel
theorem dX4_turn_15 : decode cX4_turn 15 = .ok (.ifCond .ne 10, 3) := by decide +kernel
theorem dX4_turn_18 : decode cX4_turn 18 = .ok (.aload_n 0, 1) := by decide +kernel
theorem dX4_turn_19 : decode cX4_turn 19 = .ok (.ldc 44, 2) := by decide +kernel
theorem dX4_turn_21 : decode cX4_turn 21 = .ok (.invokevirtual 45, 3) := by decide +kernel
theorem dX4_turn_24 : decode cX4_turn 24 = .ok (.ireturn, 1) := by decide +kernel
theorem dX4_turn_25 : decode cX4_turn 25 = .ok (.aload_n 0, 1) := by decide +kernel
theorem dX4_turn_26 : decode cX4_turn 26 = .ok (.getfield 10, 3) := by decide +kernel
theorem dX4_turn_29 : decode cX4_turn 29 = .ok (.getfield 96, 3) := by decide +kernel
theorem dX4_turn_32 : decode cX4_turn 32 = .ok (.iload_n 1, 1) := by decide +kernel
theorem dX4_turn_33 : decode cX4_turn 33 = .ok (.iaload, 1) := by decide +kernel
theorem dX4_turn_34 : decode cX4_turn 34 = .ok (.istore_n 3, 1) := by decide +kernel
theorem dX4_turn_35 : decode cX4_turn 35 = .ok (.aload_n 0, 1) := by decide +kernel
theorem dX4_turn_36 : decode cX4_turn 36 = .ok (.getfield 10, 3) := by decide +kernel
theorem dX4_turn_39 : decode cX4_turn 39 = .ok (.getfield 96, 3) := by decide +kernel
theorem dX4_turn_42 : decode cX4_turn 42 = .ok (.iload_n 1, 1) := by decide +kernel
theorem dX4_turn_43 : decode cX4_turn 43 = .ok (.iload_n 2, 1) := by decide +kernel
theorem dX4_turn_44 : decode cX4_turn 44 = .ok (.iastore, 1) := by decide +kernel
theorem dX4_turn_45 : decode cX4_turn 45 = .ok (.iload_n 3, 1) := by decide +kernel
theorem dX4_turn_46 : decode cX4_turn 46 = .ok (.ireturn, 1) := by decide +kernel
theorem dX4_as_0 : decode cX4_as 0 = .ok (.aload_n 0, 1) := by decide +kernel
theorem dX4_as_1 : decode cX4_as 1 = .ok (.getfield 10, 3) := by decide +kernel
theorem dX4_as_4 : decode cX4_as 4 = .ok (.iload_n 1, 1) := by decide +kernel
theorem dX4_as_5 : decode cX4_as 5 = .ok (.invokevirtual 93, 3) := by decide +kernel
theorem dX4_as_8 : decode cX4_as 8 = .ok (.ifCond .eq 10, 3) := by decide +kernel
theorem dX4_as_11 : decode cX4_as 11 = .ok (.iload_n 2, 1) := by decide +kernel
theorem dX4_as_12 : decode cX4_as 12 = .ok (.invokestatic 82, 3) := by decide +kernel
theorem dX4_as_15 : decode cX4_as 15 = .ok (.ifCond .ne 10, 3) := by decide +kernel
theorem dX4_as_18 : decode cX4_as 18 = .ok (.aload_n 0, 1) := by decide +kernel
theorem dX4_as_19 : decode cX4_as 19 = .ok (.ldc 44, 2) := by decide +kernel
theorem dX4_as_21 : decode cX4_as 21 = .ok (.invokevirtual 45, 3) := by decide +kernel
theorem dX4_as_24 : decode cX4_as 24 = .ok (.ireturn, 1) := by decide +kernel
theorem dX4_as_25 : decode cX4_as 25 = .ok (.aload_n 0, 1) := by decide +kernel
theorem dX4_as_26 : decode cX4_as 26 = .ok (.getfield 10, 3) := by decide +kernel
theorem dX4_as_29 : decode cX4_as 29 = .ok (.getfield 96, 3) := by decide +kernel
theorem dX4_as_32 : decode cX4_as 32 = .ok (.iload_n 1, 1) := by decide +kernel
theorem dX4_as_33 : decode cX4_as 33 = .ok (.iaload, 1) := by decide +kernel
theorem dX4_as_34 : decode cX4_as 34 = .ok (.iload_n 2, 1) := by decide +kernel
theorem dX4_as_35 : decode cX4_as 35 = .ok (.invokestatic 114, 3) := by decide +kernel
theorem dX4_as_38 : decode cX4_as 38 = .ok (.ifCond .ne 10, 3) := by decide +kernel
theorem dX4_as_41 : decode cX4_as 41 = .ok (.aload_n 0, 1) := by decide +kernel
theorem dX4_as_42 : decode cX4_as 42 = .ok (.ldc 118, 2) := by decide +kernel
theorem dX4_as_44 : decode cX4_as 44 = .ok (.invokevirtual 45, 3) := by decide +kernel
theorem dX4_as_47 : decode cX4_as 47 = .ok (.ireturn, 1) := by decide +kernel
theorem dX4_as_48 : decode cX4_as 48 = .ok (.aload_n 0, 1) := by decide +kernel
theorem dX4_as_49 : decode cX4_as 49 = .ok (.getfield 10, 3) := by decide +kernel
theorem dX4_as_52 : decode cX4_as 52 = .ok (.getfield 99, 3) := by decide +kernel
theorem dX4_as_55 : decode cX4_as 55 = .ok (.iload_n 1, 1) := by decide +kernel
theorem dX4_as_56 : decode cX4_as 56 = .ok (.iaload, 1) := by decide +kernel
theorem dX4_as_57 : decode cX4_as 57 = .ok (.ireturn, 1) := by decide +kernel
theorem dX4_counts_0 : decode cX4_counts 0 = .ok (.aload_n 0, 1) := by decide +kernel
theorem dX4_counts_1 : decode cX4_counts 1 = .ok (.getfield 10, 3) := by decide +kernel
theorem dX4_counts_4 : decode cX4_counts 4 = .ok (.iload_n 1, 1) := by decide +kernel
theorem dX4_counts_5 : decode cX4_counts 5 = .ok (.invokevirtual 93, 3) := by decide +kernel
theorem dX4_counts_8 : decode cX4_counts 8 = .ok (.ifCond .eq 10, 3) := by decide +kernel
theorem dX4_counts_11 : decode cX4_counts 11 = .ok (.iload_n 2, 1) := by decide +kernel
theorem dX4_counts_12 : decode cX4_counts 12 = .ok (.invokestatic 40, 3) := by decide +kernel
theorem dX4_counts_15 : decode cX4_counts 15 = .ok (.ifCond .ne 10, 3) := by decide +kernel
theorem dX4_counts_18 : decode cX4_counts 18 = .ok (.aload_n 0, 1) := by decide +kernel
theorem dX4_counts_19 : decode cX4_counts 19 = .ok (.ldc 44, 2) := by decide +kernel
theorem dX4_counts_21 : decode cX4_counts 21 = .ok (.invokevirtual 45, 3) := by decide +kernel
theorem dX4_counts_24 : decode cX4_counts 24 = .ok (.ireturn, 1) := by decide +kernel
theorem dX4_counts_25 : decode cX4_counts 25 = .ok (.aload_n 0, 1) := by decide +kernel
theorem dX4_counts_26 : decode cX4_counts 26 = .ok (.getfield 10, 3) := by decide +kernel
theorem dX4_counts_29 : decode cX4_counts 29 = .ok (.getfield 96, 3) := by decide +kernel
theorem dX4_counts_32 : decode cX4_counts 32 = .ok (.iload_n 1, 1) := by decide +kernel
theorem dX4_counts_33 : decode cX4_counts 33 = .ok (.iaload, 1) := by decide +kernel
theorem dX4_counts_34 : decode cX4_counts 34 = .ok (.iload_n 2, 1) := by decide +kernel
theorem dX4_counts_35 : decode cX4_counts 35 = .ok (.iload_n 2, 1) := by decide +kernel
theorem dX4_counts_36 : decode cX4_counts 36 = .ok (.aload_n 0, 1) := by decide +kernel
theorem dX4_counts_37 : decode cX4_counts 37 = .ok (.getfield 10, 3) := by decide +kernel
theorem dX4_counts_40 : decode cX4_counts 40 = .ok (.getfield 119, 3) := by decide +kernel
theorem dX4_counts_43 : decode cX4_counts 43 = .ok (.invokestatic 122, 3) := by decide +kernel
theorem dX4_counts_46 : decode cX4_counts 46 = .ok (.aload_n 0, 1) := by decide +kernel
theorem dX4_counts_47 : decode cX4_counts 47 = .ok (.getfield 10, 3) := by decide +kernel
theorem dX4_counts_50 : decode cX4_counts 50 = .ok (.getfield 125, 3) := by decide +kernel
theorem dX4_counts_53 : decode cX4_counts 53 = .ok (.invokestatic 128, 3) := by decide +kernel
theorem dX4_counts_56 : decode cX4_counts 56 = .ok (.ireturn, 1) := by decide +kernel
theorem dX4_minutes_0 : decode cX4_minutes 0 = .ok (.iload_n 1, 1) := by decide +kernel
theorem dX4_minutes_1 : decode cX4_minutes 1 = .ok (.iconst 1, 1) := by decide +kernel
theorem dX4_minutes_2 : decode cX4_minutes 2 = .ok (.bipush 100, 2) := by decide +kernel
theorem dX4_minutes_4 : decode cX4_minutes 4 = .ok (.invokestatic 67, 3) := by decide +kernel
theorem dX4_minutes_7 : decode cX4_minutes 7 = .ok (.ifCond .ne 10, 3) := by decide +kernel
theorem dX4_minutes_10 : decode cX4_minutes 10 = .ok (.aload_n 0, 1) := by decide +kernel
theorem dX4_minutes_11 : decode cX4_minutes 11 = .ok (.ldc 44, 2) := by decide +kernel
theorem dX4_minutes_13 : decode cX4_minutes 13 = .ok (.invokevirtual 45, 3) := by decide +kernel
theorem dX4_minutes_16 : decode cX4_minutes 16 = .ok (.ireturn, 1) := by decide +kernel
theorem dX4_minutes_17 : decode cX4_minutes 17 = .ok (.aload_n 0, 1) := by decide +kernel
theorem dX4_minutes_18 : decode cX4_minutes 18 = .ok (.getfield 10, 3) := by decide +kernel
theorem dX4_minutes_21 : decode cX4_minutes 21 = .ok (.getfield 125, 3) := by decide +kernel
theorem dX4_minutes_24 : decode cX4_minutes 24 = .ok (.ldc 132, 2) := by decide +kernel
theorem dX4_minutes_26 : decode cX4_minutes 26 = .ok (.iload_n 1, 1) := by decide +kernel
theorem dX4_minutes_27 : decode cX4_minutes 27 = .ok (.isub, 1) := by decide +kernel
theorem dX4_minutes_28 : decode cX4_minutes 28 = .ok (.if_icmp .le 10, 3) := by decide +kernel
theorem dX4_minutes_31 : decode cX4_minutes 31 = .ok (.aload_n 0, 1) := by decide +kernel
theorem dX4_minutes_32 : decode cX4_minutes 32 = .ok (.ldc 133, 2) := by decide +kernel
theorem dX4_minutes_34 : decode cX4_minutes 34 = .ok (.invokevirtual 45, 3) := by decide +kernel
theorem dX4_minutes_37 : decode cX4_minutes 37 = .ok (.ireturn, 1) := by decide +kernel
theorem dX4_minutes_38 : decode cX4_minutes 38 = .ok (.aload_n 0, 1) := by decide +kernel
theorem dX4_minutes_39 : decode cX4_minutes 39 = .ok (.getfield 10, 3) := by decide +kernel
theorem dX4_minutes_42 : decode cX4_minutes 42 = .ok (.iload_n 1, 1) := by decide +kernel
theorem dX4_minutes_43 : decode cX4_minutes 43 = .ok (.invokevirtual 134, 3) := by decide +kernel
theorem dX4_minutes_46 : decode cX4_minutes 46 = .ok (.aload_n 0, 1) := by decide +kernel
theorem dX4_minutes_47 : decode cX4_minutes 47 = .ok (.getfield 10, 3) := by decide +kernel
theorem dX4_minutes_50 : decode cX4_minutes 50 = .ok (.invokevirtual 138, 3) := by decide +kernel
theorem dX4_minutes_53 : decode cX4_minutes 53 = .ok (.ireturn, 1) := by decide +kernel
theorem dX4_now_0 : decode cX4_now 0 = .ok (.iload_n 1, 1) := by decide +kernel
theorem dX4_now_1 : decode cX4_now 1 = .ok (.tableswitch 114 0 6 #[43, 51, 59, 81, 89, 97, 106], 43) := by decide +kernel
theorem dX4_now_44 : decode cX4_now 44 = .ok (.aload_n 0, 1) := by decide +kernel
theorem dX4_now_45 : decode cX4_now 45 = .ok (.getfield 10, 3) := by decide +kernel
theorem dX4_now_48 : decode cX4_now 48 = .ok (.getfield 125, 3) := by decide +kernel
theorem dX4_now_51 : decode cX4_now 51 = .ok (.ireturn, 1) := by decide +kernel
theorem dX4_now_52 : decode cX4_now 52 = .ok (.aload_n 0, 1) := by decide +kernel
theorem dX4_now_53 : decode cX4_now 53 = .ok (.getfield 10, 3) := by decide +kernel
theorem dX4_now_56 : decode cX4_now 56 = .ok (.getfield 119, 3) := by decide +kernel
theorem dX4_now_59 : decode cX4_now 59 = .ok (.ireturn, 1) := by decide +kernel
theorem dX4_now_60 : decode cX4_now 60 = .ok (.aload_n 0, 1) := by decide +kernel
theorem dX4_now_61 : decode cX4_now 61 = .ok (.getfield 10, 3) := by decide +kernel
theorem dX4_now_64 : decode cX4_now 64 = .ok (.getfield 75, 3) := by decide +kernel
theorem dX4_now_67 : decode cX4_now 67 = .ok (.ifCond .ne 7, 3) := by decide +kernel
theorem dX4_now_70 : decode cX4_now 70 = .ok (.iconst (-1), 1) := by decide +kernel
theorem dX4_now_71 : decode cX4_now 71 = .ok (.goto 10, 3) := by decide +kernel
theorem dX4_now_74 : decode cX4_now 74 = .ok (.aload_n 0, 1) := by decide +kernel
theorem dX4_now_75 : decode cX4_now 75 = .ok (.getfield 10, 3) := by decide +kernel
theorem dX4_now_78 : decode cX4_now 78 = .ok (.getfield 71, 3) := by decide +kernel
theorem dX4_now_81 : decode cX4_now 81 = .ok (.ireturn, 1) := by decide +kernel
theorem dX4_now_82 : decode cX4_now 82 = .ok (.aload_n 0, 1) := by decide +kernel
theorem dX4_now_83 : decode cX4_now 83 = .ok (.getfield 10, 3) := by decide +kernel
theorem dX4_now_86 : decode cX4_now 86 = .ok (.invokevirtual 138, 3) := by decide +kernel
theorem dX4_now_89 : decode cX4_now 89 = .ok (.ireturn, 1) := by decide +kernel
theorem dX4_now_90 : decode cX4_now 90 = .ok (.aload_n 0, 1) := by decide +kernel
theorem dX4_now_91 : decode cX4_now 91 = .ok (.getfield 10, 3) := by decide +kernel
theorem dX4_now_94 : decode cX4_now 94 = .ok (.invokevirtual 142, 3) := by decide +kernel
theorem dX4_now_97 : decode cX4_now 97 = .ok (.ireturn, 1) := by decide +kernel
theorem dX4_now_98 : decode cX4_now 98 = .ok (.aload_n 0, 1) := by decide +kernel
theorem dX4_now_99 : decode cX4_now 99 = .ok (.getfield 10, 3) := by decide +kernel
theorem dX4_now_102 : decode cX4_now 102 = .ok (.iconst 0, 1) := by decide +kernel
theorem dX4_now_103 : decode cX4_now 103 = .ok (.invokevirtual 145, 3) := by decide +kernel
theorem dX4_now_106 : decode cX4_now 106 = .ok (.ireturn, 1) := by decide +kernel
theorem dX4_now_107 : decode cX4_now 107 = .ok (.aload_n 0, 1) := by decide +kernel
theorem dX4_now_108 : decode cX4_now 108 = .ok (.getfield 10, 3) := by decide +kernel
theorem dX4_now_111 : decode cX4_now 111 = .ok (.invokevirtual 148, 3) := by decide +kernel
theorem dX4_now_114 : decode cX4_now 114 = .ok (.ireturn, 1) := by decide +kernel
theorem dX4_now_115 : decode cX4_now 115 = .ok (.aload_n 0, 1) := by decide +kernel
theorem dX4_now_116 : decode cX4_now 116 = .ok (.ldc 44, 2) := by decide +kernel
theorem dX4_now_118 : decode cX4_now 118 = .ok (.invokevirtual 45, 3) := by decide +kernel
theorem dX4_now_121 : decode cX4_now 121 = .ok (.ireturn, 1) := by decide +kernel
theorem dX4_on_0 : decode cX4_on 0 = .ok (.aload_n 0, 1) := by decide +kernel
theorem dX4_on_1 : decode cX4_on 1 = .ok (.getfield 10, 3) := by decide +kernel
theorem dX4_on_4 : decode cX4_on 4 = .ok (.iload_n 1, 1) := by decide +kernel
theorem dX4_on_5 : decode cX4_on 5 = .ok (.invokevirtual 93, 3) := by decide +kernel
theorem dX4_on_8 : decode cX4_on 8 = .ok (.ifCond .eq 22, 3) := by decide +kernel
theorem dX4_on_11 : decode cX4_on 11 = .ok (.iload_n 2, 1) := by decide +kernel
theorem dX4_on_12 : decode cX4_on 12 = .ok (.iconst 0, 1) := by decide +kernel
theorem dX4_on_13 : decode cX4_on 13 = .ok (.bipush 100, 2) := by decide +kernel
theorem dX4_on_15 : decode cX4_on 15 = .ok (.invokestatic 67, 3) := by decide +kernel
theorem dX4_on_18 : decode cX4_on 18 = .ok (.ifCond .eq 12, 3) := by decide +kernel
theorem dX4_on_21 : decode cX4_on 21 = .ok (.iload_n 3, 1) := by decide +kernel
theorem dX4_on_22 : decode cX4_on 22 = .ok (.ifCond .lt 8, 3) := by decide +kernel
theorem dX4_on_25 : decode cX4_on 25 = .ok (.iload_n 3, 1) := by decide +kernel
theorem dX4_on_26 : decode cX4_on 26 = .ok (.iconst 1, 1) := by decide +kernel
theorem dX4_on_27 : decode cX4_on 27 = .ok (.if_icmp .le 10, 3) := by decide +kernel
theorem dX4_on_30 : decode cX4_on 30 = .ok (.aload_n 0, 1) := by decide +kernel
theorem dX4_on_31 : decode cX4_on 31 = .ok (.ldc 44, 2) := by decide +kernel
theorem dX4_on_33 : decode cX4_on 33 = .ok (.invokevirtual 45, 3) := by decide +kernel
theorem dX4_on_36 : decode cX4_on 36 = .ok (.ireturn, 1) := by decide +kernel
theorem dX4_on_37 : decode cX4_on 37 = .ok (.aload_n 0, 1) := by decide +kernel
theorem dX4_on_38 : decode cX4_on 38 = .ok (.invokevirtual 151, 3) := by decide +kernel
theorem dX4_on_41 : decode cX4_on 41 = .ok (.aload_n 0, 1) := by decide +kernel
theorem dX4_on_42 : decode cX4_on 42 = .ok (.getfield 16, 3) := by decide +kernel
theorem dX4_on_45 : decode cX4_on 45 = .ok (.iload_n 2, 1) := by decide +kernel
theorem dX4_on_46 : decode cX4_on 46 = .ok (.invokevirtual 134, 3) := by decide +kernel
theorem dX4_on_49 : decode cX4_on 49 = .ok (.iload_n 3, 1) := by decide +kernel
theorem dX4_on_50 : decode cX4_on 50 = .ok (.ifCond .ne 15, 3) := by decide +kernel
theorem dX4_on_53 : decode cX4_on 53 = .ok (.aload_n 0, 1) := by decide +kernel
theorem dX4_on_54 : decode cX4_on 54 = .ok (.getfield 16, 3) := by decide +kernel
theorem dX4_on_57 : decode cX4_on 57 = .ok (.getfield 99, 3) := by decide +kernel
theorem dX4_on_60 : decode cX4_on 60 = .ok (.iload_n 1, 1) := by decide +kernel
theorem dX4_on_61 : decode cX4_on 61 = .ok (.iaload, 1) := by decide +kernel
theorem dX4_on_62 : decode cX4_on 62 = .ok (.goto 12, 3) := by decide +kernel
theorem dX4_on_65 : decode cX4_on 65 = .ok (.aload_n 0, 1) := by decide +kernel
theorem dX4_on_66 : decode cX4_on 66 = .ok (.getfield 16, 3) := by decide +kernel
theorem dX4_on_69 : decode cX4_on 69 = .ok (.getfield 102, 3) := by decide +kernel
theorem dX4_on_72 : decode cX4_on 72 = .ok (.iload_n 1, 1) := by decide +kernel
theorem dX4_on_73 : decode cX4_on 73 = .ok (.iaload, 1) := by decide +kernel
theorem dX4_on_74 : decode cX4_on 74 = .ok (.ireturn, 1) := by decide +kernel
theorem dX4_worn_0 : decode cX4_worn 0 = .ok (.aload_n 0, 1) := by decide +kernel
theorem dX4_worn_1 : decode cX4_worn 1 = .ok (.getfield 10, 3) := by decide +kernel
theorem dX4_worn_4 : decode cX4_worn 4 = .ok (.iload_n 1, 1) := by decide +kernel
theorem dX4_worn_5 : decode cX4_worn 5 = .ok (.invokevirtual 58, 3) := by decide +kernel
theorem dX4_worn_8 : decode cX4_worn 8 = .ok (.ifCond .eq 13, 3) := by decide +kernel
theorem dX4_worn_11 : decode cX4_worn 11 = .ok (.iload_n 2, 1) := by decide +kernel
theorem dX4_worn_12 : decode cX4_worn 12 = .ok (.iconst 0, 1) := by decide +kernel
theorem dX4_worn_13 : decode cX4_worn 13 = .ok (.bipush 100, 2) := by decide +kernel
theorem dX4_worn_15 : decode cX4_worn 15 = .ok (.invokestatic 67, 3) := by decide +kernel
theorem dX4_worn_18 : decode cX4_worn 18 = .ok (.ifCond .ne 10, 3) := by decide +kernel
theorem dX4_worn_21 : decode cX4_worn 21 = .ok (.aload_n 0, 1) := by decide +kernel
theorem dX4_worn_22 : decode cX4_worn 22 = .ok (.ldc 44, 2) := by decide +kernel
theorem dX4_worn_24 : decode cX4_worn 24 = .ok (.invokevirtual 45, 3) := by decide +kernel
theorem dX4_worn_27 : decode cX4_worn 27 = .ok (.ireturn, 1) := by decide +kernel
theorem dX4_worn_28 : decode cX4_worn 28 = .ok (.aload_n 0, 1) := by decide +kernel
theorem dX4_worn_29 : decode cX4_worn 29 = .ok (.invokevirtual 151, 3) := by decide +kernel
theorem dX4_worn_32 : decode cX4_worn 32 = .ok (.aload_n 0, 1) := by decide +kernel
theorem dX4_worn_33 : decode cX4_worn 33 = .ok (.getfield 16, 3) := by decide +kernel
theorem dX4_worn_36 : decode cX4_worn 36 = .ok (.iload_n 2, 1) := by decide +kernel
theorem dX4_worn_37 : decode cX4_worn 37 = .ok (.invokevirtual 134, 3) := by decide +kernel
theorem dX4_worn_40 : decode cX4_worn 40 = .ok (.aload_n 0, 1) := by decide +kernel
theorem dX4_worn_41 : decode cX4_worn 41 = .ok (.getfield 16, 3) := by decide +kernel
theorem dX4_worn_44 : decode cX4_worn 44 = .ok (.getfield 64, 3) := by decide +kernel
theorem dX4_worn_47 : decode cX4_worn 47 = .ok (.iload_n 1, 1) := by decide +kernel
theorem dX4_worn_48 : decode cX4_worn 48 = .ok (.iaload, 1) := by decide +kernel
theorem dX4_worn_49 : decode cX4_worn 49 = .ok (.ireturn, 1) := by decide +kernel
theorem dX4_sleeps_0 : decode cX4_sleeps 0 = .ok (.aload_n 0, 1) := by decide +kernel
theorem dX4_sleeps_1 : decode cX4_sleeps 1 = .ok (.getfield 10, 3) := by decide +kernel
theorem dX4_sleeps_4 : decode cX4_sleeps 4 = .ok (.iload_n 1, 1) := by decide +kernel
theorem dX4_sleeps_5 : decode cX4_sleeps 5 = .ok (.invokevirtual 93, 3) := by decide +kernel
theorem dX4_sleeps_8 : decode cX4_sleeps 8 = .ok (.ifCond .ne 10, 3) := by decide +kernel
theorem dX4_sleeps_11 : decode cX4_sleeps 11 = .ok (.aload_n 0, 1) := by decide +kernel
theorem dX4_sleeps_12 : decode cX4_sleeps 12 = .ok (.ldc 44, 2) := by decide +kernel
theorem dX4_sleeps_14 : decode cX4_sleeps 14 = .ok (.invokevirtual 45, 3) := by decide +kernel
theorem dX4_sleeps_17 : decode cX4_sleeps 17 = .ok (.ireturn, 1) := by decide +kernel
theorem dX4_sleeps_18 : decode cX4_sleeps 18 = .ok (.aload_n 0, 1) := by decide +kernel
theorem dX4_sleeps_19 : decode cX4_sleeps 19 = .ok (.invokevirtual 151, 3) := by decide +kernel
theorem dX4_sleeps_22 : decode cX4_sleeps 22 = .ok (.aload_n 0, 1) := by decide +kernel
theorem dX4_sleeps_23 : decode cX4_sleeps 23 = .ok (.aload_n 0, 1) := by decide +kernel
theorem dX4_sleeps_24 : decode cX4_sleeps 24 = .ok (.getfield 16, 3) := by decide +kernel
theorem dX4_sleeps_27 : decode cX4_sleeps 27 = .ok (.iload_n 1, 1) := by decide +kernel
theorem dX4_sleeps_28 : decode cX4_sleeps 28 = .ok (.sipush 200, 3) := by decide +kernel
theorem dX4_sleeps_31 : decode cX4_sleeps 31 = .ok (.invokevirtual 154, 3) := by decide +kernel
theorem dX4_sleeps_34 : decode cX4_sleeps 34 = .ok (.invokevirtual 157, 3) := by decide +kernel
theorem dX4_sleeps_37 : decode cX4_sleeps 37 = .ok (.ireturn, 1) := by decide +kernel
theorem dX4_quiet_0 : decode cX4_quiet 0 = .ok (.aload_n 0, 1) := by decide +kernel
theorem dX4_quiet_1 : decode cX4_quiet 1 = .ok (.invokevirtual 151, 3) := by decide +kernel
theorem dX4_quiet_4 : decode cX4_quiet 4 = .ok (.aload_n 0, 1) := by decide +kernel
theorem dX4_quiet_5 : decode cX4_quiet 5 = .ok (.aload_n 0, 1) := by decide +kernel
theorem dX4_quiet_6 : decode cX4_quiet 6 = .ok (.getfield 16, 3) := by decide +kernel
theorem dX4_quiet_9 : decode cX4_quiet 9 = .ok (.sipush 200, 3) := by decide +kernel
theorem dX4_quiet_12 : decode cX4_quiet 12 = .ok (.invokevirtual 160, 3) := by decide +kernel
theorem dX4_quiet_15 : decode cX4_quiet 15 = .ok (.invokevirtual 157, 3) := by decide +kernel
theorem dX4_quiet_18 : decode cX4_quiet 18 = .ok (.ireturn, 1) := by decide +kernel
theorem dX4_bare_0 : decode cX4_bare 0 = .ok (.aload_n 0, 1) := by decide +kernel
theorem dX4_bare_1 : decode cX4_bare 1 = .ok (.getfield 10, 3) := by decide +kernel
theorem dX4_bare_4 : decode cX4_bare 4 = .ok (.iload_n 1, 1) := by decide +kernel
theorem dX4_bare_5 : decode cX4_bare 5 = .ok (.invokevirtual 58, 3) := by decide +kernel
theorem dX4_bare_8 : decode cX4_bare 8 = .ok (.ifCond .ne 10, 3) := by decide +kernel
theorem dX4_bare_11 : decode cX4_bare 11 = .ok (.aload_n 0, 1) := by decide +kernel
theorem dX4_bare_12 : decode cX4_bare 12 = .ok (.ldc 44, 2) := by decide +kernel
theorem dX4_bare_14 : decode cX4_bare 14 = .ok (.invokevirtual 45, 3) := by decide +kernel
theorem dX4_bare_17 : decode cX4_bare 17 = .ok (.ireturn, 1) := by decide +kernel
theorem dX4_bare_18 : decode cX4_bare 18 = .ok (.aload_n 0, 1) := by decide +kernel
theorem dX4_bare_19 : decode cX4_bare 19 = .ok (.invokevirtual 151, 3) := by decide +kernel
theorem dX4_bare_22 : decode cX4_bare 22 = .ok (.aload_n 0, 1) := by decide +kernel
theorem dX4_bare_23 : decode cX4_bare 23 = .ok (.aload_n 0, 1) := by decide +kernel
theorem dX4_bare_24 : decode cX4_bare 24 = .ok (.getfield 16, 3) := by decide +kernel
theorem dX4_bare_27 : decode cX4_bare 27 = .ok (.iload_n 1, 1) := by decide +kernel
theorem dX4_bare_28 : decode cX4_bare 28 = .ok (.sipush 200, 3) := by decide +kernel
theorem dX4_bare_31 : decode cX4_bare 31 = .ok (.invokevirtual 163, 3) := by decide +kernel
theorem dX4_bare_34 : decode cX4_bare 34 = .ok (.invokevirtual 157, 3) := by decide +kernel
theorem dX4_bare_37 : decode cX4_bare 37 = .ok (.ireturn, 1) := by decide +kernel
theorem dX4_guise_0 : decode cX4_guise 0 = .ok (.aload_n 0, 1) := by decide +kernel
theorem dX4_guise_1 : decode cX4_guise 1 = .ok (.getfield 10, 3) := by decide +kernel
theorem dX4_guise_4 : decode cX4_guise 4 = .ok (.iload_n 1, 1) := by decide +kernel
theorem dX4_guise_5 : decode cX4_guise 5 = .ok (.invokevirtual 58, 3) := by decide +kernel
theorem dX4_guise_8 : decode cX4_guise 8 = .ok (.ifCond .ne 10, 3) := by decide +kernel
theorem dX4_guise_11 : decode cX4_guise 11 = .ok (.aload_n 0, 1) := by decide +kernel
theorem dX4_guise_12 : decode cX4_guise 12 = .ok (.ldc 44, 2) := by decide +kernel
theorem dX4_guise_14 : decode cX4_guise 14 = .ok (.invokevirtual 45, 3) := by decide +kernel
theorem dX4_guise_17 : decode cX4_guise 17 = .ok (.ireturn, 1) := by decide +kernel
theorem dX4_guise_18 : decode cX4_guise 18 = .ok (.ldc 78, 2) := by decide +kernel
theorem dX4_guise_20 : decode cX4_guise 20 = .ok (.istore_n 2, 1) := by decide +kernel
theorem dX4_guise_21 : decode cX4_guise 21 = .ok (.bipush 101, 2) := by decide +kernel
theorem dX4_guise_23 : decode cX4_guise 23 = .ok (.istore_n 3, 1) := by decide +kernel
theorem dX4_guise_24 : decode cX4_guise 24 = .ok (.iconst 0, 1) := by decide +kernel
theorem dX4_guise_25 : decode cX4_guise 25 = .ok (.istore 4, 2) := by decide +kernel
theorem dX4_guise_27 : decode cX4_guise 27 = .ok (.iload 4, 2) := by decide +kernel
theorem dX4_guise_29 : decode cX4_guise 29 = .ok (.bipush 8, 2) := by decide +kernel
theorem dX4_guise_31 : decode cX4_guise 31 = .ok (.if_icmp .ge 48, 3) := by decide +kernel
theorem dX4_guise_34 : decode cX4_guise 34 = .ok (.aload_n 0, 1) := by decide +kernel
theorem dX4_guise_35 : decode cX4_guise 35 = .ok (.invokevirtual 151, 3) := by decide +kernel
theorem dX4_guise_38 : decode cX4_guise 38 = .ok (.aload_n 0, 1) := by decide +kernel
theorem dX4_guise_39 : decode cX4_guise 39 = .ok (.getfield 16, 3) := by decide +kernel
theorem dX4_guise_42 : decode cX4_guise 42 = .ok (.getfield 61, 3) := by decide +kernel
theorem dX4_guise_45 : decode cX4_guise 45 = .ok (.iload_n 1, 1) := by decide +kernel
theorem dX4_guise_46 : decode cX4_guise 46 = .ok (.iload 4, 2) := by decide +kernel
theorem dX4_guise_48 : decode cX4_guise 48 = .ok (.iastore, 1) := by decide +kernel
theorem dX4_guise_49 : decode cX4_guise 49 = .ok (.aload_n 0, 1) := by decide +kernel
theorem dX4_guise_50 : decode cX4_guise 50 = .ok (.getfield 16, 3) := by decide +kernel
theorem dX4_guise_53 : decode cX4_guise 53 = .ok (.iload_n 3, 1) := by decide +kernel
theorem dX4_guise_54 : decode cX4_guise 54 = .ok (.iconst 1, 1) := by decide +kernel
theorem dX4_guise_55 : decode cX4_guise 55 = .ok (.isub, 1) := by decide +kernel
theorem dX4_guise_56 : decode cX4_guise 56 = .ok (.invokevirtual 160, 3) := by decide +kernel
theorem dX4_guise_59 : decode cX4_guise 59 = .ok (.istore 5, 2) := by decide +kernel
theorem dX4_guise_61 : decode cX4_guise 61 = .ok (.iload 5, 2) := by decide +kernel
theorem dX4_guise_63 : decode cX4_guise 63 = .ok (.iload_n 3, 1) := by decide +kernel
theorem dX4_guise_64 : decode cX4_guise 64 = .ok (.if_icmp .ge 9, 3) := by decide +kernel
theorem dX4_guise_67 : decode cX4_guise 67 = .ok (.iload 5, 2) := by decide +kernel
theorem dX4_guise_69 : decode cX4_guise 69 = .ok (.istore_n 3, 1) := by decide +kernel
theorem dX4_guise_70 : decode cX4_guise 70 = .ok (.iload 4, 2) := by decide +kernel
theorem dX4_guise_72 : decode cX4_guise 72 = .ok (.istore_n 2, 1) := by decide +kernel
theorem dX4_guise_73 : decode cX4_guise 73 = .ok (.iinc 4 1, 3) := by decide +kernel
theorem dX4_guise_76 : decode cX4_guise 76 = .ok (.goto (-49), 3) := by decide +kernel
theorem dX4_guise_79 : decode cX4_guise 79 = .ok (.aload_n 0, 1) := by decide +kernel
theorem dX4_guise_80 : decode cX4_guise 80 = .ok (.iload_n 2, 1) := by decide +kernel
theorem dX4_guise_81 : decode cX4_guise 81 = .ok (.invokevirtual 166, 3) := by decide +kernel
theorem dX4_guise_84 : decode cX4_guise 84 = .ok (.ireturn, 1) := by decide +kernel
theorem dX4_guises_0 : decode cX4_guises 0 = .ok (.aload_n 0, 1) := by decide +kernel
theorem dX4_guises_1 : decode cX4_guises 1 = .ok (.getfield 10, 3) := by decide +kernel
theorem dX4_guises_4 : decode cX4_guises 4 = .ok (.iload_n 1, 1) := by decide +kernel
theorem dX4_guises_5 : decode cX4_guises 5 = .ok (.invokevirtual 58, 3) := by decide +kernel
theorem dX4_guises_8 : decode cX4_guises 8 = .ok (.ifCond .eq 19, 3) := by decide +kernel
theorem dX4_guises_11 : decode cX4_guises 11 = .ok (.aload_n 0, 1) := by decide +kernel
theorem dX4_guises_12 : decode cX4_guises 12 = .ok (.getfield 10, 3) := by decide +kernel
theorem dX4_guises_15 : decode cX4_guises 15 = .ok (.iload_n 2, 1) := by decide +kernel
theorem dX4_guises_16 : decode cX4_guises 16 = .ok (.invokevirtual 58, 3) := by decide +kernel
theorem dX4_guises_19 : decode cX4_guises 19 = .ok (.ifCond .eq 8, 3) := by decide +kernel
theorem dX4_guises_22 : decode cX4_guises 22 = .ok (.iload_n 1, 1) := by decide +kernel
theorem dX4_guises_23 : decode cX4_guises 23 = .ok (.iload_n 2, 1) := by decide +kernel
theorem dX4_guises_24 : decode cX4_guises 24 = .ok (.if_icmp .ne 10, 3) := by decide +kernel
theorem dX4_guises_27 : decode cX4_guises 27 = .ok (.aload_n 0, 1) := by decide +kernel
theorem dX4_guises_28 : decode cX4_guises 28 = .ok (.ldc 44, 2) := by decide +kernel
theorem dX4_guises_30 : decode cX4_guises 30 = .ok (.invokevirtual 45, 3) := by decide +kernel
theorem dX4_guises_33 : decode cX4_guises 33 = .ok (.ireturn, 1) := by decide +kernel
theorem dX4_guises_34 : decode cX4_guises 34 = .ok (.ldc 78, 2) := by decide +kernel
theorem dX4_guises_36 : decode cX4_guises 36 = .ok (.istore_n 3, 1) := by decide +kernel
theorem dX4_guises_37 : decode cX4_guises 37 = .ok (.bipush 61, 2) := by decide +kernel
theorem dX4_guises_39 : decode cX4_guises 39 = .ok (.istore 4, 2) := by decide +kernel
theorem dX4_guises_41 : decode cX4_guises 41 = .ok (.iconst 0, 1) := by decide +kernel
theorem dX4_guises_42 : decode cX4_guises 42 = .ok (.istore 5, 2) := by decide +kernel
theorem dX4_guises_44 : decode cX4_guises 44 = .ok (.iload 5, 2) := by decide +kernel
theorem dX4_guises_46 : decode cX4_guises 46 = .ok (.bipush 64, 2) := by decide +kernel
theorem dX4_guises_48 : decode cX4_guises 48 = .ok (.if_icmp .ge 68, 3) := by decide +kernel
theorem dX4_guises_51 : decode cX4_guises 51 = .ok (.aload_n 0, 1) := by decide +kernel
theorem dX4_guises_52 : decode cX4_guises 52 = .ok (.invokevirtual 151, 3) := by decide +kernel
theorem dX4_guises_55 : decode cX4_guises 55 = .ok (.aload_n 0, 1) := by decide +kernel
theorem dX4_guises_56 : decode cX4_guises 56 = .ok (.getfield 16, 3) := by decide +kernel
theorem dX4_guises_59 : decode cX4_guises 59 = .ok (.getfield 61, 3) := by decide +kernel
theorem dX4_guises_62 : decode cX4_guises 62 = .ok (.iload_n 1, 1) := by decide +kernel
theorem dX4_guises_63 : decode cX4_guises 63 = .ok (.iload 5, 2) := by decide +kernel
theorem dX4_guises_65 : decode cX4_guises 65 = .ok (.bipush 8, 2) := by decide +kernel
theorem dX4_guises_67 : decode cX4_guises 67 = .ok (.idiv, 1) := by decide +kernel
theorem dX4_guises_68 : decode cX4_guises 68 = .ok (.iastore, 1) := by decide +kernel
theorem dX4_guises_69 : decode cX4_guises 69 = .ok (.aload_n 0, 1) := by decide +kernel
theorem dX4_guises_70 : decode cX4_guises 70 = .ok (.getfield 16, 3) := by decide +kernel
theorem dX4_guises_73 : decode cX4_guises 73 = .ok (.getfield 61, 3) := by decide +kernel
theorem dX4_guises_76 : decode cX4_guises 76 = .ok (.iload_n 2, 1) := by decide +kernel
theorem dX4_guises_77 : decode cX4_guises 77 = .ok (.iload 5, 2) := by decide +kernel
theorem dX4_guises_79 : decode cX4_guises 79 = .ok (.bipush 8, 2) := by decide +kernel
theorem dX4_guises_81 : decode cX4_guises 81 = .ok (.irem, 1) := by decide +kernel
theorem dX4_guises_82 : decode cX4_guises 82 = .ok (.iastore, 1) := by decide +kernel
theorem dX4_guises_83 : decode cX4_guises 83 = .ok (.aload_n 0, 1) := by decide +kernel
theorem dX4_guises_84 : decode cX4_guises 84 = .ok (.getfield 16, 3) := by decide +kernel
theorem dX4_guises_87 : decode cX4_guises 87 = .ok (.iload 4, 2) := by decide +kernel
theorem dX4_guises_89 : decode cX4_guises 89 = .ok (.iconst 1, 1) := by decide +kernel
theorem dX4_guises_90 : decode cX4_guises 90 = .ok (.isub, 1) := by decide +kernel
theorem dX4_guises_91 : decode cX4_guises 91 = .ok (.invokevirtual 160, 3) := by decide +kernel
theorem dX4_guises_94 : decode cX4_guises 94 = .ok (.istore 6, 2) := by decide +kernel
theorem dX4_guises_96 : decode cX4_guises 96 = .ok (.iload 6, 2) := by decide +kernel
theorem dX4_guises_98 : decode cX4_guises 98 = .ok (.iload 4, 2) := by decide +kernel
theorem dX4_guises_100 : decode cX4_guises 100 = .ok (.if_icmp .ge 10, 3) := by decide +kernel
theorem dX4_guises_103 : decode cX4_guises 103 = .ok (.iload 6, 2) := by decide +kernel
theorem dX4_guises_105 : decode cX4_guises 105 = .ok (.istore 4, 2) := by decide +kernel
theorem dX4_guises_107 : decode cX4_guises 107 = .ok (.iload 5, 2) := by decide +kernel
theorem dX4_guises_109 : decode cX4_guises 109 = .ok (.istore_n 3, 1) := by decide +kernel
theorem dX4_guises_110 : decode cX4_guises 110 = .ok (.iinc 5 1, 3) := by decide +kernel
theorem dX4_guises_113 : decode cX4_guises 113 = .ok (.goto (-69), 3) := by decide +kernel
theorem dX4_guises_116 : decode cX4_guises 116 = .ok (.aload_n 0, 1) := by decide +kernel
theorem dX4_guises_117 : decode cX4_guises 117 = .ok (.iload_n 3, 1) := by decide +kernel
theorem dX4_guises_118 : decode cX4_guises 118 = .ok (.invokevirtual 166, 3) := by decide +kernel
theorem dX4_guises_121 : decode cX4_guises 121 = .ok (.ireturn, 1) := by decide +kernel
theorem dX4_swap_0 : decode cX4_swap 0 = .ok (.aload_n 0, 1) := by decide +kernel
theorem dX4_swap_1 : decode cX4_swap 1 = .ok (.invokevirtual 151, 3) := by decide +kernel
theorem dX4_swap_4 : decode cX4_swap 4 = .ok (.ldc 78, 2) := by decide +kernel
theorem dX4_swap_6 : decode cX4_swap 6 = .ok (.istore_n 1, 1) := by decide +kernel
theorem dX4_swap_7 : decode cX4_swap 7 = .ok (.aload_n 0, 1) := by decide +kernel
theorem dX4_swap_8 : decode cX4_swap 8 = .ok (.getfield 16, 3) := by decide +kernel
theorem dX4_swap_11 : decode cX4_swap 11 = .ok (.bipush 100, 2) := by decide +kernel
theorem dX4_swap_13 : decode cX4_swap 13 = .ok (.invokevirtual 160, 3) := by decide +kernel
theorem dX4_swap_16 : decode cX4_swap 16 = .ok (.istore_n 2, 1) := by decide +kernel
theorem dX4_swap_17 : decode cX4_swap 17 = .ok (.iconst 0, 1) := by decide +kernel
theorem dX4_swap_18 : decode cX4_swap 18 = .ok (.istore_n 3, 1) := by decide +kernel
theorem dX4_swap_19 : decode cX4_swap 19 = .ok (.iload_n 3, 1) := by decide +kernel
theorem dX4_swap_20 : decode cX4_swap 20 = .ok (.aload_n 0, 1) := by decide +kernel
theorem dX4_swap_21 : decode cX4_swap 21 = .ok (.getfield 10, 3) := by decide +kernel
theorem dX4_swap_24 : decode cX4_swap 24 = .ok (.getfield 75, 3) := by decide +kernel
theorem dX4_swap_27 : decode cX4_swap 27 = .ok (.if_icmp .ge 75, 3) := by decide +kernel
theorem dX4_swap_30 : decode cX4_swap 30 = .ok (.iload_n 3, 1) := by decide +kernel
theorem dX4_swap_31 : decode cX4_swap 31 = .ok (.iconst 1, 1) := by decide +kernel
theorem dX4_swap_32 : decode cX4_swap 32 = .ok (.iadd, 1) := by decide +kernel
theorem dX4_swap_33 : decode cX4_swap 33 = .ok (.istore 4, 2) := by decide +kernel
theorem dX4_swap_35 : decode cX4_swap 35 = .ok (.iload 4, 2) := by decide +kernel
theorem dX4_swap_37 : decode cX4_swap 37 = .ok (.aload_n 0, 1) := by decide +kernel
theorem dX4_swap_38 : decode cX4_swap 38 = .ok (.getfield 10, 3) := by decide +kernel
theorem dX4_swap_41 : decode cX4_swap 41 = .ok (.getfield 75, 3) := by decide +kernel
theorem dX4_swap_44 : decode cX4_swap 44 = .ok (.if_icmp .ge 52, 3) := by decide +kernel
theorem dX4_swap_47 : decode cX4_swap 47 = .ok (.aload_n 0, 1) := by decide +kernel
theorem dX4_swap_48 : decode cX4_swap 48 = .ok (.invokevirtual 151, 3) := by decide +kernel
theorem dX4_swap_51 : decode cX4_swap 51 = .ok (.aload_n 0, 1) := by decide +kernel
theorem dX4_swap_52 : decode cX4_swap 52 = .ok (.getfield 16, 3) := by decide +kernel
theorem dX4_swap_55 : decode cX4_swap 55 = .ok (.iload_n 3, 1) := by decide +kernel
theorem dX4_swap_56 : decode cX4_swap 56 = .ok (.iload 4, 2) := by decide +kernel
theorem dX4_swap_58 : decode cX4_swap 58 = .ok (.invokevirtual 169, 3) := by decide +kernel
theorem dX4_swap_61 : decode cX4_swap 61 = .ok (.aload_n 0, 1) := by decide +kernel
theorem dX4_swap_62 : decode cX4_swap 62 = .ok (.getfield 16, 3) := by decide +kernel
theorem dX4_swap_65 : decode cX4_swap 65 = .ok (.iload_n 2, 1) := by decide +kernel
theorem dX4_swap_66 : decode cX4_swap 66 = .ok (.iconst 1, 1) := by decide +kernel
theorem dX4_swap_67 : decode cX4_swap 67 = .ok (.isub, 1) := by decide +kernel
theorem dX4_swap_68 : decode cX4_swap 68 = .ok (.invokevirtual 160, 3) := by decide +kernel
theorem dX4_swap_71 : decode cX4_swap 71 = .ok (.istore 5, 2) := by decide +kernel
theorem dX4_swap_73 : decode cX4_swap 73 = .ok (.iload 5, 2) := by decide +kernel
theorem dX4_swap_75 : decode cX4_swap 75 = .ok (.iload_n 2, 1) := by decide +kernel
theorem dX4_swap_76 : decode cX4_swap 76 = .ok (.if_icmp .ge 14, 3) := by decide +kernel
theorem dX4_swap_79 : decode cX4_swap 79 = .ok (.iload 5, 2) := by decide +kernel
theorem dX4_swap_81 : decode cX4_swap 81 = .ok (.istore_n 2, 1) := by decide +kernel
theorem dX4_swap_82 : decode cX4_swap 82 = .ok (.bipush 10, 2) := by decide +kernel
theorem dX4_swap_84 : decode cX4_swap 84 = .ok (.iload_n 3, 1) := by decide +kernel
theorem dX4_swap_85 : decode cX4_swap 85 = .ok (.imul, 1) := by decide +kernel
theorem dX4_swap_86 : decode cX4_swap 86 = .ok (.iload 4, 2) := by decide +kernel
theorem dX4_swap_88 : decode cX4_swap 88 = .ok (.iadd, 1) := by decide +kernel
theorem dX4_swap_89 : decode cX4_swap 89 = .ok (.istore_n 1, 1) := by decide +kernel
theorem dX4_swap_90 : decode cX4_swap 90 = .ok (.iinc 4 1, 3) := by decide +kernel
theorem dX4_swap_93 : decode cX4_swap 93 = .ok (.goto (-58), 3) := by decide +kernel
theorem dX4_swap_96 : decode cX4_swap 96 = .ok (.iinc 3 1, 3) := by decide +kernel
theorem dX4_swap_99 : decode cX4_swap 99 = .ok (.goto (-80), 3) := by decide +kernel
theorem dX4_swap_102 : decode cX4_swap 102 = .ok (.aload_n 0, 1) := by decide +kernel
theorem dX4_swap_103 : decode cX4_swap 103 = .ok (.iload_n 1, 1) := by decide +kernel
theorem dX4_swap_104 : decode cX4_swap 104 = .ok (.invokevirtual 166, 3) := by decide +kernel
theorem dX4_swap_107 : decode cX4_swap 107 = .ok (.ireturn, 1) := by decide +kernel
theorem dX4_spare_0 : decode cX4_spare 0 = .ok (.iload_n 1, 1) := by decide +kernel
theorem dX4_spare_1 : decode cX4_spare 1 = .ok (.iconst 1, 1) := by decide +kernel
theorem dX4_spare_2 : decode cX4_spare 2 = .ok (.bipush 40, 2) := by decide +kernel
theorem dX4_spare_4 : decode cX4_spare 4 = .ok (.invokestatic 67, 3) := by decide +kernel
theorem dX4_spare_7 : decode cX4_spare 7 = .ok (.ifCond .eq 14, 3) := by decide +kernel
theorem dX4_spare_10 : decode cX4_spare 10 = .ok (.iload_n 2, 1) := by decide +kernel
theorem dX4_spare_11 : decode cX4_spare 11 = .ok (.iconst 0, 1) := by decide +kernel
theorem dX4_spare_12 : decode cX4_spare 12 = .ok (.sipush 594, 3) := by decide +kernel
theorem dX4_spare_15 : decode cX4_spare 15 = .ok (.invokestatic 67, 3) := by decide +kernel
theorem dX4_spare_18 : decode cX4_spare 18 = .ok (.ifCond .ne 10, 3) := by decide +kernel
theorem dX4_spare_21 : decode cX4_spare 21 = .ok (.aload_n 0, 1) := by decide +kernel
theorem dX4_spare_22 : decode cX4_spare 22 = .ok (.ldc 44, 2) := by decide +kernel
theorem dX4_spare_24 : decode cX4_spare 24 = .ok (.invokevirtual 45, 3) := by decide +kernel
theorem dX4_spare_27 : decode cX4_spare 27 = .ok (.ireturn, 1) := by decide +kernel
theorem dX4_spare_28 : decode cX4_spare 28 = .ok (.ldc 78, 2) := by decide +kernel
theorem dX4_spare_30 : decode cX4_spare 30 = .ok (.istore_n 3, 1) := by decide +kernel
theorem dX4_spare_31 : decode cX4_spare 31 = .ok (.bipush 7, 2) := by decide +kernel
theorem dX4_spare_33 : decode cX4_spare 33 = .ok (.istore 4, 2) := by decide +kernel
theorem dX4_spare_35 : decode cX4_spare 35 = .ok (.iconst 0, 1) := by decide +kernel
theorem dX4_spare_36 : decode cX4_spare 36 = .ok (.istore 5, 2) := by decide +kernel
theorem dX4_spare_38 : decode cX4_spare 38 = .ok (.iload 5, 2) := by decide +kernel
theorem dX4_spare_40 : decode cX4_spare 40 = .ok (.iconst 1, 1) := by decide +kernel
theorem dX4_spare_41 : decode cX4_spare 41 = .ok (.aload_n 0, 1) := by decide +kernel
theorem dX4_spare_42 : decode cX4_spare 42 = .ok (.getfield 10, 3) := by decide +kernel
theorem dX4_spare_45 : decode cX4_spare 45 = .ok (.getfield 75, 3) := by decide +kernel
theorem dX4_spare_48 : decode cX4_spare 48 = .ok (.ishl, 1) := by decide +kernel
theorem dX4_spare_49 : decode cX4_spare 49 = .ok (.if_icmp .ge 41, 3) := by decide +kernel
theorem dX4_spare_52 : decode cX4_spare 52 = .ok (.iload 5, 2) := by decide +kernel
theorem dX4_spare_54 : decode cX4_spare 54 = .ok (.invokestatic 173, 3) := by decide +kernel
theorem dX4_spare_57 : decode cX4_spare 57 = .ok (.istore 6, 2) := by decide +kernel
theorem dX4_spare_59 : decode cX4_spare 59 = .ok (.iload 6, 2) := by decide +kernel
theorem dX4_spare_61 : decode cX4_spare 61 = .ok (.iload 4, 2) := by decide +kernel
theorem dX4_spare_63 : decode cX4_spare 63 = .ok (.if_icmp .ge 21, 3) := by decide +kernel
theorem dX4_spare_66 : decode cX4_spare 66 = .ok (.aload_n 0, 1) := by decide +kernel
theorem dX4_spare_67 : decode cX4_spare 67 = .ok (.iload 5, 2) := by decide +kernel
theorem dX4_spare_69 : decode cX4_spare 69 = .ok (.iload_n 1, 1) := by decide +kernel
theorem dX4_spare_70 : decode cX4_spare 70 = .ok (.invokevirtual 178, 3) := by decide +kernel
theorem dX4_spare_73 : decode cX4_spare 73 = .ok (.iload_n 2, 1) := by decide +kernel
theorem dX4_spare_74 : decode cX4_spare 74 = .ok (.if_icmp .gt 10, 3) := by decide +kernel
theorem dX4_spare_77 : decode cX4_spare 77 = .ok (.iload 6, 2) := by decide +kernel
theorem dX4_spare_79 : decode cX4_spare 79 = .ok (.istore 4, 2) := by decide +kernel
theorem dX4_spare_81 : decode cX4_spare 81 = .ok (.iload 5, 2) := by decide +kernel
theorem dX4_spare_83 : decode cX4_spare 83 = .ok (.istore_n 3, 1) := by decide +kernel
theorem dX4_spare_84 : decode cX4_spare 84 = .ok (.iinc 5 1, 3) := by decide +kernel
theorem dX4_spare_87 : decode cX4_spare 87 = .ok (.goto (-49), 3) := by decide +kernel
theorem dX4_spare_90 : decode cX4_spare 90 = .ok (.aload_n 0, 1) := by decide +kernel
theorem dX4_spare_91 : decode cX4_spare 91 = .ok (.iload_n 3, 1) := by decide +kernel
theorem dX4_spare_92 : decode cX4_spare 92 = .ok (.invokevirtual 166, 3) := by decide +kernel
theorem dX4_spare_95 : decode cX4_spare 95 = .ok (.ireturn, 1) := by decide +kernel
theorem dX4_kind_0 : decode cX4_kind 0 = .ok (.aload_n 0, 1) := by decide +kernel
theorem dX4_kind_1 : decode cX4_kind 1 = .ok (.getfield 10, 3) := by decide +kernel
theorem dX4_kind_4 : decode cX4_kind 4 = .ok (.iload_n 1, 1) := by decide +kernel
theorem dX4_kind_5 : decode cX4_kind 5 = .ok (.invokevirtual 93, 3) := by decide +kernel
theorem dX4_kind_8 : decode cX4_kind 8 = .ok (.ifCond .ne 10, 3) := by decide +kernel
theorem dX4_kind_11 : decode cX4_kind 11 = .ok (.aload_n 0, 1) := by decide +kernel
theorem dX4_kind_12 : decode cX4_kind 12 = .ok (.ldc 44, 2) := by decide +kernel
theorem dX4_kind_14 : decode cX4_kind 14 = .ok (.invokevirtual 45, 3) := by decide +kernel
theorem dX4_kind_17 : decode cX4_kind 17 = .ok (.ireturn, 1) := by decide +kernel
theorem dX4_kind_18 : decode cX4_kind 18 = .ok (.ldc 78, 2) := by decide +kernel
theorem dX4_kind_20 : decode cX4_kind 20 = .ok (.istore_n 2, 1) := by decide +kernel
theorem dX4_kind_21 : decode cX4_kind 21 = .ok (.bipush 101, 2) := by decide +kernel
theorem dX4_kind_23 : decode cX4_kind 23 = .ok (.istore_n 3, 1) := by decide +kernel
theorem dX4_kind_24 : decode cX4_kind 24 = .ok (.iconst 0, 1) := by decide +kernel
theorem dX4_kind_25 : decode cX4_kind 25 = .ok (.istore 4, 2) := by decide +kernel
theorem dX4_kind_27 : decode cX4_kind 27 = .ok (.iload 4, 2) := by decide +kernel
theorem dX4_kind_29 : decode cX4_kind 29 = .ok (.bipush 6, 2) := by decide +kernel
theorem dX4_kind_31 : decode cX4_kind 31 = .ok (.if_icmp .ge 49, 3) := by decide +kernel
theorem dX4_kind_34 : decode cX4_kind 34 = .ok (.aload_n 0, 1) := by decide +kernel
theorem dX4_kind_35 : decode cX4_kind 35 = .ok (.invokevirtual 151, 3) := by decide +kernel
theorem dX4_kind_38 : decode cX4_kind 38 = .ok (.aload_n 0, 1) := by decide +kernel
theorem dX4_kind_39 : decode cX4_kind 39 = .ok (.getfield 16, 3) := by decide +kernel
theorem dX4_kind_42 : decode cX4_kind 42 = .ok (.getfield 96, 3) := by decide +kernel
theorem dX4_kind_45 : decode cX4_kind 45 = .ok (.iload_n 1, 1) := by decide +kernel
theorem dX4_kind_46 : decode cX4_kind 46 = .ok (.iload 4, 2) := by decide +kernel
theorem dX4_kind_48 : decode cX4_kind 48 = .ok (.iastore, 1) := by decide +kernel
theorem dX4_kind_49 : decode cX4_kind 49 = .ok (.aload_n 0, 1) := by decide +kernel
theorem dX4_kind_50 : decode cX4_kind 50 = .ok (.getfield 16, 3) := by decide +kernel
theorem dX4_kind_53 : decode cX4_kind 53 = .ok (.iload_n 1, 1) := by decide +kernel
theorem dX4_kind_54 : decode cX4_kind 54 = .ok (.iload_n 3, 1) := by decide +kernel
theorem dX4_kind_55 : decode cX4_kind 55 = .ok (.iconst 1, 1) := by decide +kernel
theorem dX4_kind_56 : decode cX4_kind 56 = .ok (.isub, 1) := by decide +kernel
theorem dX4_kind_57 : decode cX4_kind 57 = .ok (.invokevirtual 154, 3) := by decide +kernel
theorem dX4_kind_60 : decode cX4_kind 60 = .ok (.istore 5, 2) := by decide +kernel
theorem dX4_kind_62 : decode cX4_kind 62 = .ok (.iload 5, 2) := by decide +kernel
theorem dX4_kind_64 : decode cX4_kind 64 = .ok (.iload_n 3, 1) := by decide +kernel
theorem dX4_kind_65 : decode cX4_kind 65 = .ok (.if_icmp .ge 9, 3) := by decide +kernel
theorem dX4_kind_68 : decode cX4_kind 68 = .ok (.iload 5, 2) := by decide +kernel
theorem dX4_kind_70 : decode cX4_kind 70 = .ok (.istore_n 3, 1) := by decide +kernel
theorem dX4_kind_71 : decode cX4_kind 71 = .ok (.iload 4, 2) := by decide +kernel
theorem dX4_kind_73 : decode cX4_kind 73 = .ok (.istore_n 2, 1) := by decide +kernel
theorem dX4_kind_74 : decode cX4_kind 74 = .ok (.iinc 4 1, 3) := by decide +kernel
theorem dX4_kind_77 : decode cX4_kind 77 = .ok (.goto (-50), 3) := by decide +kernel
theorem dX4_kind_80 : decode cX4_kind 80 = .ok (.aload_n 0, 1) := by decide +kernel
theorem dX4_kind_81 : decode cX4_kind 81 = .ok (.iload_n 2, 1) := by decide +kernel
theorem dX4_kind_82 : decode cX4_kind 82 = .ok (.invokevirtual 166, 3) := by decide +kernel
theorem dX4_kind_85 : decode cX4_kind 85 = .ok (.ireturn, 1) := by decide +kernel
theorem dX4_most_0 : decode cX4_most 0 = .ok (.aload_n 0, 1) := by decide +kernel
theorem dX4_most_1 : decode cX4_most 1 = .ok (.getfield 10, 3) := by decide +kernel
theorem dX4_most_4 : decode cX4_most 4 = .ok (.iload_n 1, 1) := by decide +kernel
theorem dX4_most_5 : decode cX4_most 5 = .ok (.invokevirtual 93, 3) := by decide +kernel
theorem dX4_most_8 : decode cX4_most 8 = .ok (.ifCond .eq 13, 3) := by decide +kernel
theorem dX4_most_11 : decode cX4_most 11 = .ok (.iload_n 2, 1) := by decide +kernel
theorem dX4_most_12 : decode cX4_most 12 = .ok (.iconst 1, 1) := by decide +kernel
theorem dX4_most_13 : decode cX4_most 13 = .ok (.bipush 100, 2) := by decide +kernel
theorem dX4_most_15 : decode cX4_most 15 = .ok (.invokestatic 67, 3) := by decide +kernel
theorem dX4_most_18 : decode cX4_most 18 = .ok (.ifCond .ne 10, 3) := by decide +kernel
theorem dX4_most_21 : decode cX4_most 21 = .ok (.aload_n 0, 1) := by decide +kernel
theorem dX4_most_22 : decode cX4_most 22 = .ok (.ldc 44, 2) := by decide +kernel
theorem dX4_most_24 : decode cX4_most 24 = .ok (.invokevirtual 45, 3) := by decide +kernel
theorem dX4_most_27 : decode cX4_most 27 = .ok (.ireturn, 1) := by decide +kernel
theorem dX4_most_28 : decode cX4_most 28 = .ok (.bipush 99, 2) := by decide +kernel
theorem dX4_most_30 : decode cX4_most 30 = .ok (.istore_n 3, 1) := by decide +kernel
theorem dX4_most_31 : decode cX4_most 31 = .ok (.iload_n 3, 1) := by decide +kernel
theorem dX4_most_32 : decode cX4_most 32 = .ok (.ifCond .lt 44, 3) := by decide +kernel
theorem dX4_most_35 : decode cX4_most 35 = .ok (.aload_n 0, 1) := by decide +kernel
theorem dX4_most_36 : decode cX4_most 36 = .ok (.invokevirtual 151, 3) := by decide +kernel
theorem dX4_most_39 : decode cX4_most 39 = .ok (.aload_n 0, 1) := by decide +kernel
theorem dX4_most_40 : decode cX4_most 40 = .ok (.getfield 16, 3) := by decide +kernel
theorem dX4_most_43 : decode cX4_most 43 = .ok (.getfield 99, 3) := by decide +kernel
theorem dX4_most_46 : decode cX4_most 46 = .ok (.iload_n 1, 1) := by decide +kernel
theorem dX4_most_47 : decode cX4_most 47 = .ok (.iload_n 3, 1) := by decide +kernel
theorem dX4_most_48 : decode cX4_most 48 = .ok (.iastore, 1) := by decide +kernel
theorem dX4_most_49 : decode cX4_most 49 = .ok (.aload_n 0, 1) := by decide +kernel
theorem dX4_most_50 : decode cX4_most 50 = .ok (.getfield 16, 3) := by decide +kernel
theorem dX4_most_53 : decode cX4_most 53 = .ok (.iload_n 2, 1) := by decide +kernel
theorem dX4_most_54 : decode cX4_most 54 = .ok (.invokevirtual 134, 3) := by decide +kernel
theorem dX4_most_57 : decode cX4_most 57 = .ok (.aload_n 0, 1) := by decide +kernel
theorem dX4_most_58 : decode cX4_most 58 = .ok (.getfield 16, 3) := by decide +kernel
theorem dX4_most_61 : decode cX4_most 61 = .ok (.iload_n 1, 1) := by decide +kernel
theorem dX4_most_62 : decode cX4_most 62 = .ok (.invokevirtual 105, 3) := by decide +kernel
theorem dX4_most_65 : decode cX4_most 65 = .ok (.ifCond .eq 5, 3) := by decide +kernel
theorem dX4_most_68 : decode cX4_most 68 = .ok (.iload_n 3, 1) := by decide +kernel
theorem dX4_most_69 : decode cX4_most 69 = .ok (.ireturn, 1) := by decide +kernel
theorem dX4_most_70 : decode cX4_most 70 = .ok (.iinc 3 (-1), 3) := by decide +kernel
theorem dX4_most_73 : decode cX4_most 73 = .ok (.goto (-42), 3) := by decide +kernel
theorem dX4_most_76 : decode cX4_most 76 = .ok (.aload_n 0, 1) := by decide +kernel
theorem dX4_most_77 : decode cX4_most 77 = .ok (.ldc 78, 2) := by decide +kernel
theorem dX4_most_79 : decode cX4_most 79 = .ok (.invokevirtual 45, 3) := by decide +kernel
theorem dX4_most_82 : decode cX4_most 82 = .ok (.ireturn, 1) := by decide +kernel
theorem dX4_begin_0 : decode cX4_begin 0 = .ok (.iload_n 1, 1) := by decide +kernel
theorem dX4_begin_1 : decode cX4_begin 1 = .ok (.iconst 1, 1) := by decide +kernel
theorem dX4_begin_2 : decode cX4_begin 2 = .ok (.bipush 100, 2) := by decide +kernel
theorem dX4_begin_4 : decode cX4_begin 4 = .ok (.invokestatic 67, 3) := by decide +kernel
theorem dX4_begin_7 : decode cX4_begin 7 = .ok (.ifCond .ne 10, 3) := by decide +kernel
theorem dX4_begin_10 : decode cX4_begin 10 = .ok (.aload_n 0, 1) := by decide +kernel
theorem dX4_begin_11 : decode cX4_begin 11 = .ok (.ldc 44, 2) := by decide +kernel
theorem dX4_begin_13 : decode cX4_begin 13 = .ok (.invokevirtual 45, 3) := by decide +kernel
theorem dX4_begin_16 : decode cX4_begin 16 = .ok (.ireturn, 1) := by decide +kernel
theorem dX4_begin_17 : decode cX4_begin 17 = .ok (.ldc 78, 2) := by decide +kernel
theorem dX4_begin_19 : decode cX4_begin 19 = .ok (.istore_n 2, 1) := by decide +kernel
theorem dX4_begin_20 : decode cX4_begin 20 = .ok (.sipush 793, 3) := by decide +kernel
theorem dX4_begin_23 : decode cX4_begin 23 = .ok (.istore_n 3, 1) := by decide +kernel
theorem dX4_begin_24 : decode cX4_begin 24 = .ok (.iconst 0, 1) := by decide +kernel
theorem dX4_begin_25 : decode cX4_begin 25 = .ok (.istore 4, 2) := by decide +kernel
theorem dX4_begin_27 : decode cX4_begin 27 = .ok (.iload 4, 2) := by decide +kernel
theorem dX4_begin_29 : decode cX4_begin 29 = .ok (.aload_n 0, 1) := by decide +kernel
theorem dX4_begin_30 : decode cX4_begin 30 = .ok (.getfield 10, 3) := by decide +kernel
theorem dX4_begin_33 : decode cX4_begin 33 = .ok (.getfield 75, 3) := by decide +kernel
theorem dX4_begin_36 : decode cX4_begin 36 = .ok (.if_icmp .ge 51, 3) := by decide +kernel
theorem dX4_begin_39 : decode cX4_begin 39 = .ok (.aload_n 0, 1) := by decide +kernel
theorem dX4_begin_40 : decode cX4_begin 40 = .ok (.invokevirtual 151, 3) := by decide +kernel
theorem dX4_begin_43 : decode cX4_begin 43 = .ok (.aload_n 0, 1) := by decide +kernel
theorem dX4_begin_44 : decode cX4_begin 44 = .ok (.getfield 16, 3) := by decide +kernel
theorem dX4_begin_47 : decode cX4_begin 47 = .ok (.iload 4, 2) := by decide +kernel
theorem dX4_begin_49 : decode cX4_begin 49 = .ok (.putfield 71, 3) := by decide +kernel
theorem dX4_begin_52 : decode cX4_begin 52 = .ok (.aload_n 0, 1) := by decide +kernel
theorem dX4_begin_53 : decode cX4_begin 53 = .ok (.getfield 16, 3) := by decide +kernel
theorem dX4_begin_56 : decode cX4_begin 56 = .ok (.iload_n 1, 1) := by decide +kernel
theorem dX4_begin_57 : decode cX4_begin 57 = .ok (.invokevirtual 134, 3) := by decide +kernel
theorem dX4_begin_60 : decode cX4_begin 60 = .ok (.aload_n 0, 1) := by decide +kernel
theorem dX4_begin_61 : decode cX4_begin 61 = .ok (.getfield 16, 3) := by decide +kernel
theorem dX4_begin_64 : decode cX4_begin 64 = .ok (.invokevirtual 142, 3) := by decide +kernel
theorem dX4_begin_67 : decode cX4_begin 67 = .ok (.istore 5, 2) := by decide +kernel
theorem dX4_begin_69 : decode cX4_begin 69 = .ok (.iload 5, 2) := by decide +kernel
theorem dX4_begin_71 : decode cX4_begin 71 = .ok (.iload_n 3, 1) := by decide +kernel
theorem dX4_begin_72 : decode cX4_begin 72 = .ok (.if_icmp .ge 9, 3) := by decide +kernel
theorem dX4_begin_75 : decode cX4_begin 75 = .ok (.iload 5, 2) := by decide +kernel
theorem dX4_begin_77 : decode cX4_begin 77 = .ok (.istore_n 3, 1) := by decide +kernel
theorem dX4_begin_78 : decode cX4_begin 78 = .ok (.iload 4, 2) := by decide +kernel
theorem dX4_begin_80 : decode cX4_begin 80 = .ok (.istore_n 2, 1) := by decide +kernel
theorem dX4_begin_81 : decode cX4_begin 81 = .ok (.iinc 4 1, 3) := by decide +kernel
theorem dX4_begin_84 : decode cX4_begin 84 = .ok (.goto (-57), 3) := by decide +kernel
theorem dX4_begin_87 : decode cX4_begin 87 = .ok (.aload_n 0, 1) := by decide +kernel
theorem dX4_begin_88 : decode cX4_begin 88 = .ok (.iload_n 2, 1) := by decide +kernel
theorem dX4_begin_89 : decode cX4_begin 89 = .ok (.invokevirtual 166, 3) := by decide +kernel
theorem dX4_begin_92 : decode cX4_begin 92 = .ok (.ireturn, 1) := by decide +kernel
theorem dX4_last_0 : decode cX4_last 0 = .ok (.ldc 78, 2) := by decide +kernel
theorem dX4_last_2 : decode cX4_last 2 = .ok (.istore_n 1, 1) := by decide +kernel
theorem dX4_last_3 : decode cX4_last 3 = .ok (.iconst (-1), 1) := by decide +kernel
theorem dX4_last_4 : decode cX4_last 4 = .ok (.istore_n 2, 1) := by decide +kernel
theorem dX4_last_5 : decode cX4_last 5 = .ok (.iconst 0, 1) := by decide +kernel
theorem dX4_last_6 : decode cX4_last 6 = .ok (.istore_n 3, 1) := by decide +kernel
theorem dX4_last_7 : decode cX4_last 7 = .ok (.iload_n 3, 1) := by decide +kernel
theorem dX4_last_8 : decode cX4_last 8 = .ok (.aload_n 0, 1) := by decide +kernel
theorem dX4_last_9 : decode cX4_last 9 = .ok (.getfield 10, 3) := by decide +kernel
theorem dX4_last_12 : decode cX4_last 12 = .ok (.getfield 181, 3) := by decide +kernel
theorem dX4_last_15 : decode cX4_last 15 = .ok (.if_icmp .ge 37, 3) := by decide +kernel
theorem dX4_last_18 : decode cX4_last 18 = .ok (.aload_n 0, 1) := by decide +kernel
theorem dX4_last_19 : decode cX4_last 19 = .ok (.invokevirtual 151, 3) := by decide +kernel
theorem dX4_last_22 : decode cX4_last 22 = .ok (.aload_n 0, 1) := by decide +kernel
theorem dX4_last_23 : decode cX4_last 23 = .ok (.getfield 16, 3) := by decide +kernel
theorem dX4_last_26 : decode cX4_last 26 = .ok (.iload_n 3, 1) := by decide +kernel
theorem dX4_last_27 : decode cX4_last 27 = .ok (.sipush 200, 3) := by decide +kernel
theorem dX4_last_30 : decode cX4_last 30 = .ok (.invokevirtual 154, 3) := by decide +kernel
theorem dX4_last_33 : decode cX4_last 33 = .ok (.istore 4, 2) := by decide +kernel
theorem dX4_last_35 : decode cX4_last 35 = .ok (.iload 4, 2) := by decide +kernel
theorem dX4_last_37 : decode cX4_last 37 = .ok (.iload_n 2, 1) := by decide +kernel
theorem dX4_last_38 : decode cX4_last 38 = .ok (.if_icmp .le 8, 3) := by decide +kernel
theorem dX4_last_41 : decode cX4_last 41 = .ok (.iload 4, 2) := by decide +kernel
theorem dX4_last_43 : decode cX4_last 43 = .ok (.istore_n 2, 1) := by decide +kernel
theorem dX4_last_44 : decode cX4_last 44 = .ok (.iload_n 3, 1) := by decide +kernel
theorem dX4_last_45 : decode cX4_last 45 = .ok (.istore_n 1, 1) := by decide +kernel
theorem dX4_last_46 : decode cX4_last 46 = .ok (.iinc 3 1, 3) := by decide +kernel
theorem dX4_last_49 : decode cX4_last 49 = .ok (.goto (-42), 3) := by decide +kernel
theorem dX4_last_52 : decode cX4_last 52 = .ok (.aload_n 0, 1) := by decide +kernel
theorem dX4_last_53 : decode cX4_last 53 = .ok (.iload_n 1, 1) := by decide +kernel
theorem dX4_last_54 : decode cX4_last 54 = .ok (.invokevirtual 166, 3) := by decide +kernel
theorem dX4_last_57 : decode cX4_last 57 = .ok (.ireturn, 1) := by decide +kernel
theorem dX4_feed_0 : decode cX4_feed 0 = .ok (.iload_n 2, 1) := by decide +kernel
theorem dX4_feed_1 : decode cX4_feed 1 = .ok (.iconst 1, 1) := by decide +kernel
theorem dX4_feed_2 : decode cX4_feed 2 = .ok (.iconst 4, 1) := by decide +kernel
theorem dX4_feed_3 : decode cX4_feed 3 = .ok (.invokestatic 67, 3) := by decide +kernel
theorem dX4_feed_6 : decode cX4_feed 6 = .ok (.ifCond .ne 10, 3) := by decide +kernel
theorem dX4_feed_9 : decode cX4_feed 9 = .ok (.aload_n 0, 1) := by decide +kernel
theorem dX4_feed_10 : decode cX4_feed 10 = .ok (.ldc 44, 2) := by decide +kernel
theorem dX4_feed_12 : decode cX4_feed 12 = .ok (.invokevirtual 45, 3) := by decide +kernel
theorem dX4_feed_15 : decode cX4_feed 15 = .ok (.ireturn, 1) := by decide +kernel
theorem dX4_feed_16 : decode cX4_feed 16 = .ok (.aload_n 0, 1) := by decide +kernel
theorem dX4_feed_17 : decode cX4_feed 17 = .ok (.getfield 25, 3) := by decide +kernel
theorem dX4_feed_20 : decode cX4_feed 20 = .ok (.iload_n 2, 1) := by decide +kernel
theorem dX4_feed_21 : decode cX4_feed 21 = .ok (.invokevirtual 184, 3) := by decide +kernel
theorem dX4_feed_24 : decode cX4_feed 24 = .ok (.ifCond .ne 10, 3) := by decide +kernel
theorem dX4_feed_27 : decode cX4_feed 27 = .ok (.aload_n 0, 1) := by decide +kernel
theorem dX4_feed_28 : decode cX4_feed 28 = .ok (.ldc 53, 2) := by decide +kernel
theorem dX4_feed_30 : decode cX4_feed 30 = .ok (.invokevirtual 45, 3) := by decide +kernel
theorem dX4_feed_33 : decode cX4_feed 33 = .ok (.ireturn, 1) := by decide +kernel
theorem dX4_feed_34 : decode cX4_feed 34 = .ok (.iload_n 2, 1) := by decide +kernel
theorem dX4_feed_35 : decode cX4_feed 35 = .ok (.iconst 1, 1) := by decide +kernel
theorem dX4_feed_36 : decode cX4_feed 36 = .ok (.isub, 1) := by decide +kernel
theorem dX4_feed_37 : decode cX4_feed 37 = .ok (.istore_n 3, 1) := by decide +kernel
theorem dX4_feed_38 : decode cX4_feed 38 = .ok (.iload_n 3, 1) := by decide +kernel
theorem dX4_feed_39 : decode cX4_feed 39 = .ok (.ifCond .lt 26, 3) := by decide +kernel
theorem dX4_feed_42 : decode cX4_feed 42 = .ok (.aload_n 0, 1) := by decide +kernel
theorem dX4_feed_43 : decode cX4_feed 43 = .ok (.getfield 25, 3) := by decide +kernel
theorem dX4_feed_46 : decode cX4_feed 46 = .ok (.iload_n 1, 1) := by decide +kernel
theorem dX4_feed_47 : decode cX4_feed 47 = .ok (.bipush 8, 2) := by decide +kernel
theorem dX4_feed_49 : decode cX4_feed 49 = .ok (.iload_n 3, 1) := by decide +kernel
theorem dX4_feed_50 : decode cX4_feed 50 = .ok (.imul, 1) := by decide +kernel
theorem dX4_feed_51 : decode cX4_feed 51 = .ok (.ishr, 1) := by decide +kernel
theorem dX4_feed_52 : decode cX4_feed 52 = .ok (.sipush 255, 3) := by decide +kernel
theorem dX4_feed_55 : decode cX4_feed 55 = .ok (.iand, 1) := by decide +kernel
theorem dX4_feed_56 : decode cX4_feed 56 = .ok (.invokevirtual 187, 3) := by decide +kernel
theorem dX4_feed_59 : decode cX4_feed 59 = .ok (.iinc 3 (-1), 3) := by decide +kernel
theorem dX4_feed_62 : decode cX4_feed 62 = .ok (.goto (-24), 3) := by decide +kernel
theorem dX4_feed_65 : decode cX4_feed 65 = .ok (.aload_n 0, 1) := by decide +kernel
theorem dX4_feed_66 : decode cX4_feed 66 = .ok (.getfield 25, 3) := by decide +kernel
theorem dX4_feed_69 : decode cX4_feed 69 = .ok (.getfield 190, 3) := by decide +kernel
theorem dX4_feed_72 : decode cX4_feed 72 = .ok (.ireturn, 1) := by decide +kernel
theorem dX4_wipe_0 : decode cX4_wipe 0 = .ok (.aload_n 0, 1) := by decide +kernel
theorem dX4_wipe_1 : decode cX4_wipe 1 = .ok (.getfield 25, 3) := by decide +kernel
theorem dX4_wipe_4 : decode cX4_wipe 4 = .ok (.getfield 190, 3) := by decide +kernel
theorem dX4_wipe_7 : decode cX4_wipe 7 = .ok (.istore_n 1, 1) := by decide +kernel
theorem dX4_wipe_8 : decode cX4_wipe 8 = .ok (.aload_n 0, 1) := by decide +kernel
theorem dX4_wipe_9 : decode cX4_wipe 9 = .ok (.getfield 25, 3) := by decide +kernel
theorem dX4_wipe_12 : decode cX4_wipe 12 = .ok (.iconst 0, 1) := by decide +kernel
theorem dX4_wipe_13 : decode cX4_wipe 13 = .ok (.putfield 190, 3) := by decide +kernel
theorem dX4_wipe_16 : decode cX4_wipe 16 = .ok (.iload_n 1, 1) := by decide +kernel
theorem dX4_wipe_17 : decode cX4_wipe 17 = .ok (.ireturn, 1) := by decide +kernel
theorem dX4_fell_0 : decode cX4_fell 0 = .ok (.aload_n 0, 1) := by decide +kernel
theorem dX4_fell_1 : decode cX4_fell 1 = .ok (.invokevirtual 151, 3) := by decide +kernel
theorem dX4_fell_4 : decode cX4_fell 4 = .ok (.aload_n 0, 1) := by decide +kernel
theorem dX4_fell_5 : decode cX4_fell 5 = .ok (.getfield 25, 3) := by decide +kernel
theorem dX4_fell_8 : decode cX4_fell 8 = .ok (.aload_n 0, 1) := by decide +kernel
theorem dX4_fell_9 : decode cX4_fell 9 = .ok (.getfield 16, 3) := by decide +kernel
theorem dX4_fell_12 : decode cX4_fell 12 = .ok (.invokevirtual 193, 3) := by decide +kernel
theorem dX4_fell_15 : decode cX4_fell 15 = .ok (.istore_n 1, 1) := by decide +kernel
theorem dX4_fell_16 : decode cX4_fell 16 = .ok (.iload_n 1, 1) := by decide +kernel
theorem dX4_fell_17 : decode cX4_fell 17 = .ok (.ifCond .lt 14, 3) := by decide +kernel
theorem dX4_fell_20 : decode cX4_fell 20 = .ok (.aload_n 0, 1) := by decide +kernel
theorem dX4_fell_21 : decode cX4_fell 21 = .ok (.getfield 10, 3) := by decide +kernel
theorem dX4_fell_24 : decode cX4_fell 24 = .ok (.aload_n 0, 1) := by decide +kernel
theorem dX4_fell_25 : decode cX4_fell 25 = .ok (.getfield 16, 3) := by decide +kernel
theorem dX4_fell_28 : decode cX4_fell 28 = .ok (.invokevirtual 197, 3) := by decide +kernel
theorem dX4_fell_31 : decode cX4_fell 31 = .ok (.aload_n 0, 1) := by decide +kernel
theorem dX4_fell_32 : decode cX4_fell 32 = .ok (.getfield 25, 3) := by decide +kernel
theorem dX4_fell_35 : decode cX4_fell 35 = .ok (.iconst 0, 1) := by decide +kernel
theorem dX4_fell_36 : decode cX4_fell 36 = .ok (.putfield 190, 3) := by decide +kernel
theorem dX4_fell_39 : decode cX4_fell 39 = .ok (.iload_n 1, 1) := by decide +kernel
theorem dX4_fell_40 : decode cX4_fell 40 = .ok (.ireturn, 1) := by decide +kernel
theorem dX4_sheet_0 : decode cX4_sheet 0 = .ok (.aload_n 0, 1) := by decide +kernel
theorem dX4_sheet_1 : decode cX4_sheet 1 = .ok (.iload_n 1, 1) := by decide +kernel
theorem dX4_sheet_2 : decode cX4_sheet 2 = .ok (.invokevirtual 201, 3) := by decide +kernel
theorem dX4_sheet_5 : decode cX4_sheet 5 = .ok (.ifCond .eq 14, 3) := by decide +kernel
theorem dX4_sheet_8 : decode cX4_sheet 8 = .ok (.iload_n 2, 1) := by decide +kernel
theorem dX4_sheet_9 : decode cX4_sheet 9 = .ok (.invokestatic 204, 3) := by decide +kernel
theorem dX4_sheet_12 : decode cX4_sheet 12 = .ok (.ifCond .ne 14, 3) := by decide +kernel
theorem dX4_sheet_15 : decode cX4_sheet 15 = .ok (.iload_n 2, 1) := by decide +kernel
theorem dX4_sheet_16 : decode cX4_sheet 16 = .ok (.ifCond .eq 10, 3) := by decide +kernel
theorem dX4_sheet_19 : decode cX4_sheet 19 = .ok (.aload_n 0, 1) := by decide +kernel
theorem dX4_sheet_20 : decode cX4_sheet 20 = .ok (.ldc 44, 2) := by decide +kernel
theorem dX4_sheet_22 : decode cX4_sheet 22 = .ok (.invokevirtual 45, 3) := by decide +kernel
theorem dX4_sheet_25 : decode cX4_sheet 25 = .ok (.ireturn, 1) := by decide +kernel
theorem dX4_sheet_26 : decode cX4_sheet 26 = .ok (.iload_n 3, 1) := by decide +kernel
theorem dX4_sheet_27 : decode cX4_sheet 27 = .ok (.ifCond .ge 10, 3) := by decide +kernel
theorem dX4_sheet_30 : decode cX4_sheet 30 = .ok (.aload_n 0, 1) := by decide +kernel
theorem dX4_sheet_31 : decode cX4_sheet 31 = .ok (.ldc 207, 2) := by decide +kernel
theorem dX4_sheet_33 : decode cX4_sheet 33 = .ok (.invokevirtual 45, 3) := by decide +kernel
theorem dX4_sheet_36 : decode cX4_sheet 36 = .ok (.ireturn, 1) := by decide +kernel
theorem dX4_sheet_37 : decode cX4_sheet 37 = .ok (.iload_n 3, 1) := by decide +kernel
theorem dX4_sheet_38 : decode cX4_sheet 38 = .ok (.bipush 40, 2) := by decide +kernel
theorem dX4_sheet_40 : decode cX4_sheet 40 = .ok (.if_icmp .le 10, 3) := by decide +kernel
theorem dX4_sheet_43 : decode cX4_sheet 43 = .ok (.aload_n 0, 1) := by decide +kernel
theorem dX4_sheet_44 : decode cX4_sheet 44 = .ok (.ldc 44, 2) := by decide +kernel
theorem dX4_sheet_46 : decode cX4_sheet 46 = .ok (.invokevirtual 45, 3) := by decide +kernel
theorem dX4_sheet_49 : decode cX4_sheet 49 = .ok (.ireturn, 1) := by decide +kernel
theorem dX4_sheet_50 : decode cX4_sheet 50 = .ok (.aload_n 0, 1) := by decide +kernel
theorem dX4_sheet_51 : decode cX4_sheet 51 = .ok (.getfield 32, 3) := by decide +kernel
theorem dX4_sheet_54 : decode cX4_sheet 54 = .ok (.iload_n 1, 1) := by decide +kernel
theorem dX4_sheet_55 : decode cX4_sheet 55 = .ok (.aaload, 1) := by decide +kernel
theorem dX4_sheet_56 : decode cX4_sheet 56 = .ok (.iload_n 2, 1) := by decide +kernel
theorem dX4_sheet_57 : decode cX4_sheet 57 = .ok (.iload_n 3, 1) := by decide +kernel
theorem dX4_sheet_58 : decode cX4_sheet 58 = .ok (.invokevirtual 208, 3) := by decide +kernel
theorem dX4_sheet_61 : decode cX4_sheet 61 = .ok (.aload_n 0, 1) := by decide +kernel
theorem dX4_sheet_62 : decode cX4_sheet 62 = .ok (.getfield 32, 3) := by decide +kernel
theorem dX4_sheet_65 : decode cX4_sheet 65 = .ok (.iload_n 1, 1) := by decide +kernel
theorem dX4_sheet_66 : decode cX4_sheet 66 = .ok (.aaload, 1) := by decide +kernel
theorem dX4_sheet_67 : decode cX4_sheet 67 = .ok (.getfield 211, 3) := by decide +kernel
theorem dX4_sheet_70 : decode cX4_sheet 70 = .ok (.ireturn, 1) := by decide +kernel
theorem dX4_write_0 : decode cX4_write 0 = .ok (.aload_n 0, 1) := by decide +kernel
theorem dX4_write_1 : decode cX4_write 1 = .ok (.iload_n 1, 1) := by decide +kernel
theorem dX4_write_2 : decode cX4_write 2 = .ok (.invokevirtual 212, 3) := by decide +kernel
theorem dX4_write_5 : decode cX4_write 5 = .ok (.istore 5, 2) := by decide +kernel
theorem dX4_write_7 : decode cX4_write 7 = .ok (.iload 5, 2) := by decide +kernel
theorem dX4_write_9 : decode cX4_write 9 = .ok (.ifCond .eq 11, 3) := by decide +kernel
theorem dX4_write_12 : decode cX4_write 12 = .ok (.aload_n 0, 1) := by decide +kernel
theorem dX4_write_13 : decode cX4_write 13 = .ok (.iload 5, 2) := by decide +kernel
theorem dX4_write_15 : decode cX4_write 15 = .ok (.invokevirtual 45, 3) := by decide +kernel
theorem dX4_write_18 : decode cX4_write 18 = .ok (.i2l, 1) := by decide +kernel
theorem dX4_write_19 : decode cX4_write 19 = .ok (.lreturn, 1) := by decide +kernel
theorem dX4_write_20 : decode cX4_write 20 = .ok (.iload_n 2, 1) := by decide +kernel
theorem dX4_write_21 : decode cX4_write 21 = .ok (.iconst 0, 1) := by decide +kernel
theorem dX4_write_22 : decode cX4_write 22 = .ok (.aload_n 0, 1) := by decide +kernel
theorem dX4_write_23 : decode cX4_write 23 = .ok (.getfield 32, 3) := by decide +kernel
theorem dX4_write_26 : decode cX4_write 26 = .ok (.iload_n 1, 1) := by decide +kernel
theorem dX4_write_27 : decode cX4_write 27 = .ok (.aaload, 1) := by decide +kernel
theorem dX4_write_28 : decode cX4_write 28 = .ok (.getfield 211, 3) := by decide +kernel
theorem dX4_write_31 : decode cX4_write 31 = .ok (.iconst 1, 1) := by decide +kernel
theorem dX4_write_32 : decode cX4_write 32 = .ok (.isub, 1) := by decide +kernel
theorem dX4_write_33 : decode cX4_write 33 = .ok (.invokestatic 67, 3) := by decide +kernel
theorem dX4_write_36 : decode cX4_write 36 = .ok (.ifCond .ne 11, 3) := by decide +kernel
theorem dX4_write_39 : decode cX4_write 39 = .ok (.aload_n 0, 1) := by decide +kernel
theorem dX4_write_40 : decode cX4_write 40 = .ok (.ldc 44, 2) := by decide +kernel
theorem dX4_write_42 : decode cX4_write 42 = .ok (.invokevirtual 45, 3) := by decide +kernel
theorem dX4_write_45 : decode cX4_write 45 = .ok (.i2l, 1) := by decide +kernel
theorem dX4_write_46 : decode cX4_write 46 = .ok (.lreturn, 1) := by decide +kernel
theorem dX4_write_47 : decode cX4_write 47 = .ok (.aload_n 0, 1) := by decide +kernel
theorem dX4_write_48 : decode cX4_write 48 = .ok (.getfield 32, 3) := by decide +kernel
theorem dX4_write_51 : decode cX4_write 51 = .ok (.iload_n 1, 1) := by decide +kernel
theorem dX4_write_52 : decode cX4_write 52 = .ok (.aaload, 1) := by decide +kernel
theorem dX4_write_53 : decode cX4_write 53 = .ok (.getfield 215, 3) := by decide +kernel
theorem dX4_write_56 : decode cX4_write 56 = .ok (.iload_n 2, 1) := by decide +kernel
theorem dX4_write_57 : decode cX4_write 57 = .ok (.laload, 1) := by decide +kernel
theorem dX4_write_58 : decode cX4_write 58 = .ok (.lstore 6, 2) := by decide +kernel
theorem dX4_write_60 : decode cX4_write 60 = .ok (.aload_n 0, 1) := by decide +kernel
theorem dX4_write_61 : decode cX4_write 61 = .ok (.getfield 32, 3) := by decide +kernel
theorem dX4_write_64 : decode cX4_write 64 = .ok (.iload_n 1, 1) := by decide +kernel
theorem dX4_write_65 : decode cX4_write 65 = .ok (.aaload, 1) := by decide +kernel
theorem dX4_write_66 : decode cX4_write 66 = .ok (.iload_n 2, 1) := by decide +kernel
theorem dX4_write_67 : decode cX4_write 67 = .ok (.lload_n 3, 1) := by decide +kernel
theorem dX4_write_68 : decode cX4_write 68 = .ok (.invokevirtual 219, 3) := by decide +kernel
theorem dX4_write_71 : decode cX4_write 71 = .ok (.lload 6, 2) := by decide +kernel
theorem dX4_write_73 : decode cX4_write 73 = .ok (.lreturn, 1) := by decide +kernel
theorem dX4_copy_0 : decode cX4_copy 0 = .ok (.aload_n 0, 1) := by decide +kernel
theorem dX4_copy_1 : decode cX4_copy 1 = .ok (.iload_n 1, 1) := by decide +kernel
theorem dX4_copy_2 : decode cX4_copy 2 = .ok (.invokevirtual 201, 3) := by decide +kernel
theorem dX4_copy_5 : decode cX4_copy 5 = .ok (.ifCond .eq 11, 3) := by decide +kernel
theorem dX4_copy_8 : decode cX4_copy 8 = .ok (.aload_n 0, 1) := by decide +kernel
theorem dX4_copy_9 : decode cX4_copy 9 = .ok (.iload_n 3, 1) := by decide +kernel
theorem dX4_copy_10 : decode cX4_copy 10 = .ok (.invokevirtual 201, 3) := by decide +kernel
theorem dX4_copy_13 : decode cX4_copy 13 = .ok (.ifCond .ne 10, 3) := by decide +kernel
theorem dX4_copy_16 : decode cX4_copy 16 = .ok (.aload_n 0, 1) := by decide +kernel
theorem dX4_copy_17 : decode cX4_copy 17 = .ok (.ldc 44, 2) := by decide +kernel
theorem dX4_copy_19 : decode cX4_copy 19 = .ok (.invokevirtual 45, 3) := by decide +kernel
theorem dX4_copy_22 : decode cX4_copy 22 = .ok (.ireturn, 1) := by decide +kernel
theorem dX4_copy_23 : decode cX4_copy 23 = .ok (.aload_n 0, 1) := by decide +kernel
theorem dX4_copy_24 : decode cX4_copy 24 = .ok (.getfield 32, 3) := by decide +kernel
theorem dX4_copy_27 : decode cX4_copy 27 = .ok (.iload_n 1, 1) := by decide +kernel
theorem dX4_copy_28 : decode cX4_copy 28 = .ok (.aaload, 1) := by decide +kernel
theorem dX4_copy_29 : decode cX4_copy 29 = .ok (.astore 6, 2) := by decide +kernel
theorem dX4_copy_31 : decode cX4_copy 31 = .ok (.aload_n 0, 1) := by decide +kernel
theorem dX4_copy_32 : decode cX4_copy 32 = .ok (.getfield 32, 3) := by decide +kernel
theorem dX4_copy_35 : decode cX4_copy 35 = .ok (.iload_n 3, 1) := by decide +kernel
theorem dX4_copy_36 : decode cX4_copy 36 = .ok (.aaload, 1) := by decide +kernel
theorem dX4_copy_37 : decode cX4_copy 37 = .ok (.astore 7, 2) := by decide +kernel
theorem dX4_copy_39 : decode cX4_copy 39 = .ok (.aload 6, 2) := by decide +kernel
theorem dX4_copy_41 : decode cX4_copy 41 = .ok (.invokevirtual 223, 3) := by decide +kernel
theorem dX4_copy_44 : decode cX4_copy 44 = .ok (.ifCond .ne 11, 3) := by decide +kernel
theorem dX4_copy_47 : decode cX4_copy 47 = .ok (.aload 7, 2) := by decide +kernel
theorem dX4_copy_49 : decode cX4_copy 49 = .ok (.invokevirtual 223, 3) := by decide +kernel
theorem dX4_copy_52 : decode cX4_copy 52 = .ok (.ifCond .eq 10, 3) := by decide +kernel
theorem dX4_copy_55 : decode cX4_copy 55 = .ok (.aload_n 0, 1) := by decide +kernel
theorem dX4_copy_56 : decode cX4_copy 56 = .ok (.ldc 226, 2) := by decide +kernel
theorem dX4_copy_58 : decode cX4_copy 58 = .ok (.invokevirtual 45, 3) := by decide +kernel
theorem dX4_copy_61 : decode cX4_copy 61 = .ok (.ireturn, 1) := by decide +kernel
theorem dX4_copy_62 : decode cX4_copy 62 = .ok (.aload 6, 2) := by decide +kernel
theorem dX4_copy_64 : decode cX4_copy 64 = .ok (.getfield 227, 3) := by decide +kernel
theorem dX4_copy_67 : decode cX4_copy 67 = .ok (.aload 7, 2) := by decide +kernel
theorem dX4_copy_69 : decode cX4_copy 69 = .ok (.getfield 227, 3) := by decide +kernel
theorem dX4_copy_72 : decode cX4_copy 72 = .ok (.if_icmp .eq 10, 3) := by decide +kernel
theorem dX4_copy_75 : decode cX4_copy 75 = .ok (.aload_n 0, 1) := by decide +kernel
theorem dX4_copy_76 : decode cX4_copy 76 = .ok (.ldc 118, 2) := by decide +kernel
theorem dX4_copy_78 : decode cX4_copy 78 = .ok (.invokevirtual 45, 3) := by decide +kernel
theorem dX4_copy_81 : decode cX4_copy 81 = .ok (.ireturn, 1) := by decide +kernel
theorem dX4_copy_82 : decode cX4_copy 82 = .ok (.aload 6, 2) := by decide +kernel
theorem dX4_copy_84 : decode cX4_copy 84 = .ok (.iload_n 2, 1) := by decide +kernel
theorem dX4_copy_85 : decode cX4_copy 85 = .ok (.iload 5, 2) := by decide +kernel
theorem dX4_copy_87 : decode cX4_copy 87 = .ok (.invokevirtual 230, 3) := by decide +kernel
theorem dX4_copy_90 : decode cX4_copy 90 = .ok (.ifCond .eq 15, 3) := by decide +kernel
theorem dX4_copy_93 : decode cX4_copy 93 = .ok (.aload 7, 2) := by decide +kernel
theorem dX4_copy_95 : decode cX4_copy 95 = .ok (.iload 4, 2) := by decide +kernel
theorem dX4_copy_97 : decode cX4_copy 97 = .ok (.iload 5, 2) := by decide +kernel
theorem dX4_copy_99 : decode cX4_copy 99 = .ok (.invokevirtual 230, 3) := by decide +kernel
theorem dX4_copy_102 : decode cX4_copy 102 = .ok (.ifCond .ne 10, 3) := by decide +kernel
theorem dX4_copy_105 : decode cX4_copy 105 = .ok (.aload_n 0, 1) := by decide +kernel
theorem dX4_copy_106 : decode cX4_copy 106 = .ok (.ldc 44, 2) := by decide +kernel
theorem dX4_copy_108 : decode cX4_copy 108 = .ok (.invokevirtual 45, 3) := by decide +kernel
theorem dX4_copy_111 : decode cX4_copy 111 = .ok (.ireturn, 1) := by decide +kernel
theorem dX4_copy_112 : decode cX4_copy 112 = .ok (.aload 6, 2) := by decide +kernel
theorem dX4_copy_114 : decode cX4_copy 114 = .ok (.getfield 215, 3) := by decide +kernel
theorem dX4_copy_117 : decode cX4_copy 117 = .ok (.iload_n 2, 1) := by decide +kernel
theorem dX4_copy_118 : decode cX4_copy 118 = .ok (.aload 7, 2) := by decide +kernel
theorem dX4_copy_120 : decode cX4_copy 120 = .ok (.getfield 215, 3) := by decide +kernel
theorem dX4_copy_123 : decode cX4_copy 123 = .ok (.iload 4, 2) := by decide +kernel
theorem dX4_copy_125 : decode cX4_copy 125 = .ok (.iload 5, 2) := by decide +kernel
theorem dX4_copy_127 : decode cX4_copy 127 = .ok (.invokestatic 233, 3) := by decide +kernel
theorem dX4_copy_130 : decode cX4_copy 130 = .ok (.iload 5, 2) := by decide +kernel
theorem dX4_copy_132 : decode cX4_copy 132 = .ok (.ireturn, 1) := by decide +kernel
theorem dX4_lays_0 : decode cX4_lays 0 = .ok (.aload_n 0, 1) := by decide +kernel
theorem dX4_lays_1 : decode cX4_lays 1 = .ok (.iload_n 1, 1) := by decide +kernel
theorem dX4_lays_2 : decode cX4_lays 2 = .ok (.invokevirtual 212, 3) := by decide +kernel
theorem dX4_lays_5 : decode cX4_lays 5 = .ok (.istore_n 2, 1) := by decide +kernel
theorem dX4_lays_6 : decode cX4_lays 6 = .ok (.iload_n 2, 1) := by decide +kernel
theorem dX4_lays_7 : decode cX4_lays 7 = .ok (.ifCond .eq 9, 3) := by decide +kernel
theorem dX4_lays_10 : decode cX4_lays 10 = .ok (.aload_n 0, 1) := by decide +kernel
theorem dX4_lays_11 : decode cX4_lays 11 = .ok (.iload_n 2, 1) := by decide +kernel
theorem dX4_lays_12 : decode cX4_lays 12 = .ok (.invokevirtual 45, 3) := by decide +kernel
theorem dX4_lays_15 : decode cX4_lays 15 = .ok (.ireturn, 1) := by decide +kernel
theorem dX4_lays_16 : decode cX4_lays 16 = .ok (.aload_n 0, 1) := by decide +kernel
theorem dX4_lays_17 : decode cX4_lays 17 = .ok (.getfield 32, 3) := by decide +kernel
theorem dX4_lays_20 : decode cX4_lays 20 = .ok (.iload_n 1, 1) := by decide +kernel
theorem dX4_lays_21 : decode cX4_lays 21 = .ok (.aaload, 1) := by decide +kernel
theorem dX4_lays_22 : decode cX4_lays 22 = .ok (.astore_n 3, 1) := by decide +kernel
theorem dX4_lays_23 : decode cX4_lays 23 = .ok (.iconst 0, 1) := by decide +kernel
theorem dX4_lays_24 : decode cX4_lays 24 = .ok (.istore 4, 2) := by decide +kernel
theorem dX4_lays_26 : decode cX4_lays 26 = .ok (.iconst 0, 1) := by decide +kernel
theorem dX4_lays_27 : decode cX4_lays 27 = .ok (.istore 5, 2) := by decide +kernel
theorem dX4_lays_29 : decode cX4_lays 29 = .ok (.iload 5, 2) := by decide +kernel
theorem dX4_lays_31 : decode cX4_lays 31 = .ok (.aload_n 3, 1) := by decide +kernel
theorem dX4_lays_32 : decode cX4_lays 32 = .ok (.getfield 211, 3) := by decide +kernel
theorem dX4_lays_35 : decode cX4_lays 35 = .ok (.if_icmp .ge 62, 3) := by decide +kernel
theorem dX4_lays_38 : decode cX4_lays 38 = .ok (.iload 5, 2) := by decide +kernel
theorem dX4_lays_40 : decode cX4_lays 40 = .ok (.aload_n 0, 1) := by decide +kernel
theorem dX4_lays_41 : decode cX4_lays 41 = .ok (.getfield 10, 3) := by decide +kernel
theorem dX4_lays_44 : decode cX4_lays 44 = .ok (.getfield 181, 3) := by decide +kernel
theorem dX4_lays_47 : decode cX4_lays 47 = .ok (.if_icmp .ge 50, 3) := by decide +kernel
theorem dX4_lays_50 : decode cX4_lays 50 = .ok (.aload_n 3, 1) := by decide +kernel
theorem dX4_lays_51 : decode cX4_lays 51 = .ok (.getfield 215, 3) := by decide +kernel
theorem dX4_lays_54 : decode cX4_lays 54 = .ok (.iload 5, 2) := by decide +kernel
theorem dX4_lays_56 : decode cX4_lays 56 = .ok (.laload, 1) := by decide +kernel
theorem dX4_lays_57 : decode cX4_lays 57 = .ok (.lstore 6, 2) := by decide +kernel
theorem dX4_lays_59 : decode cX4_lays 59 = .ok (.lload 6, 2) := by decide +kernel
theorem dX4_lays_61 : decode cX4_lays 61 = .ok (.lconst 0, 1) := by decide +kernel
theorem dX4_lays_62 : decode cX4_lays 62 = .ok (.lcmp, 1) := by decide +kernel
theorem dX4_lays_63 : decode cX4_lays 63 = .ok (.ifCond .lt 28, 3) := by decide +kernel
theorem dX4_lays_66 : decode cX4_lays 66 = .ok (.lload 6, 2) := by decide +kernel
theorem dX4_lays_68 : decode cX4_lays 68 = .ok (.ldc2_w 239, 3) := by decide +kernel
theorem dX4_lays_71 : decode cX4_lays 71 = .ok (.lcmp, 1) := by decide +kernel
theorem dX4_lays_72 : decode cX4_lays 72 = .ok (.ifCond .gt 19, 3) := by decide +kernel
theorem dX4_lays_75 : decode cX4_lays 75 = .ok (.aload_n 0, 1) := by decide +kernel
theorem dX4_lays_76 : decode cX4_lays 76 = .ok (.getfield 10, 3) := by decide +kernel
theorem dX4_lays_79 : decode cX4_lays 79 = .ok (.getfield 99, 3) := by decide +kernel
theorem dX4_lays_82 : decode cX4_lays 82 = .ok (.iload 5, 2) := by decide +kernel
theorem dX4_lays_84 : decode cX4_lays 84 = .ok (.lload 6, 2) := by decide +kernel
theorem dX4_lays_86 : decode cX4_lays 86 = .ok (.l2i, 1) := by decide +kernel
theorem dX4_lays_87 : decode cX4_lays 87 = .ok (.iastore, 1) := by decide +kernel
theorem dX4_lays_88 : decode cX4_lays 88 = .ok (.iinc 4 1, 3) := by decide +kernel
theorem dX4_lays_91 : decode cX4_lays 91 = .ok (.iinc 5 1, 3) := by decide +kernel
theorem dX4_lays_94 : decode cX4_lays 94 = .ok (.goto (-65), 3) := by decide +kernel
theorem dX4_lays_97 : decode cX4_lays 97 = .ok (.iload 4, 2) := by decide +kernel
theorem dX4_lays_99 : decode cX4_lays 99 = .ok (.ireturn, 1) := by decide +kernel
theorem dX4_book_0 : decode cX4_book 0 = .ok (.aload_n 0, 1) := by decide +kernel
theorem dX4_book_1 : decode cX4_book 1 = .ok (.iload_n 1, 1) := by decide +kernel
theorem dX4_book_2 : decode cX4_book 2 = .ok (.invokevirtual 212, 3) := by decide +kernel
theorem dX4_book_5 : decode cX4_book 5 = .ok (.istore_n 3, 1) := by decide +kernel
theorem dX4_book_6 : decode cX4_book 6 = .ok (.iload_n 3, 1) := by decide +kernel
theorem dX4_book_7 : decode cX4_book 7 = .ok (.ifCond .eq 9, 3) := by decide +kernel
theorem dX4_book_10 : decode cX4_book 10 = .ok (.aload_n 0, 1) := by decide +kernel
theorem dX4_book_11 : decode cX4_book 11 = .ok (.iload_n 3, 1) := by decide +kernel
theorem dX4_book_12 : decode cX4_book 12 = .ok (.invokevirtual 45, 3) := by decide +kernel
theorem dX4_book_15 : decode cX4_book 15 = .ok (.ireturn, 1) := by decide +kernel
theorem dX4_book_16 : decode cX4_book 16 = .ok (.aload_n 0, 1) := by decide +kernel
theorem dX4_book_17 : decode cX4_book 17 = .ok (.getfield 10, 3) := by decide +kernel
theorem dX4_book_20 : decode cX4_book 20 = .ok (.iload_n 2, 1) := by decide +kernel
theorem dX4_book_21 : decode cX4_book 21 = .ok (.invokevirtual 93, 3) := by decide +kernel
theorem dX4_book_24 : decode cX4_book 24 = .ok (.ifCond .ne 10, 3) := by decide +kernel
theorem dX4_book_27 : decode cX4_book 27 = .ok (.aload_n 0, 1) := by decide +kernel
theorem dX4_book_28 : decode cX4_book 28 = .ok (.ldc 44, 2) := by decide +kernel
theorem dX4_book_30 : decode cX4_book 30 = .ok (.invokevirtual 45, 3) := by decide +kernel
theorem dX4_book_33 : decode cX4_book 33 = .ok (.ireturn, 1) := by decide +kernel
theorem dX4_book_34 : decode cX4_book 34 = .ok (.aload_n 0, 1) := by decide +kernel
theorem dX4_book_35 : decode cX4_book 35 = .ok (.getfield 32, 3) := by decide +kernel
theorem dX4_book_38 : decode cX4_book 38 = .ok (.iload_n 1, 1) := by decide +kernel
theorem dX4_book_39 : decode cX4_book 39 = .ok (.aaload, 1) := by decide +kernel
theorem dX4_book_40 : decode cX4_book 40 = .ok (.astore 4, 2) := by decide +kernel
theorem dX4_book_42 : decode cX4_book 42 = .ok (.aload_n 0, 1) := by decide +kernel
theorem dX4_book_43 : decode cX4_book 43 = .ok (.invokevirtual 151, 3) := by decide +kernel
theorem dX4_book_46 : decode cX4_book 46 = .ok (.iconst 0, 1) := by decide +kernel
theorem dX4_book_47 : decode cX4_book 47 = .ok (.istore 5, 2) := by decide +kernel
theorem dX4_book_49 : decode cX4_book 49 = .ok (.iload 5, 2) := by decide +kernel
theorem dX4_book_51 : decode cX4_book 51 = .ok (.aload 4, 2) := by decide +kernel
theorem dX4_book_53 : decode cX4_book 53 = .ok (.getfield 211, 3) := by decide +kernel
theorem dX4_book_56 : decode cX4_book 56 = .ok (.if_icmp .ge 34, 3) := by decide +kernel
theorem dX4_book_59 : decode cX4_book 59 = .ok (.aload 4, 2) := by decide +kernel
theorem dX4_book_61 : decode cX4_book 61 = .ok (.iload 5, 2) := by decide +kernel
theorem dX4_book_63 : decode cX4_book 63 = .ok (.aload_n 0, 1) := by decide +kernel
theorem dX4_book_64 : decode cX4_book 64 = .ok (.getfield 16, 3) := by decide +kernel
theorem dX4_book_67 : decode cX4_book 67 = .ok (.getfield 99, 3) := by decide +kernel
theorem dX4_book_70 : decode cX4_book 70 = .ok (.iload_n 2, 1) := by decide +kernel
theorem dX4_book_71 : decode cX4_book 71 = .ok (.iaload, 1) := by decide +kernel
theorem dX4_book_72 : decode cX4_book 72 = .ok (.i2l, 1) := by decide +kernel
theorem dX4_book_73 : decode cX4_book 73 = .ok (.invokevirtual 219, 3) := by decide +kernel
theorem dX4_book_76 : decode cX4_book 76 = .ok (.aload_n 0, 1) := by decide +kernel
theorem dX4_book_77 : decode cX4_book 77 = .ok (.getfield 16, 3) := by decide +kernel
theorem dX4_book_80 : decode cX4_book 80 = .ok (.iconst 1, 1) := by decide +kernel
theorem dX4_book_81 : decode cX4_book 81 = .ok (.invokevirtual 134, 3) := by decide +kernel
theorem dX4_book_84 : decode cX4_book 84 = .ok (.iinc 5 1, 3) := by decide +kernel
theorem dX4_book_87 : decode cX4_book 87 = .ok (.goto (-38), 3) := by decide +kernel
theorem dX4_book_90 : decode cX4_book 90 = .ok (.aload 4, 2) := by decide +kernel
theorem dX4_book_92 : decode cX4_book 92 = .ok (.getfield 211, 3) := by decide +kernel
theorem dX4_book_95 : decode cX4_book 95 = .ok (.ireturn, 1) := by decide +kernel
theorem dX4_read_0 : decode cX4_read 0 = .ok (.aload_n 0, 1) := by decide +kernel
theorem dX4_read_1 : decode cX4_read 1 = .ok (.iload_n 1, 1) := by decide +kernel
theorem dX4_read_2 : decode cX4_read 2 = .ok (.invokevirtual 212, 3) := by decide +kernel
theorem dX4_read_5 : decode cX4_read 5 = .ok (.istore_n 3, 1) := by decide +kernel
theorem dX4_read_6 : decode cX4_read 6 = .ok (.iload_n 3, 1) := by decide +kernel
theorem dX4_read_7 : decode cX4_read 7 = .ok (.ifCond .eq 9, 3) := by decide +kernel
theorem dX4_read_10 : decode cX4_read 10 = .ok (.aload_n 0, 1) := by decide +kernel
theorem dX4_read_11 : decode cX4_read 11 = .ok (.iload_n 3, 1) := by decide +kernel
theorem dX4_read_12 : decode cX4_read 12 = .ok (.invokevirtual 45, 3) := by decide +kernel
theorem dX4_read_15 : decode cX4_read 15 = .ok (.ireturn, 1) := by decide +kernel
theorem dX4_read_16 : decode cX4_read 16 = .ok (.aload_n 0, 1) := by decide +kernel
theorem dX4_read_17 : decode cX4_read 17 = .ok (.getfield 10, 3) := by decide +kernel
theorem dX4_read_20 : decode cX4_read 20 = .ok (.iload_n 2, 1) := by decide +kernel
theorem dX4_read_21 : decode cX4_read 21 = .ok (.invokevirtual 93, 3) := by decide +kernel
theorem dX4_read_24 : decode cX4_read 24 = .ok (.ifCond .ne 10, 3) := by decide +kernel
theorem dX4_read_27 : decode cX4_read 27 = .ok (.aload_n 0, 1) := by decide +kernel
theorem dX4_read_28 : decode cX4_read 28 = .ok (.ldc 44, 2) := by decide +kernel
theorem dX4_read_30 : decode cX4_read 30 = .ok (.invokevirtual 45, 3) := by decide +kernel
theorem dX4_read_33 : decode cX4_read 33 = .ok (.ireturn, 1) := by decide +kernel
theorem dX4_read_34 : decode cX4_read 34 = .ok (.iconst 0, 1) := by decide +kernel
theorem dX4_read_35 : decode cX4_read 35 = .ok (.istore 4, 2) := by decide +kernel
theorem dX4_read_37 : decode cX4_read 37 = .ok (.iconst 0, 1) := by decide +kernel
theorem dX4_read_38 : decode cX4_read 38 = .ok (.istore 5, 2) := by decide +kernel
theorem dX4_read_40 : decode cX4_read 40 = .ok (.iload 5, 2) := by decide +kernel
theorem dX4_read_42 : decode cX4_read 42 = .ok (.bipush 6, 2) := by decide +kernel
theorem dX4_read_44 : decode cX4_read 44 = .ok (.if_icmp .ge 68, 3) := by decide +kernel
theorem dX4_read_47 : decode cX4_read 47 = .ok (.iconst 0, 1) := by decide +kernel
theorem dX4_read_48 : decode cX4_read 48 = .ok (.istore 6, 2) := by decide +kernel
theorem dX4_read_50 : decode cX4_read 50 = .ok (.iload 6, 2) := by decide +kernel
theorem dX4_read_52 : decode cX4_read 52 = .ok (.bipush 99, 2) := by decide +kernel
theorem dX4_read_54 : decode cX4_read 54 = .ok (.if_icmp .gt 52, 3) := by decide +kernel
theorem dX4_read_57 : decode cX4_read 57 = .ok (.aload_n 0, 1) := by decide +kernel
theorem dX4_read_58 : decode cX4_read 58 = .ok (.invokevirtual 151, 3) := by decide +kernel
theorem dX4_read_61 : decode cX4_read 61 = .ok (.aload_n 0, 1) := by decide +kernel
theorem dX4_read_62 : decode cX4_read 62 = .ok (.getfield 16, 3) := by decide +kernel
theorem dX4_read_65 : decode cX4_read 65 = .ok (.getfield 96, 3) := by decide +kernel
theorem dX4_read_68 : decode cX4_read 68 = .ok (.iload_n 2, 1) := by decide +kernel
theorem dX4_read_69 : decode cX4_read 69 = .ok (.iload 5, 2) := by decide +kernel
theorem dX4_read_71 : decode cX4_read 71 = .ok (.iastore, 1) := by decide +kernel
theorem dX4_read_72 : decode cX4_read 72 = .ok (.aload_n 0, 1) := by decide +kernel
theorem dX4_read_73 : decode cX4_read 73 = .ok (.getfield 16, 3) := by decide +kernel
theorem dX4_read_76 : decode cX4_read 76 = .ok (.getfield 99, 3) := by decide +kernel
theorem dX4_read_79 : decode cX4_read 79 = .ok (.iload_n 2, 1) := by decide +kernel
theorem dX4_read_80 : decode cX4_read 80 = .ok (.iload 6, 2) := by decide +kernel
theorem dX4_read_82 : decode cX4_read 82 = .ok (.iastore, 1) := by decide +kernel
theorem dX4_read_83 : decode cX4_read 83 = .ok (.aload_n 0, 1) := by decide +kernel
theorem dX4_read_84 : decode cX4_read 84 = .ok (.aload_n 0, 1) := by decide +kernel
theorem dX4_read_85 : decode cX4_read 85 = .ok (.getfield 32, 3) := by decide +kernel
theorem dX4_read_88 : decode cX4_read 88 = .ok (.iload_n 1, 1) := by decide +kernel
theorem dX4_read_89 : decode cX4_read 89 = .ok (.aaload, 1) := by decide +kernel
theorem dX4_read_90 : decode cX4_read 90 = .ok (.iload_n 2, 1) := by decide +kernel
theorem dX4_read_91 : decode cX4_read 91 = .ok (.invokevirtual 241, 3) := by decide +kernel
theorem dX4_read_94 : decode cX4_read 94 = .ok (.ifCond .eq 6, 3) := by decide +kernel
theorem dX4_read_97 : decode cX4_read 97 = .ok (.iinc 4 1, 3) := by decide +kernel
theorem dX4_read_100 : decode cX4_read 100 = .ok (.iinc 6 1, 3) := by decide +kernel
theorem dX4_read_103 : decode cX4_read 103 = .ok (.goto (-53), 3) := by decide +kernel
theorem dX4_read_106 : decode cX4_read 106 = .ok (.iinc 5 1, 3) := by decide +kernel
theorem dX4_read_109 : decode cX4_read 109 = .ok (.goto (-69), 3) := by decide +kernel
theorem dX4_read_112 : decode cX4_read 112 = .ok (.iload 4, 2) := by decide +kernel
theorem dX4_read_114 : decode cX4_read 114 = .ok (.ireturn, 1) := by decide +kernel
theorem dX4_image_0 : decode cX4_image 0 = .ok (.aload_n 0, 1) := by decide +kernel
theorem dX4_image_1 : decode cX4_image 1 = .ok (.getfield 19, 3) := by decide +kernel
theorem dX4_image_4 : decode cX4_image 4 = .ok (.aload_n 0, 1) := by decide +kernel
theorem dX4_image_5 : decode cX4_image 5 = .ok (.getfield 10, 3) := by decide +kernel
theorem dX4_image_8 : decode cX4_image 8 = .ok (.invokevirtual 197, 3) := by decide +kernel
theorem dX4_image_11 : decode cX4_image 11 = .ok (.aload_n 0, 1) := by decide +kernel
theorem dX4_image_12 : decode cX4_image 12 = .ok (.iconst 1, 1) := by decide +kernel
theorem dX4_image_13 : decode cX4_image 13 = .ok (.putfield 245, 3) := by decide +kernel
theorem dX4_image_16 : decode cX4_image 16 = .ok (.iconst 1, 1) := by decide +kernel
theorem dX4_image_17 : decode cX4_image 17 = .ok (.ireturn, 1) := by decide +kernel
theorem dX4_undo_0 : decode cX4_undo 0 = .ok (.aload_n 0, 1) := by decide +kernel
theorem dX4_undo_1 : decode cX4_undo 1 = .ok (.getfield 245, 3) := by decide +kernel
theorem dX4_undo_4 : decode cX4_undo 4 = .ok (.ifCond .ne 10, 3) := by decide +kernel
theorem dX4_undo_7 : decode cX4_undo 7 = .ok (.aload_n 0, 1) := by decide +kernel
theorem dX4_undo_8 : decode cX4_undo 8 = .ok (.ldc 78, 2) := by decide +kernel
theorem dX4_undo_10 : decode cX4_undo 10 = .ok (.invokevirtual 45, 3) := by decide +kernel
theorem dX4_undo_13 : decode cX4_undo 13 = .ok (.ireturn, 1) := by decide +kernel
theorem dX4_undo_14 : decode cX4_undo 14 = .ok (.aload_n 0, 1) := by decide +kernel
theorem dX4_undo_15 : decode cX4_undo 15 = .ok (.getfield 10, 3) := by decide +kernel
theorem dX4_undo_18 : decode cX4_undo 18 = .ok (.aload_n 0, 1) := by decide +kernel
theorem dX4_undo_19 : decode cX4_undo 19 = .ok (.getfield 19, 3) := by decide +kernel
theorem dX4_undo_22 : decode cX4_undo 22 = .ok (.invokevirtual 197, 3) := by decide +kernel
theorem dX4_undo_25 : decode cX4_undo 25 = .ok (.aload_n 0, 1) := by decide +kernel
theorem dX4_undo_26 : decode cX4_undo 26 = .ok (.getfield 10, 3) := by decide +kernel
theorem dX4_undo_29 : decode cX4_undo 29 = .ok (.getfield 181, 3) := by decide +kernel
theorem dX4_undo_32 : decode cX4_undo 32 = .ok (.ireturn, 1) := by decide +kernel
theorem dX4_tear_0 : decode cX4_tear 0 = .ok (.aload_n 0, 1) := by decide +kernel
theorem dX4_tear_1 : decode cX4_tear 1 = .ok (.getfield 245, 3) := by decide +kernel
theorem dX4_tear_4 : decode cX4_tear 4 = .ok (.ifCond .eq 7, 3) := by decide +kernel
theorem dX4_tear_7 : decode cX4_tear 7 = .ok (.iconst 1, 1) := by decide +kernel
theorem dX4_tear_8 : decode cX4_tear 8 = .ok (.goto 4, 3) := by decide +kernel
theorem dX4_tear_11 : decode cX4_tear 11 = .ok (.iconst 0, 1) := by decide +kernel
theorem dX4_tear_12 : decode cX4_tear 12 = .ok (.istore_n 1, 1) := by decide +kernel
theorem dX4_tear_13 : decode cX4_tear 13 = .ok (.aload_n 0, 1) := by decide +kernel
theorem dX4_tear_14 : decode cX4_tear 14 = .ok (.iconst 0, 1) := by decide +kernel
theorem dX4_tear_15 : decode cX4_tear 15 = .ok (.putfield 245, 3) := by decide +kernel
theorem dX4_tear_18 : decode cX4_tear 18 = .ok (.iload_n 1, 1) := by decide +kernel
theorem dX4_tear_19 : decode cX4_tear 19 = .ok (.ireturn, 1) := by decide +kernel
theorem dX4_count_0 : decode cX4_count 0 = .ok (.iload_n 1, 1) := by decide +kernel
theorem dX4_count_1 : decode cX4_count 1 = .ok (.tableswitch 63 0 3 #[31, 39, 47, 55], 31) := by decide +kernel
theorem dX4_count_32 : decode cX4_count 32 = .ok (.aload_n 0, 1) := by decide +kernel
theorem dX4_count_33 : decode cX4_count 33 = .ok (.getfield 10, 3) := by decide +kernel
theorem dX4_count_36 : decode cX4_count 36 = .ok (.getfield 181, 3) := by decide +kernel
theorem dX4_count_39 : decode cX4_count 39 = .ok (.ireturn, 1) := by decide +kernel
theorem dX4_count_40 : decode cX4_count 40 = .ok (.aload_n 0, 1) := by decide +kernel
theorem dX4_count_41 : decode cX4_count 41 = .ok (.getfield 10, 3) := by decide +kernel
theorem dX4_count_44 : decode cX4_count 44 = .ok (.getfield 75, 3) := by decide +kernel
theorem dX4_count_47 : decode cX4_count 47 = .ok (.ireturn, 1) := by decide +kernel
theorem dX4_count_48 : decode cX4_count 48 = .ok (.aload_n 0, 1) := by decide +kernel
theorem dX4_count_49 : decode cX4_count 49 = .ok (.getfield 25, 3) := by decide +kernel
theorem dX4_count_52 : decode cX4_count 52 = .ok (.getfield 190, 3) := by decide +kernel
theorem dX4_count_55 : decode cX4_count 55 = .ok (.ireturn, 1) := by decide +kernel
theorem dX4_count_56 : decode cX4_count 56 = .ok (.aload_n 0, 1) := by decide +kernel
theorem dX4_count_57 : decode cX4_count 57 = .ok (.getfield 10, 3) := by decide +kernel
theorem dX4_count_60 : decode cX4_count 60 = .ok (.invokevirtual 249, 3) := by decide +kernel
theorem dX4_count_63 : decode cX4_count 63 = .ok (.ireturn, 1) := by decide +kernel
theorem dX4_count_64 : decode cX4_count 64 = .ok (.aload_n 0, 1) := by decide +kernel
theorem dX4_count_65 : decode cX4_count 65 = .ok (.ldc 44, 2) := by decide +kernel
theorem dX4_count_67 : decode cX4_count 67 = .ok (.invokevirtual 45, 3) := by decide +kernel
theorem dX4_count_70 : decode cX4_count 70 = .ok (.ireturn, 1) := by decide +kernel
theorem dX4_status_0 : decode cX4_status 0 = .ok (.iload_n 1, 1) := by decide +kernel
theorem dX4_status_1 : decode cX4_status 1 = .ok (.iconst (-1), 1) := by decide +kernel
theorem dX4_status_2 : decode cX4_status 2 = .ok (.if_icmp .ne 43, 3) := by decide +kernel
theorem dX4_status_5 : decode cX4_status 5 = .ok (.iconst 0, 1) := by decide +kernel
theorem dX4_status_6 : decode cX4_status 6 = .ok (.istore_n 2, 1) := by decide +kernel
theorem dX4_status_7 : decode cX4_status 7 = .ok (.aload_n 0, 1) := by decide +kernel
theorem dX4_status_8 : decode cX4_status 8 = .ok (.getfield 36, 3) := by decide +kernel
theorem dX4_status_11 : decode cX4_status 11 = .ok (.astore_n 3, 1) := by decide +kernel
theorem dX4_status_12 : decode cX4_status 12 = .ok (.aload_n 3, 1) := by decide +kernel
theorem dX4_status_13 : decode cX4_status 13 = .ok (.arraylength, 1) := by decide +kernel
theorem dX4_status_14 : decode cX4_status 14 = .ok (.istore 4, 2) := by decide +kernel
theorem dX4_status_16 : decode cX4_status 16 = .ok (.iconst 0, 1) := by decide +kernel
theorem dX4_status_17 : decode cX4_status 17 = .ok (.istore 5, 2) := by decide +kernel
theorem dX4_status_19 : decode cX4_status 19 = .ok (.iload 5, 2) := by decide +kernel
theorem dX4_status_21 : decode cX4_status 21 = .ok (.iload 4, 2) := by decide +kernel
theorem dX4_status_23 : decode cX4_status 23 = .ok (.if_icmp .ge 20, 3) := by decide +kernel
theorem dX4_status_26 : decode cX4_status 26 = .ok (.aload_n 3, 1) := by decide +kernel
theorem dX4_status_27 : decode cX4_status 27 = .ok (.iload 5, 2) := by decide +kernel
theorem dX4_status_29 : decode cX4_status 29 = .ok (.iaload, 1) := by decide +kernel
theorem dX4_status_30 : decode cX4_status 30 = .ok (.istore 6, 2) := by decide +kernel
theorem dX4_status_32 : decode cX4_status 32 = .ok (.iload_n 2, 1) := by decide +kernel
theorem dX4_status_33 : decode cX4_status 33 = .ok (.iload 6, 2) := by decide +kernel
theorem dX4_status_35 : decode cX4_status 35 = .ok (.iadd, 1) := by decide +kernel
theorem dX4_status_36 : decode cX4_status 36 = .ok (.istore_n 2, 1) := by decide +kernel
theorem dX4_status_37 : decode cX4_status 37 = .ok (.iinc 5 1, 3) := by decide +kernel
theorem dX4_status_40 : decode cX4_status 40 = .ok (.goto (-21), 3) := by decide +kernel
theorem dX4_status_43 : decode cX4_status 43 = .ok (.iload_n 2, 1) := by decide +kernel
theorem dX4_status_44 : decode cX4_status 44 = .ok (.ireturn, 1) := by decide +kernel
theorem dX4_status_45 : decode cX4_status 45 = .ok (.iload_n 1, 1) := by decide +kernel
theorem dX4_status_46 : decode cX4_status 46 = .ok (.iconst 0, 1) := by decide +kernel
theorem dX4_status_47 : decode cX4_status 47 = .ok (.bipush 6, 2) := by decide +kernel
theorem dX4_status_49 : decode cX4_status 49 = .ok (.invokestatic 67, 3) := by decide +kernel
theorem dX4_status_52 : decode cX4_status 52 = .ok (.ifCond .ne 10, 3) := by decide +kernel
theorem dX4_status_55 : decode cX4_status 55 = .ok (.aload_n 0, 1) := by decide +kernel
theorem dX4_status_56 : decode cX4_status 56 = .ok (.ldc 44, 2) := by decide +kernel
theorem dX4_status_58 : decode cX4_status 58 = .ok (.invokevirtual 45, 3) := by decide +kernel
theorem dX4_status_61 : decode cX4_status 61 = .ok (.ireturn, 1) := by decide +kernel
theorem dX4_status_62 : decode cX4_status 62 = .ok (.aload_n 0, 1) := by decide +kernel
theorem dX4_status_63 : decode cX4_status 63 = .ok (.getfield 36, 3) := by decide +kernel
theorem dX4_status_66 : decode cX4_status 66 = .ok (.iload_n 1, 1) := by decide +kernel
theorem dX4_status_67 : decode cX4_status 67 = .ok (.iaload, 1) := by decide +kernel
theorem dX4_status_68 : decode cX4_status 68 = .ok (.ireturn, 1) := by decide +kernel
theorem dX4_isWithin_0 : decode cX4_isWithin 0 = .ok (.iload_n 0, 1) := by decide +kernel
theorem dX4_isWithin_1 : decode cX4_isWithin 1 = .ok (.iload_n 1, 1) := by decide +kernel
theorem dX4_isWithin_2 : decode cX4_isWithin 2 = .ok (.if_icmp .lt 12, 3) := by decide +kernel
theorem dX4_isWithin_5 : decode cX4_isWithin 5 = .ok (.iload_n 0, 1) := by decide +kernel
theorem dX4_isWithin_6 : decode cX4_isWithin 6 = .ok (.iload_n 2, 1) := by decide +kernel
theorem dX4_isWithin_7 : decode cX4_isWithin 7 = .ok (.if_icmp .gt 7, 3) := by decide +kernel
theorem dX4_isWithin_10 : decode cX4_isWithin 10 = .ok (.iconst 1, 1) := by decide +kernel
theorem dX4_isWithin_11 : decode cX4_isWithin 11 = .ok (.goto 4, 3) := by decide +kernel
theorem dX4_isWithin_14 : decode cX4_isWithin 14 = .ok (.iconst 0, 1) := by decide +kernel
theorem dX4_isWithin_15 : decode cX4_isWithin 15 = .ok (.ireturn, 1) := by decide +kernel
theorem dX4_isGuise_0 : decode cX4_isGuise 0 = .ok (.iload_n 0, 1) := by decide +kernel
theorem dX4_isGuise_1 : decode cX4_isGuise 1 = .ok (.iconst 0, 1) := by decide +kernel
theorem dX4_isGuise_2 : decode cX4_isGuise 2 = .ok (.bipush 7, 2) := by decide +kernel
theorem dX4_isGuise_4 : decode cX4_isGuise 4 = .ok (.invokestatic 67, 3) := by decide +kernel
theorem dX4_isGuise_7 : decode cX4_isGuise 7 = .ok (.ireturn, 1) := by decide +kernel
theorem dX4_isSheet_0 : decode cX4_isSheet 0 = .ok (.iload_n 1, 1) := by decide +kernel
theorem dX4_isSheet_1 : decode cX4_isSheet 1 = .ok (.iconst 0, 1) := by decide +kernel
theorem dX4_isSheet_2 : decode cX4_isSheet 2 = .ok (.aload_n 0, 1) := by decide +kernel
theorem dX4_isSheet_3 : decode cX4_isSheet 3 = .ok (.getfield 32, 3) := by decide +kernel
theorem dX4_isSheet_6 : decode cX4_isSheet 6 = .ok (.arraylength, 1) := by decide +kernel
theorem dX4_isSheet_7 : decode cX4_isSheet 7 = .ok (.iconst 1, 1) := by decide +kernel
theorem dX4_isSheet_8 : decode cX4_isSheet 8 = .ok (.isub, 1) := by decide +kernel
theorem dX4_isSheet_9 : decode cX4_isSheet 9 = .ok (.invokestatic 67, 3) := by decide +kernel
theorem dX4_isSheet_12 : decode cX4_isSheet 12 = .ok (.ireturn, 1) := by decide +kernel
theorem dX4_missingSheet_0 : decode cX4_missingSheet 0 = .ok (.aload_n 0, 1) := by decide +kernel
theorem dX4_missingSheet_1 : decode cX4_missingSheet 1 = .ok (.iload_n 1, 1) := by decide +kernel
theorem dX4_missingSheet_2 : decode cX4_missingSheet 2 = .ok (.invokevirtual 201, 3) := by decide +kernel
theorem dX4_missingSheet_5 : decode cX4_missingSheet 5 = .ok (.ifCond .ne 6, 3) := by decide +kernel
theorem dX4_missingSheet_8 : decode cX4_missingSheet 8 = .ok (.ldc 44, 2) := by decide +kernel
theorem dX4_missingSheet_10 : decode cX4_missingSheet 10 = .ok (.ireturn, 1) := by decide +kernel
theorem dX4_missingSheet_11 : decode cX4_missingSheet 11 = .ok (.aload_n 0, 1) := by decide +kernel
theorem dX4_missingSheet_12 : decode cX4_missingSheet 12 = .ok (.getfield 32, 3) := by decide +kernel
theorem dX4_missingSheet_15 : decode cX4_missingSheet 15 = .ok (.iload_n 1, 1) := by decide +kernel
theorem dX4_missingSheet_16 : decode cX4_missingSheet 16 = .ok (.aaload, 1) := by decide +kernel
theorem dX4_missingSheet_17 : decode cX4_missingSheet 17 = .ok (.invokevirtual 223, 3) := by decide +kernel
theorem dX4_missingSheet_20 : decode cX4_missingSheet 20 = .ok (.ifCond .eq 8, 3) := by decide +kernel
theorem dX4_missingSheet_23 : decode cX4_missingSheet 23 = .ok (.ldc 226, 2) := by decide +kernel
theorem dX4_missingSheet_25 : decode cX4_missingSheet 25 = .ok (.goto 4, 3) := by decide +kernel
theorem dX4_missingSheet_28 : decode cX4_missingSheet 28 = .ok (.iconst 0, 1) := by decide +kernel
theorem dX4_missingSheet_29 : decode cX4_missingSheet 29 = .ok (.ireturn, 1) := by decide +kernel
theorem dX4_tell_0 : decode cX4_tell 0 = .ok (.ldc 44, 2) := by decide +kernel
theorem dX4_tell_2 : decode cX4_tell 2 = .ok (.iload_n 1, 1) := by decide +kernel
theorem dX4_tell_3 : decode cX4_tell 3 = .ok (.isub, 1) := by decide +kernel
theorem dX4_tell_4 : decode cX4_tell 4 = .ok (.istore_n 2, 1) := by decide +kernel
theorem dX4_tell_5 : decode cX4_tell 5 = .ok (.iload_n 2, 1) := by decide +kernel
theorem dX4_tell_6 : decode cX4_tell 6 = .ok (.iconst 0, 1) := by decide +kernel
theorem dX4_tell_7 : decode cX4_tell 7 = .ok (.bipush 6, 2) := by decide +kernel
theorem dX4_tell_9 : decode cX4_tell 9 = .ok (.invokestatic 67, 3) := by decide +kernel
theorem dX4_tell_12 : decode cX4_tell 12 = .ok (.ifCond .eq 13, 3) := by decide +kernel
theorem dX4_tell_15 : decode cX4_tell 15 = .ok (.aload_n 0, 1) := by decide +kernel
theorem dX4_tell_16 : decode cX4_tell 16 = .ok (.getfield 36, 3) := by decide +kernel
theorem dX4_tell_19 : decode cX4_tell 19 = .ok (.iload_n 2, 1) := by decide +kernel
theorem dX4_tell_20 : decode cX4_tell 20 = .ok (.dup2, 1) := by decide +kernel
theorem dX4_tell_21 : decode cX4_tell 21 = .ok (.iaload, 1) := by decide +kernel
theorem dX4_tell_22 : decode cX4_tell 22 = .ok (.iconst 1, 1) := by decide +kernel
theorem dX4_tell_23 : decode cX4_tell 23 = .ok (.iadd, 1) := by decide +kernel
theorem dX4_tell_24 : decode cX4_tell 24 = .ok (.iastore, 1) := by decide +kernel
theorem dX4_tell_25 : decode cX4_tell 25 = .ok (.iload_n 1, 1) := by decide +kernel
theorem dX4_tell_26 : decode cX4_tell 26 = .ok (.ireturn, 1) := by decide +kernel
theorem dX4_answer_0 : decode cX4_answer 0 = .ok (.iload_n 1, 1) := by decide +kernel
theorem dX4_answer_1 : decode cX4_answer 1 = .ok (.ldc 78, 2) := by decide +kernel
theorem dX4_answer_3 : decode cX4_answer 3 = .ok (.if_icmp .ne 12, 3) := by decide +kernel
theorem dX4_answer_6 : decode cX4_answer 6 = .ok (.aload_n 0, 1) := by decide +kernel
theorem dX4_answer_7 : decode cX4_answer 7 = .ok (.ldc 78, 2) := by decide +kernel
theorem dX4_answer_9 : decode cX4_answer 9 = .ok (.invokevirtual 45, 3) := by decide +kernel
theorem dX4_answer_12 : decode cX4_answer 12 = .ok (.goto 4, 3) := by decide +kernel
theorem dX4_answer_15 : decode cX4_answer 15 = .ok (.iload_n 1, 1) := by decide +kernel
theorem dX4_answer_16 : decode cX4_answer 16 = .ok (.ireturn, 1) := by decide +kernel
theorem dX4_withinWait_0 : decode cX4_withinWait 0 = .ok (.iload_n 1, 1) := by decide +kernel
theorem dX4_withinWait_1 : decode cX4_withinWait 1 = .ok (.sipush 200, 3) := by decide +kernel
theorem dX4_withinWait_4 : decode cX4_withinWait 4 = .ok (.if_icmp .le 12, 3) := by decide +kernel
theorem dX4_withinWait_7 : decode cX4_withinWait 7 = .ok (.aload_n 0, 1) := by decide +kernel
theorem dX4_withinWait_8 : decode cX4_withinWait 8 = .ok (.ldc 78, 2) := by decide +kernel
theorem dX4_withinWait_10 : decode cX4_withinWait 10 = .ok (.invokevirtual 45, 3) := by decide +kernel
theorem dX4_withinWait_13 : decode cX4_withinWait 13 = .ok (.goto 4, 3) := by decide +kernel
theorem dX4_withinWait_16 : decode cX4_withinWait 16 = .ok (.iload_n 1, 1) := by decide +kernel
theorem dX4_withinWait_17 : decode cX4_withinWait 17 = .ok (.ireturn, 1) := by decide +kernel
theorem dX4_startTrial_0 : decode cX4_startTrial 0 = .ok (.aload_n 0, 1) := by decide +kernel
theorem dX4_startTrial_1 : decode cX4_startTrial 1 = .ok (.getfield 16, 3) := by decide +kernel
theorem dX4_startTrial_4 : decode cX4_startTrial 4 = .ok (.aload_n 0, 1) := by decide +kernel
theorem dX4_startTrial_5 : decode cX4_startTrial 5 = .ok (.getfield 10, 3) := by decide +kernel
theorem dX4_startTrial_8 : decode cX4_startTrial 8 = .ok (.invokevirtual 197, 3) := by decide +kernel
theorem dX4_startTrial_11 : decode cX4_startTrial 11 = .ok (.return_, 1) := by decide +kernel
theorem dX4_wearWhenOut_0 : decode cX4_wearWhenOut 0 = .ok (.aload_n 0, 1) := by decide +kernel
theorem dX4_wearWhenOut_1 : decode cX4_wearWhenOut 1 = .ok (.invokevirtual 151, 3) := by decide +kernel
theorem dX4_wearWhenOut_4 : decode cX4_wearWhenOut 4 = .ok (.aload_n 0, 1) := by decide +kernel
theorem dX4_wearWhenOut_5 : decode cX4_wearWhenOut 5 = .ok (.getfield 16, 3) := by decide +kernel
theorem dX4_wearWhenOut_8 : decode cX4_wearWhenOut 8 = .ok (.iload_n 1, 1) := by decide +kernel
theorem dX4_wearWhenOut_9 : decode cX4_wearWhenOut 9 = .ok (.invokevirtual 252, 3) := by decide +kernel
theorem dX4_wearWhenOut_12 : decode cX4_wearWhenOut 12 = .ok (.aload_n 0, 1) := by decide +kernel
theorem dX4_wearWhenOut_13 : decode cX4_wearWhenOut 13 = .ok (.getfield 16, 3) := by decide +kernel
theorem dX4_wearWhenOut_16 : decode cX4_wearWhenOut 16 = .ok (.iload_n 2, 1) := by decide +kernel
theorem dX4_wearWhenOut_17 : decode cX4_wearWhenOut 17 = .ok (.invokevirtual 134, 3) := by decide +kernel
theorem dX4_wearWhenOut_20 : decode cX4_wearWhenOut 20 = .ok (.aload_n 0, 1) := by decide +kernel
theorem dX4_wearWhenOut_21 : decode cX4_wearWhenOut 21 = .ok (.getfield 16, 3) := by decide +kernel
theorem dX4_wearWhenOut_24 : decode cX4_wearWhenOut 24 = .ok (.iload_n 1, 1) := by decide +kernel
theorem dX4_wearWhenOut_25 : decode cX4_wearWhenOut 25 = .ok (.invokevirtual 145, 3) := by decide +kernel
theorem dX4_wearWhenOut_28 : decode cX4_wearWhenOut 28 = .ok (.ireturn, 1) := by decide +kernel
theorem dX4_trialSees_0 : decode cX4_trialSees 0 = .ok (.iconst 0, 1) := by decide +kernel
theorem dX4_trialSees_1 : decode cX4_trialSees 1 = .ok (.istore_n 3, 1) := by decide +kernel
theorem dX4_trialSees_2 : decode cX4_trialSees 2 = .ok (.iload_n 3, 1) := by decide +kernel
theorem dX4_trialSees_3 : decode cX4_trialSees 3 = .ok (.aload_n 1, 1) := by decide +kernel
theorem dX4_trialSees_4 : decode cX4_trialSees 4 = .ok (.getfield 211, 3) := by decide +kernel
theorem dX4_trialSees_7 : decode cX4_trialSees 7 = .ok (.if_icmp .ge 39, 3) := by decide +kernel
theorem dX4_trialSees_10 : decode cX4_trialSees 10 = .ok (.aload_n 1, 1) := by decide +kernel
theorem dX4_trialSees_11 : decode cX4_trialSees 11 = .ok (.getfield 215, 3) := by decide +kernel
theorem dX4_trialSees_14 : decode cX4_trialSees 14 = .ok (.iload_n 3, 1) := by decide +kernel
theorem dX4_trialSees_15 : decode cX4_trialSees 15 = .ok (.laload, 1) := by decide +kernel
theorem dX4_trialSees_16 : decode cX4_trialSees 16 = .ok (.aload_n 0, 1) := by decide +kernel
theorem dX4_trialSees_17 : decode cX4_trialSees 17 = .ok (.getfield 16, 3) := by decide +kernel
theorem dX4_trialSees_20 : decode cX4_trialSees 20 = .ok (.getfield 102, 3) := by decide +kernel
theorem dX4_trialSees_23 : decode cX4_trialSees 23 = .ok (.iload_n 2, 1) := by decide +kernel
theorem dX4_trialSees_24 : decode cX4_trialSees 24 = .ok (.iaload, 1) := by decide +kernel
theorem dX4_trialSees_25 : decode cX4_trialSees 25 = .ok (.i2l, 1) := by decide +kernel
theorem dX4_trialSees_26 : decode cX4_trialSees 26 = .ok (.lcmp, 1) := by decide +kernel
theorem dX4_trialSees_27 : decode cX4_trialSees 27 = .ok (.ifCond .eq 5, 3) := by decide +kernel
theorem dX4_trialSees_30 : decode cX4_trialSees 30 = .ok (.iconst 0, 1) := by decide +kernel
theorem dX4_trialSees_31 : decode cX4_trialSees 31 = .ok (.ireturn, 1) := by decide +kernel
theorem dX4_trialSees_32 : decode cX4_trialSees 32 = .ok (.aload_n 0, 1) := by decide +kernel
theorem dX4_trialSees_33 : decode cX4_trialSees 33 = .ok (.getfield 16, 3) := by decide +kernel
theorem dX4_trialSees_36 : decode cX4_trialSees 36 = .ok (.iconst 1, 1) := by decide +kernel
theorem dX4_trialSees_37 : decode cX4_trialSees 37 = .ok (.invokevirtual 134, 3) := by decide +kernel
theorem dX4_trialSees_40 : decode cX4_trialSees 40 = .ok (.iinc 3 1, 3) := by decide +kernel
theorem dX4_trialSees_43 : decode cX4_trialSees 43 = .ok (.goto (-41), 3) := by decide +kernel
theorem dX4_trialSees_46 : decode cX4_trialSees 46 = .ok (.iconst 1, 1) := by decide +kernel
theorem dX4_trialSees_47 : decode cX4_trialSees 47 = .ok (.ireturn, 1) := by decide +kernel
theorem dX5_init_0 : decode cX5_init 0 = .ok (.aload_n 0, 1) := by decide +kernel
theorem dX5_init_1 : decode cX5_init 1 = .ok (.invokespecial 1, 3) := by decide +kernel
theorem dX5_init_4 : decode cX5_init 4 = .ok (.aload_n 0, 1) := by decide +kernel
theorem dX5_init_5 : decode cX5_init 5 = .ok (.bipush 41, 2) := by decide +kernel
theorem dX5_init_7 : decode cX5_init 7 = .ok (.newarray .int, 2) := by decide +kernel
theorem dX5_init_9 : decode cX5_init 9 = .ok (.putfield 7, 3) := by decide +kernel
theorem dX5_init_12 : decode cX5_init 12 = .ok (.aload_n 0, 1) := by decide +kernel
theorem dX5_init_13 : decode cX5_init 13 = .ok (.bipush 41, 2) := by decide +kernel
theorem dX5_init_15 : decode cX5_init 15 = .ok (.newarray .int, 2) := by decide +kernel
theorem dX5_init_17 : decode cX5_init 17 = .ok (.putfield 13, 3) := by decide +kernel
theorem dX5_init_20 : decode cX5_init 20 = .ok (.aload_n 0, 1) := by decide +kernel
theorem dX5_init_21 : decode cX5_init 21 = .ok (.bipush 41, 2) := by decide +kernel
theorem dX5_init_23 : decode cX5_init 23 = .ok (.newarray .int, 2) := by decide +kernel
theorem dX5_init_25 : decode cX5_init 25 = .ok (.putfield 16, 3) := by decide +kernel
theorem dX5_init_28 : decode cX5_init 28 = .ok (.aload_n 0, 1) := by decide +kernel
theorem dX5_init_29 : decode cX5_init 29 = .ok (.bipush 41, 2) := by decide +kernel
theorem dX5_init_31 : decode cX5_init 31 = .ok (.newarray .int, 2) := by decide +kernel
theorem dX5_init_33 : decode cX5_init 33 = .ok (.putfield 19, 3) := by decide +kernel
theorem dX5_init_36 : decode cX5_init 36 = .ok (.aload_n 0, 1) := by decide +kernel
theorem dX5_init_37 : decode cX5_init 37 = .ok (.bipush 7, 2) := by decide +kernel
theorem dX5_init_39 : decode cX5_init 39 = .ok (.newarray .int, 2) := by decide +kernel
theorem dX5_init_41 : decode cX5_init 41 = .ok (.putfield 22, 3) := by decide +kernel
theorem dX5_init_44 : decode cX5_init 44 = .ok (.aload_n 0, 1) := by decide +kernel
theorem dX5_init_45 : decode cX5_init 45 = .ok (.bipush 120, 2) := by decide +kernel
theorem dX5_init_47 : decode cX5_init 47 = .ok (.newarray .int, 2) := by decide +kernel
theorem dX5_init_49 : decode cX5_init 49 = .ok (.putfield 25, 3) := by decide +kernel
theorem dX5_init_52 : decode cX5_init 52 = .ok (.aload_n 0, 1) := by decide +kernel
theorem dX5_init_53 : decode cX5_init 53 = .ok (.iconst 4, 1) := by decide +kernel
theorem dX5_init_54 : decode cX5_init 54 = .ok (.newarray .int, 2) := by decide +kernel
theorem dX5_init_56 : decode cX5_init 56 = .ok (.putfield 28, 3) := by decide +kernel
theorem dX5_init_59 : decode cX5_init 59 = .ok (.aload_n 0, 1) := by decide +kernel
theorem dX5_init_60 : decode cX5_init 60 = .ok (.iconst 4, 1) := by decide +kernel
theorem dX5_init_61 : decode cX5_init 61 = .ok (.newarray .int, 2) := by decide +kernel
theorem dX5_init_63 : decode cX5_init 63 = .ok (.putfield 31, 3) := by decide +kernel
theorem dX5_init_66 : decode cX5_init 66 = .ok (.aload_n 0, 1) := by decide +kernel
theorem dX5_init_67 : decode cX5_init 67 = .ok (.sipush 160, 3) := by decide +kernel
theorem dX5_init_70 : decode cX5_init 70 = .ok (.newarray .long, 2) := by decide +kernel
theorem dX5_init_72 : decode cX5_init 72 = .ok (.putfield 34, 3) := by decide +kernel
theorem dX5_init_75 : decode cX5_init 75 = .ok (.aload_n 0, 1) := by decide +kernel
theorem dX5_init_76 : decode cX5_init 76 = .ok (.bipush 40, 2) := by decide +kernel
theorem dX5_init_78 : decode cX5_init 78 = .ok (.newarray .long, 2) := by decide +kernel
theorem dX5_init_80 : decode cX5_init 80 = .ok (.putfield 38, 3) := by decide +kernel
theorem dX5_init_83 : decode cX5_init 83 = .ok (.aload_n 0, 1) := by decide +kernel
theorem dX5_init_84 : decode cX5_init 84 = .ok (.getfield 7, 3) := by decide +kernel
theorem dX5_init_87 : decode cX5_init 87 = .ok (.iconst 3, 1) := by decide +kernel
theorem dX5_init_88 : decode cX5_init 88 = .ok (.iconst (-1), 1) := by decide +kernel
theorem dX5_init_89 : decode cX5_init 89 = .ok (.iastore, 1) := by decide +kernel
theorem dX5_init_90 : decode cX5_init 90 = .ok (.return_, 1) := by decide +kernel
theorem dX5_in_0 : decode cX5_in 0 = .ok (.lload_n 0, 1) := by decide +kernel
theorem dX5_in_1 : decode cX5_in 1 = .ok (.lload_n 2, 1) := by decide +kernel
theorem dX5_in_2 : decode cX5_in 2 = .ok (.lcmp, 1) := by decide +kernel
theorem dX5_in_3 : decode cX5_in 3 = .ok (.ifCond .lt 14, 3) := by decide +kernel
theorem dX5_in_6 : decode cX5_in 6 = .ok (.lload_n 0, 1) := by decide +kernel
theorem dX5_in_7 : decode cX5_in 7 = .ok (.lload 4, 2) := by decide +kernel
theorem dX5_in_9 : decode cX5_in 9 = .ok (.lcmp, 1) := by decide +kernel
theorem dX5_in_10 : decode cX5_in 10 = .ok (.ifCond .gt 7, 3) := by decide +kernel
theorem dX5_in_13 : decode cX5_in 13 = .ok (.iconst 1, 1) := by decide +kernel
theorem dX5_in_14 : decode cX5_in 14 = .ok (.goto 4, 3) := by decide +kernel
theorem dX5_in_17 : decode cX5_in 17 = .ok (.iconst 0, 1) := by decide +kernel
theorem dX5_in_18 : decode cX5_in 18 = .ok (.ireturn, 1) := by decide +kernel
theorem dX5_finds_0 : decode cX5_finds 0 = .ok (.aload_n 0, 1) := by decide +kernel
theorem dX5_finds_1 : decode cX5_finds 1 = .ok (.getfield 22, 3) := by decide +kernel
theorem dX5_finds_4 : decode cX5_finds 4 = .ok (.ldc 41, 2) := by decide +kernel
theorem dX5_finds_6 : decode cX5_finds 6 = .ok (.iload_n 1, 1) := by decide +kernel
theorem dX5_finds_7 : decode cX5_finds 7 = .ok (.isub, 1) := by decide +kernel
theorem dX5_finds_8 : decode cX5_finds 8 = .ok (.dup2, 1) := by decide +kernel
theorem dX5_finds_9 : decode cX5_finds 9 = .ok (.iaload, 1) := by decide +kernel
theorem dX5_finds_10 : decode cX5_finds 10 = .ok (.iconst 1, 1) := by decide +kernel
theorem dX5_finds_11 : decode cX5_finds 11 = .ok (.iadd, 1) := by decide +kernel
theorem dX5_finds_12 : decode cX5_finds 12 = .ok (.iastore, 1) := by decide +kernel
theorem dX5_finds_13 : decode cX5_finds 13 = .ok (.iload_n 1, 1) := by decide +kernel
theorem dX5_finds_14 : decode cX5_finds 14 = .ok (.ireturn, 1) := by decide +kernel
theorem dX5_saves_0 : decode cX5_saves 0 = .ok (.iconst 0, 1) := by decide +kernel
theorem dX5_saves_1 : decode cX5_saves 1 = .ok (.istore_n 1, 1) := by decide +kernel
theorem dX5_saves_2 : decode cX5_saves 2 = .ok (.iload_n 1, 1) := by decide +kernel
theorem dX5_saves_3 : decode cX5_saves 3 = .ok (.bipush 41, 2) := by decide +kernel
theorem dX5_saves_5 : decode cX5_saves 5 = .ok (.if_icmp .ge 21, 3) := by decide +kernel
theorem dX5_saves_8 : decode cX5_saves 8 = .ok (.aload_n 0, 1) := by decide +kernel
theorem dX5_saves_9 : decode cX5_saves 9 = .ok (.getfield 16, 3) := by decide +kernel
theorem dX5_saves_12 : decode cX5_saves 12 = .ok (.iload_n 1, 1) := by decide +kernel
theorem dX5_saves_13 : decode cX5_saves 13 = .ok (.aload_n 0, 1) := by decide +kernel
theorem dX5_saves_14 : decode cX5_saves 14 = .ok (.getfield 7, 3) := by decide +kernel
theorem dX5_saves_17 : decode cX5_saves 17 = .ok (.iload_n 1, 1) := by decide +kernel
theorem dX5_saves_18 : decode cX5_saves 18 = .ok (.iaload, 1) := by decide +kernel
theorem dX5_saves_19 : decode cX5_saves 19 = .ok (.iastore, 1) := by decide +kernel
theorem dX5_saves_20 : decode cX5_saves 20 = .ok (.iinc 1 1, 3) := by decide +kernel
theorem dX5_saves_23 : decode cX5_saves 23 = .ok (.goto (-21), 3) := by decide +kernel
theorem dX5_saves_26 : decode cX5_saves 26 = .ok (.return_, 1) := by decide +kernel
theorem dX5_putsBack_0 : decode cX5_putsBack 0 = .ok (.iconst 0, 1) := by decide +kernel
theorem dX5_putsBack_1 : decode cX5_putsBack 1 = .ok (.istore_n 1, 1) := by decide +kernel
theorem dX5_putsBack_2 : decode cX5_putsBack 2 = .ok (.iload_n 1, 1) := by decide +kernel
theorem dX5_putsBack_3 : decode cX5_putsBack 3 = .ok (.bipush 41, 2) := by decide +kernel
theorem dX5_putsBack_5 : decode cX5_putsBack 5 = .ok (.if_icmp .ge 21, 3) := by decide +kernel
theorem dX5_putsBack_8 : decode cX5_putsBack 8 = .ok (.aload_n 0, 1) := by decide +kernel
theorem dX5_putsBack_9 : decode cX5_putsBack 9 = .ok (.getfield 7, 3) := by decide +kernel
theorem dX5_putsBack_12 : decode cX5_putsBack 12 = .ok (.iload_n 1, 1) := by decide +kernel
theorem dX5_putsBack_13 : decode cX5_putsBack 13 = .ok (.aload_n 0, 1) := by decide +kernel
theorem dX5_putsBack_14 : decode cX5_putsBack 14 = .ok (.getfield 16, 3) := by decide +kernel
theorem dX5_putsBack_17 : decode cX5_putsBack 17 = .ok (.iload_n 1, 1) := by decide +kernel
theorem dX5_putsBack_18 : decode cX5_putsBack 18 = .ok (.iaload, 1) := by decide +kernel
theorem dX5_putsBack_19 : decode cX5_putsBack 19 = .ok (.iastore, 1) := by decide +kernel
theorem dX5_putsBack_20 : decode cX5_putsBack 20 = .ok (.iinc 1 1, 3) := by decide +kernel
theorem dX5_putsBack_23 : decode cX5_putsBack 23 = .ok (.goto (-21), 3) := by decide +kernel
theorem dX5_putsBack_26 : decode cX5_putsBack 26 = .ok (.return_, 1) := by decide +kernel
theorem dX5_laysAside_0 : decode cX5_laysAside 0 = .ok (.iconst 0, 1) := by decide +kernel
theorem dX5_laysAside_1 : decode cX5_laysAside 1 = .ok (.istore_n 1, 1) := by decide +kernel
theorem dX5_laysAside_2 : decode cX5_laysAside 2 = .ok (.iload_n 1, 1) := by decide +kernel
theorem dX5_laysAside_3 : decode cX5_laysAside 3 = .ok (.bipush 41, 2) := by decide +kernel
theorem dX5_laysAside_5 : decode cX5_laysAside 5 = .ok (.if_icmp .ge 21, 3) := by decide +kernel
theorem dX5_laysAside_8 : decode cX5_laysAside 8 = .ok (.aload_n 0, 1) := by decide +kernel
theorem dX5_laysAside_9 : decode cX5_laysAside 9 = .ok (.getfield 19, 3) := by decide +kernel
theorem dX5_laysAside_12 : decode cX5_laysAside 12 = .ok (.iload_n 1, 1) := by decide +kernel
theorem dX5_laysAside_13 : decode cX5_laysAside 13 = .ok (.aload_n 0, 1) := by decide +kernel
theorem dX5_laysAside_14 : decode cX5_laysAside 14 = .ok (.getfield 7, 3) := by decide +kernel
theorem dX5_laysAside_17 : decode cX5_laysAside 17 = .ok (.iload_n 1, 1) := by decide +kernel
theorem dX5_laysAside_18 : decode cX5_laysAside 18 = .ok (.iaload, 1) := by decide +kernel
theorem dX5_laysAside_19 : decode cX5_laysAside 19 = .ok (.iastore, 1) := by decide +kernel
theorem dX5_laysAside_20 : decode cX5_laysAside 20 = .ok (.iinc 1 1, 3) := by decide +kernel
theorem dX5_laysAside_23 : decode cX5_laysAside 23 = .ok (.goto (-21), 3) := by decide +kernel
theorem dX5_laysAside_26 : decode cX5_laysAside 26 = .ok (.return_, 1) := by decide +kernel
theorem dX5_takesBack_0 : decode cX5_takesBack 0 = .ok (.iconst 0, 1) := by decide +kernel
theorem dX5_takesBack_1 : decode cX5_takesBack 1 = .ok (.istore_n 2, 1) := by decide +kernel
theorem dX5_takesBack_2 : decode cX5_takesBack 2 = .ok (.iload_n 2, 1) := by decide +kernel
theorem dX5_takesBack_3 : decode cX5_takesBack 3 = .ok (.bipush 41, 2) := by decide +kernel
theorem dX5_takesBack_5 : decode cX5_takesBack 5 = .ok (.if_icmp .ge 21, 3) := by decide +kernel
theorem dX5_takesBack_8 : decode cX5_takesBack 8 = .ok (.aload_n 0, 1) := by decide +kernel
theorem dX5_takesBack_9 : decode cX5_takesBack 9 = .ok (.getfield 7, 3) := by decide +kernel
theorem dX5_takesBack_12 : decode cX5_takesBack 12 = .ok (.iload_n 2, 1) := by decide +kernel
theorem dX5_takesBack_13 : decode cX5_takesBack 13 = .ok (.aload_n 0, 1) := by decide +kernel
theorem dX5_takesBack_14 : decode cX5_takesBack 14 = .ok (.getfield 19, 3) := by decide +kernel
theorem dX5_takesBack_17 : decode cX5_takesBack 17 = .ok (.iload_n 2, 1) := by decide +kernel
theorem dX5_takesBack_18 : decode cX5_takesBack 18 = .ok (.iaload, 1) := by decide +kernel
theorem dX5_takesBack_19 : decode cX5_takesBack 19 = .ok (.iastore, 1) := by decide +kernel
theorem dX5_takesBack_20 : decode cX5_takesBack 20 = .ok (.iinc 2 1, 3) := by decide +kernel
theorem dX5_takesBack_23 : decode cX5_takesBack 23 = .ok (.goto (-21), 3) := by decide +kernel
theorem dX5_takesBack_26 : decode cX5_takesBack 26 = .ok (.iload_n 1, 1) := by decide +kernel
theorem dX5_takesBack_27 : decode cX5_takesBack 27 = .ok (.ireturn, 1) := by decide +kernel
theorem dX5_becomes_0 : decode cX5_becomes 0 = .ok (.aload_n 0, 1) := by decide +kernel
theorem dX5_becomes_1 : decode cX5_becomes 1 = .ok (.getfield 7, 3) := by decide +kernel
theorem dX5_becomes_4 : decode cX5_becomes 4 = .ok (.iload_n 1, 1) := by decide +kernel
theorem dX5_becomes_5 : decode cX5_becomes 5 = .ok (.iaload, 1) := by decide +kernel
theorem dX5_becomes_6 : decode cX5_becomes 6 = .ok (.istore_n 3, 1) := by decide +kernel
theorem dX5_becomes_7 : decode cX5_becomes 7 = .ok (.aload_n 0, 1) := by decide +kernel
theorem dX5_becomes_8 : decode cX5_becomes 8 = .ok (.getfield 7, 3) := by decide +kernel
theorem dX5_becomes_11 : decode cX5_becomes 11 = .ok (.iload_n 1, 1) := by decide +kernel
theorem dX5_becomes_12 : decode cX5_becomes 12 = .ok (.iload_n 2, 1) := by decide +kernel
theorem dX5_becomes_13 : decode cX5_becomes 13 = .ok (.iastore, 1) := by decide +kernel
theorem dX5_becomes_14 : decode cX5_becomes 14 = .ok (.iload_n 3, 1) := by decide +kernel
theorem dX5_becomes_15 : decode cX5_becomes 15 = .ok (.ireturn, 1) := by decide +kernel
theorem dX5_isMan_0 : decode cX5_isMan 0 = .ok (.iload_n 1, 1) := by decide +kernel
theorem dX5_isMan_1 : decode cX5_isMan 1 = .ok (.i2l, 1) := by decide +kernel
theorem dX5_isMan_2 : decode cX5_isMan 2 = .ok (.lconst 0, 1) := by decide +kernel
theorem dX5_isMan_3 : decode cX5_isMan 3 = .ok (.aload_n 0, 1) := by decide +kernel
theorem dX5_isMan_4 : decode cX5_isMan 4 = .ok (.getfield 7, 3) := by decide +kernel
theorem dX5_isMan_7 : decode cX5_isMan 7 = .ok (.iconst 1, 1) := by decide +kernel
theorem dX5_isMan_8 : decode cX5_isMan 8 = .ok (.iaload, 1) := by decide +kernel
theorem dX5_isMan_9 : decode cX5_isMan 9 = .ok (.iconst 1, 1) := by decide +kernel
theorem dX5_isMan_10 : decode cX5_isMan 10 = .ok (.isub, 1) := by decide +kernel
theorem dX5_isMan_11 : decode cX5_isMan 11 = .ok (.i2l, 1) := by decide +kernel
theorem dX5_isMan_12 : decode cX5_isMan 12 = .ok (.invokestatic 42, 3) := by decide +kernel
theorem dX5_isMan_15 : decode cX5_isMan 15 = .ok (.ireturn, 1) := by decide +kernel
theorem dX5_isSheep_0 : decode cX5_isSheep 0 = .ok (.iload_n 1, 1) := by decide +kernel
theorem dX5_isSheep_1 : decode cX5_isSheep 1 = .ok (.i2l, 1) := by decide +kernel
theorem dX5_isSheep_2 : decode cX5_isSheep 2 = .ok (.lconst 0, 1) := by decide +kernel
theorem dX5_isSheep_3 : decode cX5_isSheep 3 = .ok (.aload_n 0, 1) := by decide +kernel
theorem dX5_isSheep_4 : decode cX5_isSheep 4 = .ok (.getfield 7, 3) := by decide +kernel
theorem dX5_isSheep_7 : decode cX5_isSheep 7 = .ok (.iconst 0, 1) := by decide +kernel
theorem dX5_isSheep_8 : decode cX5_isSheep 8 = .ok (.iaload, 1) := by decide +kernel
theorem dX5_isSheep_9 : decode cX5_isSheep 9 = .ok (.iconst 1, 1) := by decide +kernel
theorem dX5_isSheep_10 : decode cX5_isSheep 10 = .ok (.isub, 1) := by decide +kernel
theorem dX5_isSheep_11 : decode cX5_isSheep 11 = .ok (.i2l, 1) := by decide +kernel
theorem dX5_isSheep_12 : decode cX5_isSheep 12 = .ok (.invokestatic 42, 3) := by decide +kernel
theorem dX5_isSheep_15 : decode cX5_isSheep 15 = .ok (.ireturn, 1) := by decide +kernel
theorem dX5_isKind_0 : decode cX5_isKind 0 = .ok (.iload_n 0, 1) := by decide +kernel
theorem dX5_isKind_1 : decode cX5_isKind 1 = .ok (.i2l, 1) := by decide +kernel
theorem dX5_isKind_2 : decode cX5_isKind 2 = .ok (.lconst 0, 1) := by decide +kernel
theorem dX5_isKind_3 : decode cX5_isKind 3 = .ok (.ldc2_w 46, 3) := by decide +kernel
theorem dX5_isKind_6 : decode cX5_isKind 6 = .ok (.invokestatic 42, 3) := by decide +kernel
theorem dX5_isKind_9 : decode cX5_isKind 9 = .ok (.ireturn, 1) := by decide +kernel
theorem dX5_isGuise_0 : decode cX5_isGuise 0 = .ok (.iload_n 0, 1) := by decide +kernel
theorem dX5_isGuise_1 : decode cX5_isGuise 1 = .ok (.i2l, 1) := by decide +kernel
theorem dX5_isGuise_2 : decode cX5_isGuise 2 = .ok (.lconst 0, 1) := by decide +kernel
theorem dX5_isGuise_3 : decode cX5_isGuise 3 = .ok (.ldc2_w 48, 3) := by decide +kernel
theorem dX5_isGuise_6 : decode cX5_isGuise 6 = .ok (.invokestatic 42, 3) := by decide +kernel
theorem dX5_isGuise_9 : decode cX5_isGuise 9 = .ok (.ireturn, 1) := by decide +kernel
theorem dX5_placeOf_0 : decode cX5_placeOf 0 = .ok (.iconst 5, 1) := by decide +kernel
theorem dX5_placeOf_1 : decode cX5_placeOf 1 = .ok (.iconst 2, 1) := by decide +kernel
theorem dX5_placeOf_2 : decode cX5_placeOf 2 = .ok (.iload_n 0, 1) := by decide +kernel
theorem dX5_placeOf_3 : decode cX5_placeOf 3 = .ok (.imul, 1) := by decide +kernel
theorem dX5_placeOf_4 : decode cX5_placeOf 4 = .ok (.iadd, 1) := by decide +kernel
theorem dX5_placeOf_5 : decode cX5_placeOf 5 = .ok (.iload_n 1, 1) := by decide +kernel
theorem dX5_placeOf_6 : decode cX5_placeOf 6 = .ok (.iadd, 1) := by decide +kernel
theorem dX5_placeOf_7 : decode cX5_placeOf 7 = .ok (.ireturn, 1) := by decide +kernel
theorem dX5_spotOf_0 : decode cX5_spotOf 0 = .ok (.bipush 17, 2) := by decide +kernel
theorem dX5_spotOf_2 : decode cX5_spotOf 2 = .ok (.iconst 3, 1) := by decide +kernel
theorem dX5_spotOf_3 : decode cX5_spotOf 3 = .ok (.iload_n 0, 1) := by decide +kernel
theorem dX5_spotOf_4 : decode cX5_spotOf 4 = .ok (.imul, 1) := by decide +kernel
theorem dX5_spotOf_5 : decode cX5_spotOf 5 = .ok (.iadd, 1) := by decide +kernel
theorem dX5_spotOf_6 : decode cX5_spotOf 6 = .ok (.iload_n 1, 1) := by decide +kernel
theorem dX5_spotOf_7 : decode cX5_spotOf 7 = .ok (.iadd, 1) := by decide +kernel
theorem dX5_spotOf_8 : decode cX5_spotOf 8 = .ok (.ireturn, 1) := by decide +kernel
theorem dX5_his_0 : decode cX5_his 0 = .ok (.aload_n 0, 1) := by decide +kernel
theorem dX5_his_1 : decode cX5_his 1 = .ok (.getfield 7, 3) := by decide +kernel
theorem dX5_his_4 : decode cX5_his 4 = .ok (.iload_n 1, 1) := by decide +kernel
theorem dX5_his_5 : decode cX5_his 5 = .ok (.iload_n 2, 1) := by decide +kernel
theorem dX5_his_6 : decode cX5_his 6 = .ok (.invokestatic 50, 3) := by decide +kernel
theorem dX5_his_9 : decode cX5_his 9 = .ok (.iaload, 1) := by decide +kernel
theorem dX5_his_10 : decode cX5_his 10 = .ok (.ireturn, 1) := by decide +kernel
theorem dX5_its_0 : decode cX5_its 0 = .ok (.aload_n 0, 1) := by decide +kernel
theorem dX5_its_1 : decode cX5_its 1 = .ok (.getfield 7, 3) := by decide +kernel
theorem dX5_its_4 : decode cX5_its 4 = .ok (.iload_n 1, 1) := by decide +kernel
theorem dX5_its_5 : decode cX5_its 5 = .ok (.iload_n 2, 1) := by decide +kernel
theorem dX5_its_6 : decode cX5_its 6 = .ok (.invokestatic 54, 3) := by decide +kernel
theorem dX5_its_9 : decode cX5_its 9 = .ok (.iaload, 1) := by decide +kernel
theorem dX5_its_10 : decode cX5_its 10 = .ok (.ireturn, 1) := by decide +kernel
theorem dX5_ones_0 : decode cX5_ones 0 = .ok (.iconst 0, 1) := by decide +kernel
theorem dX5_ones_1 : decode cX5_ones 1 = .ok (.istore_n 1, 1) := by decide +kernel
theorem dX5_ones_2 : decode cX5_ones 2 = .ok (.iload_n 0, 1) := by decide +kernel
theorem dX5_ones_3 : decode cX5_ones 3 = .ok (.istore_n 2, 1) := by decide +kernel
theorem dX5_ones_4 : decode cX5_ones 4 = .ok (.iload_n 2, 1) := by decide +kernel
theorem dX5_ones_5 : decode cX5_ones 5 = .ok (.ifCond .eq 15, 3) := by decide +kernel
theorem dX5_ones_8 : decode cX5_ones 8 = .ok (.iinc 1 1, 3) := by decide +kernel
theorem dX5_ones_11 : decode cX5_ones 11 = .ok (.iload_n 2, 1) := by decide +kernel
theorem dX5_ones_12 : decode cX5_ones 12 = .ok (.iload_n 2, 1) := by decide +kernel
theorem dX5_ones_13 : decode cX5_ones 13 = .ok (.iconst 1, 1) := by decide +kernel
theorem dX5_ones_14 : decode cX5_ones 14 = .ok (.isub, 1) := by decide +kernel
theorem dX5_ones_15 : decode cX5_ones 15 = .ok (.iand, 1) := by decide +kernel
theorem dX5_ones_16 : decode cX5_ones 16 = .ok (.istore_n 2, 1) := by decide +kernel
theorem dX5_ones_17 : decode cX5_ones 17 = .ok (.goto (-13), 3) := by decide +kernel
theorem dX5_ones_20 : decode cX5_ones 20 = .ok (.iload_n 1, 1) := by decide +kernel
theorem dX5_ones_21 : decode cX5_ones 21 = .ok (.ireturn, 1) := by decide +kernel
theorem dX5_heldTo_0 : decode cX5_heldTo 0 = .ok (.iload_n 0, 1) := by decide +kernel
theorem dX5_heldTo_1 : decode cX5_heldTo 1 = .ok (.iload_n 1, 1) := by decide +kernel
theorem dX5_heldTo_2 : decode cX5_heldTo 2 = .ok (.if_icmp .le 7, 3) := by decide +kernel
theorem dX5_heldTo_5 : decode cX5_heldTo 5 = .ok (.iload_n 1, 1) := by decide +kernel
theorem dX5_heldTo_6 : decode cX5_heldTo 6 = .ok (.goto 4, 3) := by decide +kernel
theorem dX5_heldTo_9 : decode cX5_heldTo 9 = .ok (.iload_n 0, 1) := by decide +kernel
theorem dX5_heldTo_10 : decode cX5_heldTo 10 = .ok (.ireturn, 1) := by decide +kernel
theorem dX5_addsMan_0 : decode cX5_addsMan 0 = .ok (.aload_n 0, 1) := by decide +kernel
theorem dX5_addsMan_1 : decode cX5_addsMan 1 = .ok (.getfield 7, 3) := by decide +kernel
theorem dX5_addsMan_4 : decode cX5_addsMan 4 = .ok (.iconst 1, 1) := by decide +kernel
theorem dX5_addsMan_5 : decode cX5_addsMan 5 = .ok (.iaload, 1) := by decide +kernel
theorem dX5_addsMan_6 : decode cX5_addsMan 6 = .ok (.istore_n 2, 1) := by decide +kernel
theorem dX5_addsMan_7 : decode cX5_addsMan 7 = .ok (.aload_n 0, 1) := by decide +kernel
theorem dX5_addsMan_8 : decode cX5_addsMan 8 = .ok (.getfield 7, 3) := by decide +kernel
theorem dX5_addsMan_11 : decode cX5_addsMan 11 = .ok (.iload_n 2, 1) := by decide +kernel
theorem dX5_addsMan_12 : decode cX5_addsMan 12 = .ok (.iconst 0, 1) := by decide +kernel
theorem dX5_addsMan_13 : decode cX5_addsMan 13 = .ok (.invokestatic 50, 3) := by decide +kernel
theorem dX5_addsMan_16 : decode cX5_addsMan 16 = .ok (.iload_n 1, 1) := by decide +kernel
theorem dX5_addsMan_17 : decode cX5_addsMan 17 = .ok (.iastore, 1) := by decide +kernel
theorem dX5_addsMan_18 : decode cX5_addsMan 18 = .ok (.aload_n 0, 1) := by decide +kernel
theorem dX5_addsMan_19 : decode cX5_addsMan 19 = .ok (.getfield 7, 3) := by decide +kernel
theorem dX5_addsMan_22 : decode cX5_addsMan 22 = .ok (.iload_n 2, 1) := by decide +kernel
theorem dX5_addsMan_23 : decode cX5_addsMan 23 = .ok (.iconst 1, 1) := by decide +kernel
theorem dX5_addsMan_24 : decode cX5_addsMan 24 = .ok (.invokestatic 50, 3) := by decide +kernel
theorem dX5_addsMan_27 : decode cX5_addsMan 27 = .ok (.iconst 0, 1) := by decide +kernel
theorem dX5_addsMan_28 : decode cX5_addsMan 28 = .ok (.iastore, 1) := by decide +kernel
theorem dX5_addsMan_29 : decode cX5_addsMan 29 = .ok (.aload_n 0, 1) := by decide +kernel
theorem dX5_addsMan_30 : decode cX5_addsMan 30 = .ok (.getfield 7, 3) := by decide +kernel
theorem dX5_addsMan_33 : decode cX5_addsMan 33 = .ok (.iconst 1, 1) := by decide +kernel
theorem dX5_addsMan_34 : decode cX5_addsMan 34 = .ok (.dup2, 1) := by decide +kernel
theorem dX5_addsMan_35 : decode cX5_addsMan 35 = .ok (.iaload, 1) := by decide +kernel
theorem dX5_addsMan_36 : decode cX5_addsMan 36 = .ok (.iconst 1, 1) := by decide +kernel
theorem dX5_addsMan_37 : decode cX5_addsMan 37 = .ok (.iadd, 1) := by decide +kernel
theorem dX5_addsMan_38 : decode cX5_addsMan 38 = .ok (.iastore, 1) := by decide +kernel
theorem dX5_addsMan_39 : decode cX5_addsMan 39 = .ok (.iload_n 2, 1) := by decide +kernel
theorem dX5_addsMan_40 : decode cX5_addsMan 40 = .ok (.ireturn, 1) := by decide +kernel
theorem dX5_man_0 : decode cX5_man 0 = .ok (.iload_n 1, 1) := by decide +kernel
theorem dX5_man_1 : decode cX5_man 1 = .ok (.invokestatic 57, 3) := by decide +kernel
theorem dX5_man_4 : decode cX5_man 4 = .ok (.ifCond .ne 10, 3) := by decide +kernel
theorem dX5_man_7 : decode cX5_man 7 = .ok (.aload_n 0, 1) := by decide +kernel
theorem dX5_man_8 : decode cX5_man 8 = .ok (.ldc 41, 2) := by decide +kernel
theorem dX5_man_10 : decode cX5_man 10 = .ok (.invokevirtual 61, 3) := by decide +kernel
theorem dX5_man_13 : decode cX5_man 13 = .ok (.ireturn, 1) := by decide +kernel
theorem dX5_man_14 : decode cX5_man 14 = .ok (.aload_n 0, 1) := by decide +kernel
theorem dX5_man_15 : decode cX5_man 15 = .ok (.getfield 7, 3) := by decide +kernel
theorem dX5_man_18 : decode cX5_man 18 = .ok (.iconst 1, 1) := by decide +kernel
theorem dX5_man_19 : decode cX5_man 19 = .ok (.iaload, 1) := by decide +kernel
theorem dX5_man_20 : decode cX5_man 20 = .ok (.bipush 6, 2) := by decide +kernel
theorem dX5_man_22 : decode cX5_man 22 = .ok (.if_icmp .ne 12, 3) := by decide +kernel
theorem dX5_man_25 : decode cX5_man 25 = .ok (.aload_n 0, 1) := by decide +kernel
theorem dX5_man_26 : decode cX5_man 26 = .ok (.ldc 65, 2) := by decide +kernel
theorem dX5_man_28 : decode cX5_man 28 = .ok (.invokevirtual 61, 3) := by decide +kernel
theorem dX5_man_31 : decode cX5_man 31 = .ok (.goto 8, 3) := by decide +kernel
theorem dX5_man_34 : decode cX5_man 34 = .ok (.aload_n 0, 1) := by decide +kernel
theorem dX5_man_35 : decode cX5_man 35 = .ok (.iload_n 1, 1) := by decide +kernel
theorem dX5_man_36 : decode cX5_man 36 = .ok (.invokevirtual 66, 3) := by decide +kernel
theorem dX5_man_39 : decode cX5_man 39 = .ok (.ireturn, 1) := by decide +kernel
theorem dX5_manOf_0 : decode cX5_manOf 0 = .ok (.aload_n 0, 1) := by decide +kernel
theorem dX5_manOf_1 : decode cX5_manOf 1 = .ok (.iload_n 1, 1) := by decide +kernel
theorem dX5_manOf_2 : decode cX5_manOf 2 = .ok (.invokevirtual 69, 3) := by decide +kernel
theorem dX5_manOf_5 : decode cX5_manOf 5 = .ok (.ifCond .eq 22, 3) := by decide +kernel
theorem dX5_manOf_8 : decode cX5_manOf 8 = .ok (.iload_n 2, 1) := by decide +kernel
theorem dX5_manOf_9 : decode cX5_manOf 9 = .ok (.i2l, 1) := by decide +kernel
theorem dX5_manOf_10 : decode cX5_manOf 10 = .ok (.lconst 0, 1) := by decide +kernel
theorem dX5_manOf_11 : decode cX5_manOf 11 = .ok (.lconst 1, 1) := by decide +kernel
theorem dX5_manOf_12 : decode cX5_manOf 12 = .ok (.invokestatic 42, 3) := by decide +kernel
theorem dX5_manOf_15 : decode cX5_manOf 15 = .ok (.ifCond .eq 12, 3) := by decide +kernel
theorem dX5_manOf_18 : decode cX5_manOf 18 = .ok (.aload_n 0, 1) := by decide +kernel
theorem dX5_manOf_19 : decode cX5_manOf 19 = .ok (.iload_n 1, 1) := by decide +kernel
theorem dX5_manOf_20 : decode cX5_manOf 20 = .ok (.iload_n 2, 1) := by decide +kernel
theorem dX5_manOf_21 : decode cX5_manOf 21 = .ok (.invokevirtual 72, 3) := by decide +kernel
theorem dX5_manOf_24 : decode cX5_manOf 24 = .ok (.goto 9, 3) := by decide +kernel
theorem dX5_manOf_27 : decode cX5_manOf 27 = .ok (.aload_n 0, 1) := by decide +kernel
theorem dX5_manOf_28 : decode cX5_manOf 28 = .ok (.ldc 41, 2) := by decide +kernel
theorem dX5_manOf_30 : decode cX5_manOf 30 = .ok (.invokevirtual 61, 3) := by decide +kernel
theorem dX5_manOf_33 : decode cX5_manOf 33 = .ok (.ireturn, 1) := by decide +kernel
theorem dX5_dress_0 : decode cX5_dress 0 = .ok (.iload_n 2, 1) := by decide +kernel
theorem dX5_dress_1 : decode cX5_dress 1 = .ok (.ifCond .ne 10, 3) := by decide +kernel
theorem dX5_dress_4 : decode cX5_dress 4 = .ok (.iload_n 3, 1) := by decide +kernel
theorem dX5_dress_5 : decode cX5_dress 5 = .ok (.invokestatic 57, 3) := by decide +kernel
theorem dX5_dress_8 : decode cX5_dress 8 = .ok (.goto 25, 3) := by decide +kernel
theorem dX5_dress_11 : decode cX5_dress 11 = .ok (.iload_n 2, 1) := by decide +kernel
theorem dX5_dress_12 : decode cX5_dress 12 = .ok (.iconst 1, 1) := by decide +kernel
theorem dX5_dress_13 : decode cX5_dress 13 = .ok (.if_icmp .ne 19, 3) := by decide +kernel
theorem dX5_dress_16 : decode cX5_dress 16 = .ok (.iload_n 3, 1) := by decide +kernel
theorem dX5_dress_17 : decode cX5_dress 17 = .ok (.i2l, 1) := by decide +kernel
theorem dX5_dress_18 : decode cX5_dress 18 = .ok (.lconst 0, 1) := by decide +kernel
theorem dX5_dress_19 : decode cX5_dress 19 = .ok (.ldc2_w 75, 3) := by decide +kernel
theorem dX5_dress_22 : decode cX5_dress 22 = .ok (.invokestatic 42, 3) := by decide +kernel
theorem dX5_dress_25 : decode cX5_dress 25 = .ok (.ifCond .eq 7, 3) := by decide +kernel
theorem dX5_dress_28 : decode cX5_dress 28 = .ok (.iconst 1, 1) := by decide +kernel
theorem dX5_dress_29 : decode cX5_dress 29 = .ok (.goto 4, 3) := by decide +kernel
theorem dX5_dress_32 : decode cX5_dress 32 = .ok (.iconst 0, 1) := by decide +kernel
theorem dX5_dress_33 : decode cX5_dress 33 = .ok (.istore 4, 2) := by decide +kernel
theorem dX5_dress_35 : decode cX5_dress 35 = .ok (.aload_n 0, 1) := by decide +kernel
theorem dX5_dress_36 : decode cX5_dress 36 = .ok (.iload_n 1, 1) := by decide +kernel
theorem dX5_dress_37 : decode cX5_dress 37 = .ok (.invokevirtual 69, 3) := by decide +kernel
theorem dX5_dress_40 : decode cX5_dress 40 = .ok (.ifCond .eq 21, 3) := by decide +kernel
theorem dX5_dress_43 : decode cX5_dress 43 = .ok (.iload 4, 2) := by decide +kernel
theorem dX5_dress_45 : decode cX5_dress 45 = .ok (.ifCond .eq 16, 3) := by decide +kernel
theorem dX5_dress_48 : decode cX5_dress 48 = .ok (.aload_n 0, 1) := by decide +kernel
theorem dX5_dress_49 : decode cX5_dress 49 = .ok (.iload_n 1, 1) := by decide +kernel
theorem dX5_dress_50 : decode cX5_dress 50 = .ok (.iload_n 2, 1) := by decide +kernel
theorem dX5_dress_51 : decode cX5_dress 51 = .ok (.invokestatic 50, 3) := by decide +kernel
theorem dX5_dress_54 : decode cX5_dress 54 = .ok (.iload_n 3, 1) := by decide +kernel
theorem dX5_dress_55 : decode cX5_dress 55 = .ok (.invokevirtual 77, 3) := by decide +kernel
theorem dX5_dress_58 : decode cX5_dress 58 = .ok (.goto 9, 3) := by decide +kernel
theorem dX5_dress_61 : decode cX5_dress 61 = .ok (.aload_n 0, 1) := by decide +kernel
theorem dX5_dress_62 : decode cX5_dress 62 = .ok (.ldc 41, 2) := by decide +kernel
theorem dX5_dress_64 : decode cX5_dress 64 = .ok (.invokevirtual 61, 3) := by decide +kernel
theorem dX5_dress_67 : decode cX5_dress 67 = .ok (.ireturn, 1) := by decide +kernel
theorem dX5_first_0 : decode cX5_first 0 = .ok (.aload_n 0, 1) := by decide +kernel
theorem dX5_first_1 : decode cX5_first 1 = .ok (.iload_n 1, 1) := by decide +kernel
theorem dX5_first_2 : decode cX5_first 2 = .ok (.invokevirtual 69, 3) := by decide +kernel
theorem dX5_first_5 : decode cX5_first 5 = .ok (.ifCond .eq 12, 3) := by decide +kernel
theorem dX5_first_8 : decode cX5_first 8 = .ok (.aload_n 0, 1) := by decide +kernel
theorem dX5_first_9 : decode cX5_first 9 = .ok (.iconst 4, 1) := by decide +kernel
theorem dX5_first_10 : decode cX5_first 10 = .ok (.iload_n 1, 1) := by decide +kernel
theorem dX5_first_11 : decode cX5_first 11 = .ok (.invokevirtual 77, 3) := by decide +kernel
theorem dX5_first_14 : decode cX5_first 14 = .ok (.goto 9, 3) := by decide +kernel
theorem dX5_first_17 : decode cX5_first 17 = .ok (.aload_n 0, 1) := by decide +kernel
theorem dX5_first_18 : decode cX5_first 18 = .ok (.ldc 41, 2) := by decide +kernel
theorem dX5_first_20 : decode cX5_first 20 = .ok (.invokevirtual 61, 3) := by decide +kernel
theorem dX5_first_23 : decode cX5_first 23 = .ok (.ireturn, 1) := by decide +kernel
theorem dX5_goesHome_0 : decode cX5_goesHome 0 = .ok (.aload_n 0, 1) := by decide +kernel
theorem dX5_goesHome_1 : decode cX5_goesHome 1 = .ok (.getfield 7, 3) := by decide +kernel
theorem dX5_goesHome_4 : decode cX5_goesHome 4 = .ok (.iconst 1, 1) := by decide +kernel
theorem dX5_goesHome_5 : decode cX5_goesHome 5 = .ok (.iaload, 1) := by decide +kernel
theorem dX5_goesHome_6 : decode cX5_goesHome 6 = .ok (.ifCond .ne 10, 3) := by decide +kernel
theorem dX5_goesHome_9 : decode cX5_goesHome 9 = .ok (.aload_n 0, 1) := by decide +kernel
theorem dX5_goesHome_10 : decode cX5_goesHome 10 = .ok (.ldc 80, 2) := by decide +kernel
theorem dX5_goesHome_12 : decode cX5_goesHome 12 = .ok (.invokevirtual 61, 3) := by decide +kernel
theorem dX5_goesHome_15 : decode cX5_goesHome 15 = .ok (.ireturn, 1) := by decide +kernel
theorem dX5_goesHome_16 : decode cX5_goesHome 16 = .ok (.aload_n 0, 1) := by decide +kernel
theorem dX5_goesHome_17 : decode cX5_goesHome 17 = .ok (.getfield 7, 3) := by decide +kernel
theorem dX5_goesHome_20 : decode cX5_goesHome 20 = .ok (.iconst 1, 1) := by decide +kernel
theorem dX5_goesHome_21 : decode cX5_goesHome 21 = .ok (.dup2, 1) := by decide +kernel
theorem dX5_goesHome_22 : decode cX5_goesHome 22 = .ok (.iaload, 1) := by decide +kernel
theorem dX5_goesHome_23 : decode cX5_goesHome 23 = .ok (.iconst 1, 1) := by decide +kernel
theorem dX5_goesHome_24 : decode cX5_goesHome 24 = .ok (.isub, 1) := by decide +kernel
theorem dX5_goesHome_25 : decode cX5_goesHome 25 = .ok (.iastore, 1) := by decide +kernel
theorem dX5_goesHome_26 : decode cX5_goesHome 26 = .ok (.aload_n 0, 1) := by decide +kernel
theorem dX5_goesHome_27 : decode cX5_goesHome 27 = .ok (.getfield 7, 3) := by decide +kernel
theorem dX5_goesHome_30 : decode cX5_goesHome 30 = .ok (.iconst 4, 1) := by decide +kernel
theorem dX5_goesHome_31 : decode cX5_goesHome 31 = .ok (.aload_n 0, 1) := by decide +kernel
theorem dX5_goesHome_32 : decode cX5_goesHome 32 = .ok (.getfield 7, 3) := by decide +kernel
theorem dX5_goesHome_35 : decode cX5_goesHome 35 = .ok (.iconst 4, 1) := by decide +kernel
theorem dX5_goesHome_36 : decode cX5_goesHome 36 = .ok (.iaload, 1) := by decide +kernel
theorem dX5_goesHome_37 : decode cX5_goesHome 37 = .ok (.aload_n 0, 1) := by decide +kernel
theorem dX5_goesHome_38 : decode cX5_goesHome 38 = .ok (.getfield 7, 3) := by decide +kernel
theorem dX5_goesHome_41 : decode cX5_goesHome 41 = .ok (.iconst 1, 1) := by decide +kernel
theorem dX5_goesHome_42 : decode cX5_goesHome 42 = .ok (.iaload, 1) := by decide +kernel
theorem dX5_goesHome_43 : decode cX5_goesHome 43 = .ok (.if_icmp .ne 7, 3) := by decide +kernel
theorem dX5_goesHome_46 : decode cX5_goesHome 46 = .ok (.iconst 0, 1) := by decide +kernel
theorem dX5_goesHome_47 : decode cX5_goesHome 47 = .ok (.goto 9, 3) := by decide +kernel
theorem dX5_goesHome_50 : decode cX5_goesHome 50 = .ok (.aload_n 0, 1) := by decide +kernel
theorem dX5_goesHome_51 : decode cX5_goesHome 51 = .ok (.getfield 7, 3) := by decide +kernel
theorem dX5_goesHome_54 : decode cX5_goesHome 54 = .ok (.iconst 4, 1) := by decide +kernel
theorem dX5_goesHome_55 : decode cX5_goesHome 55 = .ok (.iaload, 1) := by decide +kernel
theorem dX5_goesHome_56 : decode cX5_goesHome 56 = .ok (.iastore, 1) := by decide +kernel
theorem dX5_goesHome_57 : decode cX5_goesHome 57 = .ok (.aload_n 0, 1) := by decide +kernel
theorem dX5_goesHome_58 : decode cX5_goesHome 58 = .ok (.getfield 7, 3) := by decide +kernel
theorem dX5_goesHome_61 : decode cX5_goesHome 61 = .ok (.iconst 1, 1) := by decide +kernel
theorem dX5_goesHome_62 : decode cX5_goesHome 62 = .ok (.iaload, 1) := by decide +kernel
theorem dX5_goesHome_63 : decode cX5_goesHome 63 = .ok (.ireturn, 1) := by decide +kernel
theorem dX5_adds_0 : decode cX5_adds 0 = .ok (.aload_n 0, 1) := by decide +kernel
theorem dX5_adds_1 : decode cX5_adds 1 = .ok (.getfield 7, 3) := by decide +kernel
theorem dX5_adds_4 : decode cX5_adds 4 = .ok (.iconst 0, 1) := by decide +kernel
theorem dX5_adds_5 : decode cX5_adds 5 = .ok (.iaload, 1) := by decide +kernel
theorem dX5_adds_6 : decode cX5_adds 6 = .ok (.istore_n 2, 1) := by decide +kernel
theorem dX5_adds_7 : decode cX5_adds 7 = .ok (.aload_n 0, 1) := by decide +kernel
theorem dX5_adds_8 : decode cX5_adds 8 = .ok (.getfield 7, 3) := by decide +kernel
theorem dX5_adds_11 : decode cX5_adds 11 = .ok (.iload_n 2, 1) := by decide +kernel
theorem dX5_adds_12 : decode cX5_adds 12 = .ok (.iconst 0, 1) := by decide +kernel
theorem dX5_adds_13 : decode cX5_adds 13 = .ok (.invokestatic 54, 3) := by decide +kernel
theorem dX5_adds_16 : decode cX5_adds 16 = .ok (.iload_n 1, 1) := by decide +kernel
theorem dX5_adds_17 : decode cX5_adds 17 = .ok (.iastore, 1) := by decide +kernel
theorem dX5_adds_18 : decode cX5_adds 18 = .ok (.aload_n 0, 1) := by decide +kernel
theorem dX5_adds_19 : decode cX5_adds 19 = .ok (.getfield 7, 3) := by decide +kernel
theorem dX5_adds_22 : decode cX5_adds 22 = .ok (.iload_n 2, 1) := by decide +kernel
theorem dX5_adds_23 : decode cX5_adds 23 = .ok (.iconst 1, 1) := by decide +kernel
theorem dX5_adds_24 : decode cX5_adds 24 = .ok (.invokestatic 54, 3) := by decide +kernel
theorem dX5_adds_27 : decode cX5_adds 27 = .ok (.bipush 20, 2) := by decide +kernel
theorem dX5_adds_29 : decode cX5_adds 29 = .ok (.iastore, 1) := by decide +kernel
theorem dX5_adds_30 : decode cX5_adds 30 = .ok (.aload_n 0, 1) := by decide +kernel
theorem dX5_adds_31 : decode cX5_adds 31 = .ok (.getfield 7, 3) := by decide +kernel
theorem dX5_adds_34 : decode cX5_adds 34 = .ok (.iload_n 2, 1) := by decide +kernel
theorem dX5_adds_35 : decode cX5_adds 35 = .ok (.iconst 2, 1) := by decide +kernel
theorem dX5_adds_36 : decode cX5_adds 36 = .ok (.invokestatic 54, 3) := by decide +kernel
theorem dX5_adds_39 : decode cX5_adds 39 = .ok (.iconst 0, 1) := by decide +kernel
theorem dX5_adds_40 : decode cX5_adds 40 = .ok (.iastore, 1) := by decide +kernel
theorem dX5_adds_41 : decode cX5_adds 41 = .ok (.aload_n 0, 1) := by decide +kernel
theorem dX5_adds_42 : decode cX5_adds 42 = .ok (.getfield 7, 3) := by decide +kernel
theorem dX5_adds_45 : decode cX5_adds 45 = .ok (.iconst 0, 1) := by decide +kernel
theorem dX5_adds_46 : decode cX5_adds 46 = .ok (.dup2, 1) := by decide +kernel
theorem dX5_adds_47 : decode cX5_adds 47 = .ok (.iaload, 1) := by decide +kernel
theorem dX5_adds_48 : decode cX5_adds 48 = .ok (.iconst 1, 1) := by decide +kernel
theorem dX5_adds_49 : decode cX5_adds 49 = .ok (.iadd, 1) := by decide +kernel
theorem dX5_adds_50 : decode cX5_adds 50 = .ok (.iastore, 1) := by decide +kernel
theorem dX5_adds_51 : decode cX5_adds 51 = .ok (.iload_n 2, 1) := by decide +kernel
theorem dX5_adds_52 : decode cX5_adds 52 = .ok (.ireturn, 1) := by decide +kernel
theorem dX5_sheep_0 : decode cX5_sheep 0 = .ok (.iload_n 1, 1) := by decide +kernel
theorem dX5_sheep_1 : decode cX5_sheep 1 = .ok (.invokestatic 81, 3) := by decide +kernel
theorem dX5_sheep_4 : decode cX5_sheep 4 = .ok (.ifCond .ne 10, 3) := by decide +kernel
theorem dX5_sheep_7 : decode cX5_sheep 7 = .ok (.aload_n 0, 1) := by decide +kernel
theorem dX5_sheep_8 : decode cX5_sheep 8 = .ok (.ldc 41, 2) := by decide +kernel
theorem dX5_sheep_10 : decode cX5_sheep 10 = .ok (.invokevirtual 61, 3) := by decide +kernel
theorem dX5_sheep_13 : decode cX5_sheep 13 = .ok (.ireturn, 1) := by decide +kernel
theorem dX5_sheep_14 : decode cX5_sheep 14 = .ok (.aload_n 0, 1) := by decide +kernel
theorem dX5_sheep_15 : decode cX5_sheep 15 = .ok (.getfield 7, 3) := by decide +kernel
theorem dX5_sheep_18 : decode cX5_sheep 18 = .ok (.iconst 0, 1) := by decide +kernel
theorem dX5_sheep_19 : decode cX5_sheep 19 = .ok (.iaload, 1) := by decide +kernel
theorem dX5_sheep_20 : decode cX5_sheep 20 = .ok (.bipush 8, 2) := by decide +kernel
theorem dX5_sheep_22 : decode cX5_sheep 22 = .ok (.if_icmp .ne 12, 3) := by decide +kernel
theorem dX5_sheep_25 : decode cX5_sheep 25 = .ok (.aload_n 0, 1) := by decide +kernel
theorem dX5_sheep_26 : decode cX5_sheep 26 = .ok (.ldc 65, 2) := by decide +kernel
theorem dX5_sheep_28 : decode cX5_sheep 28 = .ok (.invokevirtual 61, 3) := by decide +kernel
theorem dX5_sheep_31 : decode cX5_sheep 31 = .ok (.goto 8, 3) := by decide +kernel
theorem dX5_sheep_34 : decode cX5_sheep 34 = .ok (.aload_n 0, 1) := by decide +kernel
theorem dX5_sheep_35 : decode cX5_sheep 35 = .ok (.iload_n 1, 1) := by decide +kernel
theorem dX5_sheep_36 : decode cX5_sheep 36 = .ok (.invokevirtual 84, 3) := by decide +kernel
theorem dX5_sheep_39 : decode cX5_sheep 39 = .ok (.ireturn, 1) := by decide +kernel
theorem dX5_isAsleep_0 : decode cX5_isAsleep 0 = .ok (.aload_n 0, 1) := by decide +kernel
theorem dX5_isAsleep_1 : decode cX5_isAsleep 1 = .ok (.iload_n 1, 1) := by decide +kernel
theorem dX5_isAsleep_2 : decode cX5_isAsleep 2 = .ok (.iconst 1, 1) := by decide +kernel
theorem dX5_isAsleep_3 : decode cX5_isAsleep 3 = .ok (.invokevirtual 87, 3) := by decide +kernel
theorem dX5_isAsleep_6 : decode cX5_isAsleep 6 = .ok (.ifCond .ne 7, 3) := by decide +kernel
theorem dX5_isAsleep_9 : decode cX5_isAsleep 9 = .ok (.iconst 1, 1) := by decide +kernel
theorem dX5_isAsleep_10 : decode cX5_isAsleep 10 = .ok (.goto 4, 3) := by decide +kernel
theorem dX5_isAsleep_13 : decode cX5_isAsleep 13 = .ok (.iconst 0, 1) := by decide +kernel
theorem dX5_isAsleep_14 : decode cX5_isAsleep 14 = .ok (.ireturn, 1) := by decide +kernel
theorem dX5_wakesOf_0 : decode cX5_wakesOf 0 = .ok (.aload_n 0, 1) := by decide +kernel
theorem dX5_wakesOf_1 : decode cX5_wakesOf 1 = .ok (.iload_n 1, 1) := by decide +kernel
theorem dX5_wakesOf_2 : decode cX5_wakesOf 2 = .ok (.iconst 0, 1) := by decide +kernel
theorem dX5_wakesOf_3 : decode cX5_wakesOf 3 = .ok (.invokevirtual 87, 3) := by decide +kernel
theorem dX5_wakesOf_6 : decode cX5_wakesOf 6 = .ok (.istore_n 2, 1) := by decide +kernel
theorem dX5_wakesOf_7 : decode cX5_wakesOf 7 = .ok (.iload_n 2, 1) := by decide +kernel
theorem dX5_wakesOf_8 : decode cX5_wakesOf 8 = .ok (.iconst 1, 1) := by decide +kernel
theorem dX5_wakesOf_9 : decode cX5_wakesOf 9 = .ok (.if_icmp .ne 7, 3) := by decide +kernel
theorem dX5_wakesOf_12 : decode cX5_wakesOf 12 = .ok (.iconst 1, 1) := by decide +kernel
theorem dX5_wakesOf_13 : decode cX5_wakesOf 13 = .ok (.goto 18, 3) := by decide +kernel
theorem dX5_wakesOf_16 : decode cX5_wakesOf 16 = .ok (.iload_n 2, 1) := by decide +kernel
theorem dX5_wakesOf_17 : decode cX5_wakesOf 17 = .ok (.iconst 2, 1) := by decide +kernel
theorem dX5_wakesOf_18 : decode cX5_wakesOf 18 = .ok (.if_icmp .eq 8, 3) := by decide +kernel
theorem dX5_wakesOf_21 : decode cX5_wakesOf 21 = .ok (.iload_n 2, 1) := by decide +kernel
theorem dX5_wakesOf_22 : decode cX5_wakesOf 22 = .ok (.iconst 4, 1) := by decide +kernel
theorem dX5_wakesOf_23 : decode cX5_wakesOf 23 = .ok (.if_icmp .ne 7, 3) := by decide +kernel
theorem dX5_wakesOf_26 : decode cX5_wakesOf 26 = .ok (.iconst 2, 1) := by decide +kernel
theorem dX5_wakesOf_27 : decode cX5_wakesOf 27 = .ok (.goto 4, 3) := by decide +kernel
theorem dX5_wakesOf_30 : decode cX5_wakesOf 30 = .ok (.iconst 0, 1) := by decide +kernel
theorem dX5_wakesOf_31 : decode cX5_wakesOf 31 = .ok (.ireturn, 1) := by decide +kernel
theorem dX5_tiresOf_0 : decode cX5_tiresOf 0 = .ok (.aload_n 0, 1) := by decide +kernel
theorem dX5_tiresOf_1 : decode cX5_tiresOf 1 = .ok (.iload_n 1, 1) := by decide +kernel
theorem dX5_tiresOf_2 : decode cX5_tiresOf 2 = .ok (.iconst 0, 1) := by decide +kernel
theorem dX5_tiresOf_3 : decode cX5_tiresOf 3 = .ok (.invokevirtual 87, 3) := by decide +kernel
theorem dX5_tiresOf_6 : decode cX5_tiresOf 6 = .ok (.istore_n 2, 1) := by decide +kernel
theorem dX5_tiresOf_7 : decode cX5_tiresOf 7 = .ok (.iload_n 2, 1) := by decide +kernel
theorem dX5_tiresOf_8 : decode cX5_tiresOf 8 = .ok (.iconst 2, 1) := by decide +kernel
theorem dX5_tiresOf_9 : decode cX5_tiresOf 9 = .ok (.if_icmp .ne 7, 3) := by decide +kernel
theorem dX5_tiresOf_12 : decode cX5_tiresOf 12 = .ok (.iconst 0, 1) := by decide +kernel
theorem dX5_tiresOf_13 : decode cX5_tiresOf 13 = .ok (.goto 13, 3) := by decide +kernel
theorem dX5_tiresOf_16 : decode cX5_tiresOf 16 = .ok (.iload_n 2, 1) := by decide +kernel
theorem dX5_tiresOf_17 : decode cX5_tiresOf 17 = .ok (.iconst 4, 1) := by decide +kernel
theorem dX5_tiresOf_18 : decode cX5_tiresOf 18 = .ok (.if_icmp .ne 7, 3) := by decide +kernel
theorem dX5_tiresOf_21 : decode cX5_tiresOf 21 = .ok (.iconst 2, 1) := by decide +kernel
theorem dX5_tiresOf_22 : decode cX5_tiresOf 22 = .ok (.goto 4, 3) := by decide +kernel
theorem dX5_tiresOf_25 : decode cX5_tiresOf 25 = .ok (.iconst 1, 1) := by decide +kernel
theorem dX5_tiresOf_26 : decode cX5_tiresOf 26 = .ok (.ireturn, 1) := by decide +kernel
theorem dX5_countsOf_0 : decode cX5_countsOf 0 = .ok (.aload_n 0, 1) := by decide +kernel
theorem dX5_countsOf_1 : decode cX5_countsOf 1 = .ok (.getfield 7, 3) := by decide +kernel
theorem dX5_countsOf_4 : decode cX5_countsOf 4 = .ok (.iconst 3, 1) := by decide +kernel
theorem dX5_countsOf_5 : decode cX5_countsOf 5 = .ok (.iaload, 1) := by decide +kernel
theorem dX5_countsOf_6 : decode cX5_countsOf 6 = .ok (.iconst (-1), 1) := by decide +kernel
theorem dX5_countsOf_7 : decode cX5_countsOf 7 = .ok (.if_icmp .ne 7, 3) := by decide +kernel
theorem dX5_countsOf_10 : decode cX5_countsOf 10 = .ok (.iconst 3, 1) := by decide +kernel
theorem dX5_countsOf_11 : decode cX5_countsOf 11 = .ok (.goto 14, 3) := by decide +kernel
theorem dX5_countsOf_14 : decode cX5_countsOf 14 = .ok (.iload_n 2, 1) := by decide +kernel
theorem dX5_countsOf_15 : decode cX5_countsOf 15 = .ok (.aload_n 0, 1) := by decide +kernel
theorem dX5_countsOf_16 : decode cX5_countsOf 16 = .ok (.getfield 7, 3) := by decide +kernel
theorem dX5_countsOf_19 : decode cX5_countsOf 19 = .ok (.iconst 3, 1) := by decide +kernel
theorem dX5_countsOf_20 : decode cX5_countsOf 20 = .ok (.iaload, 1) := by decide +kernel
theorem dX5_countsOf_21 : decode cX5_countsOf 21 = .ok (.ixor, 1) := by decide +kernel
theorem dX5_countsOf_22 : decode cX5_countsOf 22 = .ok (.invokestatic 90, 3) := by decide +kernel
theorem dX5_countsOf_25 : decode cX5_countsOf 25 = .ok (.istore_n 3, 1) := by decide +kernel
theorem dX5_countsOf_26 : decode cX5_countsOf 26 = .ok (.iconst 1, 1) := by decide +kernel
theorem dX5_countsOf_27 : decode cX5_countsOf 27 = .ok (.iload_n 3, 1) := by decide +kernel
theorem dX5_countsOf_28 : decode cX5_countsOf 28 = .ok (.iadd, 1) := by decide +kernel
theorem dX5_countsOf_29 : decode cX5_countsOf 29 = .ok (.istore 4, 2) := by decide +kernel
theorem dX5_countsOf_31 : decode cX5_countsOf 31 = .ok (.iload_n 2, 1) := by decide +kernel
theorem dX5_countsOf_32 : decode cX5_countsOf 32 = .ok (.iconst 2, 1) := by decide +kernel
theorem dX5_countsOf_33 : decode cX5_countsOf 33 = .ok (.iand, 1) := by decide +kernel
theorem dX5_countsOf_34 : decode cX5_countsOf 34 = .ok (.ifCond .eq 10, 3) := by decide +kernel
theorem dX5_countsOf_37 : decode cX5_countsOf 37 = .ok (.iload 4, 2) := by decide +kernel
theorem dX5_countsOf_39 : decode cX5_countsOf 39 = .ok (.iconst 1, 1) := by decide +kernel
theorem dX5_countsOf_40 : decode cX5_countsOf 40 = .ok (.iadd, 1) := by decide +kernel
theorem dX5_countsOf_41 : decode cX5_countsOf 41 = .ok (.goto 5, 3) := by decide +kernel
theorem dX5_countsOf_44 : decode cX5_countsOf 44 = .ok (.iload 4, 2) := by decide +kernel
theorem dX5_countsOf_46 : decode cX5_countsOf 46 = .ok (.istore 5, 2) := by decide +kernel
theorem dX5_countsOf_48 : decode cX5_countsOf 48 = .ok (.iload_n 3, 1) := by decide +kernel
theorem dX5_countsOf_49 : decode cX5_countsOf 49 = .ok (.ifCond .ne 7, 3) := by decide +kernel
theorem dX5_countsOf_52 : decode cX5_countsOf 52 = .ok (.iconst 0, 1) := by decide +kernel
theorem dX5_countsOf_53 : decode cX5_countsOf 53 = .ok (.goto 5, 3) := by decide +kernel
theorem dX5_countsOf_56 : decode cX5_countsOf 56 = .ok (.iload 4, 2) := by decide +kernel
theorem dX5_countsOf_58 : decode cX5_countsOf 58 = .ok (.istore 6, 2) := by decide +kernel
theorem dX5_countsOf_60 : decode cX5_countsOf 60 = .ok (.aload_n 0, 1) := by decide +kernel
theorem dX5_countsOf_61 : decode cX5_countsOf 61 = .ok (.iload_n 1, 1) := by decide +kernel
theorem dX5_countsOf_62 : decode cX5_countsOf 62 = .ok (.iconst 0, 1) := by decide +kernel
theorem dX5_countsOf_63 : decode cX5_countsOf 63 = .ok (.invokevirtual 87, 3) := by decide +kernel
theorem dX5_countsOf_66 : decode cX5_countsOf 66 = .ok (.tableswitch 82 1 5 #[34, 37, 42, 45, 66], 34) := by decide +kernel
theorem dX5_countsOf_100 : decode cX5_countsOf 100 = .ok (.iload 5, 2) := by decide +kernel
theorem dX5_countsOf_102 : decode cX5_countsOf 102 = .ok (.ireturn, 1) := by decide +kernel
theorem dX5_countsOf_103 : decode cX5_countsOf 103 = .ok (.iconst 2, 1) := by decide +kernel
theorem dX5_countsOf_104 : decode cX5_countsOf 104 = .ok (.iload 4, 2) := by decide +kernel
theorem dX5_countsOf_106 : decode cX5_countsOf 106 = .ok (.imul, 1) := by decide +kernel
theorem dX5_countsOf_107 : decode cX5_countsOf 107 = .ok (.ireturn, 1) := by decide +kernel
theorem dX5_countsOf_108 : decode cX5_countsOf 108 = .ok (.iload 6, 2) := by decide +kernel
theorem dX5_countsOf_110 : decode cX5_countsOf 110 = .ok (.ireturn, 1) := by decide +kernel
theorem dX5_countsOf_111 : decode cX5_countsOf 111 = .ok (.aload_n 0, 1) := by decide +kernel
theorem dX5_countsOf_112 : decode cX5_countsOf 112 = .ok (.getfield 7, 3) := by decide +kernel
theorem dX5_countsOf_115 : decode cX5_countsOf 115 = .ok (.iconst 2, 1) := by decide +kernel
theorem dX5_countsOf_116 : decode cX5_countsOf 116 = .ok (.iaload, 1) := by decide +kernel
theorem dX5_countsOf_117 : decode cX5_countsOf 117 = .ok (.iconst 2, 1) := by decide +kernel
theorem dX5_countsOf_118 : decode cX5_countsOf 118 = .ok (.irem, 1) := by decide +kernel
theorem dX5_countsOf_119 : decode cX5_countsOf 119 = .ok (.ifCond .ne 8, 3) := by decide +kernel
theorem dX5_countsOf_122 : decode cX5_countsOf 122 = .ok (.iload 5, 2) := by decide +kernel
theorem dX5_countsOf_124 : decode cX5_countsOf 124 = .ok (.goto 7, 3) := by decide +kernel
theorem dX5_countsOf_127 : decode cX5_countsOf 127 = .ok (.iload 5, 2) := by decide +kernel
theorem dX5_countsOf_129 : decode cX5_countsOf 129 = .ok (.iconst 1, 1) := by decide +kernel
theorem dX5_countsOf_130 : decode cX5_countsOf 130 = .ok (.isub, 1) := by decide +kernel
theorem dX5_countsOf_131 : decode cX5_countsOf 131 = .ok (.ireturn, 1) := by decide +kernel
theorem dX5_countsOf_132 : decode cX5_countsOf 132 = .ok (.iload_n 2, 1) := by decide +kernel
theorem dX5_countsOf_133 : decode cX5_countsOf 133 = .ok (.iconst 1, 1) := by decide +kernel
theorem dX5_countsOf_134 : decode cX5_countsOf 134 = .ok (.iand, 1) := by decide +kernel
theorem dX5_countsOf_135 : decode cX5_countsOf 135 = .ok (.ifCond .eq 10, 3) := by decide +kernel
theorem dX5_countsOf_138 : decode cX5_countsOf 138 = .ok (.iload 6, 2) := by decide +kernel
theorem dX5_countsOf_140 : decode cX5_countsOf 140 = .ok (.iconst 2, 1) := by decide +kernel
