theorem dX11_isSlept_0 : decode cX11_isSlept 0 = .ok (.aload_n 0, 1) := by decide +kernel
theorem dX11_isSlept_1 : decode cX11_isSlept 1 = .ok (.getfield 33, 3) := by decide +kernel
theorem dX11_isSlept_4 : decode cX11_isSlept 4 = .ok (.sipush 193, 3) := by decide +kernel
theorem dX11_isSlept_7 : decode cX11_isSlept 7 = .ok (.iload_n 1, 1) := by decide +kernel
theorem dX11_isSlept_8 : decode cX11_isSlept 8 = .ok (.iadd, 1) := by decide +kernel
theorem dX11_isSlept_9 : decode cX11_isSlept 9 = .ok (.iaload, 1) := by decide +kernel
theorem dX11_isSlept_10 : decode cX11_isSlept 10 = .ok (.aload_n 0, 1) := by decide +kernel
theorem dX11_isSlept_11 : decode cX11_isSlept 11 = .ok (.getfield 33, 3) := by decide +kernel
theorem dX11_isSlept_14 : decode cX11_isSlept 14 = .ok (.bipush 117, 2) := by decide +kernel
theorem dX11_isSlept_16 : decode cX11_isSlept 16 = .ok (.iload_n 1, 1) := by decide +kernel
theorem dX11_isSlept_17 : decode cX11_isSlept 17 = .ok (.iadd, 1) := by decide +kernel
theorem dX11_isSlept_18 : decode cX11_isSlept 18 = .ok (.iaload, 1) := by decide +kernel
theorem dX11_isSlept_19 : decode cX11_isSlept 19 = .ok (.if_icmp .lt 7, 3) := by decide +kernel
theorem dX11_isSlept_22 : decode cX11_isSlept 22 = .ok (.iconst 1, 1) := by decide +kernel
theorem dX11_isSlept_23 : decode cX11_isSlept 23 = .ok (.goto 4, 3) := by decide +kernel
theorem dX11_isSlept_26 : decode cX11_isSlept 26 = .ok (.iconst 0, 1) := by decide +kernel
theorem dX11_isSlept_27 : decode cX11_isSlept 27 = .ok (.ireturn, 1) := by decide +kernel
theorem dX11_sleptOn_0 : decode cX11_sleptOn 0 = .ok (.iconst 0, 1) := by decide +kernel
theorem dX11_sleptOn_1 : decode cX11_sleptOn 1 = .ok (.istore_n 1, 1) := by decide +kernel
theorem dX11_sleptOn_2 : decode cX11_sleptOn 2 = .ok (.iconst 0, 1) := by decide +kernel
theorem dX11_sleptOn_3 : decode cX11_sleptOn 3 = .ok (.istore_n 2, 1) := by decide +kernel
theorem dX11_sleptOn_4 : decode cX11_sleptOn 4 = .ok (.iload_n 2, 1) := by decide +kernel
theorem dX11_sleptOn_5 : decode cX11_sleptOn 5 = .ok (.aload_n 0, 1) := by decide +kernel
theorem dX11_sleptOn_6 : decode cX11_sleptOn 6 = .ok (.getfield 33, 3) := by decide +kernel
theorem dX11_sleptOn_9 : decode cX11_sleptOn 9 = .ok (.iconst 3, 1) := by decide +kernel
theorem dX11_sleptOn_10 : decode cX11_sleptOn 10 = .ok (.iaload, 1) := by decide +kernel
theorem dX11_sleptOn_11 : decode cX11_sleptOn 11 = .ok (.if_icmp .ge 27, 3) := by decide +kernel
theorem dX11_sleptOn_14 : decode cX11_sleptOn 14 = .ok (.iload_n 1, 1) := by decide +kernel
theorem dX11_sleptOn_15 : decode cX11_sleptOn 15 = .ok (.aload_n 0, 1) := by decide +kernel
theorem dX11_sleptOn_16 : decode cX11_sleptOn 16 = .ok (.iload_n 2, 1) := by decide +kernel
theorem dX11_sleptOn_17 : decode cX11_sleptOn 17 = .ok (.invokevirtual 251, 3) := by decide +kernel
theorem dX11_sleptOn_20 : decode cX11_sleptOn 20 = .ok (.ifCond .eq 9, 3) := by decide +kernel
theorem dX11_sleptOn_23 : decode cX11_sleptOn 23 = .ok (.iconst 1, 1) := by decide +kernel
theorem dX11_sleptOn_24 : decode cX11_sleptOn 24 = .ok (.iload_n 2, 1) := by decide +kernel
theorem dX11_sleptOn_25 : decode cX11_sleptOn 25 = .ok (.ishl, 1) := by decide +kernel
theorem dX11_sleptOn_26 : decode cX11_sleptOn 26 = .ok (.goto 4, 3) := by decide +kernel
theorem dX11_sleptOn_29 : decode cX11_sleptOn 29 = .ok (.iconst 0, 1) := by decide +kernel
theorem dX11_sleptOn_30 : decode cX11_sleptOn 30 = .ok (.ior, 1) := by decide +kernel
theorem dX11_sleptOn_31 : decode cX11_sleptOn 31 = .ok (.istore_n 1, 1) := by decide +kernel
theorem dX11_sleptOn_32 : decode cX11_sleptOn 32 = .ok (.iinc 2 1, 3) := by decide +kernel
theorem dX11_sleptOn_35 : decode cX11_sleptOn 35 = .ok (.goto (-31), 3) := by decide +kernel
theorem dX11_sleptOn_38 : decode cX11_sleptOn 38 = .ok (.iload_n 1, 1) := by decide +kernel
theorem dX11_sleptOn_39 : decode cX11_sleptOn 39 = .ok (.ireturn, 1) := by decide +kernel
theorem dX11_stillOf_0 : decode cX11_stillOf 0 = .ok (.aload_n 0, 1) := by decide +kernel
theorem dX11_stillOf_1 : decode cX11_stillOf 1 = .ok (.getfield 33, 3) := by decide +kernel
theorem dX11_stillOf_4 : decode cX11_stillOf 4 = .ok (.sipush 185, 3) := by decide +kernel
theorem dX11_stillOf_7 : decode cX11_stillOf 7 = .ok (.iload_n 1, 1) := by decide +kernel
theorem dX11_stillOf_8 : decode cX11_stillOf 8 = .ok (.iadd, 1) := by decide +kernel
theorem dX11_stillOf_9 : decode cX11_stillOf 9 = .ok (.iaload, 1) := by decide +kernel
theorem dX11_stillOf_10 : decode cX11_stillOf 10 = .ok (.aload_n 0, 1) := by decide +kernel
theorem dX11_stillOf_11 : decode cX11_stillOf 11 = .ok (.getfield 33, 3) := by decide +kernel
theorem dX11_stillOf_14 : decode cX11_stillOf 14 = .ok (.sipush 201, 3) := by decide +kernel
theorem dX11_stillOf_17 : decode cX11_stillOf 17 = .ok (.iload_n 1, 1) := by decide +kernel
theorem dX11_stillOf_18 : decode cX11_stillOf 18 = .ok (.iadd, 1) := by decide +kernel
theorem dX11_stillOf_19 : decode cX11_stillOf 19 = .ok (.iaload, 1) := by decide +kernel
theorem dX11_stillOf_20 : decode cX11_stillOf 20 = .ok (.iadd, 1) := by decide +kernel
theorem dX11_stillOf_21 : decode cX11_stillOf 21 = .ok (.istore_n 2, 1) := by decide +kernel
theorem dX11_stillOf_22 : decode cX11_stillOf 22 = .ok (.iconst 0, 1) := by decide +kernel
theorem dX11_stillOf_23 : decode cX11_stillOf 23 = .ok (.istore_n 3, 1) := by decide +kernel
theorem dX11_stillOf_24 : decode cX11_stillOf 24 = .ok (.iload_n 3, 1) := by decide +kernel
theorem dX11_stillOf_25 : decode cX11_stillOf 25 = .ok (.aload_n 0, 1) := by decide +kernel
theorem dX11_stillOf_26 : decode cX11_stillOf 26 = .ok (.getfield 33, 3) := by decide +kernel
theorem dX11_stillOf_29 : decode cX11_stillOf 29 = .ok (.iconst 1, 1) := by decide +kernel
theorem dX11_stillOf_30 : decode cX11_stillOf 30 = .ok (.iaload, 1) := by decide +kernel
theorem dX11_stillOf_31 : decode cX11_stillOf 31 = .ok (.if_icmp .ge 60, 3) := by decide +kernel
theorem dX11_stillOf_34 : decode cX11_stillOf 34 = .ok (.iconst 0, 1) := by decide +kernel
theorem dX11_stillOf_35 : decode cX11_stillOf 35 = .ok (.istore 4, 2) := by decide +kernel
theorem dX11_stillOf_37 : decode cX11_stillOf 37 = .ok (.iload 4, 2) := by decide +kernel
theorem dX11_stillOf_39 : decode cX11_stillOf 39 = .ok (.aload_n 0, 1) := by decide +kernel
theorem dX11_stillOf_40 : decode cX11_stillOf 40 = .ok (.getfield 33, 3) := by decide +kernel
theorem dX11_stillOf_43 : decode cX11_stillOf 43 = .ok (.bipush 125, 2) := by decide +kernel
theorem dX11_stillOf_45 : decode cX11_stillOf 45 = .ok (.iload_n 3, 1) := by decide +kernel
theorem dX11_stillOf_46 : decode cX11_stillOf 46 = .ok (.iadd, 1) := by decide +kernel
theorem dX11_stillOf_47 : decode cX11_stillOf 47 = .ok (.iaload, 1) := by decide +kernel
theorem dX11_stillOf_48 : decode cX11_stillOf 48 = .ok (.if_icmp .ge 37, 3) := by decide +kernel
theorem dX11_stillOf_51 : decode cX11_stillOf 51 = .ok (.iload_n 2, 1) := by decide +kernel
theorem dX11_stillOf_52 : decode cX11_stillOf 52 = .ok (.aload_n 0, 1) := by decide +kernel
theorem dX11_stillOf_53 : decode cX11_stillOf 53 = .ok (.getfield 33, 3) := by decide +kernel
theorem dX11_stillOf_56 : decode cX11_stillOf 56 = .ok (.sipush 131, 3) := by decide +kernel
theorem dX11_stillOf_59 : decode cX11_stillOf 59 = .ok (.bipush 8, 2) := by decide +kernel
theorem dX11_stillOf_61 : decode cX11_stillOf 61 = .ok (.iload_n 3, 1) := by decide +kernel
theorem dX11_stillOf_62 : decode cX11_stillOf 62 = .ok (.imul, 1) := by decide +kernel
theorem dX11_stillOf_63 : decode cX11_stillOf 63 = .ok (.iadd, 1) := by decide +kernel
theorem dX11_stillOf_64 : decode cX11_stillOf 64 = .ok (.iload 4, 2) := by decide +kernel
theorem dX11_stillOf_66 : decode cX11_stillOf 66 = .ok (.iadd, 1) := by decide +kernel
theorem dX11_stillOf_67 : decode cX11_stillOf 67 = .ok (.iaload, 1) := by decide +kernel
theorem dX11_stillOf_68 : decode cX11_stillOf 68 = .ok (.iload_n 1, 1) := by decide +kernel
theorem dX11_stillOf_69 : decode cX11_stillOf 69 = .ok (.if_icmp .ne 7, 3) := by decide +kernel
theorem dX11_stillOf_72 : decode cX11_stillOf 72 = .ok (.iconst 1, 1) := by decide +kernel
theorem dX11_stillOf_73 : decode cX11_stillOf 73 = .ok (.goto 4, 3) := by decide +kernel
theorem dX11_stillOf_76 : decode cX11_stillOf 76 = .ok (.iconst 0, 1) := by decide +kernel
theorem dX11_stillOf_77 : decode cX11_stillOf 77 = .ok (.iadd, 1) := by decide +kernel
theorem dX11_stillOf_78 : decode cX11_stillOf 78 = .ok (.istore_n 2, 1) := by decide +kernel
theorem dX11_stillOf_79 : decode cX11_stillOf 79 = .ok (.iinc 4 1, 3) := by decide +kernel
theorem dX11_stillOf_82 : decode cX11_stillOf 82 = .ok (.goto (-45), 3) := by decide +kernel
theorem dX11_stillOf_85 : decode cX11_stillOf 85 = .ok (.iinc 3 1, 3) := by decide +kernel
theorem dX11_stillOf_88 : decode cX11_stillOf 88 = .ok (.goto (-64), 3) := by decide +kernel
theorem dX11_stillOf_91 : decode cX11_stillOf 91 = .ok (.iload_n 2, 1) := by decide +kernel
theorem dX11_stillOf_92 : decode cX11_stillOf 92 = .ok (.ireturn, 1) := by decide +kernel
theorem dX11_person_0 : decode cX11_person 0 = .ok (.aload_n 0, 1) := by decide +kernel
theorem dX11_person_1 : decode cX11_person 1 = .ok (.aload_n 0, 1) := by decide +kernel
theorem dX11_person_2 : decode cX11_person 2 = .ok (.iload_n 1, 1) := by decide +kernel
theorem dX11_person_3 : decode cX11_person 3 = .ok (.invokevirtual 254, 3) := by decide +kernel
theorem dX11_person_6 : decode cX11_person 6 = .ok (.ifCond .eq 13, 3) := by decide +kernel
theorem dX11_person_9 : decode cX11_person 9 = .ok (.iload_n 2, 1) := by decide +kernel
theorem dX11_person_10 : decode cX11_person 10 = .ok (.iconst 0, 1) := by decide +kernel
theorem dX11_person_11 : decode cX11_person 11 = .ok (.bipush 6, 2) := by decide +kernel
theorem dX11_person_13 : decode cX11_person 13 = .ok (.invokestatic 176, 3) := by decide +kernel
theorem dX11_person_16 : decode cX11_person 16 = .ok (.ifCond .ne 7, 3) := by decide +kernel
theorem dX11_person_19 : decode cX11_person 19 = .ok (.iconst 1, 1) := by decide +kernel
theorem dX11_person_20 : decode cX11_person 20 = .ok (.goto 4, 3) := by decide +kernel
theorem dX11_person_23 : decode cX11_person 23 = .ok (.iconst 0, 1) := by decide +kernel
theorem dX11_person_24 : decode cX11_person 24 = .ok (.invokevirtual 257, 3) := by decide +kernel
theorem dX11_person_27 : decode cX11_person 27 = .ok (.ifCond .eq 5, 3) := by decide +kernel
theorem dX11_person_30 : decode cX11_person 30 = .ok (.iconst 0, 1) := by decide +kernel
theorem dX11_person_31 : decode cX11_person 31 = .ok (.ireturn, 1) := by decide +kernel
theorem dX11_person_32 : decode cX11_person 32 = .ok (.iload_n 2, 1) := by decide +kernel
theorem dX11_person_33 : decode cX11_person 33 = .ok (.tableswitch 89 0 5 #[39, 49, 60, 70, 76, 83], 39) := by decide +kernel
theorem dX11_person_72 : decode cX11_person 72 = .ok (.aload_n 0, 1) := by decide +kernel
theorem dX11_person_73 : decode cX11_person 73 = .ok (.getfield 33, 3) := by decide +kernel
theorem dX11_person_76 : decode cX11_person 76 = .ok (.bipush 21, 2) := by decide +kernel
theorem dX11_person_78 : decode cX11_person 78 = .ok (.iload_n 1, 1) := by decide +kernel
theorem dX11_person_79 : decode cX11_person 79 = .ok (.iadd, 1) := by decide +kernel
theorem dX11_person_80 : decode cX11_person 80 = .ok (.iaload, 1) := by decide +kernel
theorem dX11_person_81 : decode cX11_person 81 = .ok (.ireturn, 1) := by decide +kernel
theorem dX11_person_82 : decode cX11_person 82 = .ok (.aload_n 0, 1) := by decide +kernel
theorem dX11_person_83 : decode cX11_person 83 = .ok (.getfield 33, 3) := by decide +kernel
theorem dX11_person_86 : decode cX11_person 86 = .ok (.sipush 179, 3) := by decide +kernel
theorem dX11_person_89 : decode cX11_person 89 = .ok (.iload_n 1, 1) := by decide +kernel
theorem dX11_person_90 : decode cX11_person 90 = .ok (.iadd, 1) := by decide +kernel
theorem dX11_person_91 : decode cX11_person 91 = .ok (.iaload, 1) := by decide +kernel
theorem dX11_person_92 : decode cX11_person 92 = .ok (.ireturn, 1) := by decide +kernel
theorem dX11_person_93 : decode cX11_person 93 = .ok (.aload_n 0, 1) := by decide +kernel
theorem dX11_person_94 : decode cX11_person 94 = .ok (.getfield 33, 3) := by decide +kernel
theorem dX11_person_97 : decode cX11_person 97 = .ok (.bipush 125, 2) := by decide +kernel
theorem dX11_person_99 : decode cX11_person 99 = .ok (.iload_n 1, 1) := by decide +kernel
theorem dX11_person_100 : decode cX11_person 100 = .ok (.iadd, 1) := by decide +kernel
theorem dX11_person_101 : decode cX11_person 101 = .ok (.iaload, 1) := by decide +kernel
theorem dX11_person_102 : decode cX11_person 102 = .ok (.ireturn, 1) := by decide +kernel
theorem dX11_person_103 : decode cX11_person 103 = .ok (.aload_n 0, 1) := by decide +kernel
theorem dX11_person_104 : decode cX11_person 104 = .ok (.iload_n 1, 1) := by decide +kernel
theorem dX11_person_105 : decode cX11_person 105 = .ok (.invokevirtual 261, 3) := by decide +kernel
theorem dX11_person_108 : decode cX11_person 108 = .ok (.ireturn, 1) := by decide +kernel
theorem dX11_person_109 : decode cX11_person 109 = .ok (.aload_n 0, 1) := by decide +kernel
theorem dX11_person_110 : decode cX11_person 110 = .ok (.iload_n 1, 1) := by decide +kernel
theorem dX11_person_111 : decode cX11_person 111 = .ok (.iconst 0, 1) := by decide +kernel
theorem dX11_person_112 : decode cX11_person 112 = .ok (.invokevirtual 265, 3) := by decide +kernel
theorem dX11_person_115 : decode cX11_person 115 = .ok (.ireturn, 1) := by decide +kernel
theorem dX11_person_116 : decode cX11_person 116 = .ok (.aload_n 0, 1) := by decide +kernel
theorem dX11_person_117 : decode cX11_person 117 = .ok (.iload_n 1, 1) := by decide +kernel
theorem dX11_person_118 : decode cX11_person 118 = .ok (.invokevirtual 268, 3) := by decide +kernel
theorem dX11_person_121 : decode cX11_person 121 = .ok (.ireturn, 1) := by decide +kernel
theorem dX11_person_122 : decode cX11_person 122 = .ok (.aload_n 0, 1) := by decide +kernel
theorem dX11_person_123 : decode cX11_person 123 = .ok (.iload_n 1, 1) := by decide +kernel
theorem dX11_person_124 : decode cX11_person 124 = .ok (.invokevirtual 271, 3) := by decide +kernel
theorem dX11_person_127 : decode cX11_person 127 = .ok (.ifCond .eq 7, 3) := by decide +kernel
theorem dX11_person_130 : decode cX11_person 130 = .ok (.iconst 1, 1) := by decide +kernel
theorem dX11_person_131 : decode cX11_person 131 = .ok (.goto 4, 3) := by decide +kernel
theorem dX11_person_134 : decode cX11_person 134 = .ok (.iconst 0, 1) := by decide +kernel
theorem dX11_person_135 : decode cX11_person 135 = .ok (.ireturn, 1) := by decide +kernel
theorem dX11_layer_0 : decode cX11_layer 0 = .ok (.aload_n 0, 1) := by decide +kernel
theorem dX11_layer_1 : decode cX11_layer 1 = .ok (.iconst 0, 1) := by decide +kernel
theorem dX11_layer_2 : decode cX11_layer 2 = .ok (.putfield 1, 3) := by decide +kernel
theorem dX11_layer_5 : decode cX11_layer 5 = .ok (.aload_n 0, 1) := by decide +kernel
theorem dX11_layer_6 : decode cX11_layer 6 = .ok (.iload_n 1, 1) := by decide +kernel
theorem dX11_layer_7 : decode cX11_layer 7 = .ok (.invokevirtual 254, 3) := by decide +kernel
theorem dX11_layer_10 : decode cX11_layer 10 = .ok (.ifCond .eq 40, 3) := by decide +kernel
theorem dX11_layer_13 : decode cX11_layer 13 = .ok (.iload_n 2, 1) := by decide +kernel
theorem dX11_layer_14 : decode cX11_layer 14 = .ok (.iconst 0, 1) := by decide +kernel
theorem dX11_layer_15 : decode cX11_layer 15 = .ok (.aload_n 0, 1) := by decide +kernel
theorem dX11_layer_16 : decode cX11_layer 16 = .ok (.getfield 33, 3) := by decide +kernel
theorem dX11_layer_19 : decode cX11_layer 19 = .ok (.bipush 125, 2) := by decide +kernel
theorem dX11_layer_21 : decode cX11_layer 21 = .ok (.iload_n 1, 1) := by decide +kernel
theorem dX11_layer_22 : decode cX11_layer 22 = .ok (.iadd, 1) := by decide +kernel
theorem dX11_layer_23 : decode cX11_layer 23 = .ok (.iaload, 1) := by decide +kernel
theorem dX11_layer_24 : decode cX11_layer 24 = .ok (.iconst 1, 1) := by decide +kernel
theorem dX11_layer_25 : decode cX11_layer 25 = .ok (.isub, 1) := by decide +kernel
theorem dX11_layer_26 : decode cX11_layer 26 = .ok (.invokestatic 176, 3) := by decide +kernel
theorem dX11_layer_29 : decode cX11_layer 29 = .ok (.ifCond .eq 21, 3) := by decide +kernel
theorem dX11_layer_32 : decode cX11_layer 32 = .ok (.aload_n 0, 1) := by decide +kernel
theorem dX11_layer_33 : decode cX11_layer 33 = .ok (.getfield 33, 3) := by decide +kernel
theorem dX11_layer_36 : decode cX11_layer 36 = .ok (.sipush 131, 3) := by decide +kernel
theorem dX11_layer_39 : decode cX11_layer 39 = .ok (.bipush 8, 2) := by decide +kernel
theorem dX11_layer_41 : decode cX11_layer 41 = .ok (.iload_n 1, 1) := by decide +kernel
theorem dX11_layer_42 : decode cX11_layer 42 = .ok (.imul, 1) := by decide +kernel
theorem dX11_layer_43 : decode cX11_layer 43 = .ok (.iadd, 1) := by decide +kernel
theorem dX11_layer_44 : decode cX11_layer 44 = .ok (.iload_n 2, 1) := by decide +kernel
theorem dX11_layer_45 : decode cX11_layer 45 = .ok (.iadd, 1) := by decide +kernel
theorem dX11_layer_46 : decode cX11_layer 46 = .ok (.iaload, 1) := by decide +kernel
theorem dX11_layer_47 : decode cX11_layer 47 = .ok (.goto 4, 3) := by decide +kernel
theorem dX11_layer_50 : decode cX11_layer 50 = .ok (.iconst (-1), 1) := by decide +kernel
theorem dX11_layer_51 : decode cX11_layer 51 = .ok (.ireturn, 1) := by decide +kernel
theorem dX11_thing_0 : decode cX11_thing 0 = .ok (.aload_n 0, 1) := by decide +kernel
theorem dX11_thing_1 : decode cX11_thing 1 = .ok (.iconst 0, 1) := by decide +kernel
theorem dX11_thing_2 : decode cX11_thing 2 = .ok (.putfield 1, 3) := by decide +kernel
theorem dX11_thing_5 : decode cX11_thing 5 = .ok (.aload_n 0, 1) := by decide +kernel
theorem dX11_thing_6 : decode cX11_thing 6 = .ok (.iload_n 1, 1) := by decide +kernel
theorem dX11_thing_7 : decode cX11_thing 7 = .ok (.invokevirtual 274, 3) := by decide +kernel
theorem dX11_thing_10 : decode cX11_thing 10 = .ok (.ifCond .ne 5, 3) := by decide +kernel
theorem dX11_thing_13 : decode cX11_thing 13 = .ok (.iconst (-1), 1) := by decide +kernel
theorem dX11_thing_14 : decode cX11_thing 14 = .ok (.ireturn, 1) := by decide +kernel
theorem dX11_thing_15 : decode cX11_thing 15 = .ok (.iconst 0, 1) := by decide +kernel
theorem dX11_thing_16 : decode cX11_thing 16 = .ok (.istore_n 3, 1) := by decide +kernel
theorem dX11_thing_17 : decode cX11_thing 17 = .ok (.iconst 0, 1) := by decide +kernel
theorem dX11_thing_18 : decode cX11_thing 18 = .ok (.istore 4, 2) := by decide +kernel
theorem dX11_thing_20 : decode cX11_thing 20 = .ok (.iload 4, 2) := by decide +kernel
theorem dX11_thing_22 : decode cX11_thing 22 = .ok (.aload_n 0, 1) := by decide +kernel
theorem dX11_thing_23 : decode cX11_thing 23 = .ok (.getfield 33, 3) := by decide +kernel
theorem dX11_thing_26 : decode cX11_thing 26 = .ok (.iconst 1, 1) := by decide +kernel
theorem dX11_thing_27 : decode cX11_thing 27 = .ok (.iaload, 1) := by decide +kernel
theorem dX11_thing_28 : decode cX11_thing 28 = .ok (.if_icmp .ge 30, 3) := by decide +kernel
theorem dX11_thing_31 : decode cX11_thing 31 = .ok (.iload_n 3, 1) := by decide +kernel
theorem dX11_thing_32 : decode cX11_thing 32 = .ok (.aload_n 0, 1) := by decide +kernel
theorem dX11_thing_33 : decode cX11_thing 33 = .ok (.iload 4, 2) := by decide +kernel
theorem dX11_thing_35 : decode cX11_thing 35 = .ok (.iload_n 1, 1) := by decide +kernel
theorem dX11_thing_36 : decode cX11_thing 36 = .ok (.invokevirtual 277, 3) := by decide +kernel
theorem dX11_thing_39 : decode cX11_thing 39 = .ok (.ifCond .eq 10, 3) := by decide +kernel
theorem dX11_thing_42 : decode cX11_thing 42 = .ok (.iconst 1, 1) := by decide +kernel
theorem dX11_thing_43 : decode cX11_thing 43 = .ok (.iload 4, 2) := by decide +kernel
theorem dX11_thing_45 : decode cX11_thing 45 = .ok (.ishl, 1) := by decide +kernel
theorem dX11_thing_46 : decode cX11_thing 46 = .ok (.goto 4, 3) := by decide +kernel
theorem dX11_thing_49 : decode cX11_thing 49 = .ok (.iconst 0, 1) := by decide +kernel
theorem dX11_thing_50 : decode cX11_thing 50 = .ok (.ior, 1) := by decide +kernel
theorem dX11_thing_51 : decode cX11_thing 51 = .ok (.istore_n 3, 1) := by decide +kernel
theorem dX11_thing_52 : decode cX11_thing 52 = .ok (.iinc 4 1, 3) := by decide +kernel
theorem dX11_thing_55 : decode cX11_thing 55 = .ok (.goto (-35), 3) := by decide +kernel
theorem dX11_thing_58 : decode cX11_thing 58 = .ok (.iload_n 2, 1) := by decide +kernel
theorem dX11_thing_59 : decode cX11_thing 59 = .ok (.tableswitch 71 0 4 #[33, 42, 52, 63, 65], 33) := by decide +kernel
theorem dX11_thing_92 : decode cX11_thing 92 = .ok (.aload_n 0, 1) := by decide +kernel
theorem dX11_thing_93 : decode cX11_thing 93 = .ok (.getfield 33, 3) := by decide +kernel
theorem dX11_thing_96 : decode cX11_thing 96 = .ok (.iconst 5, 1) := by decide +kernel
theorem dX11_thing_97 : decode cX11_thing 97 = .ok (.iload_n 1, 1) := by decide +kernel
theorem dX11_thing_98 : decode cX11_thing 98 = .ok (.iadd, 1) := by decide +kernel
theorem dX11_thing_99 : decode cX11_thing 99 = .ok (.iaload, 1) := by decide +kernel
theorem dX11_thing_100 : decode cX11_thing 100 = .ok (.ireturn, 1) := by decide +kernel
theorem dX11_thing_101 : decode cX11_thing 101 = .ok (.aload_n 0, 1) := by decide +kernel
theorem dX11_thing_102 : decode cX11_thing 102 = .ok (.getfield 33, 3) := by decide +kernel
theorem dX11_thing_105 : decode cX11_thing 105 = .ok (.bipush 13, 2) := by decide +kernel
theorem dX11_thing_107 : decode cX11_thing 107 = .ok (.iload_n 1, 1) := by decide +kernel
theorem dX11_thing_108 : decode cX11_thing 108 = .ok (.iadd, 1) := by decide +kernel
theorem dX11_thing_109 : decode cX11_thing 109 = .ok (.iaload, 1) := by decide +kernel
theorem dX11_thing_110 : decode cX11_thing 110 = .ok (.ireturn, 1) := by decide +kernel
theorem dX11_thing_111 : decode cX11_thing 111 = .ok (.aload_n 0, 1) := by decide +kernel
theorem dX11_thing_112 : decode cX11_thing 112 = .ok (.getfield 33, 3) := by decide +kernel
theorem dX11_thing_115 : decode cX11_thing 115 = .ok (.sipush 185, 3) := by decide +kernel
theorem dX11_thing_118 : decode cX11_thing 118 = .ok (.iload_n 1, 1) := by decide +kernel
theorem dX11_thing_119 : decode cX11_thing 119 = .ok (.iadd, 1) := by decide +kernel
theorem dX11_thing_120 : decode cX11_thing 120 = .ok (.iaload, 1) := by decide +kernel
theorem dX11_thing_121 : decode cX11_thing 121 = .ok (.ireturn, 1) := by decide +kernel
theorem dX11_thing_122 : decode cX11_thing 122 = .ok (.iload_n 3, 1) := by decide +kernel
theorem dX11_thing_123 : decode cX11_thing 123 = .ok (.ireturn, 1) := by decide +kernel
theorem dX11_thing_124 : decode cX11_thing 124 = .ok (.aload_n 0, 1) := by decide +kernel
theorem dX11_thing_125 : decode cX11_thing 125 = .ok (.iload_n 1, 1) := by decide +kernel
theorem dX11_thing_126 : decode cX11_thing 126 = .ok (.invokevirtual 280, 3) := by decide +kernel
theorem dX11_thing_129 : decode cX11_thing 129 = .ok (.ireturn, 1) := by decide +kernel
theorem dX11_thing_130 : decode cX11_thing 130 = .ok (.iconst (-1), 1) := by decide +kernel
theorem dX11_thing_131 : decode cX11_thing 131 = .ok (.ireturn, 1) := by decide +kernel
theorem dX11_bed_0 : decode cX11_bed 0 = .ok (.aload_n 0, 1) := by decide +kernel
theorem dX11_bed_1 : decode cX11_bed 1 = .ok (.iconst 0, 1) := by decide +kernel
theorem dX11_bed_2 : decode cX11_bed 2 = .ok (.putfield 1, 3) := by decide +kernel
theorem dX11_bed_5 : decode cX11_bed 5 = .ok (.aload_n 0, 1) := by decide +kernel
theorem dX11_bed_6 : decode cX11_bed 6 = .ok (.iload_n 1, 1) := by decide +kernel
theorem dX11_bed_7 : decode cX11_bed 7 = .ok (.invokevirtual 283, 3) := by decide +kernel
theorem dX11_bed_10 : decode cX11_bed 10 = .ok (.ifCond .ne 5, 3) := by decide +kernel
theorem dX11_bed_13 : decode cX11_bed 13 = .ok (.iconst (-1), 1) := by decide +kernel
theorem dX11_bed_14 : decode cX11_bed 14 = .ok (.ireturn, 1) := by decide +kernel
theorem dX11_bed_15 : decode cX11_bed 15 = .ok (.iload_n 2, 1) := by decide +kernel
theorem dX11_bed_16 : decode cX11_bed 16 = .ok (.ifCond .ne 15, 3) := by decide +kernel
theorem dX11_bed_19 : decode cX11_bed 19 = .ok (.aload_n 0, 1) := by decide +kernel
theorem dX11_bed_20 : decode cX11_bed 20 = .ok (.getfield 33, 3) := by decide +kernel
theorem dX11_bed_23 : decode cX11_bed 23 = .ok (.bipush 117, 2) := by decide +kernel
theorem dX11_bed_25 : decode cX11_bed 25 = .ok (.iload_n 1, 1) := by decide +kernel
theorem dX11_bed_26 : decode cX11_bed 26 = .ok (.iadd, 1) := by decide +kernel
theorem dX11_bed_27 : decode cX11_bed 27 = .ok (.iaload, 1) := by decide +kernel
theorem dX11_bed_28 : decode cX11_bed 28 = .ok (.goto 61, 3) := by decide +kernel
theorem dX11_bed_31 : decode cX11_bed 31 = .ok (.iload_n 2, 1) := by decide +kernel
theorem dX11_bed_32 : decode cX11_bed 32 = .ok (.iconst 1, 1) := by decide +kernel
theorem dX11_bed_33 : decode cX11_bed 33 = .ok (.if_icmp .ne 16, 3) := by decide +kernel
theorem dX11_bed_36 : decode cX11_bed 36 = .ok (.aload_n 0, 1) := by decide +kernel
theorem dX11_bed_37 : decode cX11_bed 37 = .ok (.getfield 33, 3) := by decide +kernel
theorem dX11_bed_40 : decode cX11_bed 40 = .ok (.sipush 193, 3) := by decide +kernel
theorem dX11_bed_43 : decode cX11_bed 43 = .ok (.iload_n 1, 1) := by decide +kernel
theorem dX11_bed_44 : decode cX11_bed 44 = .ok (.iadd, 1) := by decide +kernel
theorem dX11_bed_45 : decode cX11_bed 45 = .ok (.iaload, 1) := by decide +kernel
theorem dX11_bed_46 : decode cX11_bed 46 = .ok (.goto 43, 3) := by decide +kernel
theorem dX11_bed_49 : decode cX11_bed 49 = .ok (.iload_n 2, 1) := by decide +kernel
theorem dX11_bed_50 : decode cX11_bed 50 = .ok (.iconst 2, 1) := by decide +kernel
theorem dX11_bed_51 : decode cX11_bed 51 = .ok (.if_icmp .ne 19, 3) := by decide +kernel
theorem dX11_bed_54 : decode cX11_bed 54 = .ok (.aload_n 0, 1) := by decide +kernel
theorem dX11_bed_55 : decode cX11_bed 55 = .ok (.iload_n 1, 1) := by decide +kernel
theorem dX11_bed_56 : decode cX11_bed 56 = .ok (.invokevirtual 251, 3) := by decide +kernel
theorem dX11_bed_59 : decode cX11_bed 59 = .ok (.ifCond .eq 7, 3) := by decide +kernel
theorem dX11_bed_62 : decode cX11_bed 62 = .ok (.iconst 1, 1) := by decide +kernel
theorem dX11_bed_63 : decode cX11_bed 63 = .ok (.goto 26, 3) := by decide +kernel
theorem dX11_bed_66 : decode cX11_bed 66 = .ok (.iconst 0, 1) := by decide +kernel
theorem dX11_bed_67 : decode cX11_bed 67 = .ok (.goto 22, 3) := by decide +kernel
theorem dX11_bed_70 : decode cX11_bed 70 = .ok (.iload_n 2, 1) := by decide +kernel
theorem dX11_bed_71 : decode cX11_bed 71 = .ok (.iconst 3, 1) := by decide +kernel
theorem dX11_bed_72 : decode cX11_bed 72 = .ok (.if_icmp .ne 16, 3) := by decide +kernel
theorem dX11_bed_75 : decode cX11_bed 75 = .ok (.aload_n 0, 1) := by decide +kernel
theorem dX11_bed_76 : decode cX11_bed 76 = .ok (.getfield 33, 3) := by decide +kernel
theorem dX11_bed_79 : decode cX11_bed 79 = .ok (.sipush 197, 3) := by decide +kernel
theorem dX11_bed_82 : decode cX11_bed 82 = .ok (.iload_n 1, 1) := by decide +kernel
theorem dX11_bed_83 : decode cX11_bed 83 = .ok (.iadd, 1) := by decide +kernel
theorem dX11_bed_84 : decode cX11_bed 84 = .ok (.iaload, 1) := by decide +kernel
theorem dX11_bed_85 : decode cX11_bed 85 = .ok (.goto 4, 3) := by decide +kernel
theorem dX11_bed_88 : decode cX11_bed 88 = .ok (.iconst (-1), 1) := by decide +kernel
theorem dX11_bed_89 : decode cX11_bed 89 = .ok (.ireturn, 1) := by decide +kernel
theorem dX11_now_0 : decode cX11_now 0 = .ok (.aload_n 0, 1) := by decide +kernel
theorem dX11_now_1 : decode cX11_now 1 = .ok (.iconst 0, 1) := by decide +kernel
theorem dX11_now_2 : decode cX11_now 2 = .ok (.putfield 1, 3) := by decide +kernel
theorem dX11_now_5 : decode cX11_now 5 = .ok (.iconst 0, 1) := by decide +kernel
theorem dX11_now_6 : decode cX11_now 6 = .ok (.istore_n 2, 1) := by decide +kernel
theorem dX11_now_7 : decode cX11_now 7 = .ok (.iconst 0, 1) := by decide +kernel
theorem dX11_now_8 : decode cX11_now 8 = .ok (.istore_n 3, 1) := by decide +kernel
theorem dX11_now_9 : decode cX11_now 9 = .ok (.iload_n 3, 1) := by decide +kernel
theorem dX11_now_10 : decode cX11_now 10 = .ok (.aload_n 0, 1) := by decide +kernel
theorem dX11_now_11 : decode cX11_now 11 = .ok (.getfield 33, 3) := by decide +kernel
theorem dX11_now_14 : decode cX11_now 14 = .ok (.iconst 1, 1) := by decide +kernel
theorem dX11_now_15 : decode cX11_now 15 = .ok (.iaload, 1) := by decide +kernel
theorem dX11_now_16 : decode cX11_now 16 = .ok (.if_icmp .ge 27, 3) := by decide +kernel
theorem dX11_now_19 : decode cX11_now 19 = .ok (.iload_n 2, 1) := by decide +kernel
theorem dX11_now_20 : decode cX11_now 20 = .ok (.aload_n 0, 1) := by decide +kernel
theorem dX11_now_21 : decode cX11_now 21 = .ok (.iload_n 3, 1) := by decide +kernel
theorem dX11_now_22 : decode cX11_now 22 = .ok (.invokevirtual 271, 3) := by decide +kernel
theorem dX11_now_25 : decode cX11_now 25 = .ok (.ifCond .eq 9, 3) := by decide +kernel
theorem dX11_now_28 : decode cX11_now 28 = .ok (.iconst 1, 1) := by decide +kernel
theorem dX11_now_29 : decode cX11_now 29 = .ok (.iload_n 3, 1) := by decide +kernel
theorem dX11_now_30 : decode cX11_now 30 = .ok (.ishl, 1) := by decide +kernel
theorem dX11_now_31 : decode cX11_now 31 = .ok (.goto 4, 3) := by decide +kernel
theorem dX11_now_34 : decode cX11_now 34 = .ok (.iconst 0, 1) := by decide +kernel
theorem dX11_now_35 : decode cX11_now 35 = .ok (.ior, 1) := by decide +kernel
theorem dX11_now_36 : decode cX11_now 36 = .ok (.istore_n 2, 1) := by decide +kernel
theorem dX11_now_37 : decode cX11_now 37 = .ok (.iinc 3 1, 3) := by decide +kernel
theorem dX11_now_40 : decode cX11_now 40 = .ok (.goto (-31), 3) := by decide +kernel
theorem dX11_now_43 : decode cX11_now 43 = .ok (.iload_n 1, 1) := by decide +kernel
theorem dX11_now_44 : decode cX11_now 44 = .ok (.tableswitch 88 0 6 #[44, 52, 57, 62, 64, 72, 80], 44) := by decide +kernel
theorem dX11_now_88 : decode cX11_now 88 = .ok (.aload_n 0, 1) := by decide +kernel
theorem dX11_now_89 : decode cX11_now 89 = .ok (.getfield 33, 3) := by decide +kernel
theorem dX11_now_92 : decode cX11_now 92 = .ok (.bipush 121, 2) := by decide +kernel
theorem dX11_now_94 : decode cX11_now 94 = .ok (.iaload, 1) := by decide +kernel
theorem dX11_now_95 : decode cX11_now 95 = .ok (.ireturn, 1) := by decide +kernel
theorem dX11_now_96 : decode cX11_now 96 = .ok (.aload_n 0, 1) := by decide +kernel
theorem dX11_now_97 : decode cX11_now 97 = .ok (.invokevirtual 286, 3) := by decide +kernel
theorem dX11_now_100 : decode cX11_now 100 = .ok (.ireturn, 1) := by decide +kernel
theorem dX11_now_101 : decode cX11_now 101 = .ok (.aload_n 0, 1) := by decide +kernel
theorem dX11_now_102 : decode cX11_now 102 = .ok (.invokevirtual 289, 3) := by decide +kernel
theorem dX11_now_105 : decode cX11_now 105 = .ok (.ireturn, 1) := by decide +kernel
theorem dX11_now_106 : decode cX11_now 106 = .ok (.iload_n 2, 1) := by decide +kernel
theorem dX11_now_107 : decode cX11_now 107 = .ok (.ireturn, 1) := by decide +kernel
theorem dX11_now_108 : decode cX11_now 108 = .ok (.aload_n 0, 1) := by decide +kernel
theorem dX11_now_109 : decode cX11_now 109 = .ok (.getfield 33, 3) := by decide +kernel
theorem dX11_now_112 : decode cX11_now 112 = .ok (.bipush 122, 2) := by decide +kernel
theorem dX11_now_114 : decode cX11_now 114 = .ok (.iaload, 1) := by decide +kernel
theorem dX11_now_115 : decode cX11_now 115 = .ok (.ireturn, 1) := by decide +kernel
theorem dX11_now_116 : decode cX11_now 116 = .ok (.aload_n 0, 1) := by decide +kernel
theorem dX11_now_117 : decode cX11_now 117 = .ok (.getfield 33, 3) := by decide +kernel
theorem dX11_now_120 : decode cX11_now 120 = .ok (.bipush 123, 2) := by decide +kernel
theorem dX11_now_122 : decode cX11_now 122 = .ok (.iaload, 1) := by decide +kernel
theorem dX11_now_123 : decode cX11_now 123 = .ok (.ireturn, 1) := by decide +kernel
theorem dX11_now_124 : decode cX11_now 124 = .ok (.aload_n 0, 1) := by decide +kernel
theorem dX11_now_125 : decode cX11_now 125 = .ok (.getfield 33, 3) := by decide +kernel
theorem dX11_now_128 : decode cX11_now 128 = .ok (.bipush 124, 2) := by decide +kernel
theorem dX11_now_130 : decode cX11_now 130 = .ok (.iaload, 1) := by decide +kernel
theorem dX11_now_131 : decode cX11_now 131 = .ok (.ireturn, 1) := by decide +kernel
theorem dX11_now_132 : decode cX11_now 132 = .ok (.iconst (-1), 1) := by decide +kernel
theorem dX11_now_133 : decode cX11_now 133 = .ok (.ireturn, 1) := by decide +kernel
theorem dX11_whyStroke_0 : decode cX11_whyStroke 0 = .ok (.aload_n 0, 1) := by decide +kernel
theorem dX11_whyStroke_1 : decode cX11_whyStroke 1 = .ok (.getfield 33, 3) := by decide +kernel
theorem dX11_whyStroke_4 : decode cX11_whyStroke 4 = .ok (.bipush 125, 2) := by decide +kernel
theorem dX11_whyStroke_6 : decode cX11_whyStroke 6 = .ok (.iload_n 1, 1) := by decide +kernel
theorem dX11_whyStroke_7 : decode cX11_whyStroke 7 = .ok (.iadd, 1) := by decide +kernel
theorem dX11_whyStroke_8 : decode cX11_whyStroke 8 = .ok (.iaload, 1) := by decide +kernel
theorem dX11_whyStroke_9 : decode cX11_whyStroke 9 = .ok (.ifCond .ne 5, 3) := by decide +kernel
theorem dX11_whyStroke_12 : decode cX11_whyStroke 12 = .ok (.iconst 1, 1) := by decide +kernel
theorem dX11_whyStroke_13 : decode cX11_whyStroke 13 = .ok (.ireturn, 1) := by decide +kernel
theorem dX11_whyStroke_14 : decode cX11_whyStroke 14 = .ok (.aload_n 0, 1) := by decide +kernel
theorem dX11_whyStroke_15 : decode cX11_whyStroke 15 = .ok (.iload_n 1, 1) := by decide +kernel
theorem dX11_whyStroke_16 : decode cX11_whyStroke 16 = .ok (.iconst 0, 1) := by decide +kernel
theorem dX11_whyStroke_17 : decode cX11_whyStroke 17 = .ok (.invokevirtual 265, 3) := by decide +kernel
theorem dX11_whyStroke_20 : decode cX11_whyStroke 20 = .ok (.iload_n 2, 1) := by decide +kernel
theorem dX11_whyStroke_21 : decode cX11_whyStroke 21 = .ok (.if_icmp .le 5, 3) := by decide +kernel
theorem dX11_whyStroke_24 : decode cX11_whyStroke 24 = .ok (.iconst 2, 1) := by decide +kernel
theorem dX11_whyStroke_25 : decode cX11_whyStroke 25 = .ok (.ireturn, 1) := by decide +kernel
theorem dX11_whyStroke_26 : decode cX11_whyStroke 26 = .ok (.iload_n 2, 1) := by decide +kernel
theorem dX11_whyStroke_27 : decode cX11_whyStroke 27 = .ok (.aload_n 0, 1) := by decide +kernel
theorem dX11_whyStroke_28 : decode cX11_whyStroke 28 = .ok (.getfield 33, 3) := by decide +kernel
theorem dX11_whyStroke_31 : decode cX11_whyStroke 31 = .ok (.iconst 4, 1) := by decide +kernel
theorem dX11_whyStroke_32 : decode cX11_whyStroke 32 = .ok (.iaload, 1) := by decide +kernel
theorem dX11_whyStroke_33 : decode cX11_whyStroke 33 = .ok (.if_icmp .le 5, 3) := by decide +kernel
theorem dX11_whyStroke_36 : decode cX11_whyStroke 36 = .ok (.iconst 3, 1) := by decide +kernel
theorem dX11_whyStroke_37 : decode cX11_whyStroke 37 = .ok (.ireturn, 1) := by decide +kernel
theorem dX11_whyStroke_38 : decode cX11_whyStroke 38 = .ok (.aload_n 0, 1) := by decide +kernel
theorem dX11_whyStroke_39 : decode cX11_whyStroke 39 = .ok (.getfield 33, 3) := by decide +kernel
theorem dX11_whyStroke_42 : decode cX11_whyStroke 42 = .ok (.sipush 179, 3) := by decide +kernel
theorem dX11_whyStroke_45 : decode cX11_whyStroke 45 = .ok (.iload_n 1, 1) := by decide +kernel
theorem dX11_whyStroke_46 : decode cX11_whyStroke 46 = .ok (.iadd, 1) := by decide +kernel
theorem dX11_whyStroke_47 : decode cX11_whyStroke 47 = .ok (.iaload, 1) := by decide +kernel
theorem dX11_whyStroke_48 : decode cX11_whyStroke 48 = .ok (.iload_n 2, 1) := by decide +kernel
theorem dX11_whyStroke_49 : decode cX11_whyStroke 49 = .ok (.iadd, 1) := by decide +kernel
theorem dX11_whyStroke_50 : decode cX11_whyStroke 50 = .ok (.aload_n 0, 1) := by decide +kernel
theorem dX11_whyStroke_51 : decode cX11_whyStroke 51 = .ok (.getfield 33, 3) := by decide +kernel
theorem dX11_whyStroke_54 : decode cX11_whyStroke 54 = .ok (.bipush 21, 2) := by decide +kernel
theorem dX11_whyStroke_56 : decode cX11_whyStroke 56 = .ok (.iload_n 1, 1) := by decide +kernel
theorem dX11_whyStroke_57 : decode cX11_whyStroke 57 = .ok (.iadd, 1) := by decide +kernel
theorem dX11_whyStroke_58 : decode cX11_whyStroke 58 = .ok (.iaload, 1) := by decide +kernel
theorem dX11_whyStroke_59 : decode cX11_whyStroke 59 = .ok (.if_icmp .le 7, 3) := by decide +kernel
theorem dX11_whyStroke_62 : decode cX11_whyStroke 62 = .ok (.iconst 4, 1) := by decide +kernel
theorem dX11_whyStroke_63 : decode cX11_whyStroke 63 = .ok (.goto 4, 3) := by decide +kernel
theorem dX11_whyStroke_66 : decode cX11_whyStroke 66 = .ok (.iconst 0, 1) := by decide +kernel
theorem dX11_whyStroke_67 : decode cX11_whyStroke 67 = .ok (.ireturn, 1) := by decide +kernel
theorem dX11_draws_0 : decode cX11_draws 0 = .ok (.aload_n 0, 1) := by decide +kernel
theorem dX11_draws_1 : decode cX11_draws 1 = .ok (.iload_n 1, 1) := by decide +kernel
theorem dX11_draws_2 : decode cX11_draws 2 = .ok (.iconst 0, 1) := by decide +kernel
theorem dX11_draws_3 : decode cX11_draws 3 = .ok (.invokevirtual 245, 3) := by decide +kernel
theorem dX11_draws_6 : decode cX11_draws 6 = .ok (.istore_n 3, 1) := by decide +kernel
theorem dX11_draws_7 : decode cX11_draws 7 = .ok (.aload_n 0, 1) := by decide +kernel
theorem dX11_draws_8 : decode cX11_draws 8 = .ok (.iload_n 1, 1) := by decide +kernel
theorem dX11_draws_9 : decode cX11_draws 9 = .ok (.iconst 0, 1) := by decide +kernel
theorem dX11_draws_10 : decode cX11_draws 10 = .ok (.invokevirtual 248, 3) := by decide +kernel
theorem dX11_draws_13 : decode cX11_draws 13 = .ok (.istore 4, 2) := by decide +kernel
theorem dX11_draws_15 : decode cX11_draws 15 = .ok (.iload_n 2, 1) := by decide +kernel
theorem dX11_draws_16 : decode cX11_draws 16 = .ok (.ifCond .eq 18, 3) := by decide +kernel
theorem dX11_draws_19 : decode cX11_draws 19 = .ok (.iload 4, 2) := by decide +kernel
theorem dX11_draws_21 : decode cX11_draws 21 = .ok (.bipush 10, 2) := by decide +kernel
theorem dX11_draws_23 : decode cX11_draws 23 = .ok (.aload_n 0, 1) := by decide +kernel
theorem dX11_draws_24 : decode cX11_draws 24 = .ok (.invokevirtual 286, 3) := by decide +kernel
theorem dX11_draws_27 : decode cX11_draws 27 = .ok (.isub, 1) := by decide +kernel
theorem dX11_draws_28 : decode cX11_draws 28 = .ok (.invokestatic 292, 3) := by decide +kernel
theorem dX11_draws_31 : decode cX11_draws 31 = .ok (.goto 4, 3) := by decide +kernel
theorem dX11_draws_34 : decode cX11_draws 34 = .ok (.iconst 0, 1) := by decide +kernel
theorem dX11_draws_35 : decode cX11_draws 35 = .ok (.istore 5, 2) := by decide +kernel
theorem dX11_draws_37 : decode cX11_draws 37 = .ok (.aload_n 0, 1) := by decide +kernel
theorem dX11_draws_38 : decode cX11_draws 38 = .ok (.getfield 33, 3) := by decide +kernel
theorem dX11_draws_41 : decode cX11_draws 41 = .ok (.sipush 185, 3) := by decide +kernel
theorem dX11_draws_44 : decode cX11_draws 44 = .ok (.iload_n 3, 1) := by decide +kernel
theorem dX11_draws_45 : decode cX11_draws 45 = .ok (.iadd, 1) := by decide +kernel
theorem dX11_draws_46 : decode cX11_draws 46 = .ok (.dup2, 1) := by decide +kernel
theorem dX11_draws_47 : decode cX11_draws 47 = .ok (.iaload, 1) := by decide +kernel
theorem dX11_draws_48 : decode cX11_draws 48 = .ok (.iload 5, 2) := by decide +kernel
theorem dX11_draws_50 : decode cX11_draws 50 = .ok (.iadd, 1) := by decide +kernel
theorem dX11_draws_51 : decode cX11_draws 51 = .ok (.iastore, 1) := by decide +kernel
theorem dX11_draws_52 : decode cX11_draws 52 = .ok (.aload_n 0, 1) := by decide +kernel
theorem dX11_draws_53 : decode cX11_draws 53 = .ok (.getfield 33, 3) := by decide +kernel
theorem dX11_draws_56 : decode cX11_draws 56 = .ok (.bipush 124, 2) := by decide +kernel
theorem dX11_draws_58 : decode cX11_draws 58 = .ok (.dup2, 1) := by decide +kernel
theorem dX11_draws_59 : decode cX11_draws 59 = .ok (.iaload, 1) := by decide +kernel
theorem dX11_draws_60 : decode cX11_draws 60 = .ok (.iload 4, 2) := by decide +kernel
theorem dX11_draws_62 : decode cX11_draws 62 = .ok (.iload 5, 2) := by decide +kernel
theorem dX11_draws_64 : decode cX11_draws 64 = .ok (.isub, 1) := by decide +kernel
theorem dX11_draws_65 : decode cX11_draws 65 = .ok (.iadd, 1) := by decide +kernel
theorem dX11_draws_66 : decode cX11_draws 66 = .ok (.iastore, 1) := by decide +kernel
theorem dX11_draws_67 : decode cX11_draws 67 = .ok (.aload_n 0, 1) := by decide +kernel
theorem dX11_draws_68 : decode cX11_draws 68 = .ok (.getfield 33, 3) := by decide +kernel
theorem dX11_draws_71 : decode cX11_draws 71 = .ok (.bipush 125, 2) := by decide +kernel
theorem dX11_draws_73 : decode cX11_draws 73 = .ok (.iload_n 1, 1) := by decide +kernel
theorem dX11_draws_74 : decode cX11_draws 74 = .ok (.iadd, 1) := by decide +kernel
theorem dX11_draws_75 : decode cX11_draws 75 = .ok (.dup2, 1) := by decide +kernel
theorem dX11_draws_76 : decode cX11_draws 76 = .ok (.iaload, 1) := by decide +kernel
theorem dX11_draws_77 : decode cX11_draws 77 = .ok (.iload 4, 2) := by decide +kernel
theorem dX11_draws_79 : decode cX11_draws 79 = .ok (.isub, 1) := by decide +kernel
theorem dX11_draws_80 : decode cX11_draws 80 = .ok (.iastore, 1) := by decide +kernel
theorem dX11_draws_81 : decode cX11_draws 81 = .ok (.return_, 1) := by decide +kernel
theorem dX11_strokes_0 : decode cX11_strokes 0 = .ok (.iconst 0, 1) := by decide +kernel
theorem dX11_strokes_1 : decode cX11_strokes 1 = .ok (.istore_n 3, 1) := by decide +kernel
theorem dX11_strokes_2 : decode cX11_strokes 2 = .ok (.aload_n 0, 1) := by decide +kernel
theorem dX11_strokes_3 : decode cX11_strokes 3 = .ok (.getfield 33, 3) := by decide +kernel
theorem dX11_strokes_6 : decode cX11_strokes 6 = .ok (.bipush 125, 2) := by decide +kernel
theorem dX11_strokes_8 : decode cX11_strokes 8 = .ok (.iload_n 1, 1) := by decide +kernel
theorem dX11_strokes_9 : decode cX11_strokes 9 = .ok (.iadd, 1) := by decide +kernel
theorem dX11_strokes_10 : decode cX11_strokes 10 = .ok (.iaload, 1) := by decide +kernel
theorem dX11_strokes_11 : decode cX11_strokes 11 = .ok (.ifCond .le 33, 3) := by decide +kernel
theorem dX11_strokes_14 : decode cX11_strokes 14 = .ok (.iload_n 3, 1) := by decide +kernel
theorem dX11_strokes_15 : decode cX11_strokes 15 = .ok (.aload_n 0, 1) := by decide +kernel
theorem dX11_strokes_16 : decode cX11_strokes 16 = .ok (.iload_n 1, 1) := by decide +kernel
theorem dX11_strokes_17 : decode cX11_strokes 17 = .ok (.iconst 0, 1) := by decide +kernel
theorem dX11_strokes_18 : decode cX11_strokes 18 = .ok (.invokevirtual 265, 3) := by decide +kernel
theorem dX11_strokes_21 : decode cX11_strokes 21 = .ok (.iadd, 1) := by decide +kernel
theorem dX11_strokes_22 : decode cX11_strokes 22 = .ok (.iload_n 2, 1) := by decide +kernel
theorem dX11_strokes_23 : decode cX11_strokes 23 = .ok (.if_icmp .gt 21, 3) := by decide +kernel
theorem dX11_strokes_26 : decode cX11_strokes 26 = .ok (.iload_n 3, 1) := by decide +kernel
theorem dX11_strokes_27 : decode cX11_strokes 27 = .ok (.aload_n 0, 1) := by decide +kernel
theorem dX11_strokes_28 : decode cX11_strokes 28 = .ok (.iload_n 1, 1) := by decide +kernel
theorem dX11_strokes_29 : decode cX11_strokes 29 = .ok (.iconst 0, 1) := by decide +kernel
theorem dX11_strokes_30 : decode cX11_strokes 30 = .ok (.invokevirtual 265, 3) := by decide +kernel
theorem dX11_strokes_33 : decode cX11_strokes 33 = .ok (.iadd, 1) := by decide +kernel
theorem dX11_strokes_34 : decode cX11_strokes 34 = .ok (.istore_n 3, 1) := by decide +kernel
theorem dX11_strokes_35 : decode cX11_strokes 35 = .ok (.aload_n 0, 1) := by decide +kernel
theorem dX11_strokes_36 : decode cX11_strokes 36 = .ok (.iload_n 1, 1) := by decide +kernel
theorem dX11_strokes_37 : decode cX11_strokes 37 = .ok (.iconst 1, 1) := by decide +kernel
theorem dX11_strokes_38 : decode cX11_strokes 38 = .ok (.invokevirtual 295, 3) := by decide +kernel
theorem dX11_strokes_41 : decode cX11_strokes 41 = .ok (.goto (-39), 3) := by decide +kernel
theorem dX11_strokes_44 : decode cX11_strokes 44 = .ok (.aload_n 0, 1) := by decide +kernel
theorem dX11_strokes_45 : decode cX11_strokes 45 = .ok (.getfield 33, 3) := by decide +kernel
theorem dX11_strokes_48 : decode cX11_strokes 48 = .ok (.sipush 179, 3) := by decide +kernel
theorem dX11_strokes_51 : decode cX11_strokes 51 = .ok (.iload_n 1, 1) := by decide +kernel
theorem dX11_strokes_52 : decode cX11_strokes 52 = .ok (.iadd, 1) := by decide +kernel
theorem dX11_strokes_53 : decode cX11_strokes 53 = .ok (.dup2, 1) := by decide +kernel
theorem dX11_strokes_54 : decode cX11_strokes 54 = .ok (.iaload, 1) := by decide +kernel
theorem dX11_strokes_55 : decode cX11_strokes 55 = .ok (.iload_n 2, 1) := by decide +kernel
theorem dX11_strokes_56 : decode cX11_strokes 56 = .ok (.iadd, 1) := by decide +kernel
theorem dX11_strokes_57 : decode cX11_strokes 57 = .ok (.iastore, 1) := by decide +kernel
theorem dX11_strokes_58 : decode cX11_strokes 58 = .ok (.aload_n 0, 1) := by decide +kernel
theorem dX11_strokes_59 : decode cX11_strokes 59 = .ok (.getfield 33, 3) := by decide +kernel
theorem dX11_strokes_62 : decode cX11_strokes 62 = .ok (.bipush 122, 2) := by decide +kernel
theorem dX11_strokes_64 : decode cX11_strokes 64 = .ok (.dup2, 1) := by decide +kernel
theorem dX11_strokes_65 : decode cX11_strokes 65 = .ok (.iaload, 1) := by decide +kernel
theorem dX11_strokes_66 : decode cX11_strokes 66 = .ok (.iconst 1, 1) := by decide +kernel
theorem dX11_strokes_67 : decode cX11_strokes 67 = .ok (.iadd, 1) := by decide +kernel
theorem dX11_strokes_68 : decode cX11_strokes 68 = .ok (.iastore, 1) := by decide +kernel
theorem dX11_strokes_69 : decode cX11_strokes 69 = .ok (.return_, 1) := by decide +kernel
theorem dX11_cuts_0 : decode cX11_cuts 0 = .ok (.aload_n 0, 1) := by decide +kernel
theorem dX11_cuts_1 : decode cX11_cuts 1 = .ok (.iload_n 1, 1) := by decide +kernel
theorem dX11_cuts_2 : decode cX11_cuts 2 = .ok (.iconst 0, 1) := by decide +kernel
theorem dX11_cuts_3 : decode cX11_cuts 3 = .ok (.invokevirtual 295, 3) := by decide +kernel
theorem dX11_cuts_6 : decode cX11_cuts 6 = .ok (.aload_n 0, 1) := by decide +kernel
theorem dX11_cuts_7 : decode cX11_cuts 7 = .ok (.getfield 33, 3) := by decide +kernel
theorem dX11_cuts_10 : decode cX11_cuts 10 = .ok (.bipush 123, 2) := by decide +kernel
theorem dX11_cuts_12 : decode cX11_cuts 12 = .ok (.dup2, 1) := by decide +kernel
theorem dX11_cuts_13 : decode cX11_cuts 13 = .ok (.iaload, 1) := by decide +kernel
theorem dX11_cuts_14 : decode cX11_cuts 14 = .ok (.iconst 1, 1) := by decide +kernel
theorem dX11_cuts_15 : decode cX11_cuts 15 = .ok (.iadd, 1) := by decide +kernel
theorem dX11_cuts_16 : decode cX11_cuts 16 = .ok (.iastore, 1) := by decide +kernel
theorem dX11_cuts_17 : decode cX11_cuts 17 = .ok (.return_, 1) := by decide +kernel
theorem dX11_catches_0 : decode cX11_catches 0 = .ok (.aload_n 0, 1) := by decide +kernel
theorem dX11_catches_1 : decode cX11_catches 1 = .ok (.getfield 33, 3) := by decide +kernel
theorem dX11_catches_4 : decode cX11_catches 4 = .ok (.sipush 131, 3) := by decide +kernel
theorem dX11_catches_7 : decode cX11_catches 7 = .ok (.bipush 8, 2) := by decide +kernel
theorem dX11_catches_9 : decode cX11_catches 9 = .ok (.iload_n 1, 1) := by decide +kernel
theorem dX11_catches_10 : decode cX11_catches 10 = .ok (.imul, 1) := by decide +kernel
theorem dX11_catches_11 : decode cX11_catches 11 = .ok (.iadd, 1) := by decide +kernel
theorem dX11_catches_12 : decode cX11_catches 12 = .ok (.aload_n 0, 1) := by decide +kernel
theorem dX11_catches_13 : decode cX11_catches 13 = .ok (.getfield 33, 3) := by decide +kernel
theorem dX11_catches_16 : decode cX11_catches 16 = .ok (.bipush 125, 2) := by decide +kernel
theorem dX11_catches_18 : decode cX11_catches 18 = .ok (.iload_n 1, 1) := by decide +kernel
theorem dX11_catches_19 : decode cX11_catches 19 = .ok (.iadd, 1) := by decide +kernel
theorem dX11_catches_20 : decode cX11_catches 20 = .ok (.iaload, 1) := by decide +kernel
theorem dX11_catches_21 : decode cX11_catches 21 = .ok (.iadd, 1) := by decide +kernel
theorem dX11_catches_22 : decode cX11_catches 22 = .ok (.iload_n 2, 1) := by decide +kernel
theorem dX11_catches_23 : decode cX11_catches 23 = .ok (.iastore, 1) := by decide +kernel
theorem dX11_catches_24 : decode cX11_catches 24 = .ok (.aload_n 0, 1) := by decide +kernel
theorem dX11_catches_25 : decode cX11_catches 25 = .ok (.getfield 33, 3) := by decide +kernel
theorem dX11_catches_28 : decode cX11_catches 28 = .ok (.bipush 125, 2) := by decide +kernel
theorem dX11_catches_30 : decode cX11_catches 30 = .ok (.iload_n 1, 1) := by decide +kernel
theorem dX11_catches_31 : decode cX11_catches 31 = .ok (.iadd, 1) := by decide +kernel
theorem dX11_catches_32 : decode cX11_catches 32 = .ok (.dup2, 1) := by decide +kernel
theorem dX11_catches_33 : decode cX11_catches 33 = .ok (.iaload, 1) := by decide +kernel
theorem dX11_catches_34 : decode cX11_catches 34 = .ok (.iconst 1, 1) := by decide +kernel
theorem dX11_catches_35 : decode cX11_catches 35 = .ok (.iadd, 1) := by decide +kernel
theorem dX11_catches_36 : decode cX11_catches 36 = .ok (.iastore, 1) := by decide +kernel
theorem dX11_catches_37 : decode cX11_catches 37 = .ok (.return_, 1) := by decide +kernel
theorem dX11_stuffs_0 : decode cX11_stuffs 0 = .ok (.aload_n 0, 1) := by decide +kernel
theorem dX11_stuffs_1 : decode cX11_stuffs 1 = .ok (.getfield 33, 3) := by decide +kernel
theorem dX11_stuffs_4 : decode cX11_stuffs 4 = .ok (.sipush 185, 3) := by decide +kernel
theorem dX11_stuffs_7 : decode cX11_stuffs 7 = .ok (.iload_n 2, 1) := by decide +kernel
theorem dX11_stuffs_8 : decode cX11_stuffs 8 = .ok (.iadd, 1) := by decide +kernel
theorem dX11_stuffs_9 : decode cX11_stuffs 9 = .ok (.dup2, 1) := by decide +kernel
theorem dX11_stuffs_10 : decode cX11_stuffs 10 = .ok (.iaload, 1) := by decide +kernel
theorem dX11_stuffs_11 : decode cX11_stuffs 11 = .ok (.iconst 1, 1) := by decide +kernel
theorem dX11_stuffs_12 : decode cX11_stuffs 12 = .ok (.isub, 1) := by decide +kernel
theorem dX11_stuffs_13 : decode cX11_stuffs 13 = .ok (.iastore, 1) := by decide +kernel
theorem dX11_stuffs_14 : decode cX11_stuffs 14 = .ok (.aload_n 0, 1) := by decide +kernel
theorem dX11_stuffs_15 : decode cX11_stuffs 15 = .ok (.getfield 33, 3) := by decide +kernel
theorem dX11_stuffs_18 : decode cX11_stuffs 18 = .ok (.sipush 193, 3) := by decide +kernel
theorem dX11_stuffs_21 : decode cX11_stuffs 21 = .ok (.iload_n 1, 1) := by decide +kernel
theorem dX11_stuffs_22 : decode cX11_stuffs 22 = .ok (.iadd, 1) := by decide +kernel
theorem dX11_stuffs_23 : decode cX11_stuffs 23 = .ok (.dup2, 1) := by decide +kernel
theorem dX11_stuffs_24 : decode cX11_stuffs 24 = .ok (.iaload, 1) := by decide +kernel
theorem dX11_stuffs_25 : decode cX11_stuffs 25 = .ok (.aload_n 0, 1) := by decide +kernel
theorem dX11_stuffs_26 : decode cX11_stuffs 26 = .ok (.getfield 33, 3) := by decide +kernel
theorem dX11_stuffs_29 : decode cX11_stuffs 29 = .ok (.bipush 13, 2) := by decide +kernel
theorem dX11_stuffs_31 : decode cX11_stuffs 31 = .ok (.iload_n 2, 1) := by decide +kernel
theorem dX11_stuffs_32 : decode cX11_stuffs 32 = .ok (.iadd, 1) := by decide +kernel
theorem dX11_stuffs_33 : decode cX11_stuffs 33 = .ok (.iaload, 1) := by decide +kernel
theorem dX11_stuffs_34 : decode cX11_stuffs 34 = .ok (.iadd, 1) := by decide +kernel
theorem dX11_stuffs_35 : decode cX11_stuffs 35 = .ok (.iastore, 1) := by decide +kernel
theorem dX11_stuffs_36 : decode cX11_stuffs 36 = .ok (.aload_n 0, 1) := by decide +kernel
theorem dX11_stuffs_37 : decode cX11_stuffs 37 = .ok (.getfield 33, 3) := by decide +kernel
theorem dX11_stuffs_40 : decode cX11_stuffs 40 = .ok (.sipush 197, 3) := by decide +kernel
theorem dX11_stuffs_43 : decode cX11_stuffs 43 = .ok (.iload_n 1, 1) := by decide +kernel
theorem dX11_stuffs_44 : decode cX11_stuffs 44 = .ok (.iadd, 1) := by decide +kernel
theorem dX11_stuffs_45 : decode cX11_stuffs 45 = .ok (.dup2, 1) := by decide +kernel
theorem dX11_stuffs_46 : decode cX11_stuffs 46 = .ok (.iaload, 1) := by decide +kernel
theorem dX11_stuffs_47 : decode cX11_stuffs 47 = .ok (.iconst 1, 1) := by decide +kernel
theorem dX11_stuffs_48 : decode cX11_stuffs 48 = .ok (.iadd, 1) := by decide +kernel
theorem dX11_stuffs_49 : decode cX11_stuffs 49 = .ok (.iastore, 1) := by decide +kernel
theorem dX11_stuffs_50 : decode cX11_stuffs 50 = .ok (.aload_n 0, 1) := by decide +kernel
theorem dX11_stuffs_51 : decode cX11_stuffs 51 = .ok (.getfield 33, 3) := by decide +kernel
theorem dX11_stuffs_54 : decode cX11_stuffs 54 = .ok (.sipush 201, 3) := by decide +kernel
theorem dX11_stuffs_57 : decode cX11_stuffs 57 = .ok (.iload_n 2, 1) := by decide +kernel
theorem dX11_stuffs_58 : decode cX11_stuffs 58 = .ok (.iadd, 1) := by decide +kernel
theorem dX11_stuffs_59 : decode cX11_stuffs 59 = .ok (.dup2, 1) := by decide +kernel
theorem dX11_stuffs_60 : decode cX11_stuffs 60 = .ok (.iaload, 1) := by decide +kernel
theorem dX11_stuffs_61 : decode cX11_stuffs 61 = .ok (.iconst 1, 1) := by decide +kernel
theorem dX11_stuffs_62 : decode cX11_stuffs 62 = .ok (.iadd, 1) := by decide +kernel
theorem dX11_stuffs_63 : decode cX11_stuffs 63 = .ok (.iastore, 1) := by decide +kernel
theorem dX11_stuffs_64 : decode cX11_stuffs 64 = .ok (.return_, 1) := by decide +kernel
theorem dX11_day_0 : decode cX11_day 0 = .ok (.iconst 0, 1) := by decide +kernel
theorem dX11_day_1 : decode cX11_day 1 = .ok (.istore_n 1, 1) := by decide +kernel
theorem dX11_day_2 : decode cX11_day 2 = .ok (.iload_n 1, 1) := by decide +kernel
theorem dX11_day_3 : decode cX11_day 3 = .ok (.bipush 6, 2) := by decide +kernel
theorem dX11_day_5 : decode cX11_day 5 = .ok (.if_icmp .ge 20, 3) := by decide +kernel
theorem dX11_day_8 : decode cX11_day 8 = .ok (.aload_n 0, 1) := by decide +kernel
theorem dX11_day_9 : decode cX11_day 9 = .ok (.getfield 33, 3) := by decide +kernel
theorem dX11_day_12 : decode cX11_day 12 = .ok (.sipush 179, 3) := by decide +kernel
theorem dX11_day_15 : decode cX11_day 15 = .ok (.iload_n 1, 1) := by decide +kernel
theorem dX11_day_16 : decode cX11_day 16 = .ok (.iadd, 1) := by decide +kernel
theorem dX11_day_17 : decode cX11_day 17 = .ok (.iconst 0, 1) := by decide +kernel
theorem dX11_day_18 : decode cX11_day 18 = .ok (.iastore, 1) := by decide +kernel
theorem dX11_day_19 : decode cX11_day 19 = .ok (.iinc 1 1, 3) := by decide +kernel
theorem dX11_day_22 : decode cX11_day 22 = .ok (.goto (-20), 3) := by decide +kernel
theorem dX11_day_25 : decode cX11_day 25 = .ok (.iconst 0, 1) := by decide +kernel
theorem dX11_day_26 : decode cX11_day 26 = .ok (.istore_n 1, 1) := by decide +kernel
theorem dX11_day_27 : decode cX11_day 27 = .ok (.iload_n 1, 1) := by decide +kernel
theorem dX11_day_28 : decode cX11_day 28 = .ok (.aload_n 0, 1) := by decide +kernel
theorem dX11_day_29 : decode cX11_day 29 = .ok (.getfield 33, 3) := by decide +kernel
theorem dX11_day_32 : decode cX11_day 32 = .ok (.iconst 2, 1) := by decide +kernel
theorem dX11_day_33 : decode cX11_day 33 = .ok (.iaload, 1) := by decide +kernel
theorem dX11_day_34 : decode cX11_day 34 = .ok (.if_icmp .ge 69, 3) := by decide +kernel
theorem dX11_day_37 : decode cX11_day 37 = .ok (.aload_n 0, 1) := by decide +kernel
theorem dX11_day_38 : decode cX11_day 38 = .ok (.getfield 33, 3) := by decide +kernel
theorem dX11_day_41 : decode cX11_day 41 = .ok (.bipush 121, 2) := by decide +kernel
theorem dX11_day_43 : decode cX11_day 43 = .ok (.iaload, 1) := by decide +kernel
theorem dX11_day_44 : decode cX11_day 44 = .ok (.iconst 1, 1) := by decide +kernel
theorem dX11_day_45 : decode cX11_day 45 = .ok (.iadd, 1) := by decide +kernel
theorem dX11_day_46 : decode cX11_day 46 = .ok (.aload_n 0, 1) := by decide +kernel
theorem dX11_day_47 : decode cX11_day 47 = .ok (.getfield 33, 3) := by decide +kernel
theorem dX11_day_50 : decode cX11_day 50 = .ok (.bipush 105, 2) := by decide +kernel
theorem dX11_day_52 : decode cX11_day 52 = .ok (.iload_n 1, 1) := by decide +kernel
theorem dX11_day_53 : decode cX11_day 53 = .ok (.iadd, 1) := by decide +kernel
theorem dX11_day_54 : decode cX11_day 54 = .ok (.iaload, 1) := by decide +kernel
theorem dX11_day_55 : decode cX11_day 55 = .ok (.irem, 1) := by decide +kernel
theorem dX11_day_56 : decode cX11_day 56 = .ok (.ifCond .ne 41, 3) := by decide +kernel
theorem dX11_day_59 : decode cX11_day 59 = .ok (.aload_n 0, 1) := by decide +kernel
theorem dX11_day_60 : decode cX11_day 60 = .ok (.aload_n 0, 1) := by decide +kernel
theorem dX11_day_61 : decode cX11_day 61 = .ok (.getfield 33, 3) := by decide +kernel
theorem dX11_day_64 : decode cX11_day 64 = .ok (.bipush 81, 2) := by decide +kernel
theorem dX11_day_66 : decode cX11_day 66 = .ok (.iload_n 1, 1) := by decide +kernel
theorem dX11_day_67 : decode cX11_day 67 = .ok (.iadd, 1) := by decide +kernel
theorem dX11_day_68 : decode cX11_day 68 = .ok (.iaload, 1) := by decide +kernel
theorem dX11_day_69 : decode cX11_day 69 = .ok (.invokevirtual 271, 3) := by decide +kernel
theorem dX11_day_72 : decode cX11_day 72 = .ok (.ifCond .ne 25, 3) := by decide +kernel
theorem dX11_day_75 : decode cX11_day 75 = .ok (.aload_n 0, 1) := by decide +kernel
theorem dX11_day_76 : decode cX11_day 76 = .ok (.aload_n 0, 1) := by decide +kernel
theorem dX11_day_77 : decode cX11_day 77 = .ok (.getfield 33, 3) := by decide +kernel
theorem dX11_day_80 : decode cX11_day 80 = .ok (.bipush 81, 2) := by decide +kernel
theorem dX11_day_82 : decode cX11_day 82 = .ok (.iload_n 1, 1) := by decide +kernel
theorem dX11_day_83 : decode cX11_day 83 = .ok (.iadd, 1) := by decide +kernel
theorem dX11_day_84 : decode cX11_day 84 = .ok (.iaload, 1) := by decide +kernel
theorem dX11_day_85 : decode cX11_day 85 = .ok (.aload_n 0, 1) := by decide +kernel
theorem dX11_day_86 : decode cX11_day 86 = .ok (.getfield 33, 3) := by decide +kernel
theorem dX11_day_89 : decode cX11_day 89 = .ok (.bipush 93, 2) := by decide +kernel
theorem dX11_day_91 : decode cX11_day 91 = .ok (.iload_n 1, 1) := by decide +kernel
theorem dX11_day_92 : decode cX11_day 92 = .ok (.iadd, 1) := by decide +kernel
theorem dX11_day_93 : decode cX11_day 93 = .ok (.iaload, 1) := by decide +kernel
theorem dX11_day_94 : decode cX11_day 94 = .ok (.invokevirtual 299, 3) := by decide +kernel
theorem dX11_day_97 : decode cX11_day 97 = .ok (.iinc 1 1, 3) := by decide +kernel
theorem dX11_day_100 : decode cX11_day 100 = .ok (.goto (-73), 3) := by decide +kernel
theorem dX11_day_103 : decode cX11_day 103 = .ok (.aload_n 0, 1) := by decide +kernel
theorem dX11_day_104 : decode cX11_day 104 = .ok (.getfield 33, 3) := by decide +kernel
theorem dX11_day_107 : decode cX11_day 107 = .ok (.bipush 121, 2) := by decide +kernel
theorem dX11_day_109 : decode cX11_day 109 = .ok (.dup2, 1) := by decide +kernel
theorem dX11_day_110 : decode cX11_day 110 = .ok (.iaload, 1) := by decide +kernel
theorem dX11_day_111 : decode cX11_day 111 = .ok (.iconst 1, 1) := by decide +kernel
theorem dX11_day_112 : decode cX11_day 112 = .ok (.iadd, 1) := by decide +kernel
theorem dX11_day_113 : decode cX11_day 113 = .ok (.iastore, 1) := by decide +kernel
theorem dX11_day_114 : decode cX11_day 114 = .ok (.return_, 1) := by decide +kernel
theorem dX11_goesOn_0 : decode cX11_goesOn 0 = .ok (.iconst 0, 1) := by decide +kernel
theorem dX11_goesOn_1 : decode cX11_goesOn 1 = .ok (.istore_n 2, 1) := by decide +kernel
theorem dX11_goesOn_2 : decode cX11_goesOn 2 = .ok (.iload_n 2, 1) := by decide +kernel
theorem dX11_goesOn_3 : decode cX11_goesOn 3 = .ok (.iload_n 1, 1) := by decide +kernel
theorem dX11_goesOn_4 : decode cX11_goesOn 4 = .ok (.if_icmp .ge 26, 3) := by decide +kernel
theorem dX11_goesOn_7 : decode cX11_goesOn 7 = .ok (.aload_n 0, 1) := by decide +kernel
theorem dX11_goesOn_8 : decode cX11_goesOn 8 = .ok (.getfield 33, 3) := by decide +kernel
theorem dX11_goesOn_11 : decode cX11_goesOn 11 = .ok (.bipush 121, 2) := by decide +kernel
theorem dX11_goesOn_13 : decode cX11_goesOn 13 = .ok (.iaload, 1) := by decide +kernel
theorem dX11_goesOn_14 : decode cX11_goesOn 14 = .ok (.sipush 400, 3) := by decide +kernel
theorem dX11_goesOn_17 : decode cX11_goesOn 17 = .ok (.if_icmp .ge 13, 3) := by decide +kernel
theorem dX11_goesOn_20 : decode cX11_goesOn 20 = .ok (.aload_n 0, 1) := by decide +kernel
theorem dX11_goesOn_21 : decode cX11_goesOn 21 = .ok (.invokevirtual 303, 3) := by decide +kernel
theorem dX11_goesOn_24 : decode cX11_goesOn 24 = .ok (.iinc 2 1, 3) := by decide +kernel
theorem dX11_goesOn_27 : decode cX11_goesOn 27 = .ok (.goto (-25), 3) := by decide +kernel
theorem dX11_goesOn_30 : decode cX11_goesOn 30 = .ok (.iload_n 2, 1) := by decide +kernel
theorem dX11_goesOn_31 : decode cX11_goesOn 31 = .ok (.ireturn, 1) := by decide +kernel
theorem dX11_stroke_0 : decode cX11_stroke 0 = .ok (.aload_n 0, 1) := by decide +kernel
theorem dX11_stroke_1 : decode cX11_stroke 1 = .ok (.iconst 0, 1) := by decide +kernel
theorem dX11_stroke_2 : decode cX11_stroke 2 = .ok (.putfield 1, 3) := by decide +kernel
theorem dX11_stroke_5 : decode cX11_stroke 5 = .ok (.aload_n 0, 1) := by decide +kernel
theorem dX11_stroke_6 : decode cX11_stroke 6 = .ok (.iload_n 1, 1) := by decide +kernel
theorem dX11_stroke_7 : decode cX11_stroke 7 = .ok (.invokevirtual 254, 3) := by decide +kernel
theorem dX11_stroke_10 : decode cX11_stroke 10 = .ok (.ifCond .eq 13, 3) := by decide +kernel
theorem dX11_stroke_13 : decode cX11_stroke 13 = .ok (.iload_n 2, 1) := by decide +kernel
theorem dX11_stroke_14 : decode cX11_stroke 14 = .ok (.iconst 1, 1) := by decide +kernel
theorem dX11_stroke_15 : decode cX11_stroke 15 = .ok (.bipush 20, 2) := by decide +kernel
theorem dX11_stroke_17 : decode cX11_stroke 17 = .ok (.invokestatic 176, 3) := by decide +kernel
theorem dX11_stroke_20 : decode cX11_stroke 20 = .ok (.ifCond .ne 5, 3) := by decide +kernel
theorem dX11_stroke_23 : decode cX11_stroke 23 = .ok (.iconst (-1), 1) := by decide +kernel
theorem dX11_stroke_24 : decode cX11_stroke 24 = .ok (.ireturn, 1) := by decide +kernel
theorem dX11_stroke_25 : decode cX11_stroke 25 = .ok (.aload_n 0, 1) := by decide +kernel
theorem dX11_stroke_26 : decode cX11_stroke 26 = .ok (.iload_n 1, 1) := by decide +kernel
theorem dX11_stroke_27 : decode cX11_stroke 27 = .ok (.iload_n 2, 1) := by decide +kernel
theorem dX11_stroke_28 : decode cX11_stroke 28 = .ok (.invokevirtual 306, 3) := by decide +kernel
theorem dX11_stroke_31 : decode cX11_stroke 31 = .ok (.istore_n 3, 1) := by decide +kernel
theorem dX11_stroke_32 : decode cX11_stroke 32 = .ok (.iload_n 3, 1) := by decide +kernel
theorem dX11_stroke_33 : decode cX11_stroke 33 = .ok (.ifCond .le 5, 3) := by decide +kernel
theorem dX11_stroke_36 : decode cX11_stroke 36 = .ok (.iload_n 3, 1) := by decide +kernel
theorem dX11_stroke_37 : decode cX11_stroke 37 = .ok (.ireturn, 1) := by decide +kernel
theorem dX11_stroke_38 : decode cX11_stroke 38 = .ok (.aload_n 0, 1) := by decide +kernel
theorem dX11_stroke_39 : decode cX11_stroke 39 = .ok (.invokevirtual 309, 3) := by decide +kernel
theorem dX11_stroke_42 : decode cX11_stroke 42 = .ok (.aload_n 0, 1) := by decide +kernel
theorem dX11_stroke_43 : decode cX11_stroke 43 = .ok (.iload_n 1, 1) := by decide +kernel
theorem dX11_stroke_44 : decode cX11_stroke 44 = .ok (.iload_n 2, 1) := by decide +kernel
theorem dX11_stroke_45 : decode cX11_stroke 45 = .ok (.invokevirtual 312, 3) := by decide +kernel
theorem dX11_stroke_48 : decode cX11_stroke 48 = .ok (.iconst 0, 1) := by decide +kernel
theorem dX11_stroke_49 : decode cX11_stroke 49 = .ok (.ireturn, 1) := by decide +kernel
theorem dX11_cut_0 : decode cX11_cut 0 = .ok (.aload_n 0, 1) := by decide +kernel
theorem dX11_cut_1 : decode cX11_cut 1 = .ok (.iconst 0, 1) := by decide +kernel
theorem dX11_cut_2 : decode cX11_cut 2 = .ok (.putfield 1, 3) := by decide +kernel
theorem dX11_cut_5 : decode cX11_cut 5 = .ok (.aload_n 0, 1) := by decide +kernel
theorem dX11_cut_6 : decode cX11_cut 6 = .ok (.iload_n 1, 1) := by decide +kernel
theorem dX11_cut_7 : decode cX11_cut 7 = .ok (.invokevirtual 254, 3) := by decide +kernel
theorem dX11_cut_10 : decode cX11_cut 10 = .ok (.ifCond .ne 5, 3) := by decide +kernel
theorem dX11_cut_13 : decode cX11_cut 13 = .ok (.iconst (-1), 1) := by decide +kernel
theorem dX11_cut_14 : decode cX11_cut 14 = .ok (.ireturn, 1) := by decide +kernel
theorem dX11_cut_15 : decode cX11_cut 15 = .ok (.aload_n 0, 1) := by decide +kernel
theorem dX11_cut_16 : decode cX11_cut 16 = .ok (.getfield 33, 3) := by decide +kernel
theorem dX11_cut_19 : decode cX11_cut 19 = .ok (.bipush 125, 2) := by decide +kernel
theorem dX11_cut_21 : decode cX11_cut 21 = .ok (.iload_n 1, 1) := by decide +kernel
theorem dX11_cut_22 : decode cX11_cut 22 = .ok (.iadd, 1) := by decide +kernel
theorem dX11_cut_23 : decode cX11_cut 23 = .ok (.iaload, 1) := by decide +kernel
theorem dX11_cut_24 : decode cX11_cut 24 = .ok (.ifCond .ne 5, 3) := by decide +kernel
theorem dX11_cut_27 : decode cX11_cut 27 = .ok (.iconst 1, 1) := by decide +kernel
theorem dX11_cut_28 : decode cX11_cut 28 = .ok (.ireturn, 1) := by decide +kernel
theorem dX11_cut_29 : decode cX11_cut 29 = .ok (.aload_n 0, 1) := by decide +kernel
theorem dX11_cut_30 : decode cX11_cut 30 = .ok (.invokevirtual 309, 3) := by decide +kernel
theorem dX11_cut_33 : decode cX11_cut 33 = .ok (.aload_n 0, 1) := by decide +kernel
theorem dX11_cut_34 : decode cX11_cut 34 = .ok (.iload_n 1, 1) := by decide +kernel
theorem dX11_cut_35 : decode cX11_cut 35 = .ok (.invokevirtual 315, 3) := by decide +kernel
theorem dX11_cut_38 : decode cX11_cut 38 = .ok (.iconst 0, 1) := by decide +kernel
theorem dX11_cut_39 : decode cX11_cut 39 = .ok (.ireturn, 1) := by decide +kernel
theorem dX11_snag_0 : decode cX11_snag 0 = .ok (.aload_n 0, 1) := by decide +kernel
theorem dX11_snag_1 : decode cX11_snag 1 = .ok (.iconst 0, 1) := by decide +kernel
theorem dX11_snag_2 : decode cX11_snag 2 = .ok (.putfield 1, 3) := by decide +kernel
theorem dX11_snag_5 : decode cX11_snag 5 = .ok (.aload_n 0, 1) := by decide +kernel
theorem dX11_snag_6 : decode cX11_snag 6 = .ok (.iload_n 1, 1) := by decide +kernel
theorem dX11_snag_7 : decode cX11_snag 7 = .ok (.invokevirtual 254, 3) := by decide +kernel
theorem dX11_snag_10 : decode cX11_snag 10 = .ok (.ifCond .eq 11, 3) := by decide +kernel
theorem dX11_snag_13 : decode cX11_snag 13 = .ok (.aload_n 0, 1) := by decide +kernel
theorem dX11_snag_14 : decode cX11_snag 14 = .ok (.iload_n 2, 1) := by decide +kernel
theorem dX11_snag_15 : decode cX11_snag 15 = .ok (.invokevirtual 274, 3) := by decide +kernel
theorem dX11_snag_18 : decode cX11_snag 18 = .ok (.ifCond .ne 5, 3) := by decide +kernel
theorem dX11_snag_21 : decode cX11_snag 21 = .ok (.iconst (-1), 1) := by decide +kernel
theorem dX11_snag_22 : decode cX11_snag 22 = .ok (.ireturn, 1) := by decide +kernel
theorem dX11_snag_23 : decode cX11_snag 23 = .ok (.aload_n 0, 1) := by decide +kernel
theorem dX11_snag_24 : decode cX11_snag 24 = .ok (.iload_n 1, 1) := by decide +kernel
theorem dX11_snag_25 : decode cX11_snag 25 = .ok (.invokevirtual 271, 3) := by decide +kernel
theorem dX11_snag_28 : decode cX11_snag 28 = .ok (.ifCond .eq 5, 3) := by decide +kernel
theorem dX11_snag_31 : decode cX11_snag 31 = .ok (.iconst 1, 1) := by decide +kernel
theorem dX11_snag_32 : decode cX11_snag 32 = .ok (.ireturn, 1) := by decide +kernel
theorem dX11_snag_33 : decode cX11_snag 33 = .ok (.aload_n 0, 1) := by decide +kernel
theorem dX11_snag_34 : decode cX11_snag 34 = .ok (.invokevirtual 309, 3) := by decide +kernel
theorem dX11_snag_37 : decode cX11_snag 37 = .ok (.aload_n 0, 1) := by decide +kernel
theorem dX11_snag_38 : decode cX11_snag 38 = .ok (.iload_n 1, 1) := by decide +kernel
theorem dX11_snag_39 : decode cX11_snag 39 = .ok (.iload_n 2, 1) := by decide +kernel
theorem dX11_snag_40 : decode cX11_snag 40 = .ok (.invokevirtual 299, 3) := by decide +kernel
theorem dX11_snag_43 : decode cX11_snag 43 = .ok (.iconst 0, 1) := by decide +kernel
theorem dX11_snag_44 : decode cX11_snag 44 = .ok (.ireturn, 1) := by decide +kernel
theorem dX11_stuff_0 : decode cX11_stuff 0 = .ok (.aload_n 0, 1) := by decide +kernel
theorem dX11_stuff_1 : decode cX11_stuff 1 = .ok (.iconst 0, 1) := by decide +kernel
theorem dX11_stuff_2 : decode cX11_stuff 2 = .ok (.putfield 1, 3) := by decide +kernel
theorem dX11_stuff_5 : decode cX11_stuff 5 = .ok (.aload_n 0, 1) := by decide +kernel
theorem dX11_stuff_6 : decode cX11_stuff 6 = .ok (.iload_n 1, 1) := by decide +kernel
theorem dX11_stuff_7 : decode cX11_stuff 7 = .ok (.invokevirtual 283, 3) := by decide +kernel
theorem dX11_stuff_10 : decode cX11_stuff 10 = .ok (.ifCond .eq 11, 3) := by decide +kernel
theorem dX11_stuff_13 : decode cX11_stuff 13 = .ok (.aload_n 0, 1) := by decide +kernel
theorem dX11_stuff_14 : decode cX11_stuff 14 = .ok (.iload_n 2, 1) := by decide +kernel
theorem dX11_stuff_15 : decode cX11_stuff 15 = .ok (.invokevirtual 274, 3) := by decide +kernel
theorem dX11_stuff_18 : decode cX11_stuff 18 = .ok (.ifCond .ne 5, 3) := by decide +kernel
theorem dX11_stuff_21 : decode cX11_stuff 21 = .ok (.iconst (-1), 1) := by decide +kernel
theorem dX11_stuff_22 : decode cX11_stuff 22 = .ok (.ireturn, 1) := by decide +kernel
theorem dX11_stuff_23 : decode cX11_stuff 23 = .ok (.aload_n 0, 1) := by decide +kernel
theorem dX11_stuff_24 : decode cX11_stuff 24 = .ok (.getfield 33, 3) := by decide +kernel
theorem dX11_stuff_27 : decode cX11_stuff 27 = .ok (.sipush 185, 3) := by decide +kernel
theorem dX11_stuff_30 : decode cX11_stuff 30 = .ok (.iload_n 2, 1) := by decide +kernel
theorem dX11_stuff_31 : decode cX11_stuff 31 = .ok (.iadd, 1) := by decide +kernel
theorem dX11_stuff_32 : decode cX11_stuff 32 = .ok (.iaload, 1) := by decide +kernel
theorem dX11_stuff_33 : decode cX11_stuff 33 = .ok (.ifCond .ne 5, 3) := by decide +kernel
theorem dX11_stuff_36 : decode cX11_stuff 36 = .ok (.iconst 1, 1) := by decide +kernel
theorem dX11_stuff_37 : decode cX11_stuff 37 = .ok (.ireturn, 1) := by decide +kernel
theorem dX11_stuff_38 : decode cX11_stuff 38 = .ok (.aload_n 0, 1) := by decide +kernel
theorem dX11_stuff_39 : decode cX11_stuff 39 = .ok (.invokevirtual 309, 3) := by decide +kernel
theorem dX11_stuff_42 : decode cX11_stuff 42 = .ok (.aload_n 0, 1) := by decide +kernel
theorem dX11_stuff_43 : decode cX11_stuff 43 = .ok (.iload_n 1, 1) := by decide +kernel
theorem dX11_stuff_44 : decode cX11_stuff 44 = .ok (.iload_n 2, 1) := by decide +kernel
theorem dX11_stuff_45 : decode cX11_stuff 45 = .ok (.invokevirtual 318, 3) := by decide +kernel
theorem dX11_stuff_48 : decode cX11_stuff 48 = .ok (.iconst 0, 1) := by decide +kernel
theorem dX11_stuff_49 : decode cX11_stuff 49 = .ok (.ireturn, 1) := by decide +kernel
theorem dX11_days_0 : decode cX11_days 0 = .ok (.aload_n 0, 1) := by decide +kernel
theorem dX11_days_1 : decode cX11_days 1 = .ok (.iconst 0, 1) := by decide +kernel
theorem dX11_days_2 : decode cX11_days 2 = .ok (.putfield 1, 3) := by decide +kernel
theorem dX11_days_5 : decode cX11_days 5 = .ok (.iload_n 1, 1) := by decide +kernel
theorem dX11_days_6 : decode cX11_days 6 = .ok (.iconst 1, 1) := by decide +kernel
theorem dX11_days_7 : decode cX11_days 7 = .ok (.bipush 60, 2) := by decide +kernel
theorem dX11_days_9 : decode cX11_days 9 = .ok (.invokestatic 176, 3) := by decide +kernel
theorem dX11_days_12 : decode cX11_days 12 = .ok (.ifCond .ne 5, 3) := by decide +kernel
theorem dX11_days_15 : decode cX11_days 15 = .ok (.iconst (-1), 1) := by decide +kernel
theorem dX11_days_16 : decode cX11_days 16 = .ok (.ireturn, 1) := by decide +kernel
theorem dX11_days_17 : decode cX11_days 17 = .ok (.aload_n 0, 1) := by decide +kernel
theorem dX11_days_18 : decode cX11_days 18 = .ok (.getfield 33, 3) := by decide +kernel
theorem dX11_days_21 : decode cX11_days 21 = .ok (.bipush 121, 2) := by decide +kernel
theorem dX11_days_23 : decode cX11_days 23 = .ok (.iaload, 1) := by decide +kernel
theorem dX11_days_24 : decode cX11_days 24 = .ok (.sipush 400, 3) := by decide +kernel
theorem dX11_days_27 : decode cX11_days 27 = .ok (.if_icmp .ne 5, 3) := by decide +kernel
theorem dX11_days_30 : decode cX11_days 30 = .ok (.iconst 0, 1) := by decide +kernel
theorem dX11_days_31 : decode cX11_days 31 = .ok (.ireturn, 1) := by decide +kernel
theorem dX11_days_32 : decode cX11_days 32 = .ok (.aload_n 0, 1) := by decide +kernel
theorem dX11_days_33 : decode cX11_days 33 = .ok (.invokevirtual 309, 3) := by decide +kernel
theorem dX11_days_36 : decode cX11_days 36 = .ok (.aload_n 0, 1) := by decide +kernel
theorem dX11_days_37 : decode cX11_days 37 = .ok (.iload_n 1, 1) := by decide +kernel
theorem dX11_days_38 : decode cX11_days 38 = .ok (.invokevirtual 321, 3) := by decide +kernel
theorem dX11_days_41 : decode cX11_days 41 = .ok (.ireturn, 1) := by decide +kernel
theorem dX11_keep_0 : decode cX11_keep 0 = .ok (.aload_n 0, 1) := by decide +kernel
theorem dX11_keep_1 : decode cX11_keep 1 = .ok (.getfield 242, 3) := by decide +kernel
theorem dX11_keep_4 : decode cX11_keep 4 = .ok (.bipush 8, 2) := by decide +kernel
theorem dX11_keep_6 : decode cX11_keep 6 = .ok (.if_icmp .ne 39, 3) := by decide +kernel
theorem dX11_keep_9 : decode cX11_keep 9 = .ok (.iconst 0, 1) := by decide +kernel
theorem dX11_keep_10 : decode cX11_keep 10 = .ok (.istore_n 1, 1) := by decide +kernel
theorem dX11_keep_11 : decode cX11_keep 11 = .ok (.iload_n 1, 1) := by decide +kernel
theorem dX11_keep_12 : decode cX11_keep 12 = .ok (.sipush 616, 3) := by decide +kernel
theorem dX11_keep_15 : decode cX11_keep 15 = .ok (.if_icmp .ge 24, 3) := by decide +kernel
theorem dX11_keep_18 : decode cX11_keep 18 = .ok (.aload_n 0, 1) := by decide +kernel
theorem dX11_keep_19 : decode cX11_keep 19 = .ok (.getfield 50, 3) := by decide +kernel
theorem dX11_keep_22 : decode cX11_keep 22 = .ok (.iload_n 1, 1) := by decide +kernel
theorem dX11_keep_23 : decode cX11_keep 23 = .ok (.aload_n 0, 1) := by decide +kernel
theorem dX11_keep_24 : decode cX11_keep 24 = .ok (.getfield 50, 3) := by decide +kernel
theorem dX11_keep_27 : decode cX11_keep 27 = .ok (.iload_n 1, 1) := by decide +kernel
theorem dX11_keep_28 : decode cX11_keep 28 = .ok (.bipush 88, 2) := by decide +kernel
theorem dX11_keep_30 : decode cX11_keep 30 = .ok (.iadd, 1) := by decide +kernel
theorem dX11_keep_31 : decode cX11_keep 31 = .ok (.iaload, 1) := by decide +kernel
theorem dX11_keep_32 : decode cX11_keep 32 = .ok (.iastore, 1) := by decide +kernel
theorem dX11_keep_33 : decode cX11_keep 33 = .ok (.iinc 1 1, 3) := by decide +kernel
theorem dX11_keep_36 : decode cX11_keep 36 = .ok (.goto (-25), 3) := by decide +kernel
theorem dX11_keep_39 : decode cX11_keep 39 = .ok (.aload_n 0, 1) := by decide +kernel
theorem dX11_keep_40 : decode cX11_keep 40 = .ok (.bipush 7, 2) := by decide +kernel
theorem dX11_keep_42 : decode cX11_keep 42 = .ok (.putfield 242, 3) := by decide +kernel
theorem dX11_keep_45 : decode cX11_keep 45 = .ok (.iconst 0, 1) := by decide +kernel
theorem dX11_keep_46 : decode cX11_keep 46 = .ok (.istore_n 1, 1) := by decide +kernel
theorem dX11_keep_47 : decode cX11_keep 47 = .ok (.iload_n 1, 1) := by decide +kernel
theorem dX11_keep_48 : decode cX11_keep 48 = .ok (.bipush 88, 2) := by decide +kernel
theorem dX11_keep_50 : decode cX11_keep 50 = .ok (.if_icmp .ge 32, 3) := by decide +kernel
theorem dX11_keep_53 : decode cX11_keep 53 = .ok (.aload_n 0, 1) := by decide +kernel
theorem dX11_keep_54 : decode cX11_keep 54 = .ok (.getfield 50, 3) := by decide +kernel
theorem dX11_keep_57 : decode cX11_keep 57 = .ok (.bipush 88, 2) := by decide +kernel
theorem dX11_keep_59 : decode cX11_keep 59 = .ok (.aload_n 0, 1) := by decide +kernel
theorem dX11_keep_60 : decode cX11_keep 60 = .ok (.getfield 242, 3) := by decide +kernel
theorem dX11_keep_63 : decode cX11_keep 63 = .ok (.imul, 1) := by decide +kernel
theorem dX11_keep_64 : decode cX11_keep 64 = .ok (.iload_n 1, 1) := by decide +kernel
theorem dX11_keep_65 : decode cX11_keep 65 = .ok (.iadd, 1) := by decide +kernel
theorem dX11_keep_66 : decode cX11_keep 66 = .ok (.aload_n 0, 1) := by decide +kernel
theorem dX11_keep_67 : decode cX11_keep 67 = .ok (.getfield 33, 3) := by decide +kernel
theorem dX11_keep_70 : decode cX11_keep 70 = .ok (.bipush 121, 2) := by decide +kernel
theorem dX11_keep_72 : decode cX11_keep 72 = .ok (.iload_n 1, 1) := by decide +kernel
theorem dX11_keep_73 : decode cX11_keep 73 = .ok (.iadd, 1) := by decide +kernel
theorem dX11_keep_74 : decode cX11_keep 74 = .ok (.iaload, 1) := by decide +kernel
theorem dX11_keep_75 : decode cX11_keep 75 = .ok (.iastore, 1) := by decide +kernel
theorem dX11_keep_76 : decode cX11_keep 76 = .ok (.iinc 1 1, 3) := by decide +kernel
theorem dX11_keep_79 : decode cX11_keep 79 = .ok (.goto (-32), 3) := by decide +kernel
theorem dX11_keep_82 : decode cX11_keep 82 = .ok (.aload_n 0, 1) := by decide +kernel
theorem dX11_keep_83 : decode cX11_keep 83 = .ok (.dup, 1) := by decide +kernel
theorem dX11_keep_84 : decode cX11_keep 84 = .ok (.getfield 242, 3) := by decide +kernel
theorem dX11_keep_87 : decode cX11_keep 87 = .ok (.iconst 1, 1) := by decide +kernel
theorem dX11_keep_88 : decode cX11_keep 88 = .ok (.iadd, 1) := by decide +kernel
theorem dX11_keep_89 : decode cX11_keep 89 = .ok (.putfield 242, 3) := by decide +kernel
theorem dX11_keep_92 : decode cX11_keep 92 = .ok (.return_, 1) := by decide +kernel
theorem dX11_undo_0 : decode cX11_undo 0 = .ok (.aload_n 0, 1) := by decide +kernel
theorem dX11_undo_1 : decode cX11_undo 1 = .ok (.iconst 0, 1) := by decide +kernel
theorem dX11_undo_2 : decode cX11_undo 2 = .ok (.putfield 1, 3) := by decide +kernel
theorem dX11_undo_5 : decode cX11_undo 5 = .ok (.aload_n 0, 1) := by decide +kernel
theorem dX11_undo_6 : decode cX11_undo 6 = .ok (.getfield 242, 3) := by decide +kernel
theorem dX11_undo_9 : decode cX11_undo 9 = .ok (.ifCond .ne 5, 3) := by decide +kernel
theorem dX11_undo_12 : decode cX11_undo 12 = .ok (.iconst (-1), 1) := by decide +kernel
theorem dX11_undo_13 : decode cX11_undo 13 = .ok (.ireturn, 1) := by decide +kernel
theorem dX11_undo_14 : decode cX11_undo 14 = .ok (.aload_n 0, 1) := by decide +kernel
theorem dX11_undo_15 : decode cX11_undo 15 = .ok (.dup, 1) := by decide +kernel
theorem dX11_undo_16 : decode cX11_undo 16 = .ok (.getfield 242, 3) := by decide +kernel
theorem dX11_undo_19 : decode cX11_undo 19 = .ok (.iconst 1, 1) := by decide +kernel
theorem dX11_undo_20 : decode cX11_undo 20 = .ok (.isub, 1) := by decide +kernel
theorem dX11_undo_21 : decode cX11_undo 21 = .ok (.putfield 242, 3) := by decide +kernel
theorem dX11_undo_24 : decode cX11_undo 24 = .ok (.iconst 0, 1) := by decide +kernel
theorem dX11_undo_25 : decode cX11_undo 25 = .ok (.istore_n 1, 1) := by decide +kernel
theorem dX11_undo_26 : decode cX11_undo 26 = .ok (.iload_n 1, 1) := by decide +kernel
theorem dX11_undo_27 : decode cX11_undo 27 = .ok (.bipush 88, 2) := by decide +kernel
theorem dX11_undo_29 : decode cX11_undo 29 = .ok (.if_icmp .ge 32, 3) := by decide +kernel
theorem dX11_undo_32 : decode cX11_undo 32 = .ok (.aload_n 0, 1) := by decide +kernel
theorem dX11_undo_33 : decode cX11_undo 33 = .ok (.getfield 33, 3) := by decide +kernel
theorem dX11_undo_36 : decode cX11_undo 36 = .ok (.bipush 121, 2) := by decide +kernel
theorem dX11_undo_38 : decode cX11_undo 38 = .ok (.iload_n 1, 1) := by decide +kernel
theorem dX11_undo_39 : decode cX11_undo 39 = .ok (.iadd, 1) := by decide +kernel
theorem dX11_undo_40 : decode cX11_undo 40 = .ok (.aload_n 0, 1) := by decide +kernel
theorem dX11_undo_41 : decode cX11_undo 41 = .ok (.getfield 50, 3) := by decide +kernel
theorem dX11_undo_44 : decode cX11_undo 44 = .ok (.bipush 88, 2) := by decide +kernel
theorem dX11_undo_46 : decode cX11_undo 46 = .ok (.aload_n 0, 1) := by decide +kernel
theorem dX11_undo_47 : decode cX11_undo 47 = .ok (.getfield 242, 3) := by decide +kernel
theorem dX11_undo_50 : decode cX11_undo 50 = .ok (.imul, 1) := by decide +kernel
theorem dX11_undo_51 : decode cX11_undo 51 = .ok (.iload_n 1, 1) := by decide +kernel
theorem dX11_undo_52 : decode cX11_undo 52 = .ok (.iadd, 1) := by decide +kernel
theorem dX11_undo_53 : decode cX11_undo 53 = .ok (.iaload, 1) := by decide +kernel
theorem dX11_undo_54 : decode cX11_undo 54 = .ok (.iastore, 1) := by decide +kernel
theorem dX11_undo_55 : decode cX11_undo 55 = .ok (.iinc 1 1, 3) := by decide +kernel
theorem dX11_undo_58 : decode cX11_undo 58 = .ok (.goto (-32), 3) := by decide +kernel
theorem dX11_undo_61 : decode cX11_undo 61 = .ok (.aload_n 0, 1) := by decide +kernel
theorem dX11_undo_62 : decode cX11_undo 62 = .ok (.getfield 242, 3) := by decide +kernel
theorem dX11_undo_65 : decode cX11_undo 65 = .ok (.ireturn, 1) := by decide +kernel
theorem dX11_tries_0 : decode cX11_tries 0 = .ok (.iconst 0, 1) := by decide +kernel
theorem dX11_tries_1 : decode cX11_tries 1 = .ok (.istore_n 1, 1) := by decide +kernel
theorem dX11_tries_2 : decode cX11_tries 2 = .ok (.iload_n 1, 1) := by decide +kernel
theorem dX11_tries_3 : decode cX11_tries 3 = .ok (.bipush 88, 2) := by decide +kernel
theorem dX11_tries_5 : decode cX11_tries 5 = .ok (.if_icmp .ge 24, 3) := by decide +kernel
theorem dX11_tries_8 : decode cX11_tries 8 = .ok (.aload_n 0, 1) := by decide +kernel
theorem dX11_tries_9 : decode cX11_tries 9 = .ok (.getfield 53, 3) := by decide +kernel
theorem dX11_tries_12 : decode cX11_tries 12 = .ok (.iload_n 1, 1) := by decide +kernel
theorem dX11_tries_13 : decode cX11_tries 13 = .ok (.aload_n 0, 1) := by decide +kernel
theorem dX11_tries_14 : decode cX11_tries 14 = .ok (.getfield 33, 3) := by decide +kernel
theorem dX11_tries_17 : decode cX11_tries 17 = .ok (.bipush 121, 2) := by decide +kernel
theorem dX11_tries_19 : decode cX11_tries 19 = .ok (.iload_n 1, 1) := by decide +kernel
theorem dX11_tries_20 : decode cX11_tries 20 = .ok (.iadd, 1) := by decide +kernel
theorem dX11_tries_21 : decode cX11_tries 21 = .ok (.iaload, 1) := by decide +kernel
theorem dX11_tries_22 : decode cX11_tries 22 = .ok (.iastore, 1) := by decide +kernel
theorem dX11_tries_23 : decode cX11_tries 23 = .ok (.iinc 1 1, 3) := by decide +kernel
theorem dX11_tries_26 : decode cX11_tries 26 = .ok (.goto (-24), 3) := by decide +kernel
theorem dX11_tries_29 : decode cX11_tries 29 = .ok (.return_, 1) := by decide +kernel
theorem dX11_back_0 : decode cX11_back 0 = .ok (.iconst 0, 1) := by decide +kernel
theorem dX11_back_1 : decode cX11_back 1 = .ok (.istore_n 1, 1) := by decide +kernel
theorem dX11_back_2 : decode cX11_back 2 = .ok (.iload_n 1, 1) := by decide +kernel
theorem dX11_back_3 : decode cX11_back 3 = .ok (.bipush 88, 2) := by decide +kernel
theorem dX11_back_5 : decode cX11_back 5 = .ok (.if_icmp .ge 24, 3) := by decide +kernel
theorem dX11_back_8 : decode cX11_back 8 = .ok (.aload_n 0, 1) := by decide +kernel
theorem dX11_back_9 : decode cX11_back 9 = .ok (.getfield 33, 3) := by decide +kernel
theorem dX11_back_12 : decode cX11_back 12 = .ok (.bipush 121, 2) := by decide +kernel
theorem dX11_back_14 : decode cX11_back 14 = .ok (.iload_n 1, 1) := by decide +kernel
theorem dX11_back_15 : decode cX11_back 15 = .ok (.iadd, 1) := by decide +kernel
theorem dX11_back_16 : decode cX11_back 16 = .ok (.aload_n 0, 1) := by decide +kernel
theorem dX11_back_17 : decode cX11_back 17 = .ok (.getfield 53, 3) := by decide +kernel
theorem dX11_back_20 : decode cX11_back 20 = .ok (.iload_n 1, 1) := by decide +kernel
theorem dX11_back_21 : decode cX11_back 21 = .ok (.iaload, 1) := by decide +kernel
theorem dX11_back_22 : decode cX11_back 22 = .ok (.iastore, 1) := by decide +kernel
theorem dX11_back_23 : decode cX11_back 23 = .ok (.iinc 1 1, 3) := by decide +kernel
theorem dX11_back_26 : decode cX11_back 26 = .ok (.goto (-24), 3) := by decide +kernel
theorem dX11_back_29 : decode cX11_back 29 = .ok (.return_, 1) := by decide +kernel
theorem dX11_easeBy_0 : decode cX11_easeBy 0 = .ok (.aload_n 0, 1) := by decide +kernel
theorem dX11_easeBy_1 : decode cX11_easeBy 1 = .ok (.getfield 33, 3) := by decide +kernel
theorem dX11_easeBy_4 : decode cX11_easeBy 4 = .ok (.sipush 179, 3) := by decide +kernel
theorem dX11_easeBy_7 : decode cX11_easeBy 7 = .ok (.iload_n 1, 1) := by decide +kernel
theorem dX11_easeBy_8 : decode cX11_easeBy 8 = .ok (.iadd, 1) := by decide +kernel
theorem dX11_easeBy_9 : decode cX11_easeBy 9 = .ok (.iaload, 1) := by decide +kernel
theorem dX11_easeBy_10 : decode cX11_easeBy 10 = .ok (.aload_n 0, 1) := by decide +kernel
theorem dX11_easeBy_11 : decode cX11_easeBy 11 = .ok (.iload_n 1, 1) := by decide +kernel
theorem dX11_easeBy_12 : decode cX11_easeBy 12 = .ok (.invokevirtual 268, 3) := by decide +kernel
theorem dX11_easeBy_15 : decode cX11_easeBy 15 = .ok (.iadd, 1) := by decide +kernel
theorem dX11_easeBy_16 : decode cX11_easeBy 16 = .ok (.aload_n 0, 1) := by decide +kernel
theorem dX11_easeBy_17 : decode cX11_easeBy 17 = .ok (.getfield 33, 3) := by decide +kernel
theorem dX11_easeBy_20 : decode cX11_easeBy 20 = .ok (.bipush 21, 2) := by decide +kernel
theorem dX11_easeBy_22 : decode cX11_easeBy 22 = .ok (.iload_n 1, 1) := by decide +kernel
theorem dX11_easeBy_23 : decode cX11_easeBy 23 = .ok (.iadd, 1) := by decide +kernel
theorem dX11_easeBy_24 : decode cX11_easeBy 24 = .ok (.iaload, 1) := by decide +kernel
theorem dX11_easeBy_25 : decode cX11_easeBy 25 = .ok (.if_icmp .le 21, 3) := by decide +kernel
theorem dX11_easeBy_28 : decode cX11_easeBy 28 = .ok (.aload_n 0, 1) := by decide +kernel
theorem dX11_easeBy_29 : decode cX11_easeBy 29 = .ok (.getfield 33, 3) := by decide +kernel
theorem dX11_easeBy_32 : decode cX11_easeBy 32 = .ok (.bipush 125, 2) := by decide +kernel
theorem dX11_easeBy_34 : decode cX11_easeBy 34 = .ok (.iload_n 1, 1) := by decide +kernel
theorem dX11_easeBy_35 : decode cX11_easeBy 35 = .ok (.iadd, 1) := by decide +kernel
theorem dX11_easeBy_36 : decode cX11_easeBy 36 = .ok (.iaload, 1) := by decide +kernel
theorem dX11_easeBy_37 : decode cX11_easeBy 37 = .ok (.ifCond .ne 7, 3) := by decide +kernel
theorem dX11_easeBy_40 : decode cX11_easeBy 40 = .ok (.iconst 0, 1) := by decide +kernel
theorem dX11_easeBy_41 : decode cX11_easeBy 41 = .ok (.goto 4, 3) := by decide +kernel
theorem dX11_easeBy_44 : decode cX11_easeBy 44 = .ok (.iconst (-1), 1) := by decide +kernel
theorem dX11_easeBy_45 : decode cX11_easeBy 45 = .ok (.ireturn, 1) := by decide +kernel
theorem dX11_easeBy_46 : decode cX11_easeBy 46 = .ok (.iconst 0, 1) := by decide +kernel
theorem dX11_easeBy_47 : decode cX11_easeBy 47 = .ok (.istore_n 2, 1) := by decide +kernel
theorem dX11_easeBy_48 : decode cX11_easeBy 48 = .ok (.iconst 0, 1) := by decide +kernel
theorem dX11_easeBy_49 : decode cX11_easeBy 49 = .ok (.istore_n 3, 1) := by decide +kernel
theorem dX11_easeBy_50 : decode cX11_easeBy 50 = .ok (.iconst 0, 1) := by decide +kernel
theorem dX11_easeBy_51 : decode cX11_easeBy 51 = .ok (.istore 4, 2) := by decide +kernel
theorem dX11_easeBy_53 : decode cX11_easeBy 53 = .ok (.iload 4, 2) := by decide +kernel
theorem dX11_easeBy_55 : decode cX11_easeBy 55 = .ok (.aload_n 0, 1) := by decide +kernel
theorem dX11_easeBy_56 : decode cX11_easeBy 56 = .ok (.getfield 33, 3) := by decide +kernel
theorem dX11_easeBy_59 : decode cX11_easeBy 59 = .ok (.bipush 125, 2) := by decide +kernel
theorem dX11_easeBy_61 : decode cX11_easeBy 61 = .ok (.iload_n 1, 1) := by decide +kernel
theorem dX11_easeBy_62 : decode cX11_easeBy 62 = .ok (.iadd, 1) := by decide +kernel
theorem dX11_easeBy_63 : decode cX11_easeBy 63 = .ok (.iaload, 1) := by decide +kernel
theorem dX11_easeBy_64 : decode cX11_easeBy 64 = .ok (.if_icmp .ge 61, 3) := by decide +kernel
theorem dX11_easeBy_67 : decode cX11_easeBy 67 = .ok (.aload_n 0, 1) := by decide +kernel
theorem dX11_easeBy_68 : decode cX11_easeBy 68 = .ok (.iload_n 1, 1) := by decide +kernel
theorem dX11_easeBy_69 : decode cX11_easeBy 69 = .ok (.iload 4, 2) := by decide +kernel
theorem dX11_easeBy_71 : decode cX11_easeBy 71 = .ok (.invokevirtual 265, 3) := by decide +kernel
theorem dX11_easeBy_74 : decode cX11_easeBy 74 = .ok (.istore 5, 2) := by decide +kernel
theorem dX11_easeBy_76 : decode cX11_easeBy 76 = .ok (.iload 5, 2) := by decide +kernel
theorem dX11_easeBy_78 : decode cX11_easeBy 78 = .ok (.aload_n 0, 1) := by decide +kernel
theorem dX11_easeBy_79 : decode cX11_easeBy 79 = .ok (.getfield 33, 3) := by decide +kernel
theorem dX11_easeBy_82 : decode cX11_easeBy 82 = .ok (.iconst 4, 1) := by decide +kernel
theorem dX11_easeBy_83 : decode cX11_easeBy 83 = .ok (.iaload, 1) := by decide +kernel
theorem dX11_easeBy_84 : decode cX11_easeBy 84 = .ok (.if_icmp .le 5, 3) := by decide +kernel
theorem dX11_easeBy_87 : decode cX11_easeBy 87 = .ok (.iconst (-1), 1) := by decide +kernel
theorem dX11_easeBy_88 : decode cX11_easeBy 88 = .ok (.ireturn, 1) := by decide +kernel
theorem dX11_easeBy_89 : decode cX11_easeBy 89 = .ok (.iload 5, 2) := by decide +kernel
theorem dX11_easeBy_91 : decode cX11_easeBy 91 = .ok (.iload_n 3, 1) := by decide +kernel
theorem dX11_easeBy_92 : decode cX11_easeBy 92 = .ok (.if_icmp .le 13, 3) := by decide +kernel
theorem dX11_easeBy_95 : decode cX11_easeBy 95 = .ok (.iinc 2 1, 3) := by decide +kernel
theorem dX11_easeBy_98 : decode cX11_easeBy 98 = .ok (.aload_n 0, 1) := by decide +kernel
theorem dX11_easeBy_99 : decode cX11_easeBy 99 = .ok (.getfield 33, 3) := by decide +kernel
theorem dX11_easeBy_102 : decode cX11_easeBy 102 = .ok (.iconst 4, 1) := by decide +kernel
theorem dX11_easeBy_103 : decode cX11_easeBy 103 = .ok (.iaload, 1) := by decide +kernel
theorem dX11_easeBy_104 : decode cX11_easeBy 104 = .ok (.istore_n 3, 1) := by decide +kernel
theorem dX11_easeBy_105 : decode cX11_easeBy 105 = .ok (.iload_n 3, 1) := by decide +kernel
theorem dX11_easeBy_106 : decode cX11_easeBy 106 = .ok (.iload 5, 2) := by decide +kernel
theorem dX11_easeBy_108 : decode cX11_easeBy 108 = .ok (.isub, 1) := by decide +kernel
theorem dX11_easeBy_109 : decode cX11_easeBy 109 = .ok (.istore_n 3, 1) := by decide +kernel
theorem dX11_easeBy_110 : decode cX11_easeBy 110 = .ok (.iload 4, 2) := by decide +kernel
theorem dX11_easeBy_112 : decode cX11_easeBy 112 = .ok (.aload_n 0, 1) := by decide +kernel
theorem dX11_easeBy_113 : decode cX11_easeBy 113 = .ok (.iload_n 1, 1) := by decide +kernel
theorem dX11_easeBy_114 : decode cX11_easeBy 114 = .ok (.iload 4, 2) := by decide +kernel
theorem dX11_easeBy_116 : decode cX11_easeBy 116 = .ok (.invokevirtual 248, 3) := by decide +kernel
theorem dX11_easeBy_119 : decode cX11_easeBy 119 = .ok (.iadd, 1) := by decide +kernel
theorem dX11_easeBy_120 : decode cX11_easeBy 120 = .ok (.istore 4, 2) := by decide +kernel
theorem dX11_easeBy_122 : decode cX11_easeBy 122 = .ok (.goto (-69), 3) := by decide +kernel
theorem dX11_easeBy_125 : decode cX11_easeBy 125 = .ok (.iload_n 2, 1) := by decide +kernel
theorem dX11_easeBy_126 : decode cX11_easeBy 126 = .ok (.ireturn, 1) := by decide +kernel
theorem dX11_ease_0 : decode cX11_ease 0 = .ok (.aload_n 0, 1) := by decide +kernel
theorem dX11_ease_1 : decode cX11_ease 1 = .ok (.iconst 0, 1) := by decide +kernel
theorem dX11_ease_2 : decode cX11_ease 2 = .ok (.putfield 1, 3) := by decide +kernel
theorem dX11_ease_5 : decode cX11_ease 5 = .ok (.aload_n 0, 1) := by decide +kernel
theorem dX11_ease_6 : decode cX11_ease 6 = .ok (.iload_n 1, 1) := by decide +kernel
theorem dX11_ease_7 : decode cX11_ease 7 = .ok (.invokevirtual 254, 3) := by decide +kernel
theorem dX11_ease_10 : decode cX11_ease 10 = .ok (.ifCond .eq 11, 3) := by decide +kernel
theorem dX11_ease_13 : decode cX11_ease 13 = .ok (.aload_n 0, 1) := by decide +kernel
theorem dX11_ease_14 : decode cX11_ease 14 = .ok (.iload_n 1, 1) := by decide +kernel
theorem dX11_ease_15 : decode cX11_ease 15 = .ok (.invokevirtual 324, 3) := by decide +kernel
theorem dX11_ease_18 : decode cX11_ease 18 = .ok (.goto 4, 3) := by decide +kernel
theorem dX11_ease_21 : decode cX11_ease 21 = .ok (.iconst (-1), 1) := by decide +kernel
theorem dX11_ease_22 : decode cX11_ease 22 = .ok (.ireturn, 1) := by decide +kernel
theorem dX11_nests_0 : decode cX11_nests 0 = .ok (.aload_n 0, 1) := by decide +kernel
theorem dX11_nests_1 : decode cX11_nests 1 = .ok (.iconst 0, 1) := by decide +kernel
theorem dX11_nests_2 : decode cX11_nests 2 = .ok (.putfield 1, 3) := by decide +kernel
theorem dX11_nests_5 : decode cX11_nests 5 = .ok (.aload_n 0, 1) := by decide +kernel
theorem dX11_nests_6 : decode cX11_nests 6 = .ok (.iload_n 1, 1) := by decide +kernel
theorem dX11_nests_7 : decode cX11_nests 7 = .ok (.invokevirtual 254, 3) := by decide +kernel
theorem dX11_nests_10 : decode cX11_nests 10 = .ok (.ifCond .ne 5, 3) := by decide +kernel
theorem dX11_nests_13 : decode cX11_nests 13 = .ok (.iconst (-1), 1) := by decide +kernel
theorem dX11_nests_14 : decode cX11_nests 14 = .ok (.ireturn, 1) := by decide +kernel
theorem dX11_nests_15 : decode cX11_nests 15 = .ok (.aload_n 0, 1) := by decide +kernel
theorem dX11_nests_16 : decode cX11_nests 16 = .ok (.invokevirtual 327, 3) := by decide +kernel
theorem dX11_nests_19 : decode cX11_nests 19 = .ok (.iconst (-1), 1) := by decide +kernel
theorem dX11_nests_20 : decode cX11_nests 20 = .ok (.istore_n 2, 1) := by decide +kernel
theorem dX11_nests_21 : decode cX11_nests 21 = .ok (.iconst 0, 1) := by decide +kernel
theorem dX11_nests_22 : decode cX11_nests 22 = .ok (.istore_n 3, 1) := by decide +kernel
theorem dX11_nests_23 : decode cX11_nests 23 = .ok (.iload_n 3, 1) := by decide +kernel
theorem dX11_nests_24 : decode cX11_nests 24 = .ok (.bipush 99, 2) := by decide +kernel
theorem dX11_nests_26 : decode cX11_nests 26 = .ok (.if_icmp .gt 27, 3) := by decide +kernel
theorem dX11_nests_29 : decode cX11_nests 29 = .ok (.iload_n 2, 1) := by decide +kernel
theorem dX11_nests_30 : decode cX11_nests 30 = .ok (.ifCond .ge 23, 3) := by decide +kernel
theorem dX11_nests_33 : decode cX11_nests 33 = .ok (.aload_n 0, 1) := by decide +kernel
theorem dX11_nests_34 : decode cX11_nests 34 = .ok (.iload_n 1, 1) := by decide +kernel
theorem dX11_nests_35 : decode cX11_nests 35 = .ok (.invokevirtual 271, 3) := by decide +kernel
theorem dX11_nests_38 : decode cX11_nests 38 = .ok (.ifCond .eq 5, 3) := by decide +kernel
theorem dX11_nests_41 : decode cX11_nests 41 = .ok (.iload_n 3, 1) := by decide +kernel
theorem dX11_nests_42 : decode cX11_nests 42 = .ok (.istore_n 2, 1) := by decide +kernel
theorem dX11_nests_43 : decode cX11_nests 43 = .ok (.aload_n 0, 1) := by decide +kernel
theorem dX11_nests_44 : decode cX11_nests 44 = .ok (.invokevirtual 303, 3) := by decide +kernel
theorem dX11_nests_47 : decode cX11_nests 47 = .ok (.iinc 3 1, 3) := by decide +kernel
theorem dX11_nests_50 : decode cX11_nests 50 = .ok (.goto (-27), 3) := by decide +kernel
theorem dX11_nests_53 : decode cX11_nests 53 = .ok (.aload_n 0, 1) := by decide +kernel
theorem dX11_nests_54 : decode cX11_nests 54 = .ok (.invokevirtual 330, 3) := by decide +kernel
theorem dX11_nests_57 : decode cX11_nests 57 = .ok (.iload_n 2, 1) := by decide +kernel
theorem dX11_nests_58 : decode cX11_nests 58 = .ok (.ireturn, 1) := by decide +kernel
theorem dX11_round_0 : decode cX11_round 0 = .ok (.aload_n 0, 1) := by decide +kernel
theorem dX11_round_1 : decode cX11_round 1 = .ok (.iconst 0, 1) := by decide +kernel
theorem dX11_round_2 : decode cX11_round 2 = .ok (.putfield 1, 3) := by decide +kernel
theorem dX11_round_5 : decode cX11_round 5 = .ok (.iload_n 1, 1) := by decide +kernel
theorem dX11_round_6 : decode cX11_round 6 = .ok (.iconst 0, 1) := by decide +kernel
theorem dX11_round_7 : decode cX11_round 7 = .ok (.sipush 999, 3) := by decide +kernel
theorem dX11_round_10 : decode cX11_round 10 = .ok (.invokestatic 176, 3) := by decide +kernel
theorem dX11_round_13 : decode cX11_round 13 = .ok (.ifCond .ne 5, 3) := by decide +kernel
theorem dX11_round_16 : decode cX11_round 16 = .ok (.iconst (-1), 1) := by decide +kernel
theorem dX11_round_17 : decode cX11_round 17 = .ok (.ireturn, 1) := by decide +kernel
theorem dX11_round_18 : decode cX11_round 18 = .ok (.iconst 0, 1) := by decide +kernel
theorem dX11_round_19 : decode cX11_round 19 = .ok (.istore_n 2, 1) := by decide +kernel
theorem dX11_round_20 : decode cX11_round 20 = .ok (.iconst 0, 1) := by decide +kernel
theorem dX11_round_21 : decode cX11_round 21 = .ok (.istore_n 3, 1) := by decide +kernel
theorem dX11_round_22 : decode cX11_round 22 = .ok (.iconst 1, 1) := by decide +kernel
theorem dX11_round_23 : decode cX11_round 23 = .ok (.istore 4, 2) := by decide +kernel
theorem dX11_round_25 : decode cX11_round 25 = .ok (.iload 4, 2) := by decide +kernel
theorem dX11_round_27 : decode cX11_round 27 = .ok (.iconst 1, 1) := by decide +kernel
theorem dX11_round_28 : decode cX11_round 28 = .ok (.aload_n 0, 1) := by decide +kernel
theorem dX11_round_29 : decode cX11_round 29 = .ok (.getfield 33, 3) := by decide +kernel
theorem dX11_round_32 : decode cX11_round 32 = .ok (.iconst 1, 1) := by decide +kernel
theorem dX11_round_33 : decode cX11_round 33 = .ok (.iaload, 1) := by decide +kernel
theorem dX11_round_34 : decode cX11_round 34 = .ok (.ishl, 1) := by decide +kernel
theorem dX11_round_35 : decode cX11_round 35 = .ok (.if_icmp .ge 130, 3) := by decide +kernel
theorem dX11_round_38 : decode cX11_round 38 = .ok (.iconst 0, 1) := by decide +kernel
theorem dX11_round_39 : decode cX11_round 39 = .ok (.istore 5, 2) := by decide +kernel
theorem dX11_round_41 : decode cX11_round 41 = .ok (.iconst 1, 1) := by decide +kernel
theorem dX11_round_42 : decode cX11_round 42 = .ok (.istore 6, 2) := by decide +kernel
theorem dX11_round_44 : decode cX11_round 44 = .ok (.iconst 0, 1) := by decide +kernel
theorem dX11_round_45 : decode cX11_round 45 = .ok (.istore 7, 2) := by decide +kernel
theorem dX11_round_47 : decode cX11_round 47 = .ok (.iload 7, 2) := by decide +kernel
theorem dX11_round_49 : decode cX11_round 49 = .ok (.aload_n 0, 1) := by decide +kernel
theorem dX11_round_50 : decode cX11_round 50 = .ok (.getfield 33, 3) := by decide +kernel
theorem dX11_round_53 : decode cX11_round 53 = .ok (.iconst 1, 1) := by decide +kernel
theorem dX11_round_54 : decode cX11_round 54 = .ok (.iaload, 1) := by decide +kernel
theorem dX11_round_55 : decode cX11_round 55 = .ok (.if_icmp .ge 54, 3) := by decide +kernel
theorem dX11_round_58 : decode cX11_round 58 = .ok (.iload 4, 2) := by decide +kernel
theorem dX11_round_60 : decode cX11_round 60 = .ok (.iload 7, 2) := by decide +kernel
theorem dX11_round_62 : decode cX11_round 62 = .ok (.invokestatic 333, 3) := by decide +kernel
theorem dX11_round_65 : decode cX11_round 65 = .ok (.ifCond .ne 6, 3) := by decide +kernel
theorem dX11_round_68 : decode cX11_round 68 = .ok (.goto 35, 3) := by decide +kernel
theorem dX11_round_71 : decode cX11_round 71 = .ok (.iload 6, 2) := by decide +kernel
theorem dX11_round_73 : decode cX11_round 73 = .ok (.ifCond .eq 16, 3) := by decide +kernel
theorem dX11_round_76 : decode cX11_round 76 = .ok (.aload_n 0, 1) := by decide +kernel
theorem dX11_round_77 : decode cX11_round 77 = .ok (.iload 7, 2) := by decide +kernel
theorem dX11_round_79 : decode cX11_round 79 = .ok (.invokevirtual 324, 3) := by decide +kernel
theorem dX11_round_82 : decode cX11_round 82 = .ok (.ifCond .le 7, 3) := by decide +kernel
theorem dX11_round_85 : decode cX11_round 85 = .ok (.iconst 1, 1) := by decide +kernel
theorem dX11_round_86 : decode cX11_round 86 = .ok (.goto 4, 3) := by decide +kernel
theorem dX11_round_89 : decode cX11_round 89 = .ok (.iconst 0, 1) := by decide +kernel
theorem dX11_round_90 : decode cX11_round 90 = .ok (.istore 6, 2) := by decide +kernel
theorem dX11_round_92 : decode cX11_round 92 = .ok (.iload 5, 2) := by decide +kernel
theorem dX11_round_94 : decode cX11_round 94 = .ok (.aload_n 0, 1) := by decide +kernel
theorem dX11_round_95 : decode cX11_round 95 = .ok (.iload 7, 2) := by decide +kernel
theorem dX11_round_97 : decode cX11_round 97 = .ok (.invokevirtual 268, 3) := by decide +kernel
theorem dX11_round_100 : decode cX11_round 100 = .ok (.iadd, 1) := by decide +kernel
theorem dX11_round_101 : decode cX11_round 101 = .ok (.istore 5, 2) := by decide +kernel
theorem dX11_round_103 : decode cX11_round 103 = .ok (.iinc 7 1, 3) := by decide +kernel
theorem dX11_round_106 : decode cX11_round 106 = .ok (.goto (-59), 3) := by decide +kernel
theorem dX11_round_109 : decode cX11_round 109 = .ok (.iload 6, 2) := by decide +kernel
theorem dX11_round_111 : decode cX11_round 111 = .ok (.ifCond .eq 48, 3) := by decide +kernel
theorem dX11_round_114 : decode cX11_round 114 = .ok (.iload 5, 2) := by decide +kernel
theorem dX11_round_116 : decode cX11_round 116 = .ok (.iload_n 1, 1) := by decide +kernel
theorem dX11_round_117 : decode cX11_round 117 = .ok (.if_icmp .gt 42, 3) := by decide +kernel
theorem dX11_round_120 : decode cX11_round 120 = .ok (.iload 4, 2) := by decide +kernel
theorem dX11_round_122 : decode cX11_round 122 = .ok (.invokestatic 336, 3) := by decide +kernel
theorem dX11_round_125 : decode cX11_round 125 = .ok (.iload_n 2, 1) := by decide +kernel
theorem dX11_round_126 : decode cX11_round 126 = .ok (.invokestatic 336, 3) := by decide +kernel
theorem dX11_round_129 : decode cX11_round 129 = .ok (.if_icmp .lt 30, 3) := by decide +kernel
theorem dX11_round_132 : decode cX11_round 132 = .ok (.iload 4, 2) := by decide +kernel
theorem dX11_round_134 : decode cX11_round 134 = .ok (.invokestatic 336, 3) := by decide +kernel
theorem dX11_round_137 : decode cX11_round 137 = .ok (.iload_n 2, 1) := by decide +kernel
theorem dX11_round_138 : decode cX11_round 138 = .ok (.invokestatic 336, 3) := by decide +kernel
theorem dX11_round_141 : decode cX11_round 141 = .ok (.if_icmp .ne 12, 3) := by decide +kernel
theorem dX11_round_144 : decode cX11_round 144 = .ok (.iload 5, 2) := by decide +kernel
theorem dX11_round_146 : decode cX11_round 146 = .ok (.iload_n 3, 1) := by decide +kernel
theorem dX11_round_147 : decode cX11_round 147 = .ok (.if_icmp .lt 6, 3) := by decide +kernel
theorem dX11_round_150 : decode cX11_round 150 = .ok (.goto 9, 3) := by decide +kernel
theorem dX11_round_153 : decode cX11_round 153 = .ok (.iload 4, 2) := by decide +kernel
theorem dX11_round_155 : decode cX11_round 155 = .ok (.istore_n 2, 1) := by decide +kernel
theorem dX11_round_156 : decode cX11_round 156 = .ok (.iload 5, 2) := by decide +kernel
theorem dX11_round_158 : decode cX11_round 158 = .ok (.istore_n 3, 1) := by decide +kernel
theorem dX11_round_159 : decode cX11_round 159 = .ok (.iinc 4 1, 3) := by decide +kernel
theorem dX11_round_162 : decode cX11_round 162 = .ok (.goto (-137), 3) := by decide +kernel
theorem dX11_round_165 : decode cX11_round 165 = .ok (.aload_n 0, 1) := by decide +kernel
theorem dX11_round_166 : decode cX11_round 166 = .ok (.iconst 1, 1) := by decide +kernel
theorem dX11_round_167 : decode cX11_round 167 = .ok (.putfield 339, 3) := by decide +kernel
theorem dX11_round_170 : decode cX11_round 170 = .ok (.aload_n 0, 1) := by decide +kernel
theorem dX11_round_171 : decode cX11_round 171 = .ok (.iload_n 2, 1) := by decide +kernel
theorem dX11_round_172 : decode cX11_round 172 = .ok (.putfield 342, 3) := by decide +kernel
theorem dX11_round_175 : decode cX11_round 175 = .ok (.iload_n 2, 1) := by decide +kernel
theorem dX11_round_176 : decode cX11_round 176 = .ok (.invokestatic 336, 3) := by decide +kernel
theorem dX11_round_179 : decode cX11_round 179 = .ok (.ireturn, 1) := by decide +kernel
theorem dX11_rounded_0 : decode cX11_rounded 0 = .ok (.aload_n 0, 1) := by decide +kernel
theorem dX11_rounded_1 : decode cX11_rounded 1 = .ok (.iconst 0, 1) := by decide +kernel
theorem dX11_rounded_2 : decode cX11_rounded 2 = .ok (.putfield 1, 3) := by decide +kernel
theorem dX11_rounded_5 : decode cX11_rounded 5 = .ok (.aload_n 0, 1) := by decide +kernel
theorem dX11_rounded_6 : decode cX11_rounded 6 = .ok (.getfield 339, 3) := by decide +kernel
theorem dX11_rounded_9 : decode cX11_rounded 9 = .ok (.ifCond .eq 10, 3) := by decide +kernel
theorem dX11_rounded_12 : decode cX11_rounded 12 = .ok (.aload_n 0, 1) := by decide +kernel
theorem dX11_rounded_13 : decode cX11_rounded 13 = .ok (.getfield 342, 3) := by decide +kernel
theorem dX11_rounded_16 : decode cX11_rounded 16 = .ok (.goto 4, 3) := by decide +kernel
theorem dX11_rounded_19 : decode cX11_rounded 19 = .ok (.iconst (-1), 1) := by decide +kernel
theorem dX11_rounded_20 : decode cX11_rounded 20 = .ok (.ireturn, 1) := by decide +kernel
theorem dX11_laysBag_0 : decode cX11_laysBag 0 = .ok (.iconst 0, 1) := by decide +kernel
theorem dX11_laysBag_1 : decode cX11_laysBag 1 = .ok (.istore_n 1, 1) := by decide +kernel
theorem dX11_laysBag_2 : decode cX11_laysBag 2 = .ok (.iconst 0, 1) := by decide +kernel
theorem dX11_laysBag_3 : decode cX11_laysBag 3 = .ok (.istore_n 2, 1) := by decide +kernel
theorem dX11_laysBag_4 : decode cX11_laysBag 4 = .ok (.iload_n 2, 1) := by decide +kernel
theorem dX11_laysBag_5 : decode cX11_laysBag 5 = .ok (.bipush 8, 2) := by decide +kernel
theorem dX11_laysBag_7 : decode cX11_laysBag 7 = .ok (.if_icmp .ge 49, 3) := by decide +kernel
theorem dX11_laysBag_10 : decode cX11_laysBag 10 = .ok (.iconst 0, 1) := by decide +kernel
theorem dX11_laysBag_11 : decode cX11_laysBag 11 = .ok (.istore_n 3, 1) := by decide +kernel
theorem dX11_laysBag_12 : decode cX11_laysBag 12 = .ok (.iload_n 3, 1) := by decide +kernel
theorem dX11_laysBag_13 : decode cX11_laysBag 13 = .ok (.aload_n 0, 1) := by decide +kernel
theorem dX11_laysBag_14 : decode cX11_laysBag 14 = .ok (.getfield 33, 3) := by decide +kernel
theorem dX11_laysBag_17 : decode cX11_laysBag 17 = .ok (.sipush 185, 3) := by decide +kernel
theorem dX11_laysBag_20 : decode cX11_laysBag 20 = .ok (.iload_n 2, 1) := by decide +kernel
theorem dX11_laysBag_21 : decode cX11_laysBag 21 = .ok (.iadd, 1) := by decide +kernel
theorem dX11_laysBag_22 : decode cX11_laysBag 22 = .ok (.iaload, 1) := by decide +kernel
theorem dX11_laysBag_23 : decode cX11_laysBag 23 = .ok (.if_icmp .ge 27, 3) := by decide +kernel
theorem dX11_laysBag_26 : decode cX11_laysBag 26 = .ok (.aload_n 0, 1) := by decide +kernel
theorem dX11_laysBag_27 : decode cX11_laysBag 27 = .ok (.getfield 63, 3) := by decide +kernel
theorem dX11_laysBag_30 : decode cX11_laysBag 30 = .ok (.iload_n 1, 1) := by decide +kernel
theorem dX11_laysBag_31 : decode cX11_laysBag 31 = .ok (.aload_n 0, 1) := by decide +kernel
theorem dX11_laysBag_32 : decode cX11_laysBag 32 = .ok (.getfield 33, 3) := by decide +kernel
theorem dX11_laysBag_35 : decode cX11_laysBag 35 = .ok (.bipush 13, 2) := by decide +kernel
theorem dX11_laysBag_37 : decode cX11_laysBag 37 = .ok (.iload_n 2, 1) := by decide +kernel
theorem dX11_laysBag_38 : decode cX11_laysBag 38 = .ok (.iadd, 1) := by decide +kernel
theorem dX11_laysBag_39 : decode cX11_laysBag 39 = .ok (.iaload, 1) := by decide +kernel
theorem dX11_laysBag_40 : decode cX11_laysBag 40 = .ok (.iastore, 1) := by decide +kernel
theorem dX11_laysBag_41 : decode cX11_laysBag 41 = .ok (.iinc 1 1, 3) := by decide +kernel
theorem dX11_laysBag_44 : decode cX11_laysBag 44 = .ok (.iinc 3 1, 3) := by decide +kernel
theorem dX11_laysBag_47 : decode cX11_laysBag 47 = .ok (.goto (-35), 3) := by decide +kernel
theorem dX11_laysBag_50 : decode cX11_laysBag 50 = .ok (.iinc 2 1, 3) := by decide +kernel
theorem dX11_laysBag_53 : decode cX11_laysBag 53 = .ok (.goto (-49), 3) := by decide +kernel
theorem dX11_laysBag_56 : decode cX11_laysBag 56 = .ok (.iconst 0, 1) := by decide +kernel
theorem dX11_laysBag_57 : decode cX11_laysBag 57 = .ok (.istore_n 2, 1) := by decide +kernel
theorem dX11_laysBag_58 : decode cX11_laysBag 58 = .ok (.iload_n 2, 1) := by decide +kernel
theorem dX11_laysBag_59 : decode cX11_laysBag 59 = .ok (.iconst 1, 1) := by decide +kernel
theorem dX11_laysBag_60 : decode cX11_laysBag 60 = .ok (.iload_n 1, 1) := by decide +kernel
theorem dX11_laysBag_61 : decode cX11_laysBag 61 = .ok (.ishl, 1) := by decide +kernel
theorem dX11_laysBag_62 : decode cX11_laysBag 62 = .ok (.if_icmp .ge 56, 3) := by decide +kernel
theorem dX11_laysBag_65 : decode cX11_laysBag 65 = .ok (.aload_n 0, 1) := by decide +kernel
theorem dX11_laysBag_66 : decode cX11_laysBag 66 = .ok (.getfield 60, 3) := by decide +kernel
theorem dX11_laysBag_69 : decode cX11_laysBag 69 = .ok (.iload_n 2, 1) := by decide +kernel
theorem dX11_laysBag_70 : decode cX11_laysBag 70 = .ok (.iconst 0, 1) := by decide +kernel
theorem dX11_laysBag_71 : decode cX11_laysBag 71 = .ok (.iastore, 1) := by decide +kernel
theorem dX11_laysBag_72 : decode cX11_laysBag 72 = .ok (.iconst 0, 1) := by decide +kernel
theorem dX11_laysBag_73 : decode cX11_laysBag 73 = .ok (.istore_n 3, 1) := by decide +kernel
theorem dX11_laysBag_74 : decode cX11_laysBag 74 = .ok (.iload_n 3, 1) := by decide +kernel
theorem dX11_laysBag_75 : decode cX11_laysBag 75 = .ok (.iload_n 1, 1) := by decide +kernel
theorem dX11_laysBag_76 : decode cX11_laysBag 76 = .ok (.if_icmp .ge 36, 3) := by decide +kernel
theorem dX11_laysBag_79 : decode cX11_laysBag 79 = .ok (.aload_n 0, 1) := by decide +kernel
theorem dX11_laysBag_80 : decode cX11_laysBag 80 = .ok (.getfield 60, 3) := by decide +kernel
theorem dX11_laysBag_83 : decode cX11_laysBag 83 = .ok (.iload_n 2, 1) := by decide +kernel
theorem dX11_laysBag_84 : decode cX11_laysBag 84 = .ok (.dup2, 1) := by decide +kernel
theorem dX11_laysBag_85 : decode cX11_laysBag 85 = .ok (.iaload, 1) := by decide +kernel
theorem dX11_laysBag_86 : decode cX11_laysBag 86 = .ok (.iload_n 2, 1) := by decide +kernel
theorem dX11_laysBag_87 : decode cX11_laysBag 87 = .ok (.iload_n 3, 1) := by decide +kernel
theorem dX11_laysBag_88 : decode cX11_laysBag 88 = .ok (.invokestatic 333, 3) := by decide +kernel
theorem dX11_laysBag_91 : decode cX11_laysBag 91 = .ok (.ifCond .eq 12, 3) := by decide +kernel
theorem dX11_laysBag_94 : decode cX11_laysBag 94 = .ok (.aload_n 0, 1) := by decide +kernel
theorem dX11_laysBag_95 : decode cX11_laysBag 95 = .ok (.getfield 63, 3) := by decide +kernel
theorem dX11_laysBag_98 : decode cX11_laysBag 98 = .ok (.iload_n 3, 1) := by decide +kernel
theorem dX11_laysBag_99 : decode cX11_laysBag 99 = .ok (.iaload, 1) := by decide +kernel
theorem dX11_laysBag_100 : decode cX11_laysBag 100 = .ok (.goto 4, 3) := by decide +kernel
theorem dX11_laysBag_103 : decode cX11_laysBag 103 = .ok (.iconst 0, 1) := by decide +kernel
theorem dX11_laysBag_104 : decode cX11_laysBag 104 = .ok (.iadd, 1) := by decide +kernel
theorem dX11_laysBag_105 : decode cX11_laysBag 105 = .ok (.iastore, 1) := by decide +kernel
theorem dX11_laysBag_106 : decode cX11_laysBag 106 = .ok (.iinc 3 1, 3) := by decide +kernel
theorem dX11_laysBag_109 : decode cX11_laysBag 109 = .ok (.goto (-35), 3) := by decide +kernel
theorem dX11_laysBag_112 : decode cX11_laysBag 112 = .ok (.iinc 2 1, 3) := by decide +kernel
theorem dX11_laysBag_115 : decode cX11_laysBag 115 = .ok (.goto (-57), 3) := by decide +kernel
theorem dX11_laysBag_118 : decode cX11_laysBag 118 = .ok (.iload_n 1, 1) := by decide +kernel
theorem dX11_laysBag_119 : decode cX11_laysBag 119 = .ok (.ireturn, 1) := by decide +kernel
theorem dX11_fills_0 : decode cX11_fills 0 = .ok (.iconst 3, 1) := by decide +kernel
theorem dX11_fills_1 : decode cX11_fills 1 = .ok (.istore_n 3, 1) := by decide +kernel
theorem dX11_fills_2 : decode cX11_fills 2 = .ok (.iload_n 1, 1) := by decide +kernel
theorem dX11_fills_3 : decode cX11_fills 3 = .ok (.iload_n 3, 1) := by decide +kernel
theorem dX11_fills_4 : decode cX11_fills 4 = .ok (.invokestatic 333, 3) := by decide +kernel
theorem dX11_fills_7 : decode cX11_fills 7 = .ok (.ifCond .ne 9, 3) := by decide +kernel
theorem dX11_fills_10 : decode cX11_fills 10 = .ok (.iinc 3 (-1), 3) := by decide +kernel
theorem dX11_fills_13 : decode cX11_fills 13 = .ok (.goto (-11), 3) := by decide +kernel
theorem dX11_fills_16 : decode cX11_fills 16 = .ok (.aload_n 0, 1) := by decide +kernel
theorem dX11_fills_17 : decode cX11_fills 17 = .ok (.getfield 33, 3) := by decide +kernel
theorem dX11_fills_20 : decode cX11_fills 20 = .ok (.bipush 117, 2) := by decide +kernel
theorem dX11_fills_22 : decode cX11_fills 22 = .ok (.iload_n 3, 1) := by decide +kernel
theorem dX11_fills_23 : decode cX11_fills 23 = .ok (.iadd, 1) := by decide +kernel
theorem dX11_fills_24 : decode cX11_fills 24 = .ok (.iaload, 1) := by decide +kernel
theorem dX11_fills_25 : decode cX11_fills 25 = .ok (.aload_n 0, 1) := by decide +kernel
theorem dX11_fills_26 : decode cX11_fills 26 = .ok (.getfield 33, 3) := by decide +kernel
theorem dX11_fills_29 : decode cX11_fills 29 = .ok (.sipush 193, 3) := by decide +kernel
theorem dX11_fills_32 : decode cX11_fills 32 = .ok (.iload_n 3, 1) := by decide +kernel
theorem dX11_fills_33 : decode cX11_fills 33 = .ok (.iadd, 1) := by decide +kernel
theorem dX11_fills_34 : decode cX11_fills 34 = .ok (.iaload, 1) := by decide +kernel
theorem dX11_fills_35 : decode cX11_fills 35 = .ok (.isub, 1) := by decide +kernel
theorem dX11_fills_36 : decode cX11_fills 36 = .ok (.istore 4, 2) := by decide +kernel
theorem dX11_fills_38 : decode cX11_fills 38 = .ok (.iconst 0, 1) := by decide +kernel
theorem dX11_fills_39 : decode cX11_fills 39 = .ok (.istore 5, 2) := by decide +kernel
theorem dX11_fills_41 : decode cX11_fills 41 = .ok (.iconst 0, 1) := by decide +kernel
theorem dX11_fills_42 : decode cX11_fills 42 = .ok (.istore 6, 2) := by decide +kernel
theorem dX11_fills_44 : decode cX11_fills 44 = .ok (.iload 6, 2) := by decide +kernel
theorem dX11_fills_46 : decode cX11_fills 46 = .ok (.iconst 1, 1) := by decide +kernel
theorem dX11_fills_47 : decode cX11_fills 47 = .ok (.iload_n 2, 1) := by decide +kernel
theorem dX11_fills_48 : decode cX11_fills 48 = .ok (.ishl, 1) := by decide +kernel
theorem dX11_fills_49 : decode cX11_fills 49 = .ok (.if_icmp .ge 112, 3) := by decide +kernel
theorem dX11_fills_52 : decode cX11_fills 52 = .ok (.iconst 0, 1) := by decide +kernel
theorem dX11_fills_53 : decode cX11_fills 53 = .ok (.istore 7, 2) := by decide +kernel
theorem dX11_fills_55 : decode cX11_fills 55 = .ok (.iload 6, 2) := by decide +kernel
theorem dX11_fills_57 : decode cX11_fills 57 = .ok (.istore 8, 2) := by decide +kernel
theorem dX11_fills_59 : decode cX11_fills 59 = .ok (.iload 8, 2) := by decide +kernel
theorem dX11_fills_61 : decode cX11_fills 61 = .ok (.ifCond .le 62, 3) := by decide +kernel
theorem dX11_fills_64 : decode cX11_fills 64 = .ok (.iload 7, 2) := by decide +kernel
theorem dX11_fills_66 : decode cX11_fills 66 = .ok (.ifCond .ne 57, 3) := by decide +kernel
theorem dX11_fills_69 : decode cX11_fills 69 = .ok (.aload_n 0, 1) := by decide +kernel
theorem dX11_fills_70 : decode cX11_fills 70 = .ok (.getfield 60, 3) := by decide +kernel
theorem dX11_fills_73 : decode cX11_fills 73 = .ok (.iload 8, 2) := by decide +kernel
theorem dX11_fills_75 : decode cX11_fills 75 = .ok (.iaload, 1) := by decide +kernel
theorem dX11_fills_76 : decode cX11_fills 76 = .ok (.iload 4, 2) := by decide +kernel
theorem dX11_fills_78 : decode cX11_fills 78 = .ok (.if_icmp .lt 30, 3) := by decide +kernel
theorem dX11_fills_81 : decode cX11_fills 81 = .ok (.aload_n 0, 1) := by decide +kernel
theorem dX11_fills_82 : decode cX11_fills 82 = .ok (.getfield 56, 3) := by decide +kernel
theorem dX11_fills_85 : decode cX11_fills 85 = .ok (.sipush 1024, 3) := by decide +kernel
theorem dX11_fills_88 : decode cX11_fills 88 = .ok (.iload_n 1, 1) := by decide +kernel
theorem dX11_fills_89 : decode cX11_fills 89 = .ok (.iconst 1, 1) := by decide +kernel
theorem dX11_fills_90 : decode cX11_fills 90 = .ok (.iload_n 3, 1) := by decide +kernel
theorem dX11_fills_91 : decode cX11_fills 91 = .ok (.ishl, 1) := by decide +kernel
theorem dX11_fills_92 : decode cX11_fills 92 = .ok (.ixor, 1) := by decide +kernel
theorem dX11_fills_93 : decode cX11_fills 93 = .ok (.imul, 1) := by decide +kernel
theorem dX11_fills_94 : decode cX11_fills 94 = .ok (.iload 6, 2) := by decide +kernel
theorem dX11_fills_96 : decode cX11_fills 96 = .ok (.iload 8, 2) := by decide +kernel
theorem dX11_fills_98 : decode cX11_fills 98 = .ok (.ixor, 1) := by decide +kernel
theorem dX11_fills_99 : decode cX11_fills 99 = .ok (.iadd, 1) := by decide +kernel
theorem dX11_fills_100 : decode cX11_fills 100 = .ok (.baload, 1) := by decide +kernel
theorem dX11_fills_101 : decode cX11_fills 101 = .ok (.ifCond .eq 7, 3) := by decide +kernel
theorem dX11_fills_104 : decode cX11_fills 104 = .ok (.iconst 1, 1) := by decide +kernel
theorem dX11_fills_105 : decode cX11_fills 105 = .ok (.goto 4, 3) := by decide +kernel
theorem dX11_fills_108 : decode cX11_fills 108 = .ok (.iconst 0, 1) := by decide +kernel
theorem dX11_fills_109 : decode cX11_fills 109 = .ok (.istore 7, 2) := by decide +kernel
theorem dX11_fills_111 : decode cX11_fills 111 = .ok (.iload 8, 2) := by decide +kernel
theorem dX11_fills_113 : decode cX11_fills 113 = .ok (.iconst 1, 1) := by decide +kernel
theorem dX11_fills_114 : decode cX11_fills 114 = .ok (.isub, 1) := by decide +kernel
theorem dX11_fills_115 : decode cX11_fills 115 = .ok (.iload 6, 2) := by decide +kernel
theorem dX11_fills_117 : decode cX11_fills 117 = .ok (.iand, 1) := by decide +kernel
theorem dX11_fills_118 : decode cX11_fills 118 = .ok (.istore 8, 2) := by decide +kernel
theorem dX11_fills_120 : decode cX11_fills 120 = .ok (.goto (-61), 3) := by decide +kernel
theorem dX11_fills_123 : decode cX11_fills 123 = .ok (.aload_n 0, 1) := by decide +kernel
theorem dX11_fills_124 : decode cX11_fills 124 = .ok (.getfield 56, 3) := by decide +kernel
theorem dX11_fills_127 : decode cX11_fills 127 = .ok (.sipush 1024, 3) := by decide +kernel
theorem dX11_fills_130 : decode cX11_fills 130 = .ok (.iload_n 1, 1) := by decide +kernel
theorem dX11_fills_131 : decode cX11_fills 131 = .ok (.imul, 1) := by decide +kernel
theorem dX11_fills_132 : decode cX11_fills 132 = .ok (.iload 6, 2) := by decide +kernel
theorem dX11_fills_134 : decode cX11_fills 134 = .ok (.iadd, 1) := by decide +kernel
theorem dX11_fills_135 : decode cX11_fills 135 = .ok (.iload 7, 2) := by decide +kernel
theorem dX11_fills_137 : decode cX11_fills 137 = .ok (.bastore, 1) := by decide +kernel
theorem dX11_fills_138 : decode cX11_fills 138 = .ok (.iload 5, 2) := by decide +kernel
theorem dX11_fills_140 : decode cX11_fills 140 = .ok (.ifCond .ne 8, 3) := by decide +kernel
theorem dX11_fills_143 : decode cX11_fills 143 = .ok (.iload 7, 2) := by decide +kernel
theorem dX11_fills_145 : decode cX11_fills 145 = .ok (.ifCond .eq 7, 3) := by decide +kernel
theorem dX11_fills_148 : decode cX11_fills 148 = .ok (.iconst 1, 1) := by decide +kernel
theorem dX11_fills_149 : decode cX11_fills 149 = .ok (.goto 4, 3) := by decide +kernel
theorem dX11_fills_152 : decode cX11_fills 152 = .ok (.iconst 0, 1) := by decide +kernel
theorem dX11_fills_153 : decode cX11_fills 153 = .ok (.istore 5, 2) := by decide +kernel
theorem dX11_fills_155 : decode cX11_fills 155 = .ok (.iinc 6 1, 3) := by decide +kernel
theorem dX11_fills_158 : decode cX11_fills 158 = .ok (.goto (-114), 3) := by decide +kernel
theorem dX11_fills_161 : decode cX11_fills 161 = .ok (.iload 5, 2) := by decide +kernel
theorem dX11_fills_163 : decode cX11_fills 163 = .ok (.ireturn, 1) := by decide +kernel
theorem dX11_beds_0 : decode cX11_beds 0 = .ok (.aload_n 0, 1) := by decide +kernel
theorem dX11_beds_1 : decode cX11_beds 1 = .ok (.iconst 0, 1) := by decide +kernel
theorem dX11_beds_2 : decode cX11_beds 2 = .ok (.putfield 1, 3) := by decide +kernel
theorem dX11_beds_5 : decode cX11_beds 5 = .ok (.aload_n 0, 1) := by decide +kernel
theorem dX11_beds_6 : decode cX11_beds 6 = .ok (.invokevirtual 345, 3) := by decide +kernel
theorem dX11_beds_9 : decode cX11_beds 9 = .ok (.istore_n 1, 1) := by decide +kernel
theorem dX11_beds_10 : decode cX11_beds 10 = .ok (.aload_n 0, 1) := by decide +kernel
theorem dX11_beds_11 : decode cX11_beds 11 = .ok (.invokevirtual 289, 3) := by decide +kernel
theorem dX11_beds_14 : decode cX11_beds 14 = .ok (.istore_n 2, 1) := by decide +kernel
theorem dX11_beds_15 : decode cX11_beds 15 = .ok (.iload_n 2, 1) := by decide +kernel
theorem dX11_beds_16 : decode cX11_beds 16 = .ok (.istore_n 3, 1) := by decide +kernel
theorem dX11_beds_17 : decode cX11_beds 17 = .ok (.iconst 0, 1) := by decide +kernel
theorem dX11_beds_18 : decode cX11_beds 18 = .ok (.istore 4, 2) := by decide +kernel
theorem dX11_beds_20 : decode cX11_beds 20 = .ok (.iload 4, 2) := by decide +kernel
theorem dX11_beds_22 : decode cX11_beds 22 = .ok (.iconst 1, 1) := by decide +kernel
theorem dX11_beds_23 : decode cX11_beds 23 = .ok (.iload_n 1, 1) := by decide +kernel
theorem dX11_beds_24 : decode cX11_beds 24 = .ok (.ishl, 1) := by decide +kernel
theorem dX11_beds_25 : decode cX11_beds 25 = .ok (.if_icmp .ge 26, 3) := by decide +kernel
theorem dX11_beds_28 : decode cX11_beds 28 = .ok (.aload_n 0, 1) := by decide +kernel
theorem dX11_beds_29 : decode cX11_beds 29 = .ok (.getfield 56, 3) := by decide +kernel
theorem dX11_beds_32 : decode cX11_beds 32 = .ok (.iload 4, 2) := by decide +kernel
theorem dX11_beds_34 : decode cX11_beds 34 = .ok (.iload 4, 2) := by decide +kernel
theorem dX11_beds_36 : decode cX11_beds 36 = .ok (.ifCond .ne 7, 3) := by decide +kernel
theorem dX11_beds_39 : decode cX11_beds 39 = .ok (.iconst 1, 1) := by decide +kernel
theorem dX11_beds_40 : decode cX11_beds 40 = .ok (.goto 4, 3) := by decide +kernel
theorem dX11_beds_43 : decode cX11_beds 43 = .ok (.iconst 0, 1) := by decide +kernel
theorem dX11_beds_44 : decode cX11_beds 44 = .ok (.bastore, 1) := by decide +kernel
theorem dX11_beds_45 : decode cX11_beds 45 = .ok (.iinc 4 1, 3) := by decide +kernel
theorem dX11_beds_48 : decode cX11_beds 48 = .ok (.goto (-28), 3) := by decide +kernel
theorem dX11_beds_51 : decode cX11_beds 51 = .ok (.iconst 1, 1) := by decide +kernel
theorem dX11_beds_52 : decode cX11_beds 52 = .ok (.istore 4, 2) := by decide +kernel
theorem dX11_beds_54 : decode cX11_beds 54 = .ok (.iload 4, 2) := by decide +kernel
theorem dX11_beds_56 : decode cX11_beds 56 = .ok (.iconst 1, 1) := by decide +kernel
theorem dX11_beds_57 : decode cX11_beds 57 = .ok (.aload_n 0, 1) := by decide +kernel
theorem dX11_beds_58 : decode cX11_beds 58 = .ok (.getfield 33, 3) := by decide +kernel
theorem dX11_beds_61 : decode cX11_beds 61 = .ok (.iconst 3, 1) := by decide +kernel
theorem dX11_beds_62 : decode cX11_beds 62 = .ok (.iaload, 1) := by decide +kernel
theorem dX11_beds_63 : decode cX11_beds 63 = .ok (.ishl, 1) := by decide +kernel
theorem dX11_beds_64 : decode cX11_beds 64 = .ok (.if_icmp .ge 72, 3) := by decide +kernel
theorem dX11_beds_67 : decode cX11_beds 67 = .ok (.iload 4, 2) := by decide +kernel
theorem dX11_beds_69 : decode cX11_beds 69 = .ok (.iload_n 2, 1) := by decide +kernel
theorem dX11_beds_70 : decode cX11_beds 70 = .ok (.iand, 1) := by decide +kernel
theorem dX11_beds_71 : decode cX11_beds 71 = .ok (.ifCond .eq 6, 3) := by decide +kernel
theorem dX11_beds_74 : decode cX11_beds 74 = .ok (.goto 56, 3) := by decide +kernel
theorem dX11_beds_77 : decode cX11_beds 77 = .ok (.aload_n 0, 1) := by decide +kernel
theorem dX11_beds_78 : decode cX11_beds 78 = .ok (.iload 4, 2) := by decide +kernel
theorem dX11_beds_80 : decode cX11_beds 80 = .ok (.iload_n 1, 1) := by decide +kernel
theorem dX11_beds_81 : decode cX11_beds 81 = .ok (.invokevirtual 348, 3) := by decide +kernel
theorem dX11_beds_84 : decode cX11_beds 84 = .ok (.istore 5, 2) := by decide +kernel
theorem dX11_beds_86 : decode cX11_beds 86 = .ok (.iload 4, 2) := by decide +kernel
theorem dX11_beds_88 : decode cX11_beds 88 = .ok (.iload_n 2, 1) := by decide +kernel
theorem dX11_beds_89 : decode cX11_beds 89 = .ok (.ior, 1) := by decide +kernel
theorem dX11_beds_90 : decode cX11_beds 90 = .ok (.istore 6, 2) := by decide +kernel
theorem dX11_beds_92 : decode cX11_beds 92 = .ok (.iload 5, 2) := by decide +kernel
theorem dX11_beds_94 : decode cX11_beds 94 = .ok (.ifCond .eq 36, 3) := by decide +kernel
theorem dX11_beds_97 : decode cX11_beds 97 = .ok (.iload 6, 2) := by decide +kernel
theorem dX11_beds_99 : decode cX11_beds 99 = .ok (.invokestatic 336, 3) := by decide +kernel
theorem dX11_beds_102 : decode cX11_beds 102 = .ok (.iload_n 3, 1) := by decide +kernel
theorem dX11_beds_103 : decode cX11_beds 103 = .ok (.invokestatic 336, 3) := by decide +kernel
theorem dX11_beds_106 : decode cX11_beds 106 = .ok (.if_icmp .gt 21, 3) := by decide +kernel
theorem dX11_beds_109 : decode cX11_beds 109 = .ok (.iload 6, 2) := by decide +kernel
theorem dX11_beds_111 : decode cX11_beds 111 = .ok (.invokestatic 336, 3) := by decide +kernel
theorem dX11_beds_114 : decode cX11_beds 114 = .ok (.iload_n 3, 1) := by decide +kernel
theorem dX11_beds_115 : decode cX11_beds 115 = .ok (.invokestatic 336, 3) := by decide +kernel
theorem dX11_beds_118 : decode cX11_beds 118 = .ok (.if_icmp .ne 12, 3) := by decide +kernel
theorem dX11_beds_121 : decode cX11_beds 121 = .ok (.iload 6, 2) := by decide +kernel
theorem dX11_beds_123 : decode cX11_beds 123 = .ok (.iload_n 3, 1) := by decide +kernel
theorem dX11_beds_124 : decode cX11_beds 124 = .ok (.if_icmp .ge 6, 3) := by decide +kernel
theorem dX11_beds_127 : decode cX11_beds 127 = .ok (.iload 6, 2) := by decide +kernel
theorem dX11_beds_129 : decode cX11_beds 129 = .ok (.istore_n 3, 1) := by decide +kernel
theorem dX11_beds_130 : decode cX11_beds 130 = .ok (.iinc 4 1, 3) := by decide +kernel
theorem dX11_beds_133 : decode cX11_beds 133 = .ok (.goto (-79), 3) := by decide +kernel
theorem dX11_beds_136 : decode cX11_beds 136 = .ok (.aload_n 0, 1) := by decide +kernel
theorem dX11_beds_137 : decode cX11_beds 137 = .ok (.iconst 1, 1) := by decide +kernel
theorem dX11_beds_138 : decode cX11_beds 138 = .ok (.putfield 351, 3) := by decide +kernel
theorem dX11_beds_141 : decode cX11_beds 141 = .ok (.aload_n 0, 1) := by decide +kernel
theorem dX11_beds_142 : decode cX11_beds 142 = .ok (.iload_n 3, 1) := by decide +kernel
theorem dX11_beds_143 : decode cX11_beds 143 = .ok (.putfield 354, 3) := by decide +kernel
theorem dX11_beds_146 : decode cX11_beds 146 = .ok (.iload_n 3, 1) := by decide +kernel
theorem dX11_beds_147 : decode cX11_beds 147 = .ok (.invokestatic 336, 3) := by decide +kernel
theorem dX11_beds_150 : decode cX11_beds 150 = .ok (.ireturn, 1) := by decide +kernel
theorem dX11_bedded_0 : decode cX11_bedded 0 = .ok (.aload_n 0, 1) := by decide +kernel
theorem dX11_bedded_1 : decode cX11_bedded 1 = .ok (.iconst 0, 1) := by decide +kernel
theorem dX11_bedded_2 : decode cX11_bedded 2 = .ok (.putfield 1, 3) := by decide +kernel
theorem dX11_bedded_5 : decode cX11_bedded 5 = .ok (.aload_n 0, 1) := by decide +kernel
theorem dX11_bedded_6 : decode cX11_bedded 6 = .ok (.getfield 351, 3) := by decide +kernel
theorem dX11_bedded_9 : decode cX11_bedded 9 = .ok (.ifCond .eq 10, 3) := by decide +kernel
theorem dX11_bedded_12 : decode cX11_bedded 12 = .ok (.aload_n 0, 1) := by decide +kernel
theorem dX11_bedded_13 : decode cX11_bedded 13 = .ok (.getfield 354, 3) := by decide +kernel
theorem dX11_bedded_16 : decode cX11_bedded 16 = .ok (.goto 4, 3) := by decide +kernel
theorem dX11_bedded_19 : decode cX11_bedded 19 = .ok (.iconst (-1), 1) := by decide +kernel
theorem dX11_bedded_20 : decode cX11_bedded 20 = .ok (.ireturn, 1) := by decide +kernel
theorem dX11_isFit_0 : decode cX11_isFit 0 = .ok (.aload_n 0, 1) := by decide +kernel
theorem dX11_isFit_1 : decode cX11_isFit 1 = .ok (.getfield 33, 3) := by decide +kernel
theorem dX11_isFit_4 : decode cX11_isFit 4 = .ok (.bipush 125, 2) := by decide +kernel
theorem dX11_isFit_6 : decode cX11_isFit 6 = .ok (.iload_n 1, 1) := by decide +kernel
theorem dX11_isFit_7 : decode cX11_isFit 7 = .ok (.iadd, 1) := by decide +kernel
theorem dX11_isFit_8 : decode cX11_isFit 8 = .ok (.iaload, 1) := by decide +kernel
theorem dX11_isFit_9 : decode cX11_isFit 9 = .ok (.aload_n 0, 1) := by decide +kernel
theorem dX11_isFit_10 : decode cX11_isFit 10 = .ok (.getfield 18, 3) := by decide +kernel
theorem dX11_isFit_13 : decode cX11_isFit 13 = .ok (.if_icmp .lt 7, 3) := by decide +kernel
theorem dX11_isFit_16 : decode cX11_isFit 16 = .ok (.iconst 1, 1) := by decide +kernel
theorem dX11_isFit_17 : decode cX11_isFit 17 = .ok (.goto 4, 3) := by decide +kernel
theorem dX11_isFit_20 : decode cX11_isFit 20 = .ok (.iconst 0, 1) := by decide +kernel
theorem dX11_isFit_21 : decode cX11_isFit 21 = .ok (.istore_n 2, 1) := by decide +kernel
theorem dX11_isFit_22 : decode cX11_isFit 22 = .ok (.iconst 0, 1) := by decide +kernel
theorem dX11_isFit_23 : decode cX11_isFit 23 = .ok (.istore_n 3, 1) := by decide +kernel
theorem dX11_isFit_24 : decode cX11_isFit 24 = .ok (.iload_n 3, 1) := by decide +kernel
theorem dX11_isFit_25 : decode cX11_isFit 25 = .ok (.aload_n 0, 1) := by decide +kernel
theorem dX11_isFit_26 : decode cX11_isFit 26 = .ok (.getfield 18, 3) := by decide +kernel
theorem dX11_isFit_29 : decode cX11_isFit 29 = .ok (.if_icmp .ge 40, 3) := by decide +kernel
theorem dX11_isFit_32 : decode cX11_isFit 32 = .ok (.iload_n 2, 1) := by decide +kernel
theorem dX11_isFit_33 : decode cX11_isFit 33 = .ok (.ifCond .eq 36, 3) := by decide +kernel
theorem dX11_isFit_36 : decode cX11_isFit 36 = .ok (.aload_n 0, 1) := by decide +kernel
theorem dX11_isFit_37 : decode cX11_isFit 37 = .ok (.iload_n 1, 1) := by decide +kernel
theorem dX11_isFit_38 : decode cX11_isFit 38 = .ok (.aload_n 0, 1) := by decide +kernel
theorem dX11_isFit_39 : decode cX11_isFit 39 = .ok (.getfield 18, 3) := by decide +kernel
theorem dX11_isFit_42 : decode cX11_isFit 42 = .ok (.iconst 1, 1) := by decide +kernel
theorem dX11_isFit_43 : decode cX11_isFit 43 = .ok (.isub, 1) := by decide +kernel
theorem dX11_isFit_44 : decode cX11_isFit 44 = .ok (.iload_n 3, 1) := by decide +kernel
theorem dX11_isFit_45 : decode cX11_isFit 45 = .ok (.isub, 1) := by decide +kernel
theorem dX11_isFit_46 : decode cX11_isFit 46 = .ok (.invokevirtual 245, 3) := by decide +kernel
theorem dX11_isFit_49 : decode cX11_isFit 49 = .ok (.aload_n 0, 1) := by decide +kernel
theorem dX11_isFit_50 : decode cX11_isFit 50 = .ok (.iload_n 3, 1) := by decide +kernel
theorem dX11_isFit_51 : decode cX11_isFit 51 = .ok (.invokevirtual 357, 3) := by decide +kernel
theorem dX11_isFit_54 : decode cX11_isFit 54 = .ok (.if_icmp .ne 7, 3) := by decide +kernel
theorem dX11_isFit_57 : decode cX11_isFit 57 = .ok (.iconst 1, 1) := by decide +kernel
theorem dX11_isFit_58 : decode cX11_isFit 58 = .ok (.goto 4, 3) := by decide +kernel
theorem dX11_isFit_61 : decode cX11_isFit 61 = .ok (.iconst 0, 1) := by decide +kernel
theorem dX11_isFit_62 : decode cX11_isFit 62 = .ok (.istore_n 2, 1) := by decide +kernel
theorem dX11_isFit_63 : decode cX11_isFit 63 = .ok (.iinc 3 1, 3) := by decide +kernel
theorem dX11_isFit_66 : decode cX11_isFit 66 = .ok (.goto (-42), 3) := by decide +kernel
theorem dX11_isFit_69 : decode cX11_isFit 69 = .ok (.iload_n 2, 1) := by decide +kernel
theorem dX11_isFit_70 : decode cX11_isFit 70 = .ok (.ireturn, 1) := by decide +kernel
theorem dX11_leftBy_0 : decode cX11_leftBy 0 = .ok (.iconst 0, 1) := by decide +kernel
theorem dX11_leftBy_1 : decode cX11_leftBy 1 = .ok (.istore_n 3, 1) := by decide +kernel
theorem dX11_leftBy_2 : decode cX11_leftBy 2 = .ok (.iconst (-1), 1) := by decide +kernel
theorem dX11_leftBy_3 : decode cX11_leftBy 3 = .ok (.istore 4, 2) := by decide +kernel
theorem dX11_leftBy_5 : decode cX11_leftBy 5 = .ok (.iload 4, 2) := by decide +kernel
theorem dX11_leftBy_7 : decode cX11_leftBy 7 = .ok (.aload_n 0, 1) := by decide +kernel
theorem dX11_leftBy_8 : decode cX11_leftBy 8 = .ok (.getfield 33, 3) := by decide +kernel
theorem dX11_leftBy_11 : decode cX11_leftBy 11 = .ok (.iconst 0, 1) := by decide +kernel
theorem dX11_leftBy_12 : decode cX11_leftBy 12 = .ok (.iaload, 1) := by decide +kernel
theorem dX11_leftBy_13 : decode cX11_leftBy 13 = .ok (.if_icmp .ge 70, 3) := by decide +kernel
theorem dX11_leftBy_16 : decode cX11_leftBy 16 = .ok (.iconst 0, 1) := by decide +kernel
theorem dX11_leftBy_17 : decode cX11_leftBy 17 = .ok (.istore 5, 2) := by decide +kernel
theorem dX11_leftBy_19 : decode cX11_leftBy 19 = .ok (.iconst 0, 1) := by decide +kernel
theorem dX11_leftBy_20 : decode cX11_leftBy 20 = .ok (.istore 6, 2) := by decide +kernel
theorem dX11_leftBy_22 : decode cX11_leftBy 22 = .ok (.iload 6, 2) := by decide +kernel
theorem dX11_leftBy_24 : decode cX11_leftBy 24 = .ok (.aload_n 0, 1) := by decide +kernel
theorem dX11_leftBy_25 : decode cX11_leftBy 25 = .ok (.getfield 33, 3) := by decide +kernel
theorem dX11_leftBy_28 : decode cX11_leftBy 28 = .ok (.iconst 1, 1) := by decide +kernel
theorem dX11_leftBy_29 : decode cX11_leftBy 29 = .ok (.iaload, 1) := by decide +kernel
theorem dX11_leftBy_30 : decode cX11_leftBy 30 = .ok (.if_icmp .ge 40, 3) := by decide +kernel
theorem dX11_leftBy_33 : decode cX11_leftBy 33 = .ok (.iload 5, 2) := by decide +kernel
theorem dX11_leftBy_35 : decode cX11_leftBy 35 = .ok (.iload_n 1, 1) := by decide +kernel
theorem dX11_leftBy_36 : decode cX11_leftBy 36 = .ok (.iload 6, 2) := by decide +kernel
theorem dX11_leftBy_38 : decode cX11_leftBy 38 = .ok (.invokestatic 333, 3) := by decide +kernel
theorem dX11_leftBy_41 : decode cX11_leftBy 41 = .ok (.ifCond .eq 19, 3) := by decide +kernel
theorem dX11_leftBy_44 : decode cX11_leftBy 44 = .ok (.aload_n 0, 1) := by decide +kernel
theorem dX11_leftBy_45 : decode cX11_leftBy 45 = .ok (.iload 6, 2) := by decide +kernel
theorem dX11_leftBy_47 : decode cX11_leftBy 47 = .ok (.iload_n 2, 1) := by decide +kernel
theorem dX11_leftBy_48 : decode cX11_leftBy 48 = .ok (.invokevirtual 245, 3) := by decide +kernel
theorem dX11_leftBy_51 : decode cX11_leftBy 51 = .ok (.iload 4, 2) := by decide +kernel
theorem dX11_leftBy_53 : decode cX11_leftBy 53 = .ok (.if_icmp .ne 7, 3) := by decide +kernel
theorem dX11_leftBy_56 : decode cX11_leftBy 56 = .ok (.iconst 1, 1) := by decide +kernel
theorem dX11_leftBy_57 : decode cX11_leftBy 57 = .ok (.goto 4, 3) := by decide +kernel
theorem dX11_leftBy_60 : decode cX11_leftBy 60 = .ok (.iconst 0, 1) := by decide +kernel
theorem dX11_leftBy_61 : decode cX11_leftBy 61 = .ok (.iadd, 1) := by decide +kernel
theorem dX11_leftBy_62 : decode cX11_leftBy 62 = .ok (.istore 5, 2) := by decide +kernel
theorem dX11_leftBy_64 : decode cX11_leftBy 64 = .ok (.iinc 6 1, 3) := by decide +kernel
theorem dX11_leftBy_67 : decode cX11_leftBy 67 = .ok (.goto (-45), 3) := by decide +kernel
theorem dX11_leftBy_70 : decode cX11_leftBy 70 = .ok (.iload_n 3, 1) := by decide +kernel
theorem dX11_leftBy_71 : decode cX11_leftBy 71 = .ok (.iload 5, 2) := by decide +kernel
theorem dX11_leftBy_73 : decode cX11_leftBy 73 = .ok (.invokestatic 360, 3) := by decide +kernel
theorem dX11_leftBy_76 : decode cX11_leftBy 76 = .ok (.istore_n 3, 1) := by decide +kernel
theorem dX11_leftBy_77 : decode cX11_leftBy 77 = .ok (.iinc 4 1, 3) := by decide +kernel
theorem dX11_leftBy_80 : decode cX11_leftBy 80 = .ok (.goto (-75), 3) := by decide +kernel
theorem dX11_leftBy_83 : decode cX11_leftBy 83 = .ok (.iload_n 3, 1) := by decide +kernel
theorem dX11_leftBy_84 : decode cX11_leftBy 84 = .ok (.ireturn, 1) := by decide +kernel
theorem dX11_fits_0 : decode cX11_fits 0 = .ok (.aload_n 0, 1) := by decide +kernel
theorem dX11_fits_1 : decode cX11_fits 1 = .ok (.iconst 0, 1) := by decide +kernel
theorem dX11_fits_2 : decode cX11_fits 2 = .ok (.putfield 1, 3) := by decide +kernel
theorem dX11_fits_5 : decode cX11_fits 5 = .ok (.aload_n 0, 1) := by decide +kernel
theorem dX11_fits_6 : decode cX11_fits 6 = .ok (.sipush 940, 3) := by decide +kernel
theorem dX11_fits_9 : decode cX11_fits 9 = .ok (.invokevirtual 230, 3) := by decide +kernel
theorem dX11_fits_12 : decode cX11_fits 12 = .ok (.aload_n 0, 1) := by decide +kernel
theorem dX11_fits_13 : decode cX11_fits 13 = .ok (.getfield 18, 3) := by decide +kernel
theorem dX11_fits_16 : decode cX11_fits 16 = .ok (.iconst 1, 1) := by decide +kernel
theorem dX11_fits_17 : decode cX11_fits 17 = .ok (.bipush 8, 2) := by decide +kernel
theorem dX11_fits_19 : decode cX11_fits 19 = .ok (.invokestatic 176, 3) := by decide +kernel
theorem dX11_fits_22 : decode cX11_fits 22 = .ok (.ifCond .ne 5, 3) := by decide +kernel
theorem dX11_fits_25 : decode cX11_fits 25 = .ok (.iconst (-1), 1) := by decide +kernel
theorem dX11_fits_26 : decode cX11_fits 26 = .ok (.ireturn, 1) := by decide +kernel
theorem dX11_fits_27 : decode cX11_fits 27 = .ok (.iconst 0, 1) := by decide +kernel
theorem dX11_fits_28 : decode cX11_fits 28 = .ok (.istore_n 1, 1) := by decide +kernel
theorem dX11_fits_29 : decode cX11_fits 29 = .ok (.iload_n 1, 1) := by decide +kernel
theorem dX11_fits_30 : decode cX11_fits 30 = .ok (.aload_n 0, 1) := by decide +kernel
theorem dX11_fits_31 : decode cX11_fits 31 = .ok (.getfield 18, 3) := by decide +kernel
theorem dX11_fits_34 : decode cX11_fits 34 = .ok (.if_icmp .ge 23, 3) := by decide +kernel
theorem dX11_fits_37 : decode cX11_fits 37 = .ok (.aload_n 0, 1) := by decide +kernel
theorem dX11_fits_38 : decode cX11_fits 38 = .ok (.aload_n 0, 1) := by decide +kernel
theorem dX11_fits_39 : decode cX11_fits 39 = .ok (.iload_n 1, 1) := by decide +kernel
theorem dX11_fits_40 : decode cX11_fits 40 = .ok (.invokevirtual 357, 3) := by decide +kernel
theorem dX11_fits_43 : decode cX11_fits 43 = .ok (.invokevirtual 274, 3) := by decide +kernel
theorem dX11_fits_46 : decode cX11_fits 46 = .ok (.ifCond .ne 5, 3) := by decide +kernel
theorem dX11_fits_49 : decode cX11_fits 49 = .ok (.iconst (-1), 1) := by decide +kernel
theorem dX11_fits_50 : decode cX11_fits 50 = .ok (.ireturn, 1) := by decide +kernel
theorem dX11_fits_51 : decode cX11_fits 51 = .ok (.iinc 1 1, 3) := by decide +kernel
theorem dX11_fits_54 : decode cX11_fits 54 = .ok (.goto (-25), 3) := by decide +kernel
theorem dX11_fits_57 : decode cX11_fits 57 = .ok (.iconst 0, 1) := by decide +kernel
theorem dX11_fits_58 : decode cX11_fits 58 = .ok (.istore_n 1, 1) := by decide +kernel
theorem dX11_fits_59 : decode cX11_fits 59 = .ok (.iconst 0, 1) := by decide +kernel
theorem dX11_fits_60 : decode cX11_fits 60 = .ok (.istore_n 2, 1) := by decide +kernel
theorem dX11_fits_61 : decode cX11_fits 61 = .ok (.iload_n 2, 1) := by decide +kernel
theorem dX11_fits_62 : decode cX11_fits 62 = .ok (.aload_n 0, 1) := by decide +kernel
theorem dX11_fits_63 : decode cX11_fits 63 = .ok (.getfield 33, 3) := by decide +kernel
theorem dX11_fits_66 : decode cX11_fits 66 = .ok (.iconst 1, 1) := by decide +kernel
theorem dX11_fits_67 : decode cX11_fits 67 = .ok (.iaload, 1) := by decide +kernel
theorem dX11_fits_68 : decode cX11_fits 68 = .ok (.if_icmp .ge 27, 3) := by decide +kernel
theorem dX11_fits_71 : decode cX11_fits 71 = .ok (.iload_n 1, 1) := by decide +kernel
theorem dX11_fits_72 : decode cX11_fits 72 = .ok (.aload_n 0, 1) := by decide +kernel
theorem dX11_fits_73 : decode cX11_fits 73 = .ok (.iload_n 2, 1) := by decide +kernel
theorem dX11_fits_74 : decode cX11_fits 74 = .ok (.invokevirtual 363, 3) := by decide +kernel
theorem dX11_fits_77 : decode cX11_fits 77 = .ok (.ifCond .eq 9, 3) := by decide +kernel
theorem dX11_fits_80 : decode cX11_fits 80 = .ok (.iconst 1, 1) := by decide +kernel
theorem dX11_fits_81 : decode cX11_fits 81 = .ok (.iload_n 2, 1) := by decide +kernel
theorem dX11_fits_82 : decode cX11_fits 82 = .ok (.ishl, 1) := by decide +kernel
theorem dX11_fits_83 : decode cX11_fits 83 = .ok (.goto 4, 3) := by decide +kernel
theorem dX11_fits_86 : decode cX11_fits 86 = .ok (.iconst 0, 1) := by decide +kernel
theorem dX11_fits_87 : decode cX11_fits 87 = .ok (.ior, 1) := by decide +kernel
theorem dX11_fits_88 : decode cX11_fits 88 = .ok (.istore_n 1, 1) := by decide +kernel
theorem dX11_fits_89 : decode cX11_fits 89 = .ok (.iinc 2 1, 3) := by decide +kernel
theorem dX11_fits_92 : decode cX11_fits 92 = .ok (.goto (-31), 3) := by decide +kernel
theorem dX11_fits_95 : decode cX11_fits 95 = .ok (.iload_n 1, 1) := by decide +kernel
theorem dX11_fits_96 : decode cX11_fits 96 = .ok (.ifCond .ne 5, 3) := by decide +kernel
theorem dX11_fits_99 : decode cX11_fits 99 = .ok (.iconst 0, 1) := by decide +kernel
theorem dX11_fits_100 : decode cX11_fits 100 = .ok (.ireturn, 1) := by decide +kernel
theorem dX11_fits_101 : decode cX11_fits 101 = .ok (.aload_n 0, 1) := by decide +kernel
theorem dX11_fits_102 : decode cX11_fits 102 = .ok (.iconst 1, 1) := by decide +kernel
theorem dX11_fits_103 : decode cX11_fits 103 = .ok (.putfield 366, 3) := by decide +kernel
theorem dX11_fits_106 : decode cX11_fits 106 = .ok (.aload_n 0, 1) := by decide +kernel
theorem dX11_fits_107 : decode cX11_fits 107 = .ok (.iconst 0, 1) := by decide +kernel
theorem dX11_fits_108 : decode cX11_fits 108 = .ok (.putfield 369, 3) := by decide +kernel
theorem dX11_fits_111 : decode cX11_fits 111 = .ok (.iconst 1, 1) := by decide +kernel
theorem dX11_fits_112 : decode cX11_fits 112 = .ok (.istore_n 2, 1) := by decide +kernel
theorem dX11_fits_113 : decode cX11_fits 113 = .ok (.iload_n 2, 1) := by decide +kernel
theorem dX11_fits_114 : decode cX11_fits 114 = .ok (.bipush 8, 2) := by decide +kernel
theorem dX11_fits_116 : decode cX11_fits 116 = .ok (.if_icmp .ge 32, 3) := by decide +kernel
theorem dX11_fits_119 : decode cX11_fits 119 = .ok (.aload_n 0, 1) := by decide +kernel
theorem dX11_fits_120 : decode cX11_fits 120 = .ok (.iload_n 1, 1) := by decide +kernel
theorem dX11_fits_121 : decode cX11_fits 121 = .ok (.iload_n 2, 1) := by decide +kernel
theorem dX11_fits_122 : decode cX11_fits 122 = .ok (.invokevirtual 372, 3) := by decide +kernel
theorem dX11_fits_125 : decode cX11_fits 125 = .ok (.aload_n 0, 1) := by decide +kernel
theorem dX11_fits_126 : decode cX11_fits 126 = .ok (.iload_n 1, 1) := by decide +kernel
theorem dX11_fits_127 : decode cX11_fits 127 = .ok (.aload_n 0, 1) := by decide +kernel
theorem dX11_fits_128 : decode cX11_fits 128 = .ok (.getfield 369, 3) := by decide +kernel
theorem dX11_fits_131 : decode cX11_fits 131 = .ok (.invokevirtual 372, 3) := by decide +kernel
theorem dX11_fits_134 : decode cX11_fits 134 = .ok (.if_icmp .ge 8, 3) := by decide +kernel
theorem dX11_fits_137 : decode cX11_fits 137 = .ok (.aload_n 0, 1) := by decide +kernel
theorem dX11_fits_138 : decode cX11_fits 138 = .ok (.iload_n 2, 1) := by decide +kernel
theorem dX11_fits_139 : decode cX11_fits 139 = .ok (.putfield 369, 3) := by decide +kernel
theorem dX11_fits_142 : decode cX11_fits 142 = .ok (.iinc 2 1, 3) := by decide +kernel
theorem dX11_fits_145 : decode cX11_fits 145 = .ok (.goto (-32), 3) := by decide +kernel
theorem dX11_fits_148 : decode cX11_fits 148 = .ok (.iload_n 1, 1) := by decide +kernel
theorem dX11_fits_149 : decode cX11_fits 149 = .ok (.ireturn, 1) := by decide +kernel
theorem dX11_ask_0 : decode cX11_ask 0 = .ok (.aload_n 0, 1) := by decide +kernel
theorem dX11_ask_1 : decode cX11_ask 1 = .ok (.iconst 0, 1) := by decide +kernel
theorem dX11_ask_2 : decode cX11_ask 2 = .ok (.putfield 1, 3) := by decide +kernel
theorem dX11_ask_5 : decode cX11_ask 5 = .ok (.aload_n 0, 1) := by decide +kernel
theorem dX11_ask_6 : decode cX11_ask 6 = .ok (.getfield 366, 3) := by decide +kernel
theorem dX11_ask_9 : decode cX11_ask 9 = .ok (.ifCond .eq 10, 3) := by decide +kernel
theorem dX11_ask_12 : decode cX11_ask 12 = .ok (.aload_n 0, 1) := by decide +kernel
theorem dX11_ask_13 : decode cX11_ask 13 = .ok (.getfield 369, 3) := by decide +kernel
theorem dX11_ask_16 : decode cX11_ask 16 = .ok (.goto 4, 3) := by decide +kernel
theorem dX11_ask_19 : decode cX11_ask 19 = .ok (.iconst (-1), 1) := by decide +kernel
theorem dX11_ask_20 : decode cX11_ask 20 = .ok (.ireturn, 1) := by decide +kernel
theorem dX11_isLike_0 : decode cX11_isLike 0 = .ok (.aload_n 0, 1) := by decide +kernel
theorem dX11_isLike_1 : decode cX11_isLike 1 = .ok (.getfield 33, 3) := by decide +kernel
theorem dX11_isLike_4 : decode cX11_isLike 4 = .ok (.bipush 125, 2) := by decide +kernel
theorem dX11_isLike_6 : decode cX11_isLike 6 = .ok (.iload_n 1, 1) := by decide +kernel
theorem dX11_isLike_7 : decode cX11_isLike 7 = .ok (.iadd, 1) := by decide +kernel
theorem dX11_isLike_8 : decode cX11_isLike 8 = .ok (.iaload, 1) := by decide +kernel
theorem dX11_isLike_9 : decode cX11_isLike 9 = .ok (.aload_n 0, 1) := by decide +kernel
theorem dX11_isLike_10 : decode cX11_isLike 10 = .ok (.getfield 33, 3) := by decide +kernel
theorem dX11_isLike_13 : decode cX11_isLike 13 = .ok (.bipush 125, 2) := by decide +kernel
theorem dX11_isLike_15 : decode cX11_isLike 15 = .ok (.iload_n 2, 1) := by decide +kernel
theorem dX11_isLike_16 : decode cX11_isLike 16 = .ok (.iadd, 1) := by decide +kernel
theorem dX11_isLike_17 : decode cX11_isLike 17 = .ok (.iaload, 1) := by decide +kernel
theorem dX11_isLike_18 : decode cX11_isLike 18 = .ok (.if_icmp .ne 7, 3) := by decide +kernel
theorem dX11_isLike_21 : decode cX11_isLike 21 = .ok (.iconst 1, 1) := by decide +kernel
theorem dX11_isLike_22 : decode cX11_isLike 22 = .ok (.goto 4, 3) := by decide +kernel
theorem dX11_isLike_25 : decode cX11_isLike 25 = .ok (.iconst 0, 1) := by decide +kernel
theorem dX11_isLike_26 : decode cX11_isLike 26 = .ok (.istore_n 3, 1) := by decide +kernel
theorem dX11_isLike_27 : decode cX11_isLike 27 = .ok (.iconst 0, 1) := by decide +kernel
theorem dX11_isLike_28 : decode cX11_isLike 28 = .ok (.istore 4, 2) := by decide +kernel
theorem dX11_isLike_30 : decode cX11_isLike 30 = .ok (.iload 4, 2) := by decide +kernel
theorem dX11_isLike_32 : decode cX11_isLike 32 = .ok (.aload_n 0, 1) := by decide +kernel
theorem dX11_isLike_33 : decode cX11_isLike 33 = .ok (.getfield 33, 3) := by decide +kernel
theorem dX11_isLike_36 : decode cX11_isLike 36 = .ok (.bipush 125, 2) := by decide +kernel
theorem dX11_isLike_38 : decode cX11_isLike 38 = .ok (.iload_n 1, 1) := by decide +kernel
theorem dX11_isLike_39 : decode cX11_isLike 39 = .ok (.iadd, 1) := by decide +kernel
theorem dX11_isLike_40 : decode cX11_isLike 40 = .ok (.iaload, 1) := by decide +kernel
theorem dX11_isLike_41 : decode cX11_isLike 41 = .ok (.if_icmp .ge 54, 3) := by decide +kernel
theorem dX11_isLike_44 : decode cX11_isLike 44 = .ok (.iload_n 3, 1) := by decide +kernel
theorem dX11_isLike_45 : decode cX11_isLike 45 = .ok (.ifCond .eq 50, 3) := by decide +kernel
theorem dX11_isLike_48 : decode cX11_isLike 48 = .ok (.aload_n 0, 1) := by decide +kernel
theorem dX11_isLike_49 : decode cX11_isLike 49 = .ok (.getfield 33, 3) := by decide +kernel
theorem dX11_isLike_52 : decode cX11_isLike 52 = .ok (.sipush 131, 3) := by decide +kernel
theorem dX11_isLike_55 : decode cX11_isLike 55 = .ok (.bipush 8, 2) := by decide +kernel
theorem dX11_isLike_57 : decode cX11_isLike 57 = .ok (.iload_n 1, 1) := by decide +kernel
theorem dX11_isLike_58 : decode cX11_isLike 58 = .ok (.imul, 1) := by decide +kernel
theorem dX11_isLike_59 : decode cX11_isLike 59 = .ok (.iadd, 1) := by decide +kernel
theorem dX11_isLike_60 : decode cX11_isLike 60 = .ok (.iload 4, 2) := by decide +kernel
theorem dX11_isLike_62 : decode cX11_isLike 62 = .ok (.iadd, 1) := by decide +kernel
theorem dX11_isLike_63 : decode cX11_isLike 63 = .ok (.iaload, 1) := by decide +kernel
theorem dX11_isLike_64 : decode cX11_isLike 64 = .ok (.aload_n 0, 1) := by decide +kernel
theorem dX11_isLike_65 : decode cX11_isLike 65 = .ok (.getfield 33, 3) := by decide +kernel
theorem dX11_isLike_68 : decode cX11_isLike 68 = .ok (.sipush 131, 3) := by decide +kernel
theorem dX11_isLike_71 : decode cX11_isLike 71 = .ok (.bipush 8, 2) := by decide +kernel
theorem dX11_isLike_73 : decode cX11_isLike 73 = .ok (.iload_n 2, 1) := by decide +kernel
theorem dX11_isLike_74 : decode cX11_isLike 74 = .ok (.imul, 1) := by decide +kernel
theorem dX11_isLike_75 : decode cX11_isLike 75 = .ok (.iadd, 1) := by decide +kernel
theorem dX11_isLike_76 : decode cX11_isLike 76 = .ok (.iload 4, 2) := by decide +kernel
theorem dX11_isLike_78 : decode cX11_isLike 78 = .ok (.iadd, 1) := by decide +kernel
theorem dX11_isLike_79 : decode cX11_isLike 79 = .ok (.iaload, 1) := by decide +kernel
theorem dX11_isLike_80 : decode cX11_isLike 80 = .ok (.if_icmp .ne 7, 3) := by decide +kernel
theorem dX11_isLike_83 : decode cX11_isLike 83 = .ok (.iconst 1, 1) := by decide +kernel
theorem dX11_isLike_84 : decode cX11_isLike 84 = .ok (.goto 4, 3) := by decide +kernel
theorem dX11_isLike_87 : decode cX11_isLike 87 = .ok (.iconst 0, 1) := by decide +kernel
theorem dX11_isLike_88 : decode cX11_isLike 88 = .ok (.istore_n 3, 1) := by decide +kernel
theorem dX11_isLike_89 : decode cX11_isLike 89 = .ok (.iinc 4 1, 3) := by decide +kernel
theorem dX11_isLike_92 : decode cX11_isLike 92 = .ok (.goto (-62), 3) := by decide +kernel
theorem dX11_isLike_95 : decode cX11_isLike 95 = .ok (.iload_n 3, 1) := by decide +kernel
theorem dX11_isLike_96 : decode cX11_isLike 96 = .ok (.ireturn, 1) := by decide +kernel
theorem dX11_like_0 : decode cX11_like 0 = .ok (.aload_n 0, 1) := by decide +kernel
theorem dX11_like_1 : decode cX11_like 1 = .ok (.iconst 0, 1) := by decide +kernel
theorem dX11_like_2 : decode cX11_like 2 = .ok (.putfield 1, 3) := by decide +kernel
theorem dX11_like_5 : decode cX11_like 5 = .ok (.aload_n 0, 1) := by decide +kernel
theorem dX11_like_6 : decode cX11_like 6 = .ok (.iload_n 1, 1) := by decide +kernel
theorem dX11_like_7 : decode cX11_like 7 = .ok (.invokevirtual 254, 3) := by decide +kernel
theorem dX11_like_10 : decode cX11_like 10 = .ok (.ifCond .ne 5, 3) := by decide +kernel
theorem dX11_like_13 : decode cX11_like 13 = .ok (.iconst (-1), 1) := by decide +kernel
theorem dX11_like_14 : decode cX11_like 14 = .ok (.ireturn, 1) := by decide +kernel
theorem dX11_like_15 : decode cX11_like 15 = .ok (.iconst 0, 1) := by decide +kernel
theorem dX11_like_16 : decode cX11_like 16 = .ok (.istore_n 2, 1) := by decide +kernel
theorem dX11_like_17 : decode cX11_like 17 = .ok (.iconst 0, 1) := by decide +kernel
theorem dX11_like_18 : decode cX11_like 18 = .ok (.istore_n 3, 1) := by decide +kernel
theorem dX11_like_19 : decode cX11_like 19 = .ok (.iload_n 3, 1) := by decide +kernel
theorem dX11_like_20 : decode cX11_like 20 = .ok (.aload_n 0, 1) := by decide +kernel
theorem dX11_like_21 : decode cX11_like 21 = .ok (.getfield 33, 3) := by decide +kernel
theorem dX11_like_24 : decode cX11_like 24 = .ok (.iconst 1, 1) := by decide +kernel
theorem dX11_like_25 : decode cX11_like 25 = .ok (.iaload, 1) := by decide +kernel
theorem dX11_like_26 : decode cX11_like 26 = .ok (.if_icmp .ge 33, 3) := by decide +kernel
theorem dX11_like_29 : decode cX11_like 29 = .ok (.iload_n 2, 1) := by decide +kernel
theorem dX11_like_30 : decode cX11_like 30 = .ok (.iload_n 3, 1) := by decide +kernel
theorem dX11_like_31 : decode cX11_like 31 = .ok (.iload_n 1, 1) := by decide +kernel
theorem dX11_like_32 : decode cX11_like 32 = .ok (.if_icmp .eq 18, 3) := by decide +kernel
theorem dX11_like_35 : decode cX11_like 35 = .ok (.aload_n 0, 1) := by decide +kernel
theorem dX11_like_36 : decode cX11_like 36 = .ok (.iload_n 1, 1) := by decide +kernel
theorem dX11_like_37 : decode cX11_like 37 = .ok (.iload_n 3, 1) := by decide +kernel
theorem dX11_like_38 : decode cX11_like 38 = .ok (.invokevirtual 375, 3) := by decide +kernel
theorem dX11_like_41 : decode cX11_like 41 = .ok (.ifCond .eq 9, 3) := by decide +kernel
theorem dX11_like_44 : decode cX11_like 44 = .ok (.iconst 1, 1) := by decide +kernel
theorem dX11_like_45 : decode cX11_like 45 = .ok (.iload_n 3, 1) := by decide +kernel
theorem dX11_like_46 : decode cX11_like 46 = .ok (.ishl, 1) := by decide +kernel
theorem dX11_like_47 : decode cX11_like 47 = .ok (.goto 4, 3) := by decide +kernel
theorem dX11_like_50 : decode cX11_like 50 = .ok (.iconst 0, 1) := by decide +kernel
theorem dX11_like_51 : decode cX11_like 51 = .ok (.ior, 1) := by decide +kernel
theorem dX11_like_52 : decode cX11_like 52 = .ok (.istore_n 2, 1) := by decide +kernel
theorem dX11_like_53 : decode cX11_like 53 = .ok (.iinc 3 1, 3) := by decide +kernel
theorem dX11_like_56 : decode cX11_like 56 = .ok (.goto (-37), 3) := by decide +kernel
theorem dX11_like_59 : decode cX11_like 59 = .ok (.iload_n 2, 1) := by decide +kernel
theorem dX11_like_60 : decode cX11_like 60 = .ok (.ireturn, 1) := by decide +kernel
theorem dX11_hardest_0 : decode cX11_hardest 0 = .ok (.aload_n 0, 1) := by decide +kernel
theorem dX11_hardest_1 : decode cX11_hardest 1 = .ok (.iconst 0, 1) := by decide +kernel
theorem dX11_hardest_2 : decode cX11_hardest 2 = .ok (.putfield 1, 3) := by decide +kernel
theorem dX11_hardest_5 : decode cX11_hardest 5 = .ok (.iconst (-1), 1) := by decide +kernel
theorem dX11_hardest_6 : decode cX11_hardest 6 = .ok (.istore_n 1, 1) := by decide +kernel
theorem dX11_hardest_7 : decode cX11_hardest 7 = .ok (.iconst 0, 1) := by decide +kernel
theorem dX11_hardest_8 : decode cX11_hardest 8 = .ok (.istore_n 2, 1) := by decide +kernel
theorem dX11_hardest_9 : decode cX11_hardest 9 = .ok (.iload_n 2, 1) := by decide +kernel
theorem dX11_hardest_10 : decode cX11_hardest 10 = .ok (.aload_n 0, 1) := by decide +kernel
theorem dX11_hardest_11 : decode cX11_hardest 11 = .ok (.getfield 33, 3) := by decide +kernel
theorem dX11_hardest_14 : decode cX11_hardest 14 = .ok (.iconst 1, 1) := by decide +kernel
theorem dX11_hardest_15 : decode cX11_hardest 15 = .ok (.iaload, 1) := by decide +kernel
theorem dX11_hardest_16 : decode cX11_hardest 16 = .ok (.if_icmp .ge 28, 3) := by decide +kernel
theorem dX11_hardest_19 : decode cX11_hardest 19 = .ok (.iload_n 1, 1) := by decide +kernel
theorem dX11_hardest_20 : decode cX11_hardest 20 = .ok (.ifCond .lt 16, 3) := by decide +kernel
theorem dX11_hardest_23 : decode cX11_hardest 23 = .ok (.aload_n 0, 1) := by decide +kernel
theorem dX11_hardest_24 : decode cX11_hardest 24 = .ok (.iload_n 2, 1) := by decide +kernel
theorem dX11_hardest_25 : decode cX11_hardest 25 = .ok (.invokevirtual 268, 3) := by decide +kernel
theorem dX11_hardest_28 : decode cX11_hardest 28 = .ok (.aload_n 0, 1) := by decide +kernel
theorem dX11_hardest_29 : decode cX11_hardest 29 = .ok (.iload_n 1, 1) := by decide +kernel
theorem dX11_hardest_30 : decode cX11_hardest 30 = .ok (.invokevirtual 268, 3) := by decide +kernel
theorem dX11_hardest_33 : decode cX11_hardest 33 = .ok (.if_icmp .le 5, 3) := by decide +kernel
theorem dX11_hardest_36 : decode cX11_hardest 36 = .ok (.iload_n 2, 1) := by decide +kernel
theorem dX11_hardest_37 : decode cX11_hardest 37 = .ok (.istore_n 1, 1) := by decide +kernel
theorem dX11_hardest_38 : decode cX11_hardest 38 = .ok (.iinc 2 1, 3) := by decide +kernel
theorem dX11_hardest_41 : decode cX11_hardest 41 = .ok (.goto (-32), 3) := by decide +kernel
theorem dX11_hardest_44 : decode cX11_hardest 44 = .ok (.iload_n 1, 1) := by decide +kernel
theorem dX11_hardest_45 : decode cX11_hardest 45 = .ok (.ireturn, 1) := by decide +kernel
theorem dX11_mean_0 : decode cX11_mean 0 = .ok (.aload_n 0, 1) := by decide +kernel
theorem dX11_mean_1 : decode cX11_mean 1 = .ok (.aload_n 0, 1) := by decide +kernel
theorem dX11_mean_2 : decode cX11_mean 2 = .ok (.iload_n 1, 1) := by decide +kernel
theorem dX11_mean_3 : decode cX11_mean 3 = .ok (.invokevirtual 254, 3) := by decide +kernel
theorem dX11_mean_6 : decode cX11_mean 6 = .ok (.ifCond .eq 24, 3) := by decide +kernel
theorem dX11_mean_9 : decode cX11_mean 9 = .ok (.iload_n 2, 1) := by decide +kernel
theorem dX11_mean_10 : decode cX11_mean 10 = .ok (.iconst 0, 1) := by decide +kernel
theorem dX11_mean_11 : decode cX11_mean 11 = .ok (.iconst 1, 1) := by decide +kernel
theorem dX11_mean_12 : decode cX11_mean 12 = .ok (.invokestatic 176, 3) := by decide +kernel
theorem dX11_mean_15 : decode cX11_mean 15 = .ok (.ifCond .eq 15, 3) := by decide +kernel
theorem dX11_mean_18 : decode cX11_mean 18 = .ok (.aload_n 0, 1) := by decide +kernel
theorem dX11_mean_19 : decode cX11_mean 19 = .ok (.getfield 33, 3) := by decide +kernel
theorem dX11_mean_22 : decode cX11_mean 22 = .ok (.bipush 125, 2) := by decide +kernel
theorem dX11_mean_24 : decode cX11_mean 24 = .ok (.iload_n 1, 1) := by decide +kernel
theorem dX11_mean_25 : decode cX11_mean 25 = .ok (.iadd, 1) := by decide +kernel
theorem dX11_mean_26 : decode cX11_mean 26 = .ok (.iaload, 1) := by decide +kernel
theorem dX11_mean_27 : decode cX11_mean 27 = .ok (.ifCond .ne 7, 3) := by decide +kernel
theorem dX11_mean_30 : decode cX11_mean 30 = .ok (.iconst 1, 1) := by decide +kernel
theorem dX11_mean_31 : decode cX11_mean 31 = .ok (.goto 4, 3) := by decide +kernel
theorem dX11_mean_34 : decode cX11_mean 34 = .ok (.iconst 0, 1) := by decide +kernel
theorem dX11_mean_35 : decode cX11_mean 35 = .ok (.invokevirtual 257, 3) := by decide +kernel
theorem dX11_mean_38 : decode cX11_mean 38 = .ok (.ifCond .eq 5, 3) := by decide +kernel
theorem dX11_mean_41 : decode cX11_mean 41 = .ok (.iconst 0, 1) := by decide +kernel
theorem dX11_mean_42 : decode cX11_mean 42 = .ok (.ireturn, 1) := by decide +kernel
theorem dX11_mean_43 : decode cX11_mean 43 = .ok (.aload_n 0, 1) := by decide +kernel
theorem dX11_mean_44 : decode cX11_mean 44 = .ok (.iload_n 1, 1) := by decide +kernel
theorem dX11_mean_45 : decode cX11_mean 45 = .ok (.invokevirtual 261, 3) := by decide +kernel
theorem dX11_mean_48 : decode cX11_mean 48 = .ok (.istore_n 3, 1) := by decide +kernel
theorem dX11_mean_49 : decode cX11_mean 49 = .ok (.aload_n 0, 1) := by decide +kernel
theorem dX11_mean_50 : decode cX11_mean 50 = .ok (.iload_n 1, 1) := by decide +kernel
theorem dX11_mean_51 : decode cX11_mean 51 = .ok (.invokevirtual 268, 3) := by decide +kernel
theorem dX11_mean_54 : decode cX11_mean 54 = .ok (.istore 4, 2) := by decide +kernel
theorem dX11_mean_56 : decode cX11_mean 56 = .ok (.iload 4, 2) := by decide +kernel
theorem dX11_mean_58 : decode cX11_mean 58 = .ok (.ifCond .eq 19, 3) := by decide +kernel
theorem dX11_mean_61 : decode cX11_mean 61 = .ok (.iload_n 3, 1) := by decide +kernel
theorem dX11_mean_62 : decode cX11_mean 62 = .ok (.iload 4, 2) := by decide +kernel
theorem dX11_mean_64 : decode cX11_mean 64 = .ok (.irem, 1) := by decide +kernel
theorem dX11_mean_65 : decode cX11_mean 65 = .ok (.istore 5, 2) := by decide +kernel
theorem dX11_mean_67 : decode cX11_mean 67 = .ok (.iload 4, 2) := by decide +kernel
theorem dX11_mean_69 : decode cX11_mean 69 = .ok (.istore_n 3, 1) := by decide +kernel
theorem dX11_mean_70 : decode cX11_mean 70 = .ok (.iload 5, 2) := by decide +kernel
theorem dX11_mean_72 : decode cX11_mean 72 = .ok (.istore 4, 2) := by decide +kernel
theorem dX11_mean_74 : decode cX11_mean 74 = .ok (.goto (-18), 3) := by decide +kernel
theorem dX11_mean_77 : decode cX11_mean 77 = .ok (.iload_n 2, 1) := by decide +kernel
theorem dX11_mean_78 : decode cX11_mean 78 = .ok (.ifCond .ne 11, 3) := by decide +kernel
theorem dX11_mean_81 : decode cX11_mean 81 = .ok (.aload_n 0, 1) := by decide +kernel
theorem dX11_mean_82 : decode cX11_mean 82 = .ok (.iload_n 1, 1) := by decide +kernel
theorem dX11_mean_83 : decode cX11_mean 83 = .ok (.invokevirtual 268, 3) := by decide +kernel
theorem dX11_mean_86 : decode cX11_mean 86 = .ok (.goto 8, 3) := by decide +kernel
theorem dX11_mean_89 : decode cX11_mean 89 = .ok (.aload_n 0, 1) := by decide +kernel
theorem dX11_mean_90 : decode cX11_mean 90 = .ok (.iload_n 1, 1) := by decide +kernel
theorem dX11_mean_91 : decode cX11_mean 91 = .ok (.invokevirtual 261, 3) := by decide +kernel
theorem dX11_mean_94 : decode cX11_mean 94 = .ok (.iload_n 3, 1) := by decide +kernel
theorem dX11_mean_95 : decode cX11_mean 95 = .ok (.idiv, 1) := by decide +kernel
theorem dX11_mean_96 : decode cX11_mean 96 = .ok (.ireturn, 1) := by decide +kernel
theorem dX11_lays_0 : decode cX11_lays 0 = .ok (.aload_n 0, 1) := by decide +kernel
theorem dX11_lays_1 : decode cX11_lays 1 = .ok (.getfield 66, 3) := by decide +kernel
theorem dX11_lays_4 : decode cX11_lays 4 = .ok (.aload_n 0, 1) := by decide +kernel
theorem dX11_lays_5 : decode cX11_lays 5 = .ok (.getfield 378, 3) := by decide +kernel
theorem dX11_lays_8 : decode cX11_lays 8 = .ok (.iload_n 1, 1) := by decide +kernel
theorem dX11_lays_9 : decode cX11_lays 9 = .ok (.i2b, 1) := by decide +kernel
theorem dX11_lays_10 : decode cX11_lays 10 = .ok (.bastore, 1) := by decide +kernel
theorem dX11_lays_11 : decode cX11_lays 11 = .ok (.aload_n 0, 1) := by decide +kernel
theorem dX11_lays_12 : decode cX11_lays 12 = .ok (.dup, 1) := by decide +kernel
theorem dX11_lays_13 : decode cX11_lays 13 = .ok (.getfield 378, 3) := by decide +kernel
theorem dX11_lays_16 : decode cX11_lays 16 = .ok (.iconst 1, 1) := by decide +kernel
theorem dX11_lays_17 : decode cX11_lays 17 = .ok (.iadd, 1) := by decide +kernel
theorem dX11_lays_18 : decode cX11_lays 18 = .ok (.putfield 378, 3) := by decide +kernel
theorem dX11_lays_21 : decode cX11_lays 21 = .ok (.return_, 1) := by decide +kernel
theorem dX11_spells_0 : decode cX11_spells 0 = .ok (.bipush 56, 2) := by decide +kernel
theorem dX11_spells_2 : decode cX11_spells 2 = .ok (.istore_n 3, 1) := by decide +kernel
theorem dX11_spells_3 : decode cX11_spells 3 = .ok (.iload_n 3, 1) := by decide +kernel
theorem dX11_spells_4 : decode cX11_spells 4 = .ok (.ifCond .lt 33, 3) := by decide +kernel
theorem dX11_spells_7 : decode cX11_spells 7 = .ok (.lload_n 1, 1) := by decide +kernel
theorem dX11_spells_8 : decode cX11_spells 8 = .ok (.iload_n 3, 1) := by decide +kernel
theorem dX11_spells_9 : decode cX11_spells 9 = .ok (.lshr, 1) := by decide +kernel
theorem dX11_spells_10 : decode cX11_spells 10 = .ok (.ldc2_w 381, 3) := by decide +kernel
theorem dX11_spells_13 : decode cX11_spells 13 = .ok (.land, 1) := by decide +kernel
theorem dX11_spells_14 : decode cX11_spells 14 = .ok (.lconst 0, 1) := by decide +kernel
theorem dX11_spells_15 : decode cX11_spells 15 = .ok (.lcmp, 1) := by decide +kernel
theorem dX11_spells_16 : decode cX11_spells 16 = .ok (.ifCond .eq 15, 3) := by decide +kernel
theorem dX11_spells_19 : decode cX11_spells 19 = .ok (.aload_n 0, 1) := by decide +kernel
theorem dX11_spells_20 : decode cX11_spells 20 = .ok (.lload_n 1, 1) := by decide +kernel
theorem dX11_spells_21 : decode cX11_spells 21 = .ok (.iload_n 3, 1) := by decide +kernel
theorem dX11_spells_22 : decode cX11_spells 22 = .ok (.lshr, 1) := by decide +kernel
theorem dX11_spells_23 : decode cX11_spells 23 = .ok (.ldc2_w 381, 3) := by decide +kernel
theorem dX11_spells_26 : decode cX11_spells 26 = .ok (.land, 1) := by decide +kernel
theorem dX11_spells_27 : decode cX11_spells 27 = .ok (.l2i, 1) := by decide +kernel
theorem dX11_spells_28 : decode cX11_spells 28 = .ok (.invokevirtual 383, 3) := by decide +kernel
theorem dX11_spells_31 : decode cX11_spells 31 = .ok (.iinc 3 (-8), 3) := by decide +kernel
theorem dX11_spells_34 : decode cX11_spells 34 = .ok (.goto (-31), 3) := by decide +kernel
theorem dX11_spells_37 : decode cX11_spells 37 = .ok (.return_, 1) := by decide +kernel
theorem dX11_says_0 : decode cX11_says 0 = .ok (.aload_n 0, 1) := by decide +kernel
theorem dX11_says_1 : decode cX11_says 1 = .ok (.bipush 32, 2) := by decide +kernel
theorem dX11_says_3 : decode cX11_says 3 = .ok (.invokevirtual 383, 3) := by decide +kernel
theorem dX11_says_6 : decode cX11_says 6 = .ok (.aload_n 0, 1) := by decide +kernel
theorem dX11_says_7 : decode cX11_says 7 = .ok (.lload_n 1, 1) := by decide +kernel
theorem dX11_says_8 : decode cX11_says 8 = .ok (.invokevirtual 386, 3) := by decide +kernel
theorem dX11_says_11 : decode cX11_says 11 = .ok (.return_, 1) := by decide +kernel
theorem dX11_tag_0 : decode cX11_tag 0 = .ok (.aload_n 0, 1) := by decide +kernel
theorem dX11_tag_1 : decode cX11_tag 1 = .ok (.iconst 0, 1) := by decide +kernel
theorem dX11_tag_2 : decode cX11_tag 2 = .ok (.putfield 1, 3) := by decide +kernel
theorem dX11_tag_5 : decode cX11_tag 5 = .ok (.aload_n 0, 1) := by decide +kernel
theorem dX11_tag_6 : decode cX11_tag 6 = .ok (.iload_n 1, 1) := by decide +kernel
theorem dX11_tag_7 : decode cX11_tag 7 = .ok (.invokevirtual 254, 3) := by decide +kernel
theorem dX11_tag_10 : decode cX11_tag 10 = .ok (.ifCond .ne 5, 3) := by decide +kernel
theorem dX11_tag_13 : decode cX11_tag 13 = .ok (.iconst (-1), 1) := by decide +kernel
theorem dX11_tag_14 : decode cX11_tag 14 = .ok (.ireturn, 1) := by decide +kernel
theorem dX11_tag_15 : decode cX11_tag 15 = .ok (.aload_n 0, 1) := by decide +kernel
theorem dX11_tag_16 : decode cX11_tag 16 = .ok (.iconst 0, 1) := by decide +kernel
theorem dX11_tag_17 : decode cX11_tag 17 = .ok (.putfield 378, 3) := by decide +kernel
theorem dX11_tag_20 : decode cX11_tag 20 = .ok (.aload_n 0, 1) := by decide +kernel
theorem dX11_tag_21 : decode cX11_tag 21 = .ok (.aload_n 0, 1) := by decide +kernel
theorem dX11_tag_22 : decode cX11_tag 22 = .ok (.getfield 43, 3) := by decide +kernel
theorem dX11_tag_25 : decode cX11_tag 25 = .ok (.bipush 8, 2) := by decide +kernel
theorem dX11_tag_27 : decode cX11_tag 27 = .ok (.iload_n 1, 1) := by decide +kernel
theorem dX11_tag_28 : decode cX11_tag 28 = .ok (.iadd, 1) := by decide +kernel
theorem dX11_tag_29 : decode cX11_tag 29 = .ok (.laload, 1) := by decide +kernel
theorem dX11_tag_30 : decode cX11_tag 30 = .ok (.invokevirtual 386, 3) := by decide +kernel
theorem dX11_tag_33 : decode cX11_tag 33 = .ok (.aload_n 0, 1) := by decide +kernel
theorem dX11_tag_34 : decode cX11_tag 34 = .ok (.getfield 33, 3) := by decide +kernel
theorem dX11_tag_37 : decode cX11_tag 37 = .ok (.bipush 125, 2) := by decide +kernel
theorem dX11_tag_39 : decode cX11_tag 39 = .ok (.iload_n 1, 1) := by decide +kernel
theorem dX11_tag_40 : decode cX11_tag 40 = .ok (.iadd, 1) := by decide +kernel
theorem dX11_tag_41 : decode cX11_tag 41 = .ok (.iaload, 1) := by decide +kernel
theorem dX11_tag_42 : decode cX11_tag 42 = .ok (.ifCond .ne 10, 3) := by decide +kernel
theorem dX11_tag_45 : decode cX11_tag 45 = .ok (.aload_n 0, 1) := by decide +kernel
theorem dX11_tag_46 : decode cX11_tag 46 = .ok (.ldc2_w 115, 3) := by decide +kernel
theorem dX11_tag_49 : decode cX11_tag 49 = .ok (.invokevirtual 390, 3) := by decide +kernel
theorem dX11_tag_52 : decode cX11_tag 52 = .ok (.iconst 0, 1) := by decide +kernel
theorem dX11_tag_53 : decode cX11_tag 53 = .ok (.istore_n 2, 1) := by decide +kernel
theorem dX11_tag_54 : decode cX11_tag 54 = .ok (.iload_n 2, 1) := by decide +kernel
theorem dX11_tag_55 : decode cX11_tag 55 = .ok (.aload_n 0, 1) := by decide +kernel
theorem dX11_tag_56 : decode cX11_tag 56 = .ok (.getfield 33, 3) := by decide +kernel
theorem dX11_tag_59 : decode cX11_tag 59 = .ok (.bipush 125, 2) := by decide +kernel
theorem dX11_tag_61 : decode cX11_tag 61 = .ok (.iload_n 1, 1) := by decide +kernel
theorem dX11_tag_62 : decode cX11_tag 62 = .ok (.iadd, 1) := by decide +kernel
theorem dX11_tag_63 : decode cX11_tag 63 = .ok (.iaload, 1) := by decide +kernel
theorem dX11_tag_64 : decode cX11_tag 64 = .ok (.if_icmp .ge 91, 3) := by decide +kernel
theorem dX11_tag_67 : decode cX11_tag 67 = .ok (.aload_n 0, 1) := by decide +kernel
theorem dX11_tag_68 : decode cX11_tag 68 = .ok (.getfield 33, 3) := by decide +kernel
theorem dX11_tag_71 : decode cX11_tag 71 = .ok (.sipush 131, 3) := by decide +kernel
theorem dX11_tag_74 : decode cX11_tag 74 = .ok (.bipush 8, 2) := by decide +kernel
theorem dX11_tag_76 : decode cX11_tag 76 = .ok (.iload_n 1, 1) := by decide +kernel
theorem dX11_tag_77 : decode cX11_tag 77 = .ok (.imul, 1) := by decide +kernel
theorem dX11_tag_78 : decode cX11_tag 78 = .ok (.iadd, 1) := by decide +kernel
theorem dX11_tag_79 : decode cX11_tag 79 = .ok (.iload_n 2, 1) := by decide +kernel
theorem dX11_tag_80 : decode cX11_tag 80 = .ok (.iadd, 1) := by decide +kernel
theorem dX11_tag_81 : decode cX11_tag 81 = .ok (.iaload, 1) := by decide +kernel
theorem dX11_tag_82 : decode cX11_tag 82 = .ok (.istore_n 3, 1) := by decide +kernel
theorem dX11_tag_83 : decode cX11_tag 83 = .ok (.iconst 0, 1) := by decide +kernel
theorem dX11_tag_84 : decode cX11_tag 84 = .ok (.istore 4, 2) := by decide +kernel
theorem dX11_tag_86 : decode cX11_tag 86 = .ok (.iload_n 2, 1) := by decide +kernel
theorem dX11_tag_87 : decode cX11_tag 87 = .ok (.aload_n 0, 1) := by decide +kernel
theorem dX11_tag_88 : decode cX11_tag 88 = .ok (.getfield 33, 3) := by decide +kernel
theorem dX11_tag_91 : decode cX11_tag 91 = .ok (.bipush 125, 2) := by decide +kernel
theorem dX11_tag_93 : decode cX11_tag 93 = .ok (.iload_n 1, 1) := by decide +kernel
theorem dX11_tag_94 : decode cX11_tag 94 = .ok (.iadd, 1) := by decide +kernel
theorem dX11_tag_95 : decode cX11_tag 95 = .ok (.iaload, 1) := by decide +kernel
theorem dX11_tag_96 : decode cX11_tag 96 = .ok (.if_icmp .ge 31, 3) := by decide +kernel
theorem dX11_tag_99 : decode cX11_tag 99 = .ok (.aload_n 0, 1) := by decide +kernel
theorem dX11_tag_100 : decode cX11_tag 100 = .ok (.getfield 33, 3) := by decide +kernel
theorem dX11_tag_103 : decode cX11_tag 103 = .ok (.sipush 131, 3) := by decide +kernel
theorem dX11_tag_106 : decode cX11_tag 106 = .ok (.bipush 8, 2) := by decide +kernel
theorem dX11_tag_108 : decode cX11_tag 108 = .ok (.iload_n 1, 1) := by decide +kernel
theorem dX11_tag_109 : decode cX11_tag 109 = .ok (.imul, 1) := by decide +kernel
theorem dX11_tag_110 : decode cX11_tag 110 = .ok (.iadd, 1) := by decide +kernel
theorem dX11_tag_111 : decode cX11_tag 111 = .ok (.iload_n 2, 1) := by decide +kernel
theorem dX11_tag_112 : decode cX11_tag 112 = .ok (.iadd, 1) := by decide +kernel
theorem dX11_tag_113 : decode cX11_tag 113 = .ok (.iaload, 1) := by decide +kernel
theorem dX11_tag_114 : decode cX11_tag 114 = .ok (.iload_n 3, 1) := by decide +kernel
theorem dX11_tag_115 : decode cX11_tag 115 = .ok (.if_icmp .ne 12, 3) := by decide +kernel
theorem dX11_tag_118 : decode cX11_tag 118 = .ok (.iinc 2 1, 3) := by decide +kernel
theorem dX11_tag_121 : decode cX11_tag 121 = .ok (.iinc 4 1, 3) := by decide +kernel
theorem dX11_tag_124 : decode cX11_tag 124 = .ok (.goto (-38), 3) := by decide +kernel
theorem dX11_tag_127 : decode cX11_tag 127 = .ok (.aload_n 0, 1) := by decide +kernel
theorem dX11_tag_128 : decode cX11_tag 128 = .ok (.aload_n 0, 1) := by decide +kernel
theorem dX11_tag_129 : decode cX11_tag 129 = .ok (.getfield 43, 3) := by decide +kernel
theorem dX11_tag_132 : decode cX11_tag 132 = .ok (.iload_n 3, 1) := by decide +kernel
theorem dX11_tag_133 : decode cX11_tag 133 = .ok (.laload, 1) := by decide +kernel
theorem dX11_tag_134 : decode cX11_tag 134 = .ok (.invokevirtual 390, 3) := by decide +kernel
theorem dX11_tag_137 : decode cX11_tag 137 = .ok (.iload 4, 2) := by decide +kernel
theorem dX11_tag_139 : decode cX11_tag 139 = .ok (.iconst 1, 1) := by decide +kernel
theorem dX11_tag_140 : decode cX11_tag 140 = .ok (.if_icmp .le 12, 3) := by decide +kernel
theorem dX11_tag_143 : decode cX11_tag 143 = .ok (.aload_n 0, 1) := by decide +kernel
theorem dX11_tag_144 : decode cX11_tag 144 = .ok (.bipush 48, 2) := by decide +kernel
theorem dX11_tag_146 : decode cX11_tag 146 = .ok (.iload 4, 2) := by decide +kernel
theorem dX11_tag_148 : decode cX11_tag 148 = .ok (.iadd, 1) := by decide +kernel
theorem dX11_tag_149 : decode cX11_tag 149 = .ok (.invokevirtual 383, 3) := by decide +kernel
theorem dX11_tag_152 : decode cX11_tag 152 = .ok (.goto (-98), 3) := by decide +kernel
theorem dX11_tag_155 : decode cX11_tag 155 = .ok (.aload_n 0, 1) := by decide +kernel
theorem dX11_tag_156 : decode cX11_tag 156 = .ok (.getfield 378, 3) := by decide +kernel
theorem dX11_tag_159 : decode cX11_tag 159 = .ok (.ireturn, 1) := by decide +kernel
theorem dX11_byteAt_0 : decode cX11_byteAt 0 = .ok (.aload_n 0, 1) := by decide +kernel
theorem dX11_byteAt_1 : decode cX11_byteAt 1 = .ok (.iconst 0, 1) := by decide +kernel
theorem dX11_byteAt_2 : decode cX11_byteAt 2 = .ok (.putfield 1, 3) := by decide +kernel
theorem dX11_byteAt_5 : decode cX11_byteAt 5 = .ok (.iload_n 1, 1) := by decide +kernel
theorem dX11_byteAt_6 : decode cX11_byteAt 6 = .ok (.iconst 0, 1) := by decide +kernel
theorem dX11_byteAt_7 : decode cX11_byteAt 7 = .ok (.aload_n 0, 1) := by decide +kernel
theorem dX11_byteAt_8 : decode cX11_byteAt 8 = .ok (.getfield 378, 3) := by decide +kernel
theorem dX11_byteAt_11 : decode cX11_byteAt 11 = .ok (.iconst 1, 1) := by decide +kernel
theorem dX11_byteAt_12 : decode cX11_byteAt 12 = .ok (.isub, 1) := by decide +kernel
theorem dX11_byteAt_13 : decode cX11_byteAt 13 = .ok (.invokestatic 176, 3) := by decide +kernel
theorem dX11_byteAt_16 : decode cX11_byteAt 16 = .ok (.ifCond .eq 12, 3) := by decide +kernel
theorem dX11_byteAt_19 : decode cX11_byteAt 19 = .ok (.aload_n 0, 1) := by decide +kernel
theorem dX11_byteAt_20 : decode cX11_byteAt 20 = .ok (.getfield 66, 3) := by decide +kernel
theorem dX11_byteAt_23 : decode cX11_byteAt 23 = .ok (.iload_n 1, 1) := by decide +kernel
theorem dX11_byteAt_24 : decode cX11_byteAt 24 = .ok (.baload, 1) := by decide +kernel
theorem dX11_byteAt_25 : decode cX11_byteAt 25 = .ok (.goto 4, 3) := by decide +kernel
theorem dX11_byteAt_28 : decode cX11_byteAt 28 = .ok (.iconst (-1), 1) := by decide +kernel
theorem dX11_byteAt_29 : decode cX11_byteAt 29 = .ok (.ireturn, 1) := by decide +kernel
theorem dX11_chance_0 : decode cX11_chance 0 = .ok (.aload_n 0, 1) := by decide +kernel
theorem dX11_chance_1 : decode cX11_chance 1 = .ok (.aload_n 0, 1) := by decide +kernel
theorem dX11_chance_2 : decode cX11_chance 2 = .ok (.getfield 393, 3) := by decide +kernel
theorem dX11_chance_5 : decode cX11_chance 5 = .ok (.ldc_w 396, 3) := by decide +kernel
theorem dX11_chance_8 : decode cX11_chance 8 = .ok (.imul, 1) := by decide +kernel
theorem dX11_chance_9 : decode cX11_chance 9 = .ok (.sipush 12345, 3) := by decide +kernel
theorem dX11_chance_12 : decode cX11_chance 12 = .ok (.iadd, 1) := by decide +kernel
theorem dX11_chance_13 : decode cX11_chance 13 = .ok (.putfield 393, 3) := by decide +kernel
theorem dX11_chance_16 : decode cX11_chance 16 = .ok (.aload_n 0, 1) := by decide +kernel
theorem dX11_chance_17 : decode cX11_chance 17 = .ok (.getfield 393, 3) := by decide +kernel
theorem dX11_chance_20 : decode cX11_chance 20 = .ok (.bipush 8, 2) := by decide +kernel
theorem dX11_chance_22 : decode cX11_chance 22 = .ok (.iushr, 1) := by decide +kernel
theorem dX11_chance_23 : decode cX11_chance 23 = .ok (.iload_n 1, 1) := by decide +kernel
theorem dX11_chance_24 : decode cX11_chance 24 = .ok (.irem, 1) := by decide +kernel
theorem dX11_chance_25 : decode cX11_chance 25 = .ok (.ireturn, 1) := by decide +kernel
theorem dX11_chanceOf_0 : decode cX11_chanceOf 0 = .ok (.aload_n 0, 1) := by decide +kernel
theorem dX11_chanceOf_1 : decode cX11_chanceOf 1 = .ok (.bipush 6, 2) := by decide +kernel
theorem dX11_chanceOf_3 : decode cX11_chanceOf 3 = .ok (.invokevirtual 397, 3) := by decide +kernel
theorem dX11_chanceOf_6 : decode cX11_chanceOf 6 = .ok (.istore_n 2, 1) := by decide +kernel
theorem dX11_chanceOf_7 : decode cX11_chanceOf 7 = .ok (.iload_n 2, 1) := by decide +kernel
theorem dX11_chanceOf_8 : decode cX11_chanceOf 8 = .ok (.iconst 2, 1) := by decide +kernel
theorem dX11_chanceOf_9 : decode cX11_chanceOf 9 = .ok (.if_icmp .ge 40, 3) := by decide +kernel
theorem dX11_chanceOf_12 : decode cX11_chanceOf 12 = .ok (.aload_n 0, 1) := by decide +kernel
theorem dX11_chanceOf_13 : decode cX11_chanceOf 13 = .ok (.getfield 33, 3) := by decide +kernel
theorem dX11_chanceOf_16 : decode cX11_chanceOf 16 = .ok (.iconst 0, 1) := by decide +kernel
theorem dX11_chanceOf_17 : decode cX11_chanceOf 17 = .ok (.iaload, 1) := by decide +kernel
theorem dX11_chanceOf_18 : decode cX11_chanceOf 18 = .ok (.ifCond .le 31, 3) := by decide +kernel
theorem dX11_chanceOf_21 : decode cX11_chanceOf 21 = .ok (.aload_n 0, 1) := by decide +kernel
theorem dX11_chanceOf_22 : decode cX11_chanceOf 22 = .ok (.aload_n 0, 1) := by decide +kernel
theorem dX11_chanceOf_23 : decode cX11_chanceOf 23 = .ok (.getfield 33, 3) := by decide +kernel
theorem dX11_chanceOf_26 : decode cX11_chanceOf 26 = .ok (.iconst 0, 1) := by decide +kernel
theorem dX11_chanceOf_27 : decode cX11_chanceOf 27 = .ok (.iaload, 1) := by decide +kernel
theorem dX11_chanceOf_28 : decode cX11_chanceOf 28 = .ok (.invokevirtual 397, 3) := by decide +kernel
theorem dX11_chanceOf_31 : decode cX11_chanceOf 31 = .ok (.istore_n 3, 1) := by decide +kernel
theorem dX11_chanceOf_32 : decode cX11_chanceOf 32 = .ok (.aload_n 0, 1) := by decide +kernel
theorem dX11_chanceOf_33 : decode cX11_chanceOf 33 = .ok (.iload_n 1, 1) := by decide +kernel
theorem dX11_chanceOf_34 : decode cX11_chanceOf 34 = .ok (.invokevirtual 271, 3) := by decide +kernel
theorem dX11_chanceOf_37 : decode cX11_chanceOf 37 = .ok (.ifCond .ne 9, 3) := by decide +kernel
theorem dX11_chanceOf_40 : decode cX11_chanceOf 40 = .ok (.aload_n 0, 1) := by decide +kernel
theorem dX11_chanceOf_41 : decode cX11_chanceOf 41 = .ok (.iload_n 1, 1) := by decide +kernel
theorem dX11_chanceOf_42 : decode cX11_chanceOf 42 = .ok (.iload_n 3, 1) := by decide +kernel
theorem dX11_chanceOf_43 : decode cX11_chanceOf 43 = .ok (.invokevirtual 299, 3) := by decide +kernel
theorem dX11_chanceOf_46 : decode cX11_chanceOf 46 = .ok (.goto 57, 3) := by decide +kernel
theorem dX11_chanceOf_49 : decode cX11_chanceOf 49 = .ok (.iload_n 2, 1) := by decide +kernel
theorem dX11_chanceOf_50 : decode cX11_chanceOf 50 = .ok (.iconst 2, 1) := by decide +kernel
theorem dX11_chanceOf_51 : decode cX11_chanceOf 51 = .ok (.if_icmp .ne 30, 3) := by decide +kernel
theorem dX11_chanceOf_54 : decode cX11_chanceOf 54 = .ok (.aload_n 0, 1) := by decide +kernel
theorem dX11_chanceOf_55 : decode cX11_chanceOf 55 = .ok (.bipush 20, 2) := by decide +kernel
theorem dX11_chanceOf_57 : decode cX11_chanceOf 57 = .ok (.invokevirtual 397, 3) := by decide +kernel
theorem dX11_chanceOf_60 : decode cX11_chanceOf 60 = .ok (.iconst 1, 1) := by decide +kernel
theorem dX11_chanceOf_61 : decode cX11_chanceOf 61 = .ok (.iadd, 1) := by decide +kernel
theorem dX11_chanceOf_62 : decode cX11_chanceOf 62 = .ok (.istore_n 3, 1) := by decide +kernel
theorem dX11_chanceOf_63 : decode cX11_chanceOf 63 = .ok (.aload_n 0, 1) := by decide +kernel
theorem dX11_chanceOf_64 : decode cX11_chanceOf 64 = .ok (.iload_n 1, 1) := by decide +kernel
theorem dX11_chanceOf_65 : decode cX11_chanceOf 65 = .ok (.iload_n 3, 1) := by decide +kernel
theorem dX11_chanceOf_66 : decode cX11_chanceOf 66 = .ok (.invokevirtual 306, 3) := by decide +kernel
theorem dX11_chanceOf_69 : decode cX11_chanceOf 69 = .ok (.ifCond .ne 9, 3) := by decide +kernel
theorem dX11_chanceOf_72 : decode cX11_chanceOf 72 = .ok (.aload_n 0, 1) := by decide +kernel
theorem dX11_chanceOf_73 : decode cX11_chanceOf 73 = .ok (.iload_n 1, 1) := by decide +kernel
theorem dX11_chanceOf_74 : decode cX11_chanceOf 74 = .ok (.iload_n 3, 1) := by decide +kernel
theorem dX11_chanceOf_75 : decode cX11_chanceOf 75 = .ok (.invokevirtual 312, 3) := by decide +kernel
theorem dX11_chanceOf_78 : decode cX11_chanceOf 78 = .ok (.goto 25, 3) := by decide +kernel
theorem dX11_chanceOf_81 : decode cX11_chanceOf 81 = .ok (.iload_n 2, 1) := by decide +kernel
theorem dX11_chanceOf_82 : decode cX11_chanceOf 82 = .ok (.iconst 3, 1) := by decide +kernel
theorem dX11_chanceOf_83 : decode cX11_chanceOf 83 = .ok (.if_icmp .ne 20, 3) := by decide +kernel
theorem dX11_chanceOf_86 : decode cX11_chanceOf 86 = .ok (.aload_n 0, 1) := by decide +kernel
theorem dX11_chanceOf_87 : decode cX11_chanceOf 87 = .ok (.getfield 33, 3) := by decide +kernel
theorem dX11_chanceOf_90 : decode cX11_chanceOf 90 = .ok (.bipush 125, 2) := by decide +kernel
theorem dX11_chanceOf_92 : decode cX11_chanceOf 92 = .ok (.iload_n 1, 1) := by decide +kernel
theorem dX11_chanceOf_93 : decode cX11_chanceOf 93 = .ok (.iadd, 1) := by decide +kernel
theorem dX11_chanceOf_94 : decode cX11_chanceOf 94 = .ok (.iaload, 1) := by decide +kernel
theorem dX11_chanceOf_95 : decode cX11_chanceOf 95 = .ok (.ifCond .le 8, 3) := by decide +kernel
theorem dX11_chanceOf_98 : decode cX11_chanceOf 98 = .ok (.aload_n 0, 1) := by decide +kernel
theorem dX11_chanceOf_99 : decode cX11_chanceOf 99 = .ok (.iload_n 1, 1) := by decide +kernel
theorem dX11_chanceOf_100 : decode cX11_chanceOf 100 = .ok (.invokevirtual 315, 3) := by decide +kernel
theorem dX11_chanceOf_103 : decode cX11_chanceOf 103 = .ok (.return_, 1) := by decide +kernel
theorem dX11_chances_0 : decode cX11_chances 0 = .ok (.aload_n 0, 1) := by decide +kernel
theorem dX11_chances_1 : decode cX11_chances 1 = .ok (.iload_n 2, 1) := by decide +kernel
theorem dX11_chances_2 : decode cX11_chances 2 = .ok (.putfield 393, 3) := by decide +kernel
theorem dX11_chances_5 : decode cX11_chances 5 = .ok (.iconst 0, 1) := by decide +kernel
theorem dX11_chances_6 : decode cX11_chances 6 = .ok (.istore_n 3, 1) := by decide +kernel
theorem dX11_chances_7 : decode cX11_chances 7 = .ok (.iload_n 3, 1) := by decide +kernel
theorem dX11_chances_8 : decode cX11_chances 8 = .ok (.iload_n 1, 1) := by decide +kernel
theorem dX11_chances_9 : decode cX11_chances 9 = .ok (.if_icmp .ge 52, 3) := by decide +kernel
theorem dX11_chances_12 : decode cX11_chances 12 = .ok (.aload_n 0, 1) := by decide +kernel
theorem dX11_chances_13 : decode cX11_chances 13 = .ok (.getfield 33, 3) := by decide +kernel
theorem dX11_chances_16 : decode cX11_chances 16 = .ok (.bipush 121, 2) := by decide +kernel
theorem dX11_chances_18 : decode cX11_chances 18 = .ok (.iaload, 1) := by decide +kernel
theorem dX11_chances_19 : decode cX11_chances 19 = .ok (.sipush 400, 3) := by decide +kernel
theorem dX11_chances_22 : decode cX11_chances 22 = .ok (.if_icmp .ge 39, 3) := by decide +kernel
theorem dX11_chances_25 : decode cX11_chances 25 = .ok (.iconst 0, 1) := by decide +kernel
theorem dX11_chances_26 : decode cX11_chances 26 = .ok (.istore 4, 2) := by decide +kernel
theorem dX11_chances_28 : decode cX11_chances 28 = .ok (.iload 4, 2) := by decide +kernel
theorem dX11_chances_30 : decode cX11_chances 30 = .ok (.aload_n 0, 1) := by decide +kernel
theorem dX11_chances_31 : decode cX11_chances 31 = .ok (.getfield 33, 3) := by decide +kernel
theorem dX11_chances_34 : decode cX11_chances 34 = .ok (.iconst 1, 1) := by decide +kernel
theorem dX11_chances_35 : decode cX11_chances 35 = .ok (.iaload, 1) := by decide +kernel
theorem dX11_chances_36 : decode cX11_chances 36 = .ok (.if_icmp .ge 15, 3) := by decide +kernel
theorem dX11_chances_39 : decode cX11_chances 39 = .ok (.aload_n 0, 1) := by decide +kernel
theorem dX11_chances_40 : decode cX11_chances 40 = .ok (.iload 4, 2) := by decide +kernel
theorem dX11_chances_42 : decode cX11_chances 42 = .ok (.invokevirtual 400, 3) := by decide +kernel
theorem dX11_chances_45 : decode cX11_chances 45 = .ok (.iinc 4 1, 3) := by decide +kernel
theorem dX11_chances_48 : decode cX11_chances 48 = .ok (.goto (-20), 3) := by decide +kernel
theorem dX11_chances_51 : decode cX11_chances 51 = .ok (.aload_n 0, 1) := by decide +kernel
theorem dX11_chances_52 : decode cX11_chances 52 = .ok (.invokevirtual 303, 3) := by decide +kernel
theorem dX11_chances_55 : decode cX11_chances 55 = .ok (.iinc 3 1, 3) := by decide +kernel
theorem dX11_chances_58 : decode cX11_chances 58 = .ok (.goto (-51), 3) := by decide +kernel
theorem dX11_chances_61 : decode cX11_chances 61 = .ok (.iload_n 3, 1) := by decide +kernel
theorem dX11_chances_62 : decode cX11_chances 62 = .ok (.ireturn, 1) := by decide +kernel
theorem dX11_drawn_0 : decode cX11_drawn 0 = .ok (.aload_n 0, 1) := by decide +kernel
theorem dX11_drawn_1 : decode cX11_drawn 1 = .ok (.iconst 0, 1) := by decide +kernel
theorem dX11_drawn_2 : decode cX11_drawn 2 = .ok (.putfield 1, 3) := by decide +kernel
theorem dX11_drawn_5 : decode cX11_drawn 5 = .ok (.iload_n 1, 1) := by decide +kernel
theorem dX11_drawn_6 : decode cX11_drawn 6 = .ok (.iconst 1, 1) := by decide +kernel
theorem dX11_drawn_7 : decode cX11_drawn 7 = .ok (.bipush 60, 2) := by decide +kernel
theorem dX11_drawn_9 : decode cX11_drawn 9 = .ok (.invokestatic 176, 3) := by decide +kernel
theorem dX11_drawn_12 : decode cX11_drawn 12 = .ok (.ifCond .ne 5, 3) := by decide +kernel
theorem dX11_drawn_15 : decode cX11_drawn 15 = .ok (.iconst (-1), 1) := by decide +kernel
theorem dX11_drawn_16 : decode cX11_drawn 16 = .ok (.ireturn, 1) := by decide +kernel
theorem dX11_drawn_17 : decode cX11_drawn 17 = .ok (.aload_n 0, 1) := by decide +kernel
theorem dX11_drawn_18 : decode cX11_drawn 18 = .ok (.getfield 33, 3) := by decide +kernel
theorem dX11_drawn_21 : decode cX11_drawn 21 = .ok (.bipush 121, 2) := by decide +kernel
theorem dX11_drawn_23 : decode cX11_drawn 23 = .ok (.iaload, 1) := by decide +kernel
theorem dX11_drawn_24 : decode cX11_drawn 24 = .ok (.sipush 400, 3) := by decide +kernel
theorem dX11_drawn_27 : decode cX11_drawn 27 = .ok (.if_icmp .ge 7, 3) := by decide +kernel
theorem dX11_drawn_30 : decode cX11_drawn 30 = .ok (.aload_n 0, 1) := by decide +kernel
theorem dX11_drawn_31 : decode cX11_drawn 31 = .ok (.invokevirtual 309, 3) := by decide +kernel
theorem dX11_drawn_34 : decode cX11_drawn 34 = .ok (.aload_n 0, 1) := by decide +kernel
theorem dX11_drawn_35 : decode cX11_drawn 35 = .ok (.iload_n 1, 1) := by decide +kernel
theorem dX11_drawn_36 : decode cX11_drawn 36 = .ok (.iload_n 2, 1) := by decide +kernel
theorem dX11_drawn_37 : decode cX11_drawn 37 = .ok (.invokevirtual 403, 3) := by decide +kernel
theorem dX11_drawn_40 : decode cX11_drawn 40 = .ok (.ireturn, 1) := by decide +kernel
theorem dX11_odds_0 : decode cX11_odds 0 = .ok (.aload_n 0, 1) := by decide +kernel
theorem dX11_odds_1 : decode cX11_odds 1 = .ok (.iconst 0, 1) := by decide +kernel
theorem dX11_odds_2 : decode cX11_odds 2 = .ok (.putfield 1, 3) := by decide +kernel
theorem dX11_odds_5 : decode cX11_odds 5 = .ok (.aload_n 0, 1) := by decide +kernel
theorem dX11_odds_6 : decode cX11_odds 6 = .ok (.iload_n 1, 1) := by decide +kernel
theorem dX11_odds_7 : decode cX11_odds 7 = .ok (.invokevirtual 254, 3) := by decide +kernel
theorem dX11_odds_10 : decode cX11_odds 10 = .ok (.ifCond .eq 13, 3) := by decide +kernel
theorem dX11_odds_13 : decode cX11_odds 13 = .ok (.iload_n 2, 1) := by decide +kernel
theorem dX11_odds_14 : decode cX11_odds 14 = .ok (.iconst 1, 1) := by decide +kernel
theorem dX11_odds_15 : decode cX11_odds 15 = .ok (.bipush 30, 2) := by decide +kernel
theorem dX11_odds_17 : decode cX11_odds 17 = .ok (.invokestatic 176, 3) := by decide +kernel
theorem dX11_odds_20 : decode cX11_odds 20 = .ok (.ifCond .ne 5, 3) := by decide +kernel
theorem dX11_odds_23 : decode cX11_odds 23 = .ok (.iconst (-1), 1) := by decide +kernel
theorem dX11_odds_24 : decode cX11_odds 24 = .ok (.ireturn, 1) := by decide +kernel
theorem dX11_odds_25 : decode cX11_odds 25 = .ok (.aload_n 0, 1) := by decide +kernel
theorem dX11_odds_26 : decode cX11_odds 26 = .ok (.invokevirtual 327, 3) := by decide +kernel
theorem dX11_odds_29 : decode cX11_odds 29 = .ok (.iconst 0, 1) := by decide +kernel
theorem dX11_odds_30 : decode cX11_odds 30 = .ok (.istore 4, 2) := by decide +kernel
theorem dX11_odds_32 : decode cX11_odds 32 = .ok (.iconst 0, 1) := by decide +kernel
theorem dX11_odds_33 : decode cX11_odds 33 = .ok (.istore 5, 2) := by decide +kernel
theorem dX11_odds_35 : decode cX11_odds 35 = .ok (.iload 5, 2) := by decide +kernel
theorem dX11_odds_37 : decode cX11_odds 37 = .ok (.iload_n 2, 1) := by decide +kernel
theorem dX11_odds_38 : decode cX11_odds 38 = .ok (.if_icmp .ge 42, 3) := by decide +kernel
theorem dX11_odds_41 : decode cX11_odds 41 = .ok (.aload_n 0, 1) := by decide +kernel
theorem dX11_odds_42 : decode cX11_odds 42 = .ok (.bipush 10, 2) := by decide +kernel
theorem dX11_odds_44 : decode cX11_odds 44 = .ok (.iload_n 3, 1) := by decide +kernel
theorem dX11_odds_45 : decode cX11_odds 45 = .ok (.iload 5, 2) := by decide +kernel
theorem dX11_odds_47 : decode cX11_odds 47 = .ok (.iadd, 1) := by decide +kernel
theorem dX11_odds_48 : decode cX11_odds 48 = .ok (.invokevirtual 403, 3) := by decide +kernel
theorem dX11_odds_51 : decode cX11_odds 51 = .ok (.pop, 1) := by decide +kernel
theorem dX11_odds_52 : decode cX11_odds 52 = .ok (.iload 4, 2) := by decide +kernel
theorem dX11_odds_54 : decode cX11_odds 54 = .ok (.aload_n 0, 1) := by decide +kernel
theorem dX11_odds_55 : decode cX11_odds 55 = .ok (.iload_n 1, 1) := by decide +kernel
theorem dX11_odds_56 : decode cX11_odds 56 = .ok (.invokevirtual 271, 3) := by decide +kernel
theorem dX11_odds_59 : decode cX11_odds 59 = .ok (.ifCond .eq 7, 3) := by decide +kernel
theorem dX11_odds_62 : decode cX11_odds 62 = .ok (.iconst 1, 1) := by decide +kernel
theorem dX11_odds_63 : decode cX11_odds 63 = .ok (.goto 4, 3) := by decide +kernel
theorem dX11_odds_66 : decode cX11_odds 66 = .ok (.iconst 0, 1) := by decide +kernel
theorem dX11_odds_67 : decode cX11_odds 67 = .ok (.iadd, 1) := by decide +kernel
theorem dX11_odds_68 : decode cX11_odds 68 = .ok (.istore 4, 2) := by decide +kernel
theorem dX11_odds_70 : decode cX11_odds 70 = .ok (.aload_n 0, 1) := by decide +kernel
theorem dX11_odds_71 : decode cX11_odds 71 = .ok (.invokevirtual 330, 3) := by decide +kernel
theorem dX11_odds_74 : decode cX11_odds 74 = .ok (.iinc 5 1, 3) := by decide +kernel
theorem dX11_odds_77 : decode cX11_odds 77 = .ok (.goto (-42), 3) := by decide +kernel
theorem dX11_odds_80 : decode cX11_odds 80 = .ok (.iload 4, 2) := by decide +kernel
theorem dX11_odds_82 : decode cX11_odds 82 = .ok (.ireturn, 1) := by decide +kernel
