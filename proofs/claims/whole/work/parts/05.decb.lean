theorem dX0_init_0 : decode cX0_init 0 = .ok (.aload_n 0, 1) := by decide +kernel
theorem dX0_init_1 : decode cX0_init 1 = .ok (.invokespecial 3, 3) := by decide +kernel
theorem dX0_init_4 : decode cX0_init 4 = .ok (.aload_n 0, 1) := by decide +kernel
theorem dX0_init_5 : decode cX0_init 5 = .ok (.iconst 0, 1) := by decide +kernel
theorem dX0_init_6 : decode cX0_init 6 = .ok (.putfield 9, 3) := by decide +kernel
theorem dX0_init_9 : decode cX0_init 9 = .ok (.aload_n 0, 1) := by decide +kernel
theorem dX0_init_10 : decode cX0_init 10 = .ok (.lconst 0, 1) := by decide +kernel
theorem dX0_init_11 : decode cX0_init 11 = .ok (.putfield 15, 3) := by decide +kernel
theorem dX0_init_14 : decode cX0_init 14 = .ok (.aload_n 0, 1) := by decide +kernel
theorem dX0_init_15 : decode cX0_init 15 = .ok (.iconst 0, 1) := by decide +kernel
theorem dX0_init_16 : decode cX0_init 16 = .ok (.putfield 19, 3) := by decide +kernel
theorem dX0_init_19 : decode cX0_init 19 = .ok (.aload_n 0, 1) := by decide +kernel
theorem dX0_init_20 : decode cX0_init 20 = .ok (.iconst 0, 1) := by decide +kernel
theorem dX0_init_21 : decode cX0_init 21 = .ok (.putfield 23, 3) := by decide +kernel
theorem dX0_init_24 : decode cX0_init 24 = .ok (.aload_n 0, 1) := by decide +kernel
theorem dX0_init_25 : decode cX0_init 25 = .ok (.bipush 8, 2) := by decide +kernel
theorem dX0_init_27 : decode cX0_init 27 = .ok (.iconst 2, 1) := by decide +kernel
theorem dX0_init_28 : decode cX0_init 28 = .ok (.multianewarray 26 2, 4) := by decide +kernel
theorem dX0_init_32 : decode cX0_init 32 = .ok (.putfield 28, 3) := by decide +kernel
theorem dX0_init_35 : decode cX0_init 35 = .ok (.return_, 1) := by decide +kernel
theorem dX0_take_0 : decode cX0_take 0 = .ok (.aload_n 0, 1) := by decide +kernel
theorem dX0_take_1 : decode cX0_take 1 = .ok (.iconst 1, 1) := by decide +kernel
theorem dX0_take_2 : decode cX0_take 2 = .ok (.putfield 9, 3) := by decide +kernel
theorem dX0_take_5 : decode cX0_take 5 = .ok (.aload_n 0, 1) := by decide +kernel
theorem dX0_take_6 : decode cX0_take 6 = .ok (.lload_n 2, 1) := by decide +kernel
theorem dX0_take_7 : decode cX0_take 7 = .ok (.putfield 15, 3) := by decide +kernel
theorem dX0_take_10 : decode cX0_take 10 = .ok (.aload_n 0, 1) := by decide +kernel
theorem dX0_take_11 : decode cX0_take 11 = .ok (.aload_n 1, 1) := by decide +kernel
theorem dX0_take_12 : decode cX0_take 12 = .ok (.getfield 31, 3) := by decide +kernel
theorem dX0_take_15 : decode cX0_take 15 = .ok (.putfield 19, 3) := by decide +kernel
theorem dX0_take_18 : decode cX0_take 18 = .ok (.aload_n 0, 1) := by decide +kernel
theorem dX0_take_19 : decode cX0_take 19 = .ok (.aload_n 1, 1) := by decide +kernel
theorem dX0_take_20 : decode cX0_take 20 = .ok (.getfield 36, 3) := by decide +kernel
theorem dX0_take_23 : decode cX0_take 23 = .ok (.putfield 23, 3) := by decide +kernel
theorem dX0_take_26 : decode cX0_take 26 = .ok (.aload_n 1, 1) := by decide +kernel
theorem dX0_take_27 : decode cX0_take 27 = .ok (.getfield 39, 3) := by decide +kernel
theorem dX0_take_30 : decode cX0_take 30 = .ok (.aload_n 0, 1) := by decide +kernel
theorem dX0_take_31 : decode cX0_take 31 = .ok (.getfield 28, 3) := by decide +kernel
theorem dX0_take_34 : decode cX0_take 34 = .ok (.invokestatic 42, 3) := by decide +kernel
theorem dX0_take_37 : decode cX0_take 37 = .ok (.return_, 1) := by decide +kernel
theorem dX0_giveBack_0 : decode cX0_giveBack 0 = .ok (.aload_n 1, 1) := by decide +kernel
theorem dX0_giveBack_1 : decode cX0_giveBack 1 = .ok (.aload_n 0, 1) := by decide +kernel
theorem dX0_giveBack_2 : decode cX0_giveBack 2 = .ok (.getfield 19, 3) := by decide +kernel
theorem dX0_giveBack_5 : decode cX0_giveBack 5 = .ok (.putfield 31, 3) := by decide +kernel
theorem dX0_giveBack_8 : decode cX0_giveBack 8 = .ok (.aload_n 1, 1) := by decide +kernel
theorem dX0_giveBack_9 : decode cX0_giveBack 9 = .ok (.aload_n 0, 1) := by decide +kernel
theorem dX0_giveBack_10 : decode cX0_giveBack 10 = .ok (.getfield 23, 3) := by decide +kernel
theorem dX0_giveBack_13 : decode cX0_giveBack 13 = .ok (.putfield 36, 3) := by decide +kernel
theorem dX0_giveBack_16 : decode cX0_giveBack 16 = .ok (.aload_n 0, 1) := by decide +kernel
theorem dX0_giveBack_17 : decode cX0_giveBack 17 = .ok (.getfield 28, 3) := by decide +kernel
theorem dX0_giveBack_20 : decode cX0_giveBack 20 = .ok (.aload_n 1, 1) := by decide +kernel
theorem dX0_giveBack_21 : decode cX0_giveBack 21 = .ok (.getfield 39, 3) := by decide +kernel
theorem dX0_giveBack_24 : decode cX0_giveBack 24 = .ok (.invokestatic 42, 3) := by decide +kernel
theorem dX0_giveBack_27 : decode cX0_giveBack 27 = .ok (.return_, 1) := by decide +kernel
theorem dX0_copyOwners_0 : decode cX0_copyOwners 0 = .ok (.iconst 0, 1) := by decide +kernel
theorem dX0_copyOwners_1 : decode cX0_copyOwners 1 = .ok (.istore_n 2, 1) := by decide +kernel
theorem dX0_copyOwners_2 : decode cX0_copyOwners 2 = .ok (.iload_n 2, 1) := by decide +kernel
theorem dX0_copyOwners_3 : decode cX0_copyOwners 3 = .ok (.bipush 8, 2) := by decide +kernel
theorem dX0_copyOwners_5 : decode cX0_copyOwners 5 = .ok (.if_icmp .ge 29, 3) := by decide +kernel
theorem dX0_copyOwners_8 : decode cX0_copyOwners 8 = .ok (.aload_n 1, 1) := by decide +kernel
theorem dX0_copyOwners_9 : decode cX0_copyOwners 9 = .ok (.iload_n 2, 1) := by decide +kernel
theorem dX0_copyOwners_10 : decode cX0_copyOwners 10 = .ok (.aaload, 1) := by decide +kernel
theorem dX0_copyOwners_11 : decode cX0_copyOwners 11 = .ok (.iconst 0, 1) := by decide +kernel
theorem dX0_copyOwners_12 : decode cX0_copyOwners 12 = .ok (.aload_n 0, 1) := by decide +kernel
theorem dX0_copyOwners_13 : decode cX0_copyOwners 13 = .ok (.iload_n 2, 1) := by decide +kernel
theorem dX0_copyOwners_14 : decode cX0_copyOwners 14 = .ok (.aaload, 1) := by decide +kernel
theorem dX0_copyOwners_15 : decode cX0_copyOwners 15 = .ok (.iconst 0, 1) := by decide +kernel
theorem dX0_copyOwners_16 : decode cX0_copyOwners 16 = .ok (.iaload, 1) := by decide +kernel
theorem dX0_copyOwners_17 : decode cX0_copyOwners 17 = .ok (.iastore, 1) := by decide +kernel
theorem dX0_copyOwners_18 : decode cX0_copyOwners 18 = .ok (.aload_n 1, 1) := by decide +kernel
theorem dX0_copyOwners_19 : decode cX0_copyOwners 19 = .ok (.iload_n 2, 1) := by decide +kernel
theorem dX0_copyOwners_20 : decode cX0_copyOwners 20 = .ok (.aaload, 1) := by decide +kernel
theorem dX0_copyOwners_21 : decode cX0_copyOwners 21 = .ok (.iconst 1, 1) := by decide +kernel
theorem dX0_copyOwners_22 : decode cX0_copyOwners 22 = .ok (.aload_n 0, 1) := by decide +kernel
theorem dX0_copyOwners_23 : decode cX0_copyOwners 23 = .ok (.iload_n 2, 1) := by decide +kernel
theorem dX0_copyOwners_24 : decode cX0_copyOwners 24 = .ok (.aaload, 1) := by decide +kernel
theorem dX0_copyOwners_25 : decode cX0_copyOwners 25 = .ok (.iconst 1, 1) := by decide +kernel
theorem dX0_copyOwners_26 : decode cX0_copyOwners 26 = .ok (.iaload, 1) := by decide +kernel
theorem dX0_copyOwners_27 : decode cX0_copyOwners 27 = .ok (.iastore, 1) := by decide +kernel
theorem dX0_copyOwners_28 : decode cX0_copyOwners 28 = .ok (.iinc 2 1, 3) := by decide +kernel
theorem dX0_copyOwners_31 : decode cX0_copyOwners 31 = .ok (.goto (-29), 3) := by decide +kernel
theorem dX0_copyOwners_34 : decode cX0_copyOwners 34 = .ok (.return_, 1) := by decide +kernel
theorem dX1_wishOf_0 : decode cX1_wishOf 0 = .ok (.iconst 0, 1) := by decide +kernel
theorem dX1_wishOf_1 : decode cX1_wishOf 1 = .ok (.istore_n 2, 1) := by decide +kernel
theorem dX1_wishOf_2 : decode cX1_wishOf 2 = .ok (.iconst 0, 1) := by decide +kernel
theorem dX1_wishOf_3 : decode cX1_wishOf 3 = .ok (.istore_n 3, 1) := by decide +kernel
theorem dX1_wishOf_4 : decode cX1_wishOf 4 = .ok (.iload_n 3, 1) := by decide +kernel
theorem dX1_wishOf_5 : decode cX1_wishOf 5 = .ok (.aload_n 0, 1) := by decide +kernel
theorem dX1_wishOf_6 : decode cX1_wishOf 6 = .ok (.getfield 7, 3) := by decide +kernel
theorem dX1_wishOf_9 : decode cX1_wishOf 9 = .ok (.if_icmp .ge 80, 3) := by decide +kernel
theorem dX1_wishOf_12 : decode cX1_wishOf 12 = .ok (.aload_n 0, 1) := by decide +kernel
theorem dX1_wishOf_13 : decode cX1_wishOf 13 = .ok (.iload_n 3, 1) := by decide +kernel
theorem dX1_wishOf_14 : decode cX1_wishOf 14 = .ok (.invokevirtual 13, 3) := by decide +kernel
theorem dX1_wishOf_17 : decode cX1_wishOf 17 = .ok (.ifCond .ne 66, 3) := by decide +kernel
theorem dX1_wishOf_20 : decode cX1_wishOf 20 = .ok (.aload_n 0, 1) := by decide +kernel
theorem dX1_wishOf_21 : decode cX1_wishOf 21 = .ok (.getfield 17, 3) := by decide +kernel
theorem dX1_wishOf_24 : decode cX1_wishOf 24 = .ok (.iload_n 3, 1) := by decide +kernel
theorem dX1_wishOf_25 : decode cX1_wishOf 25 = .ok (.aaload, 1) := by decide +kernel
theorem dX1_wishOf_26 : decode cX1_wishOf 26 = .ok (.iconst 0, 1) := by decide +kernel
theorem dX1_wishOf_27 : decode cX1_wishOf 27 = .ok (.iaload, 1) := by decide +kernel
theorem dX1_wishOf_28 : decode cX1_wishOf 28 = .ok (.iload_n 1, 1) := by decide +kernel
theorem dX1_wishOf_29 : decode cX1_wishOf 29 = .ok (.if_icmp .ne 24, 3) := by decide +kernel
theorem dX1_wishOf_32 : decode cX1_wishOf 32 = .ok (.iload_n 2, 1) := by decide +kernel
theorem dX1_wishOf_33 : decode cX1_wishOf 33 = .ok (.aload_n 0, 1) := by decide +kernel
theorem dX1_wishOf_34 : decode cX1_wishOf 34 = .ok (.getfield 21, 3) := by decide +kernel
theorem dX1_wishOf_37 : decode cX1_wishOf 37 = .ok (.iload_n 1, 1) := by decide +kernel
theorem dX1_wishOf_38 : decode cX1_wishOf 38 = .ok (.aaload, 1) := by decide +kernel
theorem dX1_wishOf_39 : decode cX1_wishOf 39 = .ok (.aload_n 0, 1) := by decide +kernel
theorem dX1_wishOf_40 : decode cX1_wishOf 40 = .ok (.getfield 17, 3) := by decide +kernel
theorem dX1_wishOf_43 : decode cX1_wishOf 43 = .ok (.iload_n 3, 1) := by decide +kernel
theorem dX1_wishOf_44 : decode cX1_wishOf 44 = .ok (.aaload, 1) := by decide +kernel
theorem dX1_wishOf_45 : decode cX1_wishOf 45 = .ok (.iconst 1, 1) := by decide +kernel
theorem dX1_wishOf_46 : decode cX1_wishOf 46 = .ok (.iaload, 1) := by decide +kernel
theorem dX1_wishOf_47 : decode cX1_wishOf 47 = .ok (.iaload, 1) := by decide +kernel
theorem dX1_wishOf_48 : decode cX1_wishOf 48 = .ok (.iadd, 1) := by decide +kernel
theorem dX1_wishOf_49 : decode cX1_wishOf 49 = .ok (.istore_n 2, 1) := by decide +kernel
theorem dX1_wishOf_50 : decode cX1_wishOf 50 = .ok (.goto 33, 3) := by decide +kernel
theorem dX1_wishOf_53 : decode cX1_wishOf 53 = .ok (.aload_n 0, 1) := by decide +kernel
theorem dX1_wishOf_54 : decode cX1_wishOf 54 = .ok (.getfield 17, 3) := by decide +kernel
theorem dX1_wishOf_57 : decode cX1_wishOf 57 = .ok (.iload_n 3, 1) := by decide +kernel
theorem dX1_wishOf_58 : decode cX1_wishOf 58 = .ok (.aaload, 1) := by decide +kernel
theorem dX1_wishOf_59 : decode cX1_wishOf 59 = .ok (.iconst 1, 1) := by decide +kernel
theorem dX1_wishOf_60 : decode cX1_wishOf 60 = .ok (.iaload, 1) := by decide +kernel
theorem dX1_wishOf_61 : decode cX1_wishOf 61 = .ok (.iload_n 1, 1) := by decide +kernel
theorem dX1_wishOf_62 : decode cX1_wishOf 62 = .ok (.if_icmp .ne 21, 3) := by decide +kernel
theorem dX1_wishOf_65 : decode cX1_wishOf 65 = .ok (.iload_n 2, 1) := by decide +kernel
theorem dX1_wishOf_66 : decode cX1_wishOf 66 = .ok (.aload_n 0, 1) := by decide +kernel
theorem dX1_wishOf_67 : decode cX1_wishOf 67 = .ok (.getfield 21, 3) := by decide +kernel
theorem dX1_wishOf_70 : decode cX1_wishOf 70 = .ok (.iload_n 1, 1) := by decide +kernel
theorem dX1_wishOf_71 : decode cX1_wishOf 71 = .ok (.aaload, 1) := by decide +kernel
theorem dX1_wishOf_72 : decode cX1_wishOf 72 = .ok (.aload_n 0, 1) := by decide +kernel
theorem dX1_wishOf_73 : decode cX1_wishOf 73 = .ok (.getfield 17, 3) := by decide +kernel
theorem dX1_wishOf_76 : decode cX1_wishOf 76 = .ok (.iload_n 3, 1) := by decide +kernel
theorem dX1_wishOf_77 : decode cX1_wishOf 77 = .ok (.aaload, 1) := by decide +kernel
theorem dX1_wishOf_78 : decode cX1_wishOf 78 = .ok (.iconst 0, 1) := by decide +kernel
theorem dX1_wishOf_79 : decode cX1_wishOf 79 = .ok (.iaload, 1) := by decide +kernel
theorem dX1_wishOf_80 : decode cX1_wishOf 80 = .ok (.iaload, 1) := by decide +kernel
theorem dX1_wishOf_81 : decode cX1_wishOf 81 = .ok (.iadd, 1) := by decide +kernel
theorem dX1_wishOf_82 : decode cX1_wishOf 82 = .ok (.istore_n 2, 1) := by decide +kernel
theorem dX1_wishOf_83 : decode cX1_wishOf 83 = .ok (.iinc 3 1, 3) := by decide +kernel
theorem dX1_wishOf_86 : decode cX1_wishOf 86 = .ok (.goto (-82), 3) := by decide +kernel
theorem dX1_wishOf_89 : decode cX1_wishOf 89 = .ok (.iload_n 2, 1) := by decide +kernel
theorem dX1_wishOf_90 : decode cX1_wishOf 90 = .ok (.ireturn, 1) := by decide +kernel
theorem dX1_swapFirst_0 : decode cX1_swapFirst 0 = .ok (.iconst 2, 1) := by decide +kernel
theorem dX1_swapFirst_1 : decode cX1_swapFirst 1 = .ok (.aload_n 0, 1) := by decide +kernel
theorem dX1_swapFirst_2 : decode cX1_swapFirst 2 = .ok (.getfield 7, 3) := by decide +kernel
theorem dX1_swapFirst_5 : decode cX1_swapFirst 5 = .ok (.imul, 1) := by decide +kernel
theorem dX1_swapFirst_6 : decode cX1_swapFirst 6 = .ok (.istore_n 1, 1) := by decide +kernel
theorem dX1_swapFirst_7 : decode cX1_swapFirst 7 = .ok (.iconst 0, 1) := by decide +kernel
theorem dX1_swapFirst_8 : decode cX1_swapFirst 8 = .ok (.istore_n 2, 1) := by decide +kernel
theorem dX1_swapFirst_9 : decode cX1_swapFirst 9 = .ok (.iload_n 2, 1) := by decide +kernel
theorem dX1_swapFirst_10 : decode cX1_swapFirst 10 = .ok (.iload_n 1, 1) := by decide +kernel
theorem dX1_swapFirst_11 : decode cX1_swapFirst 11 = .ok (.if_icmp .ge 44, 3) := by decide +kernel
theorem dX1_swapFirst_14 : decode cX1_swapFirst 14 = .ok (.iload_n 2, 1) := by decide +kernel
theorem dX1_swapFirst_15 : decode cX1_swapFirst 15 = .ok (.iconst 1, 1) := by decide +kernel
theorem dX1_swapFirst_16 : decode cX1_swapFirst 16 = .ok (.iadd, 1) := by decide +kernel
theorem dX1_swapFirst_17 : decode cX1_swapFirst 17 = .ok (.istore_n 3, 1) := by decide +kernel
theorem dX1_swapFirst_18 : decode cX1_swapFirst 18 = .ok (.iload_n 3, 1) := by decide +kernel
theorem dX1_swapFirst_19 : decode cX1_swapFirst 19 = .ok (.iload_n 1, 1) := by decide +kernel
theorem dX1_swapFirst_20 : decode cX1_swapFirst 20 = .ok (.if_icmp .ge 29, 3) := by decide +kernel
theorem dX1_swapFirst_23 : decode cX1_swapFirst 23 = .ok (.aload_n 0, 1) := by decide +kernel
theorem dX1_swapFirst_24 : decode cX1_swapFirst 24 = .ok (.iload_n 2, 1) := by decide +kernel
theorem dX1_swapFirst_25 : decode cX1_swapFirst 25 = .ok (.iload_n 3, 1) := by decide +kernel
theorem dX1_swapFirst_26 : decode cX1_swapFirst 26 = .ok (.invokestatic 24, 3) := by decide +kernel
theorem dX1_swapFirst_29 : decode cX1_swapFirst 29 = .ok (.ifCond .eq 14, 3) := by decide +kernel
theorem dX1_swapFirst_32 : decode cX1_swapFirst 32 = .ok (.aload_n 0, 1) := by decide +kernel
theorem dX1_swapFirst_33 : decode cX1_swapFirst 33 = .ok (.iload_n 2, 1) := by decide +kernel
theorem dX1_swapFirst_34 : decode cX1_swapFirst 34 = .ok (.iload_n 3, 1) := by decide +kernel
theorem dX1_swapFirst_35 : decode cX1_swapFirst 35 = .ok (.invokestatic 30, 3) := by decide +kernel
theorem dX1_swapFirst_38 : decode cX1_swapFirst 38 = .ok (.ifCond .eq 5, 3) := by decide +kernel
theorem dX1_swapFirst_41 : decode cX1_swapFirst 41 = .ok (.iconst 1, 1) := by decide +kernel
theorem dX1_swapFirst_42 : decode cX1_swapFirst 42 = .ok (.ireturn, 1) := by decide +kernel
theorem dX1_swapFirst_43 : decode cX1_swapFirst 43 = .ok (.iinc 3 1, 3) := by decide +kernel
theorem dX1_swapFirst_46 : decode cX1_swapFirst 46 = .ok (.goto (-28), 3) := by decide +kernel
theorem dX1_swapFirst_49 : decode cX1_swapFirst 49 = .ok (.iinc 2 1, 3) := by decide +kernel
theorem dX1_swapFirst_52 : decode cX1_swapFirst 52 = .ok (.goto (-43), 3) := by decide +kernel
theorem dX1_swapFirst_55 : decode cX1_swapFirst 55 = .ok (.iconst 0, 1) := by decide +kernel
theorem dX1_swapFirst_56 : decode cX1_swapFirst 56 = .ok (.ireturn, 1) := by decide +kernel
theorem dX1_ownerOf_0 : decode cX1_ownerOf 0 = .ok (.aload_n 0, 1) := by decide +kernel
theorem dX1_ownerOf_1 : decode cX1_ownerOf 1 = .ok (.getfield 17, 3) := by decide +kernel
theorem dX1_ownerOf_4 : decode cX1_ownerOf 4 = .ok (.iload_n 1, 1) := by decide +kernel
theorem dX1_ownerOf_5 : decode cX1_ownerOf 5 = .ok (.iconst 2, 1) := by decide +kernel
theorem dX1_ownerOf_6 : decode cX1_ownerOf 6 = .ok (.idiv, 1) := by decide +kernel
theorem dX1_ownerOf_7 : decode cX1_ownerOf 7 = .ok (.aaload, 1) := by decide +kernel
theorem dX1_ownerOf_8 : decode cX1_ownerOf 8 = .ok (.iload_n 1, 1) := by decide +kernel
theorem dX1_ownerOf_9 : decode cX1_ownerOf 9 = .ok (.iconst 2, 1) := by decide +kernel
theorem dX1_ownerOf_10 : decode cX1_ownerOf 10 = .ok (.irem, 1) := by decide +kernel
theorem dX1_ownerOf_11 : decode cX1_ownerOf 11 = .ok (.iaload, 1) := by decide +kernel
theorem dX1_ownerOf_12 : decode cX1_ownerOf 12 = .ok (.ireturn, 1) := by decide +kernel
theorem dX1_maySwap_0 : decode cX1_maySwap 0 = .ok (.aload_n 0, 1) := by decide +kernel
theorem dX1_maySwap_1 : decode cX1_maySwap 1 = .ok (.iload_n 1, 1) := by decide +kernel
theorem dX1_maySwap_2 : decode cX1_maySwap 2 = .ok (.invokestatic 33, 3) := by decide +kernel
theorem dX1_maySwap_5 : decode cX1_maySwap 5 = .ok (.istore_n 3, 1) := by decide +kernel
theorem dX1_maySwap_6 : decode cX1_maySwap 6 = .ok (.aload_n 0, 1) := by decide +kernel
theorem dX1_maySwap_7 : decode cX1_maySwap 7 = .ok (.iload_n 2, 1) := by decide +kernel
theorem dX1_maySwap_8 : decode cX1_maySwap 8 = .ok (.invokestatic 33, 3) := by decide +kernel
theorem dX1_maySwap_11 : decode cX1_maySwap 11 = .ok (.istore 4, 2) := by decide +kernel
theorem dX1_maySwap_13 : decode cX1_maySwap 13 = .ok (.iload_n 1, 1) := by decide +kernel
theorem dX1_maySwap_14 : decode cX1_maySwap 14 = .ok (.iconst 2, 1) := by decide +kernel
theorem dX1_maySwap_15 : decode cX1_maySwap 15 = .ok (.idiv, 1) := by decide +kernel
theorem dX1_maySwap_16 : decode cX1_maySwap 16 = .ok (.iload_n 2, 1) := by decide +kernel
theorem dX1_maySwap_17 : decode cX1_maySwap 17 = .ok (.iconst 2, 1) := by decide +kernel
theorem dX1_maySwap_18 : decode cX1_maySwap 18 = .ok (.idiv, 1) := by decide +kernel
theorem dX1_maySwap_19 : decode cX1_maySwap 19 = .ok (.if_icmp .eq 56, 3) := by decide +kernel
theorem dX1_maySwap_22 : decode cX1_maySwap 22 = .ok (.aload_n 0, 1) := by decide +kernel
theorem dX1_maySwap_23 : decode cX1_maySwap 23 = .ok (.iload_n 1, 1) := by decide +kernel
theorem dX1_maySwap_24 : decode cX1_maySwap 24 = .ok (.iconst 2, 1) := by decide +kernel
theorem dX1_maySwap_25 : decode cX1_maySwap 25 = .ok (.idiv, 1) := by decide +kernel
theorem dX1_maySwap_26 : decode cX1_maySwap 26 = .ok (.invokevirtual 13, 3) := by decide +kernel
theorem dX1_maySwap_29 : decode cX1_maySwap 29 = .ok (.ifCond .ne 46, 3) := by decide +kernel
theorem dX1_maySwap_32 : decode cX1_maySwap 32 = .ok (.aload_n 0, 1) := by decide +kernel
theorem dX1_maySwap_33 : decode cX1_maySwap 33 = .ok (.iload_n 2, 1) := by decide +kernel
theorem dX1_maySwap_34 : decode cX1_maySwap 34 = .ok (.iconst 2, 1) := by decide +kernel
theorem dX1_maySwap_35 : decode cX1_maySwap 35 = .ok (.idiv, 1) := by decide +kernel
theorem dX1_maySwap_36 : decode cX1_maySwap 36 = .ok (.invokevirtual 13, 3) := by decide +kernel
theorem dX1_maySwap_39 : decode cX1_maySwap 39 = .ok (.ifCond .ne 36, 3) := by decide +kernel
theorem dX1_maySwap_42 : decode cX1_maySwap 42 = .ok (.iload_n 3, 1) := by decide +kernel
theorem dX1_maySwap_43 : decode cX1_maySwap 43 = .ok (.iload 4, 2) := by decide +kernel
theorem dX1_maySwap_45 : decode cX1_maySwap 45 = .ok (.if_icmp .eq 30, 3) := by decide +kernel
theorem dX1_maySwap_48 : decode cX1_maySwap 48 = .ok (.aload_n 0, 1) := by decide +kernel
theorem dX1_maySwap_49 : decode cX1_maySwap 49 = .ok (.iload_n 1, 1) := by decide +kernel
theorem dX1_maySwap_50 : decode cX1_maySwap 50 = .ok (.iconst 1, 1) := by decide +kernel
theorem dX1_maySwap_51 : decode cX1_maySwap 51 = .ok (.ixor, 1) := by decide +kernel
theorem dX1_maySwap_52 : decode cX1_maySwap 52 = .ok (.invokestatic 33, 3) := by decide +kernel
theorem dX1_maySwap_55 : decode cX1_maySwap 55 = .ok (.iload 4, 2) := by decide +kernel
theorem dX1_maySwap_57 : decode cX1_maySwap 57 = .ok (.if_icmp .eq 18, 3) := by decide +kernel
theorem dX1_maySwap_60 : decode cX1_maySwap 60 = .ok (.aload_n 0, 1) := by decide +kernel
theorem dX1_maySwap_61 : decode cX1_maySwap 61 = .ok (.iload_n 2, 1) := by decide +kernel
theorem dX1_maySwap_62 : decode cX1_maySwap 62 = .ok (.iconst 1, 1) := by decide +kernel
theorem dX1_maySwap_63 : decode cX1_maySwap 63 = .ok (.ixor, 1) := by decide +kernel
theorem dX1_maySwap_64 : decode cX1_maySwap 64 = .ok (.invokestatic 33, 3) := by decide +kernel
theorem dX1_maySwap_67 : decode cX1_maySwap 67 = .ok (.iload_n 3, 1) := by decide +kernel
theorem dX1_maySwap_68 : decode cX1_maySwap 68 = .ok (.if_icmp .eq 7, 3) := by decide +kernel
theorem dX1_maySwap_71 : decode cX1_maySwap 71 = .ok (.iconst 1, 1) := by decide +kernel
theorem dX1_maySwap_72 : decode cX1_maySwap 72 = .ok (.goto 4, 3) := by decide +kernel
theorem dX1_maySwap_75 : decode cX1_maySwap 75 = .ok (.iconst 0, 1) := by decide +kernel
theorem dX1_maySwap_76 : decode cX1_maySwap 76 = .ok (.ireturn, 1) := by decide +kernel
theorem dX1_isSwapped_0 : decode cX1_isSwapped 0 = .ok (.aload_n 0, 1) := by decide +kernel
theorem dX1_isSwapped_1 : decode cX1_isSwapped 1 = .ok (.iload_n 1, 1) := by decide +kernel
theorem dX1_isSwapped_2 : decode cX1_isSwapped 2 = .ok (.invokestatic 33, 3) := by decide +kernel
theorem dX1_isSwapped_5 : decode cX1_isSwapped 5 = .ok (.istore_n 3, 1) := by decide +kernel
theorem dX1_isSwapped_6 : decode cX1_isSwapped 6 = .ok (.aload_n 0, 1) := by decide +kernel
theorem dX1_isSwapped_7 : decode cX1_isSwapped 7 = .ok (.iload_n 2, 1) := by decide +kernel
theorem dX1_isSwapped_8 : decode cX1_isSwapped 8 = .ok (.invokestatic 33, 3) := by decide +kernel
theorem dX1_isSwapped_11 : decode cX1_isSwapped 11 = .ok (.istore 4, 2) := by decide +kernel
theorem dX1_isSwapped_13 : decode cX1_isSwapped 13 = .ok (.aload_n 0, 1) := by decide +kernel
theorem dX1_isSwapped_14 : decode cX1_isSwapped 14 = .ok (.iload_n 3, 1) := by decide +kernel
theorem dX1_isSwapped_15 : decode cX1_isSwapped 15 = .ok (.invokestatic 37, 3) := by decide +kernel
theorem dX1_isSwapped_18 : decode cX1_isSwapped 18 = .ok (.istore 5, 2) := by decide +kernel
theorem dX1_isSwapped_20 : decode cX1_isSwapped 20 = .ok (.aload_n 0, 1) := by decide +kernel
theorem dX1_isSwapped_21 : decode cX1_isSwapped 21 = .ok (.iload 4, 2) := by decide +kernel
theorem dX1_isSwapped_23 : decode cX1_isSwapped 23 = .ok (.invokestatic 37, 3) := by decide +kernel
theorem dX1_isSwapped_26 : decode cX1_isSwapped 26 = .ok (.istore 6, 2) := by decide +kernel
theorem dX1_isSwapped_28 : decode cX1_isSwapped 28 = .ok (.aload_n 0, 1) := by decide +kernel
theorem dX1_isSwapped_29 : decode cX1_isSwapped 29 = .ok (.iload_n 1, 1) := by decide +kernel
theorem dX1_isSwapped_30 : decode cX1_isSwapped 30 = .ok (.iload_n 2, 1) := by decide +kernel
theorem dX1_isSwapped_31 : decode cX1_isSwapped 31 = .ok (.invokestatic 40, 3) := by decide +kernel
theorem dX1_isSwapped_34 : decode cX1_isSwapped 34 = .ok (.aload_n 0, 1) := by decide +kernel
theorem dX1_isSwapped_35 : decode cX1_isSwapped 35 = .ok (.iload_n 3, 1) := by decide +kernel
theorem dX1_isSwapped_36 : decode cX1_isSwapped 36 = .ok (.invokestatic 37, 3) := by decide +kernel
theorem dX1_isSwapped_39 : decode cX1_isSwapped 39 = .ok (.iload 5, 2) := by decide +kernel
theorem dX1_isSwapped_41 : decode cX1_isSwapped 41 = .ok (.if_icmp .le 16, 3) := by decide +kernel
theorem dX1_isSwapped_44 : decode cX1_isSwapped 44 = .ok (.aload_n 0, 1) := by decide +kernel
theorem dX1_isSwapped_45 : decode cX1_isSwapped 45 = .ok (.iload 4, 2) := by decide +kernel
theorem dX1_isSwapped_47 : decode cX1_isSwapped 47 = .ok (.invokestatic 37, 3) := by decide +kernel
theorem dX1_isSwapped_50 : decode cX1_isSwapped 50 = .ok (.iload 6, 2) := by decide +kernel
theorem dX1_isSwapped_52 : decode cX1_isSwapped 52 = .ok (.if_icmp .le 5, 3) := by decide +kernel
theorem dX1_isSwapped_55 : decode cX1_isSwapped 55 = .ok (.iconst 1, 1) := by decide +kernel
theorem dX1_isSwapped_56 : decode cX1_isSwapped 56 = .ok (.ireturn, 1) := by decide +kernel
theorem dX1_isSwapped_57 : decode cX1_isSwapped 57 = .ok (.aload_n 0, 1) := by decide +kernel
theorem dX1_isSwapped_58 : decode cX1_isSwapped 58 = .ok (.iload_n 1, 1) := by decide +kernel
theorem dX1_isSwapped_59 : decode cX1_isSwapped 59 = .ok (.iload_n 2, 1) := by decide +kernel
theorem dX1_isSwapped_60 : decode cX1_isSwapped 60 = .ok (.invokestatic 40, 3) := by decide +kernel
theorem dX1_isSwapped_63 : decode cX1_isSwapped 63 = .ok (.iconst 0, 1) := by decide +kernel
theorem dX1_isSwapped_64 : decode cX1_isSwapped 64 = .ok (.ireturn, 1) := by decide +kernel
theorem dX1_changeOwners_0 : decode cX1_changeOwners 0 = .ok (.aload_n 0, 1) := by decide +kernel
theorem dX1_changeOwners_1 : decode cX1_changeOwners 1 = .ok (.iload_n 1, 1) := by decide +kernel
theorem dX1_changeOwners_2 : decode cX1_changeOwners 2 = .ok (.invokestatic 33, 3) := by decide +kernel
theorem dX1_changeOwners_5 : decode cX1_changeOwners 5 = .ok (.istore_n 3, 1) := by decide +kernel
theorem dX1_changeOwners_6 : decode cX1_changeOwners 6 = .ok (.aload_n 0, 1) := by decide +kernel
theorem dX1_changeOwners_7 : decode cX1_changeOwners 7 = .ok (.getfield 17, 3) := by decide +kernel
theorem dX1_changeOwners_10 : decode cX1_changeOwners 10 = .ok (.iload_n 1, 1) := by decide +kernel
theorem dX1_changeOwners_11 : decode cX1_changeOwners 11 = .ok (.iconst 2, 1) := by decide +kernel
theorem dX1_changeOwners_12 : decode cX1_changeOwners 12 = .ok (.idiv, 1) := by decide +kernel
theorem dX1_changeOwners_13 : decode cX1_changeOwners 13 = .ok (.aaload, 1) := by decide +kernel
theorem dX1_changeOwners_14 : decode cX1_changeOwners 14 = .ok (.iload_n 1, 1) := by decide +kernel
theorem dX1_changeOwners_15 : decode cX1_changeOwners 15 = .ok (.iconst 2, 1) := by decide +kernel
theorem dX1_changeOwners_16 : decode cX1_changeOwners 16 = .ok (.irem, 1) := by decide +kernel
theorem dX1_changeOwners_17 : decode cX1_changeOwners 17 = .ok (.aload_n 0, 1) := by decide +kernel
theorem dX1_changeOwners_18 : decode cX1_changeOwners 18 = .ok (.iload_n 2, 1) := by decide +kernel
theorem dX1_changeOwners_19 : decode cX1_changeOwners 19 = .ok (.invokestatic 33, 3) := by decide +kernel
theorem dX1_changeOwners_22 : decode cX1_changeOwners 22 = .ok (.iastore, 1) := by decide +kernel
theorem dX1_changeOwners_23 : decode cX1_changeOwners 23 = .ok (.aload_n 0, 1) := by decide +kernel
theorem dX1_changeOwners_24 : decode cX1_changeOwners 24 = .ok (.getfield 17, 3) := by decide +kernel
theorem dX1_changeOwners_27 : decode cX1_changeOwners 27 = .ok (.iload_n 2, 1) := by decide +kernel
theorem dX1_changeOwners_28 : decode cX1_changeOwners 28 = .ok (.iconst 2, 1) := by decide +kernel
theorem dX1_changeOwners_29 : decode cX1_changeOwners 29 = .ok (.idiv, 1) := by decide +kernel
theorem dX1_changeOwners_30 : decode cX1_changeOwners 30 = .ok (.aaload, 1) := by decide +kernel
theorem dX1_changeOwners_31 : decode cX1_changeOwners 31 = .ok (.iload_n 2, 1) := by decide +kernel
theorem dX1_changeOwners_32 : decode cX1_changeOwners 32 = .ok (.iconst 2, 1) := by decide +kernel
theorem dX1_changeOwners_33 : decode cX1_changeOwners 33 = .ok (.irem, 1) := by decide +kernel
theorem dX1_changeOwners_34 : decode cX1_changeOwners 34 = .ok (.iload_n 3, 1) := by decide +kernel
theorem dX1_changeOwners_35 : decode cX1_changeOwners 35 = .ok (.iastore, 1) := by decide +kernel
theorem dX1_changeOwners_36 : decode cX1_changeOwners 36 = .ok (.return_, 1) := by decide +kernel
theorem dX2_init_0 : decode cX2_init 0 = .ok (.aload_n 0, 1) := by decide +kernel
theorem dX2_init_1 : decode cX2_init 1 = .ok (.invokespecial 3, 3) := by decide +kernel
theorem dX2_init_4 : decode cX2_init 4 = .ok (.aload_n 0, 1) := by decide +kernel
theorem dX2_init_5 : decode cX2_init 5 = .ok (.iconst 0, 1) := by decide +kernel
theorem dX2_init_6 : decode cX2_init 6 = .ok (.putfield 9, 3) := by decide +kernel
theorem dX2_init_9 : decode cX2_init 9 = .ok (.aload_n 0, 1) := by decide +kernel
theorem dX2_init_10 : decode cX2_init 10 = .ok (.iconst 0, 1) := by decide +kernel
theorem dX2_init_11 : decode cX2_init 11 = .ok (.putfield 15, 3) := by decide +kernel
theorem dX2_init_14 : decode cX2_init 14 = .ok (.aload_n 0, 1) := by decide +kernel
theorem dX2_init_15 : decode cX2_init 15 = .ok (.iconst 0, 1) := by decide +kernel
theorem dX2_init_16 : decode cX2_init 16 = .ok (.putfield 18, 3) := by decide +kernel
theorem dX2_init_19 : decode cX2_init 19 = .ok (.return_, 1) := by decide +kernel
theorem dX2_countAll_0 : decode cX2_countAll 0 = .ok (.iconst 0, 1) := by decide +kernel
theorem dX2_countAll_1 : decode cX2_countAll 1 = .ok (.istore_n 2, 1) := by decide +kernel
theorem dX2_countAll_2 : decode cX2_countAll 2 = .ok (.iconst 0, 1) := by decide +kernel
theorem dX2_countAll_3 : decode cX2_countAll 3 = .ok (.istore_n 3, 1) := by decide +kernel
theorem dX2_countAll_4 : decode cX2_countAll 4 = .ok (.iconst 0, 1) := by decide +kernel
theorem dX2_countAll_5 : decode cX2_countAll 5 = .ok (.istore 4, 2) := by decide +kernel
theorem dX2_countAll_7 : decode cX2_countAll 7 = .ok (.iload 4, 2) := by decide +kernel
theorem dX2_countAll_9 : decode cX2_countAll 9 = .ok (.aload_n 1, 1) := by decide +kernel
theorem dX2_countAll_10 : decode cX2_countAll 10 = .ok (.getfield 21, 3) := by decide +kernel
theorem dX2_countAll_13 : decode cX2_countAll 13 = .ok (.if_icmp .ge 35, 3) := by decide +kernel
theorem dX2_countAll_16 : decode cX2_countAll 16 = .ok (.iload_n 3, 1) := by decide +kernel
theorem dX2_countAll_17 : decode cX2_countAll 17 = .ok (.iload 4, 2) := by decide +kernel
theorem dX2_countAll_19 : decode cX2_countAll 19 = .ok (.ishr, 1) := by decide +kernel
theorem dX2_countAll_20 : decode cX2_countAll 20 = .ok (.iconst 1, 1) := by decide +kernel
theorem dX2_countAll_21 : decode cX2_countAll 21 = .ok (.iand, 1) := by decide +kernel
theorem dX2_countAll_22 : decode cX2_countAll 22 = .ok (.ifCond .ne 20, 3) := by decide +kernel
theorem dX2_countAll_25 : decode cX2_countAll 25 = .ok (.aload_n 0, 1) := by decide +kernel
theorem dX2_countAll_26 : decode cX2_countAll 26 = .ok (.aload_n 1, 1) := by decide +kernel
theorem dX2_countAll_27 : decode cX2_countAll 27 = .ok (.iload 4, 2) := by decide +kernel
theorem dX2_countAll_29 : decode cX2_countAll 29 = .ok (.invokevirtual 26, 3) := by decide +kernel
theorem dX2_countAll_32 : decode cX2_countAll 32 = .ok (.iload_n 3, 1) := by decide +kernel
theorem dX2_countAll_33 : decode cX2_countAll 33 = .ok (.aload_n 0, 1) := by decide +kernel
theorem dX2_countAll_34 : decode cX2_countAll 34 = .ok (.getfield 9, 3) := by decide +kernel
theorem dX2_countAll_37 : decode cX2_countAll 37 = .ok (.ior, 1) := by decide +kernel
theorem dX2_countAll_38 : decode cX2_countAll 38 = .ok (.istore_n 3, 1) := by decide +kernel
theorem dX2_countAll_39 : decode cX2_countAll 39 = .ok (.iinc 2 1, 3) := by decide +kernel
theorem dX2_countAll_42 : decode cX2_countAll 42 = .ok (.iinc 4 1, 3) := by decide +kernel
theorem dX2_countAll_45 : decode cX2_countAll 45 = .ok (.goto (-38), 3) := by decide +kernel
theorem dX2_countAll_48 : decode cX2_countAll 48 = .ok (.iload_n 2, 1) := by decide +kernel
theorem dX2_countAll_49 : decode cX2_countAll 49 = .ok (.ireturn, 1) := by decide +kernel
theorem dX2_trace_0 : decode cX2_trace 0 = .ok (.aload_n 0, 1) := by decide +kernel
theorem dX2_trace_1 : decode cX2_trace 1 = .ok (.aload_n 1, 1) := by decide +kernel
theorem dX2_trace_2 : decode cX2_trace 2 = .ok (.iload_n 2, 1) := by decide +kernel
theorem dX2_trace_3 : decode cX2_trace 3 = .ok (.invokevirtual 26, 3) := by decide +kernel
theorem dX2_trace_6 : decode cX2_trace 6 = .ok (.aload_n 0, 1) := by decide +kernel
theorem dX2_trace_7 : decode cX2_trace 7 = .ok (.iconst 0, 1) := by decide +kernel
theorem dX2_trace_8 : decode cX2_trace 8 = .ok (.putfield 15, 3) := by decide +kernel
theorem dX2_trace_11 : decode cX2_trace 11 = .ok (.iconst 0, 1) := by decide +kernel
theorem dX2_trace_12 : decode cX2_trace 12 = .ok (.istore_n 3, 1) := by decide +kernel
theorem dX2_trace_13 : decode cX2_trace 13 = .ok (.bipush 8, 2) := by decide +kernel
theorem dX2_trace_15 : decode cX2_trace 15 = .ok (.istore 4, 2) := by decide +kernel
theorem dX2_trace_17 : decode cX2_trace 17 = .ok (.iconst 0, 1) := by decide +kernel
theorem dX2_trace_18 : decode cX2_trace 18 = .ok (.istore 5, 2) := by decide +kernel
theorem dX2_trace_20 : decode cX2_trace 20 = .ok (.iload 5, 2) := by decide +kernel
theorem dX2_trace_22 : decode cX2_trace 22 = .ok (.aload_n 1, 1) := by decide +kernel
theorem dX2_trace_23 : decode cX2_trace 23 = .ok (.getfield 21, 3) := by decide +kernel
theorem dX2_trace_26 : decode cX2_trace 26 = .ok (.if_icmp .ge 62, 3) := by decide +kernel
theorem dX2_trace_29 : decode cX2_trace 29 = .ok (.aload_n 0, 1) := by decide +kernel
theorem dX2_trace_30 : decode cX2_trace 30 = .ok (.getfield 9, 3) := by decide +kernel
theorem dX2_trace_33 : decode cX2_trace 33 = .ok (.iload 5, 2) := by decide +kernel
theorem dX2_trace_35 : decode cX2_trace 35 = .ok (.ishr, 1) := by decide +kernel
theorem dX2_trace_36 : decode cX2_trace 36 = .ok (.iconst 1, 1) := by decide +kernel
theorem dX2_trace_37 : decode cX2_trace 37 = .ok (.iand, 1) := by decide +kernel
theorem dX2_trace_38 : decode cX2_trace 38 = .ok (.ifCond .eq 44, 3) := by decide +kernel
theorem dX2_trace_41 : decode cX2_trace 41 = .ok (.aload_n 1, 1) := by decide +kernel
theorem dX2_trace_42 : decode cX2_trace 42 = .ok (.iload 5, 2) := by decide +kernel
theorem dX2_trace_44 : decode cX2_trace 44 = .ok (.invokestatic 30, 3) := by decide +kernel
theorem dX2_trace_47 : decode cX2_trace 47 = .ok (.istore 6, 2) := by decide +kernel
theorem dX2_trace_49 : decode cX2_trace 49 = .ok (.aload_n 0, 1) := by decide +kernel
theorem dX2_trace_50 : decode cX2_trace 50 = .ok (.dup, 1) := by decide +kernel
theorem dX2_trace_51 : decode cX2_trace 51 = .ok (.getfield 15, 3) := by decide +kernel
theorem dX2_trace_54 : decode cX2_trace 54 = .ok (.iload 6, 2) := by decide +kernel
theorem dX2_trace_56 : decode cX2_trace 56 = .ok (.ior, 1) := by decide +kernel
theorem dX2_trace_57 : decode cX2_trace 57 = .ok (.putfield 15, 3) := by decide +kernel
theorem dX2_trace_60 : decode cX2_trace 60 = .ok (.iload_n 3, 1) := by decide +kernel
theorem dX2_trace_61 : decode cX2_trace 61 = .ok (.iload 6, 2) := by decide +kernel
theorem dX2_trace_63 : decode cX2_trace 63 = .ok (.invokestatic 34, 3) := by decide +kernel
theorem dX2_trace_66 : decode cX2_trace 66 = .ok (.invokestatic 40, 3) := by decide +kernel
theorem dX2_trace_69 : decode cX2_trace 69 = .ok (.istore_n 3, 1) := by decide +kernel
theorem dX2_trace_70 : decode cX2_trace 70 = .ok (.iload 4, 2) := by decide +kernel
theorem dX2_trace_72 : decode cX2_trace 72 = .ok (.iload 6, 2) := by decide +kernel
theorem dX2_trace_74 : decode cX2_trace 74 = .ok (.invokestatic 34, 3) := by decide +kernel
theorem dX2_trace_77 : decode cX2_trace 77 = .ok (.invokestatic 46, 3) := by decide +kernel
theorem dX2_trace_80 : decode cX2_trace 80 = .ok (.istore 4, 2) := by decide +kernel
theorem dX2_trace_82 : decode cX2_trace 82 = .ok (.iinc 5 1, 3) := by decide +kernel
theorem dX2_trace_85 : decode cX2_trace 85 = .ok (.goto (-65), 3) := by decide +kernel
theorem dX2_trace_88 : decode cX2_trace 88 = .ok (.aload_n 0, 1) := by decide +kernel
theorem dX2_trace_89 : decode cX2_trace 89 = .ok (.aload_n 0, 1) := by decide +kernel
theorem dX2_trace_90 : decode cX2_trace 90 = .ok (.iload 4, 2) := by decide +kernel
theorem dX2_trace_92 : decode cX2_trace 92 = .ok (.iload_n 3, 1) := by decide +kernel
theorem dX2_trace_93 : decode cX2_trace 93 = .ok (.invokevirtual 49, 3) := by decide +kernel
theorem dX2_trace_96 : decode cX2_trace 96 = .ok (.putfield 18, 3) := by decide +kernel
theorem dX2_trace_99 : decode cX2_trace 99 = .ok (.return_, 1) := by decide +kernel
theorem dX2_minutesAtDoor_0 : decode cX2_minutesAtDoor 0 = .ok (.aload_n 0, 1) := by decide +kernel
theorem dX2_minutesAtDoor_1 : decode cX2_minutesAtDoor 1 = .ok (.getfield 9, 3) := by decide +kernel
theorem dX2_minutesAtDoor_4 : decode cX2_minutesAtDoor 4 = .ok (.invokestatic 34, 3) := by decide +kernel
theorem dX2_minutesAtDoor_7 : decode cX2_minutesAtDoor 7 = .ok (.istore_n 1, 1) := by decide +kernel
theorem dX2_minutesAtDoor_8 : decode cX2_minutesAtDoor 8 = .ok (.aload_n 0, 1) := by decide +kernel
theorem dX2_minutesAtDoor_9 : decode cX2_minutesAtDoor 9 = .ok (.getfield 18, 3) := by decide +kernel
theorem dX2_minutesAtDoor_12 : decode cX2_minutesAtDoor 12 = .ok (.ifCond .ne 9, 3) := by decide +kernel
theorem dX2_minutesAtDoor_15 : decode cX2_minutesAtDoor 15 = .ok (.iload_n 1, 1) := by decide +kernel
theorem dX2_minutesAtDoor_16 : decode cX2_minutesAtDoor 16 = .ok (.iconst 1, 1) := by decide +kernel
theorem dX2_minutesAtDoor_17 : decode cX2_minutesAtDoor 17 = .ok (.iadd, 1) := by decide +kernel
theorem dX2_minutesAtDoor_18 : decode cX2_minutesAtDoor 18 = .ok (.iconst 2, 1) := by decide +kernel
theorem dX2_minutesAtDoor_19 : decode cX2_minutesAtDoor 19 = .ok (.idiv, 1) := by decide +kernel
theorem dX2_minutesAtDoor_20 : decode cX2_minutesAtDoor 20 = .ok (.ireturn, 1) := by decide +kernel
theorem dX2_minutesAtDoor_21 : decode cX2_minutesAtDoor 21 = .ok (.aload_n 0, 1) := by decide +kernel
theorem dX2_minutesAtDoor_22 : decode cX2_minutesAtDoor 22 = .ok (.getfield 18, 3) := by decide +kernel
theorem dX2_minutesAtDoor_25 : decode cX2_minutesAtDoor 25 = .ok (.iconst 1, 1) := by decide +kernel
theorem dX2_minutesAtDoor_26 : decode cX2_minutesAtDoor 26 = .ok (.if_icmp .ne 7, 3) := by decide +kernel
theorem dX2_minutesAtDoor_29 : decode cX2_minutesAtDoor 29 = .ok (.iload_n 1, 1) := by decide +kernel
theorem dX2_minutesAtDoor_30 : decode cX2_minutesAtDoor 30 = .ok (.goto 12, 3) := by decide +kernel
theorem dX2_minutesAtDoor_33 : decode cX2_minutesAtDoor 33 = .ok (.iload_n 1, 1) := by decide +kernel
theorem dX2_minutesAtDoor_34 : decode cX2_minutesAtDoor 34 = .ok (.aload_n 0, 1) := by decide +kernel
theorem dX2_minutesAtDoor_35 : decode cX2_minutesAtDoor 35 = .ok (.getfield 15, 3) := by decide +kernel
theorem dX2_minutesAtDoor_38 : decode cX2_minutesAtDoor 38 = .ok (.invokestatic 34, 3) := by decide +kernel
theorem dX2_minutesAtDoor_41 : decode cX2_minutesAtDoor 41 = .ok (.iadd, 1) := by decide +kernel
theorem dX2_minutesAtDoor_42 : decode cX2_minutesAtDoor 42 = .ok (.ireturn, 1) := by decide +kernel
theorem dX2_kindBy_0 : decode cX2_kindBy 0 = .ok (.aload_n 0, 1) := by decide +kernel
theorem dX2_kindBy_1 : decode cX2_kindBy 1 = .ok (.getfield 9, 3) := by decide +kernel
theorem dX2_kindBy_4 : decode cX2_kindBy 4 = .ok (.invokestatic 34, 3) := by decide +kernel
theorem dX2_kindBy_7 : decode cX2_kindBy 7 = .ok (.istore_n 3, 1) := by decide +kernel
theorem dX2_kindBy_8 : decode cX2_kindBy 8 = .ok (.aload_n 0, 1) := by decide +kernel
theorem dX2_kindBy_9 : decode cX2_kindBy 9 = .ok (.getfield 15, 3) := by decide +kernel
theorem dX2_kindBy_12 : decode cX2_kindBy 12 = .ok (.invokestatic 34, 3) := by decide +kernel
theorem dX2_kindBy_15 : decode cX2_kindBy 15 = .ok (.istore 4, 2) := by decide +kernel
theorem dX2_kindBy_17 : decode cX2_kindBy 17 = .ok (.iload 4, 2) := by decide +kernel
theorem dX2_kindBy_19 : decode cX2_kindBy 19 = .ok (.iload_n 3, 1) := by decide +kernel
theorem dX2_kindBy_20 : decode cX2_kindBy 20 = .ok (.iconst 1, 1) := by decide +kernel
theorem dX2_kindBy_21 : decode cX2_kindBy 21 = .ok (.isub, 1) := by decide +kernel
theorem dX2_kindBy_22 : decode cX2_kindBy 22 = .ok (.if_icmp .ne 10, 3) := by decide +kernel
theorem dX2_kindBy_25 : decode cX2_kindBy 25 = .ok (.iload_n 2, 1) := by decide +kernel
theorem dX2_kindBy_26 : decode cX2_kindBy 26 = .ok (.iconst 2, 1) := by decide +kernel
theorem dX2_kindBy_27 : decode cX2_kindBy 27 = .ok (.if_icmp .gt 5, 3) := by decide +kernel
theorem dX2_kindBy_30 : decode cX2_kindBy 30 = .ok (.iconst 0, 1) := by decide +kernel
theorem dX2_kindBy_31 : decode cX2_kindBy 31 = .ok (.ireturn, 1) := by decide +kernel
theorem dX2_kindBy_32 : decode cX2_kindBy 32 = .ok (.iload_n 3, 1) := by decide +kernel
theorem dX2_kindBy_33 : decode cX2_kindBy 33 = .ok (.iconst 2, 1) := by decide +kernel
theorem dX2_kindBy_34 : decode cX2_kindBy 34 = .ok (.if_icmp .le 23, 3) := by decide +kernel
theorem dX2_kindBy_37 : decode cX2_kindBy 37 = .ok (.iload 4, 2) := by decide +kernel
theorem dX2_kindBy_39 : decode cX2_kindBy 39 = .ok (.iload_n 3, 1) := by decide +kernel
theorem dX2_kindBy_40 : decode cX2_kindBy 40 = .ok (.if_icmp .ne 17, 3) := by decide +kernel
theorem dX2_kindBy_43 : decode cX2_kindBy 43 = .ok (.iload_n 1, 1) := by decide +kernel
theorem dX2_kindBy_44 : decode cX2_kindBy 44 = .ok (.iconst 2, 1) := by decide +kernel
theorem dX2_kindBy_45 : decode cX2_kindBy 45 = .ok (.if_icmp .ne 12, 3) := by decide +kernel
theorem dX2_kindBy_48 : decode cX2_kindBy 48 = .ok (.iload_n 2, 1) := by decide +kernel
theorem dX2_kindBy_49 : decode cX2_kindBy 49 = .ok (.iconst 2, 1) := by decide +kernel
theorem dX2_kindBy_50 : decode cX2_kindBy 50 = .ok (.if_icmp .ne 7, 3) := by decide +kernel
theorem dX2_kindBy_53 : decode cX2_kindBy 53 = .ok (.iconst 1, 1) := by decide +kernel
theorem dX2_kindBy_54 : decode cX2_kindBy 54 = .ok (.goto 4, 3) := by decide +kernel
theorem dX2_kindBy_57 : decode cX2_kindBy 57 = .ok (.iconst 2, 1) := by decide +kernel
theorem dX2_kindBy_58 : decode cX2_kindBy 58 = .ok (.ireturn, 1) := by decide +kernel
theorem dX2_spread_0 : decode cX2_spread 0 = .ok (.aload_n 0, 1) := by decide +kernel
theorem dX2_spread_1 : decode cX2_spread 1 = .ok (.iconst 1, 1) := by decide +kernel
theorem dX2_spread_2 : decode cX2_spread 2 = .ok (.iload_n 2, 1) := by decide +kernel
theorem dX2_spread_3 : decode cX2_spread 3 = .ok (.ishl, 1) := by decide +kernel
theorem dX2_spread_4 : decode cX2_spread 4 = .ok (.putfield 9, 3) := by decide +kernel
theorem dX2_spread_7 : decode cX2_spread 7 = .ok (.iconst 0, 1) := by decide +kernel
theorem dX2_spread_8 : decode cX2_spread 8 = .ok (.istore_n 3, 1) := by decide +kernel
theorem dX2_spread_9 : decode cX2_spread 9 = .ok (.iload_n 3, 1) := by decide +kernel
theorem dX2_spread_10 : decode cX2_spread 10 = .ok (.aload_n 1, 1) := by decide +kernel
theorem dX2_spread_11 : decode cX2_spread 11 = .ok (.getfield 52, 3) := by decide +kernel
theorem dX2_spread_14 : decode cX2_spread 14 = .ok (.if_icmp .ge 65, 3) := by decide +kernel
theorem dX2_spread_17 : decode cX2_spread 17 = .ok (.iconst 0, 1) := by decide +kernel
theorem dX2_spread_18 : decode cX2_spread 18 = .ok (.istore 4, 2) := by decide +kernel
theorem dX2_spread_20 : decode cX2_spread 20 = .ok (.iload 4, 2) := by decide +kernel
theorem dX2_spread_22 : decode cX2_spread 22 = .ok (.aload_n 1, 1) := by decide +kernel
theorem dX2_spread_23 : decode cX2_spread 23 = .ok (.getfield 52, 3) := by decide +kernel
theorem dX2_spread_26 : decode cX2_spread 26 = .ok (.if_icmp .ge 47, 3) := by decide +kernel
theorem dX2_spread_29 : decode cX2_spread 29 = .ok (.aload_n 1, 1) := by decide +kernel
theorem dX2_spread_30 : decode cX2_spread 30 = .ok (.iload 4, 2) := by decide +kernel
theorem dX2_spread_32 : decode cX2_spread 32 = .ok (.invokevirtual 55, 3) := by decide +kernel
theorem dX2_spread_35 : decode cX2_spread 35 = .ok (.ifCond .ne 32, 3) := by decide +kernel
theorem dX2_spread_38 : decode cX2_spread 38 = .ok (.aload_n 0, 1) := by decide +kernel
theorem dX2_spread_39 : decode cX2_spread 39 = .ok (.getfield 9, 3) := by decide +kernel
theorem dX2_spread_42 : decode cX2_spread 42 = .ok (.aload_n 1, 1) := by decide +kernel
theorem dX2_spread_43 : decode cX2_spread 43 = .ok (.iload 4, 2) := by decide +kernel
theorem dX2_spread_45 : decode cX2_spread 45 = .ok (.invokevirtual 59, 3) := by decide +kernel
theorem dX2_spread_48 : decode cX2_spread 48 = .ok (.iand, 1) := by decide +kernel
theorem dX2_spread_49 : decode cX2_spread 49 = .ok (.ifCond .eq 18, 3) := by decide +kernel
theorem dX2_spread_52 : decode cX2_spread 52 = .ok (.aload_n 0, 1) := by decide +kernel
theorem dX2_spread_53 : decode cX2_spread 53 = .ok (.dup, 1) := by decide +kernel
theorem dX2_spread_54 : decode cX2_spread 54 = .ok (.getfield 9, 3) := by decide +kernel
theorem dX2_spread_57 : decode cX2_spread 57 = .ok (.aload_n 1, 1) := by decide +kernel
theorem dX2_spread_58 : decode cX2_spread 58 = .ok (.iload 4, 2) := by decide +kernel
theorem dX2_spread_60 : decode cX2_spread 60 = .ok (.invokevirtual 59, 3) := by decide +kernel
theorem dX2_spread_63 : decode cX2_spread 63 = .ok (.ior, 1) := by decide +kernel
theorem dX2_spread_64 : decode cX2_spread 64 = .ok (.putfield 9, 3) := by decide +kernel
theorem dX2_spread_67 : decode cX2_spread 67 = .ok (.iinc 4 1, 3) := by decide +kernel
theorem dX2_spread_70 : decode cX2_spread 70 = .ok (.goto (-50), 3) := by decide +kernel
theorem dX2_spread_73 : decode cX2_spread 73 = .ok (.iinc 3 1, 3) := by decide +kernel
theorem dX2_spread_76 : decode cX2_spread 76 = .ok (.goto (-67), 3) := by decide +kernel
theorem dX2_spread_79 : decode cX2_spread 79 = .ok (.return_, 1) := by decide +kernel
theorem dX2_wholeCoatsOf_0 : decode cX2_wholeCoatsOf 0 = .ok (.iconst 0, 1) := by decide +kernel
theorem dX2_wholeCoatsOf_1 : decode cX2_wholeCoatsOf 1 = .ok (.istore_n 2, 1) := by decide +kernel
theorem dX2_wholeCoatsOf_2 : decode cX2_wholeCoatsOf 2 = .ok (.iconst 0, 1) := by decide +kernel
theorem dX2_wholeCoatsOf_3 : decode cX2_wholeCoatsOf 3 = .ok (.istore_n 3, 1) := by decide +kernel
theorem dX2_wholeCoatsOf_4 : decode cX2_wholeCoatsOf 4 = .ok (.iload_n 3, 1) := by decide +kernel
theorem dX2_wholeCoatsOf_5 : decode cX2_wholeCoatsOf 5 = .ok (.aload_n 0, 1) := by decide +kernel
theorem dX2_wholeCoatsOf_6 : decode cX2_wholeCoatsOf 6 = .ok (.getfield 52, 3) := by decide +kernel
theorem dX2_wholeCoatsOf_9 : decode cX2_wholeCoatsOf 9 = .ok (.if_icmp .ge 35, 3) := by decide +kernel
theorem dX2_wholeCoatsOf_12 : decode cX2_wholeCoatsOf 12 = .ok (.aload_n 0, 1) := by decide +kernel
theorem dX2_wholeCoatsOf_13 : decode cX2_wholeCoatsOf 13 = .ok (.iload_n 3, 1) := by decide +kernel
theorem dX2_wholeCoatsOf_14 : decode cX2_wholeCoatsOf 14 = .ok (.invokevirtual 55, 3) := by decide +kernel
theorem dX2_wholeCoatsOf_17 : decode cX2_wholeCoatsOf 17 = .ok (.ifCond .ne 21, 3) := by decide +kernel
theorem dX2_wholeCoatsOf_20 : decode cX2_wholeCoatsOf 20 = .ok (.aload_n 0, 1) := by decide +kernel
theorem dX2_wholeCoatsOf_21 : decode cX2_wholeCoatsOf 21 = .ok (.iload_n 3, 1) := by decide +kernel
theorem dX2_wholeCoatsOf_22 : decode cX2_wholeCoatsOf 22 = .ok (.invokevirtual 59, 3) := by decide +kernel
theorem dX2_wholeCoatsOf_25 : decode cX2_wholeCoatsOf 25 = .ok (.iload_n 1, 1) := by decide +kernel
theorem dX2_wholeCoatsOf_26 : decode cX2_wholeCoatsOf 26 = .ok (.ishr, 1) := by decide +kernel
theorem dX2_wholeCoatsOf_27 : decode cX2_wholeCoatsOf 27 = .ok (.iconst 1, 1) := by decide +kernel
theorem dX2_wholeCoatsOf_28 : decode cX2_wholeCoatsOf 28 = .ok (.iand, 1) := by decide +kernel
theorem dX2_wholeCoatsOf_29 : decode cX2_wholeCoatsOf 29 = .ok (.ifCond .eq 9, 3) := by decide +kernel
theorem dX2_wholeCoatsOf_32 : decode cX2_wholeCoatsOf 32 = .ok (.iload_n 2, 1) := by decide +kernel
theorem dX2_wholeCoatsOf_33 : decode cX2_wholeCoatsOf 33 = .ok (.iconst 1, 1) := by decide +kernel
theorem dX2_wholeCoatsOf_34 : decode cX2_wholeCoatsOf 34 = .ok (.iload_n 3, 1) := by decide +kernel
theorem dX2_wholeCoatsOf_35 : decode cX2_wholeCoatsOf 35 = .ok (.ishl, 1) := by decide +kernel
theorem dX2_wholeCoatsOf_36 : decode cX2_wholeCoatsOf 36 = .ok (.ior, 1) := by decide +kernel
theorem dX2_wholeCoatsOf_37 : decode cX2_wholeCoatsOf 37 = .ok (.istore_n 2, 1) := by decide +kernel
theorem dX2_wholeCoatsOf_38 : decode cX2_wholeCoatsOf 38 = .ok (.iinc 3 1, 3) := by decide +kernel
theorem dX2_wholeCoatsOf_41 : decode cX2_wholeCoatsOf 41 = .ok (.goto (-37), 3) := by decide +kernel
theorem dX2_wholeCoatsOf_44 : decode cX2_wholeCoatsOf 44 = .ok (.iload_n 2, 1) := by decide +kernel
theorem dX2_wholeCoatsOf_45 : decode cX2_wholeCoatsOf 45 = .ok (.ireturn, 1) := by decide +kernel
theorem dX3_init_0 : decode cX3_init 0 = .ok (.aload_n 0, 1) := by decide +kernel
theorem dX3_init_1 : decode cX3_init 1 = .ok (.invokespecial 3, 3) := by decide +kernel
theorem dX3_init_4 : decode cX3_init 4 = .ok (.aload_n 0, 1) := by decide +kernel
theorem dX3_init_5 : decode cX3_init 5 = .ok (.sipush 256, 3) := by decide +kernel
theorem dX3_init_8 : decode cX3_init 8 = .ok (.newarray .boolean, 2) := by decide +kernel
theorem dX3_init_10 : decode cX3_init 10 = .ok (.putfield 9, 3) := by decide +kernel
theorem dX3_init_13 : decode cX3_init 13 = .ok (.aload_n 0, 1) := by decide +kernel
theorem dX3_init_14 : decode cX3_init 14 = .ok (.bipush 10, 2) := by decide +kernel
theorem dX3_init_16 : decode cX3_init 16 = .ok (.newarray .int, 2) := by decide +kernel
theorem dX3_init_18 : decode cX3_init 18 = .ok (.putfield 15, 3) := by decide +kernel
theorem dX3_init_21 : decode cX3_init 21 = .ok (.return_, 1) := by decide +kernel
theorem dX3_mostErrands_0 : decode cX3_mostErrands 0 = .ok (.aload_n 0, 1) := by decide +kernel
theorem dX3_mostErrands_1 : decode cX3_mostErrands 1 = .ok (.aload_n 1, 1) := by decide +kernel
theorem dX3_mostErrands_2 : decode cX3_mostErrands 2 = .ok (.invokevirtual 19, 3) := by decide +kernel
theorem dX3_mostErrands_5 : decode cX3_mostErrands 5 = .ok (.aload_n 0, 1) := by decide +kernel
theorem dX3_mostErrands_6 : decode cX3_mostErrands 6 = .ok (.aload_n 1, 1) := by decide +kernel
theorem dX3_mostErrands_7 : decode cX3_mostErrands 7 = .ok (.invokevirtual 23, 3) := by decide +kernel
theorem dX3_mostErrands_10 : decode cX3_mostErrands 10 = .ok (.iconst 1, 1) := by decide +kernel
theorem dX3_mostErrands_11 : decode cX3_mostErrands 11 = .ok (.aload_n 1, 1) := by decide +kernel
theorem dX3_mostErrands_12 : decode cX3_mostErrands 12 = .ok (.getfield 26, 3) := by decide +kernel
theorem dX3_mostErrands_15 : decode cX3_mostErrands 15 = .ok (.ishl, 1) := by decide +kernel
theorem dX3_mostErrands_16 : decode cX3_mostErrands 16 = .ok (.istore_n 2, 1) := by decide +kernel
theorem dX3_mostErrands_17 : decode cX3_mostErrands 17 = .ok (.aload_n 1, 1) := by decide +kernel
theorem dX3_mostErrands_18 : decode cX3_mostErrands 18 = .ok (.getfield 26, 3) := by decide +kernel
theorem dX3_mostErrands_21 : decode cX3_mostErrands 21 = .ok (.istore_n 3, 1) := by decide +kernel
theorem dX3_mostErrands_22 : decode cX3_mostErrands 22 = .ok (.iload_n 3, 1) := by decide +kernel
theorem dX3_mostErrands_23 : decode cX3_mostErrands 23 = .ok (.ifCond .le 46, 3) := by decide +kernel
theorem dX3_mostErrands_26 : decode cX3_mostErrands 26 = .ok (.iconst 0, 1) := by decide +kernel
theorem dX3_mostErrands_27 : decode cX3_mostErrands 27 = .ok (.istore 4, 2) := by decide +kernel
theorem dX3_mostErrands_29 : decode cX3_mostErrands 29 = .ok (.iload 4, 2) := by decide +kernel
theorem dX3_mostErrands_31 : decode cX3_mostErrands 31 = .ok (.iload_n 2, 1) := by decide +kernel
theorem dX3_mostErrands_32 : decode cX3_mostErrands 32 = .ok (.if_icmp .ge 31, 3) := by decide +kernel
theorem dX3_mostErrands_35 : decode cX3_mostErrands 35 = .ok (.iload 4, 2) := by decide +kernel
theorem dX3_mostErrands_37 : decode cX3_mostErrands 37 = .ok (.invokestatic 32, 3) := by decide +kernel
theorem dX3_mostErrands_40 : decode cX3_mostErrands 40 = .ok (.iload_n 3, 1) := by decide +kernel
theorem dX3_mostErrands_41 : decode cX3_mostErrands 41 = .ok (.if_icmp .ne 16, 3) := by decide +kernel
theorem dX3_mostErrands_44 : decode cX3_mostErrands 44 = .ok (.aload_n 0, 1) := by decide +kernel
theorem dX3_mostErrands_45 : decode cX3_mostErrands 45 = .ok (.aload_n 1, 1) := by decide +kernel
theorem dX3_mostErrands_46 : decode cX3_mostErrands 46 = .ok (.iload 4, 2) := by decide +kernel
theorem dX3_mostErrands_48 : decode cX3_mostErrands 48 = .ok (.invokevirtual 38, 3) := by decide +kernel
theorem dX3_mostErrands_51 : decode cX3_mostErrands 51 = .ok (.ifCond .eq 6, 3) := by decide +kernel
theorem dX3_mostErrands_54 : decode cX3_mostErrands 54 = .ok (.iload 4, 2) := by decide +kernel
theorem dX3_mostErrands_56 : decode cX3_mostErrands 56 = .ok (.ireturn, 1) := by decide +kernel
theorem dX3_mostErrands_57 : decode cX3_mostErrands 57 = .ok (.iinc 4 1, 3) := by decide +kernel
theorem dX3_mostErrands_60 : decode cX3_mostErrands 60 = .ok (.goto (-31), 3) := by decide +kernel
theorem dX3_mostErrands_63 : decode cX3_mostErrands 63 = .ok (.iinc 3 (-1), 3) := by decide +kernel
theorem dX3_mostErrands_66 : decode cX3_mostErrands 66 = .ok (.goto (-44), 3) := by decide +kernel
theorem dX3_mostErrands_69 : decode cX3_mostErrands 69 = .ok (.iconst 0, 1) := by decide +kernel
theorem dX3_mostErrands_70 : decode cX3_mostErrands 70 = .ok (.ireturn, 1) := by decide +kernel
theorem dX3_findDressable_0 : decode cX3_findDressable 0 = .ok (.iconst 1, 1) := by decide +kernel
theorem dX3_findDressable_1 : decode cX3_findDressable 1 = .ok (.aload_n 1, 1) := by decide +kernel
theorem dX3_findDressable_2 : decode cX3_findDressable 2 = .ok (.getfield 42, 3) := by decide +kernel
theorem dX3_findDressable_5 : decode cX3_findDressable 5 = .ok (.ishl, 1) := by decide +kernel
theorem dX3_findDressable_6 : decode cX3_findDressable 6 = .ok (.istore_n 2, 1) := by decide +kernel
theorem dX3_findDressable_7 : decode cX3_findDressable 7 = .ok (.iconst 1, 1) := by decide +kernel
theorem dX3_findDressable_8 : decode cX3_findDressable 8 = .ok (.istore_n 3, 1) := by decide +kernel
theorem dX3_findDressable_9 : decode cX3_findDressable 9 = .ok (.iload_n 3, 1) := by decide +kernel
theorem dX3_findDressable_10 : decode cX3_findDressable 10 = .ok (.iload_n 2, 1) := by decide +kernel
theorem dX3_findDressable_11 : decode cX3_findDressable 11 = .ok (.if_icmp .ge 16, 3) := by decide +kernel
theorem dX3_findDressable_14 : decode cX3_findDressable 14 = .ok (.aload_n 0, 1) := by decide +kernel
theorem dX3_findDressable_15 : decode cX3_findDressable 15 = .ok (.getfield 9, 3) := by decide +kernel
theorem dX3_findDressable_18 : decode cX3_findDressable 18 = .ok (.iload_n 3, 1) := by decide +kernel
theorem dX3_findDressable_19 : decode cX3_findDressable 19 = .ok (.iconst 0, 1) := by decide +kernel
theorem dX3_findDressable_20 : decode cX3_findDressable 20 = .ok (.bastore, 1) := by decide +kernel
theorem dX3_findDressable_21 : decode cX3_findDressable 21 = .ok (.iinc 3 1, 3) := by decide +kernel
theorem dX3_findDressable_24 : decode cX3_findDressable 24 = .ok (.goto (-15), 3) := by decide +kernel
theorem dX3_findDressable_27 : decode cX3_findDressable 27 = .ok (.aload_n 0, 1) := by decide +kernel
theorem dX3_findDressable_28 : decode cX3_findDressable 28 = .ok (.getfield 9, 3) := by decide +kernel
theorem dX3_findDressable_31 : decode cX3_findDressable 31 = .ok (.iconst 0, 1) := by decide +kernel
theorem dX3_findDressable_32 : decode cX3_findDressable 32 = .ok (.iconst 1, 1) := by decide +kernel
theorem dX3_findDressable_33 : decode cX3_findDressable 33 = .ok (.bastore, 1) := by decide +kernel
theorem dX3_findDressable_34 : decode cX3_findDressable 34 = .ok (.iconst 0, 1) := by decide +kernel
theorem dX3_findDressable_35 : decode cX3_findDressable 35 = .ok (.istore_n 3, 1) := by decide +kernel
theorem dX3_findDressable_36 : decode cX3_findDressable 36 = .ok (.iload_n 3, 1) := by decide +kernel
theorem dX3_findDressable_37 : decode cX3_findDressable 37 = .ok (.aload_n 1, 1) := by decide +kernel
theorem dX3_findDressable_38 : decode cX3_findDressable 38 = .ok (.getfield 45, 3) := by decide +kernel
theorem dX3_findDressable_41 : decode cX3_findDressable 41 = .ok (.if_icmp .ge 103, 3) := by decide +kernel
theorem dX3_findDressable_44 : decode cX3_findDressable 44 = .ok (.iconst 1, 1) := by decide +kernel
theorem dX3_findDressable_45 : decode cX3_findDressable 45 = .ok (.aload_n 1, 1) := by decide +kernel
theorem dX3_findDressable_46 : decode cX3_findDressable 46 = .ok (.getfield 48, 3) := by decide +kernel
theorem dX3_findDressable_49 : decode cX3_findDressable 49 = .ok (.iload_n 3, 1) := by decide +kernel
theorem dX3_findDressable_50 : decode cX3_findDressable 50 = .ok (.aaload, 1) := by decide +kernel
theorem dX3_findDressable_51 : decode cX3_findDressable 51 = .ok (.iconst 0, 1) := by decide +kernel
theorem dX3_findDressable_52 : decode cX3_findDressable 52 = .ok (.iaload, 1) := by decide +kernel
theorem dX3_findDressable_53 : decode cX3_findDressable 53 = .ok (.ishl, 1) := by decide +kernel
theorem dX3_findDressable_54 : decode cX3_findDressable 54 = .ok (.istore 4, 2) := by decide +kernel
theorem dX3_findDressable_56 : decode cX3_findDressable 56 = .ok (.iconst 1, 1) := by decide +kernel
theorem dX3_findDressable_57 : decode cX3_findDressable 57 = .ok (.aload_n 1, 1) := by decide +kernel
theorem dX3_findDressable_58 : decode cX3_findDressable 58 = .ok (.getfield 48, 3) := by decide +kernel
theorem dX3_findDressable_61 : decode cX3_findDressable 61 = .ok (.iload_n 3, 1) := by decide +kernel
theorem dX3_findDressable_62 : decode cX3_findDressable 62 = .ok (.aaload, 1) := by decide +kernel
theorem dX3_findDressable_63 : decode cX3_findDressable 63 = .ok (.iconst 1, 1) := by decide +kernel
theorem dX3_findDressable_64 : decode cX3_findDressable 64 = .ok (.iaload, 1) := by decide +kernel
theorem dX3_findDressable_65 : decode cX3_findDressable 65 = .ok (.ishl, 1) := by decide +kernel
theorem dX3_findDressable_66 : decode cX3_findDressable 66 = .ok (.istore 5, 2) := by decide +kernel
theorem dX3_findDressable_68 : decode cX3_findDressable 68 = .ok (.iload_n 2, 1) := by decide +kernel
theorem dX3_findDressable_69 : decode cX3_findDressable 69 = .ok (.iconst 1, 1) := by decide +kernel
theorem dX3_findDressable_70 : decode cX3_findDressable 70 = .ok (.isub, 1) := by decide +kernel
theorem dX3_findDressable_71 : decode cX3_findDressable 71 = .ok (.istore 6, 2) := by decide +kernel
theorem dX3_findDressable_73 : decode cX3_findDressable 73 = .ok (.iload 6, 2) := by decide +kernel
theorem dX3_findDressable_75 : decode cX3_findDressable 75 = .ok (.ifCond .lt 63, 3) := by decide +kernel
theorem dX3_findDressable_78 : decode cX3_findDressable 78 = .ok (.aload_n 0, 1) := by decide +kernel
theorem dX3_findDressable_79 : decode cX3_findDressable 79 = .ok (.getfield 9, 3) := by decide +kernel
theorem dX3_findDressable_82 : decode cX3_findDressable 82 = .ok (.iload 6, 2) := by decide +kernel
theorem dX3_findDressable_84 : decode cX3_findDressable 84 = .ok (.baload, 1) := by decide +kernel
theorem dX3_findDressable_85 : decode cX3_findDressable 85 = .ok (.ifCond .eq 47, 3) := by decide +kernel
theorem dX3_findDressable_88 : decode cX3_findDressable 88 = .ok (.aload_n 0, 1) := by decide +kernel
theorem dX3_findDressable_89 : decode cX3_findDressable 89 = .ok (.getfield 9, 3) := by decide +kernel
theorem dX3_findDressable_92 : decode cX3_findDressable 92 = .ok (.iload 6, 2) := by decide +kernel
theorem dX3_findDressable_94 : decode cX3_findDressable 94 = .ok (.iload 4, 2) := by decide +kernel
theorem dX3_findDressable_96 : decode cX3_findDressable 96 = .ok (.ior, 1) := by decide +kernel
theorem dX3_findDressable_97 : decode cX3_findDressable 97 = .ok (.iconst 1, 1) := by decide +kernel
theorem dX3_findDressable_98 : decode cX3_findDressable 98 = .ok (.bastore, 1) := by decide +kernel
theorem dX3_findDressable_99 : decode cX3_findDressable 99 = .ok (.aload_n 0, 1) := by decide +kernel
theorem dX3_findDressable_100 : decode cX3_findDressable 100 = .ok (.getfield 9, 3) := by decide +kernel
theorem dX3_findDressable_103 : decode cX3_findDressable 103 = .ok (.iload 6, 2) := by decide +kernel
theorem dX3_findDressable_105 : decode cX3_findDressable 105 = .ok (.iload 5, 2) := by decide +kernel
theorem dX3_findDressable_107 : decode cX3_findDressable 107 = .ok (.ior, 1) := by decide +kernel
theorem dX3_findDressable_108 : decode cX3_findDressable 108 = .ok (.iconst 1, 1) := by decide +kernel
theorem dX3_findDressable_109 : decode cX3_findDressable 109 = .ok (.bastore, 1) := by decide +kernel
theorem dX3_findDressable_110 : decode cX3_findDressable 110 = .ok (.aload_n 1, 1) := by decide +kernel
theorem dX3_findDressable_111 : decode cX3_findDressable 111 = .ok (.iload_n 3, 1) := by decide +kernel
theorem dX3_findDressable_112 : decode cX3_findDressable 112 = .ok (.invokevirtual 52, 3) := by decide +kernel
theorem dX3_findDressable_115 : decode cX3_findDressable 115 = .ok (.ifCond .eq 17, 3) := by decide +kernel
theorem dX3_findDressable_118 : decode cX3_findDressable 118 = .ok (.aload_n 0, 1) := by decide +kernel
theorem dX3_findDressable_119 : decode cX3_findDressable 119 = .ok (.getfield 9, 3) := by decide +kernel
theorem dX3_findDressable_122 : decode cX3_findDressable 122 = .ok (.iload 6, 2) := by decide +kernel
theorem dX3_findDressable_124 : decode cX3_findDressable 124 = .ok (.iload 4, 2) := by decide +kernel
theorem dX3_findDressable_126 : decode cX3_findDressable 126 = .ok (.ior, 1) := by decide +kernel
theorem dX3_findDressable_127 : decode cX3_findDressable 127 = .ok (.iload 5, 2) := by decide +kernel
theorem dX3_findDressable_129 : decode cX3_findDressable 129 = .ok (.ior, 1) := by decide +kernel
theorem dX3_findDressable_130 : decode cX3_findDressable 130 = .ok (.iconst 1, 1) := by decide +kernel
theorem dX3_findDressable_131 : decode cX3_findDressable 131 = .ok (.bastore, 1) := by decide +kernel
theorem dX3_findDressable_132 : decode cX3_findDressable 132 = .ok (.iinc 6 (-1), 3) := by decide +kernel
theorem dX3_findDressable_135 : decode cX3_findDressable 135 = .ok (.goto (-62), 3) := by decide +kernel
theorem dX3_findDressable_138 : decode cX3_findDressable 138 = .ok (.iinc 3 1, 3) := by decide +kernel
theorem dX3_findDressable_141 : decode cX3_findDressable 141 = .ok (.goto (-105), 3) := by decide +kernel
theorem dX3_findDressable_144 : decode cX3_findDressable 144 = .ok (.return_, 1) := by decide +kernel
theorem dX3_findUnderWay_0 : decode cX3_findUnderWay 0 = .ok (.iconst 0, 1) := by decide +kernel
theorem dX3_findUnderWay_1 : decode cX3_findUnderWay 1 = .ok (.istore_n 2, 1) := by decide +kernel
theorem dX3_findUnderWay_2 : decode cX3_findUnderWay 2 = .ok (.iload_n 2, 1) := by decide +kernel
theorem dX3_findUnderWay_3 : decode cX3_findUnderWay 3 = .ok (.aload_n 1, 1) := by decide +kernel
theorem dX3_findUnderWay_4 : decode cX3_findUnderWay 4 = .ok (.getfield 26, 3) := by decide +kernel
theorem dX3_findUnderWay_7 : decode cX3_findUnderWay 7 = .ok (.if_icmp .ge 82, 3) := by decide +kernel
theorem dX3_findUnderWay_10 : decode cX3_findUnderWay 10 = .ok (.aload_n 1, 1) := by decide +kernel
theorem dX3_findUnderWay_11 : decode cX3_findUnderWay 11 = .ok (.getfield 56, 3) := by decide +kernel
theorem dX3_findUnderWay_14 : decode cX3_findUnderWay 14 = .ok (.iload_n 2, 1) := by decide +kernel
theorem dX3_findUnderWay_15 : decode cX3_findUnderWay 15 = .ok (.aaload, 1) := by decide +kernel
theorem dX3_findUnderWay_16 : decode cX3_findUnderWay 16 = .ok (.iconst 2, 1) := by decide +kernel
theorem dX3_findUnderWay_17 : decode cX3_findUnderWay 17 = .ok (.iaload, 1) := by decide +kernel
theorem dX3_findUnderWay_18 : decode cX3_findUnderWay 18 = .ok (.istore_n 3, 1) := by decide +kernel
theorem dX3_findUnderWay_19 : decode cX3_findUnderWay 19 = .ok (.aload_n 0, 1) := by decide +kernel
theorem dX3_findUnderWay_20 : decode cX3_findUnderWay 20 = .ok (.getfield 15, 3) := by decide +kernel
theorem dX3_findUnderWay_23 : decode cX3_findUnderWay 23 = .ok (.iload_n 2, 1) := by decide +kernel
theorem dX3_findUnderWay_24 : decode cX3_findUnderWay 24 = .ok (.iconst 0, 1) := by decide +kernel
theorem dX3_findUnderWay_25 : decode cX3_findUnderWay 25 = .ok (.iastore, 1) := by decide +kernel
theorem dX3_findUnderWay_26 : decode cX3_findUnderWay 26 = .ok (.iconst 0, 1) := by decide +kernel
theorem dX3_findUnderWay_27 : decode cX3_findUnderWay 27 = .ok (.istore 4, 2) := by decide +kernel
theorem dX3_findUnderWay_29 : decode cX3_findUnderWay 29 = .ok (.iload 4, 2) := by decide +kernel
theorem dX3_findUnderWay_31 : decode cX3_findUnderWay 31 = .ok (.aload_n 1, 1) := by decide +kernel
theorem dX3_findUnderWay_32 : decode cX3_findUnderWay 32 = .ok (.getfield 26, 3) := by decide +kernel
theorem dX3_findUnderWay_35 : decode cX3_findUnderWay 35 = .ok (.if_icmp .ge 48, 3) := by decide +kernel
theorem dX3_findUnderWay_38 : decode cX3_findUnderWay 38 = .ok (.aload_n 1, 1) := by decide +kernel
theorem dX3_findUnderWay_39 : decode cX3_findUnderWay 39 = .ok (.getfield 56, 3) := by decide +kernel
theorem dX3_findUnderWay_42 : decode cX3_findUnderWay 42 = .ok (.iload 4, 2) := by decide +kernel
theorem dX3_findUnderWay_44 : decode cX3_findUnderWay 44 = .ok (.aaload, 1) := by decide +kernel
theorem dX3_findUnderWay_45 : decode cX3_findUnderWay 45 = .ok (.iconst 2, 1) := by decide +kernel
theorem dX3_findUnderWay_46 : decode cX3_findUnderWay 46 = .ok (.iaload, 1) := by decide +kernel
theorem dX3_findUnderWay_47 : decode cX3_findUnderWay 47 = .ok (.iload_n 3, 1) := by decide +kernel
theorem dX3_findUnderWay_48 : decode cX3_findUnderWay 48 = .ok (.if_icmp .gt 29, 3) := by decide +kernel
theorem dX3_findUnderWay_51 : decode cX3_findUnderWay 51 = .ok (.iload_n 3, 1) := by decide +kernel
theorem dX3_findUnderWay_52 : decode cX3_findUnderWay 52 = .ok (.aload_n 1, 1) := by decide +kernel
theorem dX3_findUnderWay_53 : decode cX3_findUnderWay 53 = .ok (.getfield 56, 3) := by decide +kernel
theorem dX3_findUnderWay_56 : decode cX3_findUnderWay 56 = .ok (.iload 4, 2) := by decide +kernel
theorem dX3_findUnderWay_58 : decode cX3_findUnderWay 58 = .ok (.aaload, 1) := by decide +kernel
theorem dX3_findUnderWay_59 : decode cX3_findUnderWay 59 = .ok (.iconst 3, 1) := by decide +kernel
theorem dX3_findUnderWay_60 : decode cX3_findUnderWay 60 = .ok (.iaload, 1) := by decide +kernel
theorem dX3_findUnderWay_61 : decode cX3_findUnderWay 61 = .ok (.if_icmp .gt 16, 3) := by decide +kernel
theorem dX3_findUnderWay_64 : decode cX3_findUnderWay 64 = .ok (.aload_n 0, 1) := by decide +kernel
theorem dX3_findUnderWay_65 : decode cX3_findUnderWay 65 = .ok (.getfield 15, 3) := by decide +kernel
theorem dX3_findUnderWay_68 : decode cX3_findUnderWay 68 = .ok (.iload_n 2, 1) := by decide +kernel
theorem dX3_findUnderWay_69 : decode cX3_findUnderWay 69 = .ok (.dup2, 1) := by decide +kernel
theorem dX3_findUnderWay_70 : decode cX3_findUnderWay 70 = .ok (.iaload, 1) := by decide +kernel
theorem dX3_findUnderWay_71 : decode cX3_findUnderWay 71 = .ok (.iconst 1, 1) := by decide +kernel
theorem dX3_findUnderWay_72 : decode cX3_findUnderWay 72 = .ok (.iload 4, 2) := by decide +kernel
theorem dX3_findUnderWay_74 : decode cX3_findUnderWay 74 = .ok (.ishl, 1) := by decide +kernel
theorem dX3_findUnderWay_75 : decode cX3_findUnderWay 75 = .ok (.ior, 1) := by decide +kernel
theorem dX3_findUnderWay_76 : decode cX3_findUnderWay 76 = .ok (.iastore, 1) := by decide +kernel
theorem dX3_findUnderWay_77 : decode cX3_findUnderWay 77 = .ok (.iinc 4 1, 3) := by decide +kernel
theorem dX3_findUnderWay_80 : decode cX3_findUnderWay 80 = .ok (.goto (-51), 3) := by decide +kernel
theorem dX3_findUnderWay_83 : decode cX3_findUnderWay 83 = .ok (.iinc 2 1, 3) := by decide +kernel
theorem dX3_findUnderWay_86 : decode cX3_findUnderWay 86 = .ok (.goto (-84), 3) := by decide +kernel
theorem dX3_findUnderWay_89 : decode cX3_findUnderWay 89 = .ok (.return_, 1) := by decide +kernel
theorem dX3_canBeDone_0 : decode cX3_canBeDone 0 = .ok (.iconst 0, 1) := by decide +kernel
theorem dX3_canBeDone_1 : decode cX3_canBeDone 1 = .ok (.istore_n 3, 1) := by decide +kernel
theorem dX3_canBeDone_2 : decode cX3_canBeDone 2 = .ok (.iload_n 3, 1) := by decide +kernel
theorem dX3_canBeDone_3 : decode cX3_canBeDone 3 = .ok (.aload_n 1, 1) := by decide +kernel
theorem dX3_canBeDone_4 : decode cX3_canBeDone 4 = .ok (.getfield 26, 3) := by decide +kernel
theorem dX3_canBeDone_7 : decode cX3_canBeDone 7 = .ok (.if_icmp .ge 39, 3) := by decide +kernel
theorem dX3_canBeDone_10 : decode cX3_canBeDone 10 = .ok (.iload_n 2, 1) := by decide +kernel
theorem dX3_canBeDone_11 : decode cX3_canBeDone 11 = .ok (.iload_n 3, 1) := by decide +kernel
theorem dX3_canBeDone_12 : decode cX3_canBeDone 12 = .ok (.ishr, 1) := by decide +kernel
theorem dX3_canBeDone_13 : decode cX3_canBeDone 13 = .ok (.iconst 1, 1) := by decide +kernel
theorem dX3_canBeDone_14 : decode cX3_canBeDone 14 = .ok (.iand, 1) := by decide +kernel
theorem dX3_canBeDone_15 : decode cX3_canBeDone 15 = .ok (.ifCond .eq 25, 3) := by decide +kernel
theorem dX3_canBeDone_18 : decode cX3_canBeDone 18 = .ok (.aload_n 0, 1) := by decide +kernel
theorem dX3_canBeDone_19 : decode cX3_canBeDone 19 = .ok (.getfield 9, 3) := by decide +kernel
theorem dX3_canBeDone_22 : decode cX3_canBeDone 22 = .ok (.aload_n 1, 1) := by decide +kernel
theorem dX3_canBeDone_23 : decode cX3_canBeDone 23 = .ok (.iload_n 2, 1) := by decide +kernel
theorem dX3_canBeDone_24 : decode cX3_canBeDone 24 = .ok (.aload_n 0, 1) := by decide +kernel
theorem dX3_canBeDone_25 : decode cX3_canBeDone 25 = .ok (.getfield 15, 3) := by decide +kernel
theorem dX3_canBeDone_28 : decode cX3_canBeDone 28 = .ok (.iload_n 3, 1) := by decide +kernel
theorem dX3_canBeDone_29 : decode cX3_canBeDone 29 = .ok (.iaload, 1) := by decide +kernel
theorem dX3_canBeDone_30 : decode cX3_canBeDone 30 = .ok (.iand, 1) := by decide +kernel
theorem dX3_canBeDone_31 : decode cX3_canBeDone 31 = .ok (.invokestatic 59, 3) := by decide +kernel
theorem dX3_canBeDone_34 : decode cX3_canBeDone 34 = .ok (.baload, 1) := by decide +kernel
theorem dX3_canBeDone_35 : decode cX3_canBeDone 35 = .ok (.ifCond .ne 5, 3) := by decide +kernel
theorem dX3_canBeDone_38 : decode cX3_canBeDone 38 = .ok (.iconst 0, 1) := by decide +kernel
theorem dX3_canBeDone_39 : decode cX3_canBeDone 39 = .ok (.ireturn, 1) := by decide +kernel
theorem dX3_canBeDone_40 : decode cX3_canBeDone 40 = .ok (.iinc 3 1, 3) := by decide +kernel
theorem dX3_canBeDone_43 : decode cX3_canBeDone 43 = .ok (.goto (-41), 3) := by decide +kernel
theorem dX3_canBeDone_46 : decode cX3_canBeDone 46 = .ok (.iconst 1, 1) := by decide +kernel
theorem dX3_canBeDone_47 : decode cX3_canBeDone 47 = .ok (.ireturn, 1) := by decide +kernel
theorem dX3_peopleOf_0 : decode cX3_peopleOf 0 = .ok (.iconst 0, 1) := by decide +kernel
theorem dX3_peopleOf_1 : decode cX3_peopleOf 1 = .ok (.istore_n 2, 1) := by decide +kernel
theorem dX3_peopleOf_2 : decode cX3_peopleOf 2 = .ok (.iconst 0, 1) := by decide +kernel
theorem dX3_peopleOf_3 : decode cX3_peopleOf 3 = .ok (.istore_n 3, 1) := by decide +kernel
theorem dX3_peopleOf_4 : decode cX3_peopleOf 4 = .ok (.iload_n 3, 1) := by decide +kernel
theorem dX3_peopleOf_5 : decode cX3_peopleOf 5 = .ok (.aload_n 0, 1) := by decide +kernel
theorem dX3_peopleOf_6 : decode cX3_peopleOf 6 = .ok (.getfield 26, 3) := by decide +kernel
theorem dX3_peopleOf_9 : decode cX3_peopleOf 9 = .ok (.if_icmp .ge 30, 3) := by decide +kernel
theorem dX3_peopleOf_12 : decode cX3_peopleOf 12 = .ok (.iload_n 1, 1) := by decide +kernel
theorem dX3_peopleOf_13 : decode cX3_peopleOf 13 = .ok (.iload_n 3, 1) := by decide +kernel
theorem dX3_peopleOf_14 : decode cX3_peopleOf 14 = .ok (.ishr, 1) := by decide +kernel
theorem dX3_peopleOf_15 : decode cX3_peopleOf 15 = .ok (.iconst 1, 1) := by decide +kernel
theorem dX3_peopleOf_16 : decode cX3_peopleOf 16 = .ok (.iand, 1) := by decide +kernel
theorem dX3_peopleOf_17 : decode cX3_peopleOf 17 = .ok (.ifCond .eq 16, 3) := by decide +kernel
theorem dX3_peopleOf_20 : decode cX3_peopleOf 20 = .ok (.iload_n 2, 1) := by decide +kernel
theorem dX3_peopleOf_21 : decode cX3_peopleOf 21 = .ok (.iconst 1, 1) := by decide +kernel
theorem dX3_peopleOf_22 : decode cX3_peopleOf 22 = .ok (.aload_n 0, 1) := by decide +kernel
theorem dX3_peopleOf_23 : decode cX3_peopleOf 23 = .ok (.getfield 56, 3) := by decide +kernel
theorem dX3_peopleOf_26 : decode cX3_peopleOf 26 = .ok (.iload_n 3, 1) := by decide +kernel
theorem dX3_peopleOf_27 : decode cX3_peopleOf 27 = .ok (.aaload, 1) := by decide +kernel
theorem dX3_peopleOf_28 : decode cX3_peopleOf 28 = .ok (.iconst 0, 1) := by decide +kernel
theorem dX3_peopleOf_29 : decode cX3_peopleOf 29 = .ok (.iaload, 1) := by decide +kernel
theorem dX3_peopleOf_30 : decode cX3_peopleOf 30 = .ok (.ishl, 1) := by decide +kernel
theorem dX3_peopleOf_31 : decode cX3_peopleOf 31 = .ok (.ior, 1) := by decide +kernel
theorem dX3_peopleOf_32 : decode cX3_peopleOf 32 = .ok (.istore_n 2, 1) := by decide +kernel
theorem dX3_peopleOf_33 : decode cX3_peopleOf 33 = .ok (.iinc 3 1, 3) := by decide +kernel
theorem dX3_peopleOf_36 : decode cX3_peopleOf 36 = .ok (.goto (-32), 3) := by decide +kernel
theorem dX3_peopleOf_39 : decode cX3_peopleOf 39 = .ok (.iload_n 2, 1) := by decide +kernel
theorem dX3_peopleOf_40 : decode cX3_peopleOf 40 = .ok (.ireturn, 1) := by decide +kernel
theorem dX4_init_0 : decode cX4_init 0 = .ok (.aload_n 0, 1) := by decide +kernel
theorem dX4_init_1 : decode cX4_init 1 = .ok (.invokespecial 3, 3) := by decide +kernel
theorem dX4_init_4 : decode cX4_init 4 = .ok (.aload_n 0, 1) := by decide +kernel
theorem dX4_init_5 : decode cX4_init 5 = .ok (.sipush 400, 3) := by decide +kernel
theorem dX4_init_8 : decode cX4_init 8 = .ok (.newarray .int, 2) := by decide +kernel
theorem dX4_init_10 : decode cX4_init 10 = .ok (.putfield 9, 3) := by decide +kernel
theorem dX4_init_13 : decode cX4_init 13 = .ok (.aload_n 0, 1) := by decide +kernel
theorem dX4_init_14 : decode cX4_init 14 = .ok (.iconst 0, 1) := by decide +kernel
theorem dX4_init_15 : decode cX4_init 15 = .ok (.putfield 15, 3) := by decide +kernel
theorem dX4_init_18 : decode cX4_init 18 = .ok (.aload_n 0, 1) := by decide +kernel
theorem dX4_init_19 : decode cX4_init 19 = .ok (.iconst 0, 1) := by decide +kernel
theorem dX4_init_20 : decode cX4_init 20 = .ok (.putfield 19, 3) := by decide +kernel
theorem dX4_init_23 : decode cX4_init 23 = .ok (.aload_n 0, 1) := by decide +kernel
theorem dX4_init_24 : decode cX4_init 24 = .ok (.iconst 0, 1) := by decide +kernel
theorem dX4_init_25 : decode cX4_init 25 = .ok (.putfield 22, 3) := by decide +kernel
theorem dX4_init_28 : decode cX4_init 28 = .ok (.aload_n 0, 1) := by decide +kernel
theorem dX4_init_29 : decode cX4_init 29 = .ok (.iconst (-1), 1) := by decide +kernel
theorem dX4_init_30 : decode cX4_init 30 = .ok (.putfield 25, 3) := by decide +kernel
theorem dX4_init_33 : decode cX4_init 33 = .ok (.aload_n 0, 1) := by decide +kernel
theorem dX4_init_34 : decode cX4_init 34 = .ok (.iconst 0, 1) := by decide +kernel
theorem dX4_init_35 : decode cX4_init 35 = .ok (.putfield 28, 3) := by decide +kernel
theorem dX4_init_38 : decode cX4_init 38 = .ok (.return_, 1) := by decide +kernel
theorem dX4_size_0 : decode cX4_size 0 = .ok (.aload_n 0, 1) := by decide +kernel
theorem dX4_size_1 : decode cX4_size 1 = .ok (.getfield 15, 3) := by decide +kernel
theorem dX4_size_4 : decode cX4_size 4 = .ok (.ireturn, 1) := by decide +kernel
theorem dX4_empty_0 : decode cX4_empty 0 = .ok (.aload_n 0, 1) := by decide +kernel
theorem dX4_empty_1 : decode cX4_empty 1 = .ok (.iconst 0, 1) := by decide +kernel
theorem dX4_empty_2 : decode cX4_empty 2 = .ok (.putfield 15, 3) := by decide +kernel
theorem dX4_empty_5 : decode cX4_empty 5 = .ok (.return_, 1) := by decide +kernel
theorem dX4_foundPlace_0 : decode cX4_foundPlace 0 = .ok (.aload_n 0, 1) := by decide +kernel
theorem dX4_foundPlace_1 : decode cX4_foundPlace 1 = .ok (.getfield 25, 3) := by decide +kernel
theorem dX4_foundPlace_4 : decode cX4_foundPlace 4 = .ok (.ireturn, 1) := by decide +kernel
theorem dX4_append_0 : decode cX4_append 0 = .ok (.aload_n 0, 1) := by decide +kernel
theorem dX4_append_1 : decode cX4_append 1 = .ok (.getfield 15, 3) := by decide +kernel
theorem dX4_append_4 : decode cX4_append 4 = .ok (.iload_n 1, 1) := by decide +kernel
theorem dX4_append_5 : decode cX4_append 5 = .ok (.iadd, 1) := by decide +kernel
theorem dX4_append_6 : decode cX4_append 6 = .ok (.sipush 400, 3) := by decide +kernel
theorem dX4_append_9 : decode cX4_append 9 = .ok (.if_icmp .le 6, 3) := by decide +kernel
theorem dX4_append_12 : decode cX4_append 12 = .ok (.ldc 31, 2) := by decide +kernel
theorem dX4_append_14 : decode cX4_append 14 = .ok (.ireturn, 1) := by decide +kernel
theorem dX4_append_15 : decode cX4_append 15 = .ok (.iload_n 1, 1) := by decide +kernel
theorem dX4_append_16 : decode cX4_append 16 = .ok (.iconst 1, 1) := by decide +kernel
theorem dX4_append_17 : decode cX4_append 17 = .ok (.isub, 1) := by decide +kernel
theorem dX4_append_18 : decode cX4_append 18 = .ok (.istore 4, 2) := by decide +kernel
theorem dX4_append_20 : decode cX4_append 20 = .ok (.iload 4, 2) := by decide +kernel
theorem dX4_append_22 : decode cX4_append 22 = .ok (.ifCond .lt 40, 3) := by decide +kernel
theorem dX4_append_25 : decode cX4_append 25 = .ok (.aload_n 0, 1) := by decide +kernel
theorem dX4_append_26 : decode cX4_append 26 = .ok (.getfield 9, 3) := by decide +kernel
theorem dX4_append_29 : decode cX4_append 29 = .ok (.aload_n 0, 1) := by decide +kernel
theorem dX4_append_30 : decode cX4_append 30 = .ok (.getfield 15, 3) := by decide +kernel
theorem dX4_append_33 : decode cX4_append 33 = .ok (.lload_n 2, 1) := by decide +kernel
theorem dX4_append_34 : decode cX4_append 34 = .ok (.bipush 8, 2) := by decide +kernel
theorem dX4_append_36 : decode cX4_append 36 = .ok (.iload 4, 2) := by decide +kernel
theorem dX4_append_38 : decode cX4_append 38 = .ok (.imul, 1) := by decide +kernel
theorem dX4_append_39 : decode cX4_append 39 = .ok (.lushr, 1) := by decide +kernel
theorem dX4_append_40 : decode cX4_append 40 = .ok (.ldc2_w 32, 3) := by decide +kernel
theorem dX4_append_43 : decode cX4_append 43 = .ok (.land, 1) := by decide +kernel
theorem dX4_append_44 : decode cX4_append 44 = .ok (.l2i, 1) := by decide +kernel
theorem dX4_append_45 : decode cX4_append 45 = .ok (.iastore, 1) := by decide +kernel
theorem dX4_append_46 : decode cX4_append 46 = .ok (.aload_n 0, 1) := by decide +kernel
theorem dX4_append_47 : decode cX4_append 47 = .ok (.dup, 1) := by decide +kernel
theorem dX4_append_48 : decode cX4_append 48 = .ok (.getfield 15, 3) := by decide +kernel
theorem dX4_append_51 : decode cX4_append 51 = .ok (.iconst 1, 1) := by decide +kernel
theorem dX4_append_52 : decode cX4_append 52 = .ok (.iadd, 1) := by decide +kernel
theorem dX4_append_53 : decode cX4_append 53 = .ok (.putfield 15, 3) := by decide +kernel
theorem dX4_append_56 : decode cX4_append 56 = .ok (.iinc 4 (-1), 3) := by decide +kernel
theorem dX4_append_59 : decode cX4_append 59 = .ok (.goto (-39), 3) := by decide +kernel
theorem dX4_append_62 : decode cX4_append 62 = .ok (.aload_n 0, 1) := by decide +kernel
theorem dX4_append_63 : decode cX4_append 63 = .ok (.getfield 15, 3) := by decide +kernel
theorem dX4_append_66 : decode cX4_append 66 = .ok (.ireturn, 1) := by decide +kernel
theorem dX4_readInto_0 : decode cX4_readInto 0 = .ok (.aload_n 0, 1) := by decide +kernel
theorem dX4_readInto_1 : decode cX4_readInto 1 = .ok (.iconst 0, 1) := by decide +kernel
theorem dX4_readInto_2 : decode cX4_readInto 2 = .ok (.putfield 19, 3) := by decide +kernel
theorem dX4_readInto_5 : decode cX4_readInto 5 = .ok (.aload_n 0, 1) := by decide +kernel
theorem dX4_readInto_6 : decode cX4_readInto 6 = .ok (.iconst 0, 1) := by decide +kernel
theorem dX4_readInto_7 : decode cX4_readInto 7 = .ok (.putfield 22, 3) := by decide +kernel
theorem dX4_readInto_10 : decode cX4_readInto 10 = .ok (.aload_n 0, 1) := by decide +kernel
theorem dX4_readInto_11 : decode cX4_readInto 11 = .ok (.iconst (-1), 1) := by decide +kernel
theorem dX4_readInto_12 : decode cX4_readInto 12 = .ok (.putfield 25, 3) := by decide +kernel
theorem dX4_readInto_15 : decode cX4_readInto 15 = .ok (.aload_n 1, 1) := by decide +kernel
theorem dX4_readInto_16 : decode cX4_readInto 16 = .ok (.invokevirtual 34, 3) := by decide +kernel
theorem dX4_readInto_19 : decode cX4_readInto 19 = .ok (.aload_n 0, 1) := by decide +kernel
theorem dX4_readInto_20 : decode cX4_readInto 20 = .ok (.invokevirtual 39, 3) := by decide +kernel
theorem dX4_readInto_23 : decode cX4_readInto 23 = .ok (.iconst 0, 1) := by decide +kernel
theorem dX4_readInto_24 : decode cX4_readInto 24 = .ok (.istore_n 2, 1) := by decide +kernel
theorem dX4_readInto_25 : decode cX4_readInto 25 = .ok (.iload_n 2, 1) := by decide +kernel
theorem dX4_readInto_26 : decode cX4_readInto 26 = .ok (.sipush 400, 3) := by decide +kernel
theorem dX4_readInto_29 : decode cX4_readInto 29 = .ok (.if_icmp .ge 36, 3) := by decide +kernel
theorem dX4_readInto_32 : decode cX4_readInto 32 = .ok (.aload_n 0, 1) := by decide +kernel
theorem dX4_readInto_33 : decode cX4_readInto 33 = .ok (.getfield 22, 3) := by decide +kernel
theorem dX4_readInto_36 : decode cX4_readInto 36 = .ok (.ifCond .ne 29, 3) := by decide +kernel
theorem dX4_readInto_39 : decode cX4_readInto 39 = .ok (.aload_n 0, 1) := by decide +kernel
theorem dX4_readInto_40 : decode cX4_readInto 40 = .ok (.getfield 19, 3) := by decide +kernel
theorem dX4_readInto_43 : decode cX4_readInto 43 = .ok (.aload_n 0, 1) := by decide +kernel
theorem dX4_readInto_44 : decode cX4_readInto 44 = .ok (.getfield 15, 3) := by decide +kernel
theorem dX4_readInto_47 : decode cX4_readInto 47 = .ok (.if_icmp .ge 18, 3) := by decide +kernel
theorem dX4_readInto_50 : decode cX4_readInto 50 = .ok (.aload_n 0, 1) := by decide +kernel
theorem dX4_readInto_51 : decode cX4_readInto 51 = .ok (.aload_n 1, 1) := by decide +kernel
theorem dX4_readInto_52 : decode cX4_readInto 52 = .ok (.invokevirtual 42, 3) := by decide +kernel
theorem dX4_readInto_55 : decode cX4_readInto 55 = .ok (.aload_n 0, 1) := by decide +kernel
theorem dX4_readInto_56 : decode cX4_readInto 56 = .ok (.invokevirtual 39, 3) := by decide +kernel
theorem dX4_readInto_59 : decode cX4_readInto 59 = .ok (.iinc 2 1, 3) := by decide +kernel
theorem dX4_readInto_62 : decode cX4_readInto 62 = .ok (.goto (-37), 3) := by decide +kernel
theorem dX4_readInto_65 : decode cX4_readInto 65 = .ok (.aload_n 1, 1) := by decide +kernel
theorem dX4_readInto_66 : decode cX4_readInto 66 = .ok (.invokevirtual 46, 3) := by decide +kernel
theorem dX4_readInto_69 : decode cX4_readInto 69 = .ok (.aload_n 0, 1) := by decide +kernel
theorem dX4_readInto_70 : decode cX4_readInto 70 = .ok (.getfield 22, 3) := by decide +kernel
theorem dX4_readInto_73 : decode cX4_readInto 73 = .ok (.ireturn, 1) := by decide +kernel
theorem dX4_readClause_0 : decode cX4_readClause 0 = .ok (.aload_n 0, 1) := by decide +kernel
theorem dX4_readClause_1 : decode cX4_readClause 1 = .ok (.getfield 19, 3) := by decide +kernel
theorem dX4_readClause_4 : decode cX4_readClause 4 = .ok (.istore_n 2, 1) := by decide +kernel
theorem dX4_readClause_5 : decode cX4_readClause 5 = .ok (.aload_n 0, 1) := by decide +kernel
theorem dX4_readClause_6 : decode cX4_readClause 6 = .ok (.invokevirtual 49, 3) := by decide +kernel
theorem dX4_readClause_9 : decode cX4_readClause 9 = .ok (.aload_n 0, 1) := by decide +kernel
theorem dX4_readClause_10 : decode cX4_readClause 10 = .ok (.iload_n 2, 1) := by decide +kernel
theorem dX4_readClause_11 : decode cX4_readClause 11 = .ok (.invokevirtual 52, 3) := by decide +kernel
theorem dX4_readClause_14 : decode cX4_readClause 14 = .ok (.istore_n 3, 1) := by decide +kernel
theorem dX4_readClause_15 : decode cX4_readClause 15 = .ok (.iload_n 3, 1) := by decide +kernel
theorem dX4_readClause_16 : decode cX4_readClause 16 = .ok (.iconst (-1), 1) := by decide +kernel
theorem dX4_readClause_17 : decode cX4_readClause 17 = .ok (.if_icmp .eq 14, 3) := by decide +kernel
theorem dX4_readClause_20 : decode cX4_readClause 20 = .ok (.iload_n 3, 1) := by decide +kernel
theorem dX4_readClause_21 : decode cX4_readClause 21 = .ok (.ifCond .eq 17, 3) := by decide +kernel
theorem dX4_readClause_24 : decode cX4_readClause 24 = .ok (.aload_n 1, 1) := by decide +kernel
theorem dX4_readClause_25 : decode cX4_readClause 25 = .ok (.getfield 56, 3) := by decide +kernel
theorem dX4_readClause_28 : decode cX4_readClause 28 = .ok (.ifCond .ne 10, 3) := by decide +kernel
theorem dX4_readClause_31 : decode cX4_readClause 31 = .ok (.aload_n 0, 1) := by decide +kernel
theorem dX4_readClause_32 : decode cX4_readClause 32 = .ok (.iconst 1, 1) := by decide +kernel
theorem dX4_readClause_33 : decode cX4_readClause 33 = .ok (.iload_n 2, 1) := by decide +kernel
theorem dX4_readClause_34 : decode cX4_readClause 34 = .ok (.invokevirtual 59, 3) := by decide +kernel
theorem dX4_readClause_37 : decode cX4_readClause 37 = .ok (.return_, 1) := by decide +kernel
theorem dX4_readClause_38 : decode cX4_readClause 38 = .ok (.aload_n 0, 1) := by decide +kernel
theorem dX4_readClause_39 : decode cX4_readClause 39 = .ok (.aload_n 1, 1) := by decide +kernel
theorem dX4_readClause_40 : decode cX4_readClause 40 = .ok (.iload_n 3, 1) := by decide +kernel
theorem dX4_readClause_41 : decode cX4_readClause 41 = .ok (.invokevirtual 63, 3) := by decide +kernel
theorem dX4_readClause_44 : decode cX4_readClause 44 = .ok (.ifCond .eq 10, 3) := by decide +kernel
theorem dX4_readClause_47 : decode cX4_readClause 47 = .ok (.aload_n 0, 1) := by decide +kernel
theorem dX4_readClause_48 : decode cX4_readClause 48 = .ok (.iconst 3, 1) := by decide +kernel
theorem dX4_readClause_49 : decode cX4_readClause 49 = .ok (.iload_n 2, 1) := by decide +kernel
theorem dX4_readClause_50 : decode cX4_readClause 50 = .ok (.invokevirtual 59, 3) := by decide +kernel
theorem dX4_readClause_53 : decode cX4_readClause 53 = .ok (.return_, 1) := by decide +kernel
theorem dX4_readClause_54 : decode cX4_readClause 54 = .ok (.iload_n 3, 1) := by decide +kernel
theorem dX4_readClause_55 : decode cX4_readClause 55 = .ok (.tableswitch 61 0 3 #[29, 37, 45, 53], 29) := by decide +kernel
theorem dX4_readClause_84 : decode cX4_readClause 84 = .ok (.aload_n 0, 1) := by decide +kernel
theorem dX4_readClause_85 : decode cX4_readClause 85 = .ok (.aload_n 1, 1) := by decide +kernel
theorem dX4_readClause_86 : decode cX4_readClause 86 = .ok (.invokevirtual 67, 3) := by decide +kernel
theorem dX4_readClause_89 : decode cX4_readClause 89 = .ok (.goto 32, 3) := by decide +kernel
theorem dX4_readClause_92 : decode cX4_readClause 92 = .ok (.aload_n 0, 1) := by decide +kernel
theorem dX4_readClause_93 : decode cX4_readClause 93 = .ok (.aload_n 1, 1) := by decide +kernel
theorem dX4_readClause_94 : decode cX4_readClause 94 = .ok (.invokevirtual 70, 3) := by decide +kernel
theorem dX4_readClause_97 : decode cX4_readClause 97 = .ok (.goto 24, 3) := by decide +kernel
theorem dX4_readClause_100 : decode cX4_readClause 100 = .ok (.aload_n 0, 1) := by decide +kernel
theorem dX4_readClause_101 : decode cX4_readClause 101 = .ok (.aload_n 1, 1) := by decide +kernel
theorem dX4_readClause_102 : decode cX4_readClause 102 = .ok (.invokevirtual 73, 3) := by decide +kernel
theorem dX4_readClause_105 : decode cX4_readClause 105 = .ok (.goto 16, 3) := by decide +kernel
theorem dX4_readClause_108 : decode cX4_readClause 108 = .ok (.aload_n 0, 1) := by decide +kernel
theorem dX4_readClause_109 : decode cX4_readClause 109 = .ok (.aload_n 1, 1) := by decide +kernel
theorem dX4_readClause_110 : decode cX4_readClause 110 = .ok (.invokevirtual 76, 3) := by decide +kernel
theorem dX4_readClause_113 : decode cX4_readClause 113 = .ok (.goto 8, 3) := by decide +kernel
theorem dX4_readClause_116 : decode cX4_readClause 116 = .ok (.aload_n 0, 1) := by decide +kernel
theorem dX4_readClause_117 : decode cX4_readClause 117 = .ok (.aload_n 1, 1) := by decide +kernel
theorem dX4_readClause_118 : decode cX4_readClause 118 = .ok (.invokevirtual 79, 3) := by decide +kernel
theorem dX4_readClause_121 : decode cX4_readClause 121 = .ok (.return_, 1) := by decide +kernel
theorem dX4_isOneTooMany_0 : decode cX4_isOneTooMany 0 = .ok (.iload_n 2, 1) := by decide +kernel
theorem dX4_isOneTooMany_1 : decode cX4_isOneTooMany 1 = .ok (.tableswitch 89 0 3 #[31, 44, 59, 74], 31) := by decide +kernel
theorem dX4_isOneTooMany_32 : decode cX4_isOneTooMany 32 = .ok (.aload_n 1, 1) := by decide +kernel
theorem dX4_isOneTooMany_33 : decode cX4_isOneTooMany 33 = .ok (.getfield 56, 3) := by decide +kernel
theorem dX4_isOneTooMany_36 : decode cX4_isOneTooMany 36 = .ok (.ifCond .eq 7, 3) := by decide +kernel
theorem dX4_isOneTooMany_39 : decode cX4_isOneTooMany 39 = .ok (.iconst 1, 1) := by decide +kernel
theorem dX4_isOneTooMany_40 : decode cX4_isOneTooMany 40 = .ok (.goto 4, 3) := by decide +kernel
theorem dX4_isOneTooMany_43 : decode cX4_isOneTooMany 43 = .ok (.iconst 0, 1) := by decide +kernel
theorem dX4_isOneTooMany_44 : decode cX4_isOneTooMany 44 = .ok (.ireturn, 1) := by decide +kernel
theorem dX4_isOneTooMany_45 : decode cX4_isOneTooMany 45 = .ok (.aload_n 1, 1) := by decide +kernel
theorem dX4_isOneTooMany_46 : decode cX4_isOneTooMany 46 = .ok (.getfield 82, 3) := by decide +kernel
theorem dX4_isOneTooMany_49 : decode cX4_isOneTooMany 49 = .ok (.bipush 8, 2) := by decide +kernel
theorem dX4_isOneTooMany_51 : decode cX4_isOneTooMany 51 = .ok (.if_icmp .lt 7, 3) := by decide +kernel
theorem dX4_isOneTooMany_54 : decode cX4_isOneTooMany 54 = .ok (.iconst 1, 1) := by decide +kernel
theorem dX4_isOneTooMany_55 : decode cX4_isOneTooMany 55 = .ok (.goto 4, 3) := by decide +kernel
theorem dX4_isOneTooMany_58 : decode cX4_isOneTooMany 58 = .ok (.iconst 0, 1) := by decide +kernel
theorem dX4_isOneTooMany_59 : decode cX4_isOneTooMany 59 = .ok (.ireturn, 1) := by decide +kernel
theorem dX4_isOneTooMany_60 : decode cX4_isOneTooMany 60 = .ok (.aload_n 1, 1) := by decide +kernel
theorem dX4_isOneTooMany_61 : decode cX4_isOneTooMany 61 = .ok (.getfield 85, 3) := by decide +kernel
theorem dX4_isOneTooMany_64 : decode cX4_isOneTooMany 64 = .ok (.bipush 10, 2) := by decide +kernel
theorem dX4_isOneTooMany_66 : decode cX4_isOneTooMany 66 = .ok (.if_icmp .lt 7, 3) := by decide +kernel
theorem dX4_isOneTooMany_69 : decode cX4_isOneTooMany 69 = .ok (.iconst 1, 1) := by decide +kernel
theorem dX4_isOneTooMany_70 : decode cX4_isOneTooMany 70 = .ok (.goto 4, 3) := by decide +kernel
theorem dX4_isOneTooMany_73 : decode cX4_isOneTooMany 73 = .ok (.iconst 0, 1) := by decide +kernel
theorem dX4_isOneTooMany_74 : decode cX4_isOneTooMany 74 = .ok (.ireturn, 1) := by decide +kernel
theorem dX4_isOneTooMany_75 : decode cX4_isOneTooMany 75 = .ok (.aload_n 1, 1) := by decide +kernel
theorem dX4_isOneTooMany_76 : decode cX4_isOneTooMany 76 = .ok (.getfield 88, 3) := by decide +kernel
theorem dX4_isOneTooMany_79 : decode cX4_isOneTooMany 79 = .ok (.bipush 30, 2) := by decide +kernel
theorem dX4_isOneTooMany_81 : decode cX4_isOneTooMany 81 = .ok (.if_icmp .lt 7, 3) := by decide +kernel
theorem dX4_isOneTooMany_84 : decode cX4_isOneTooMany 84 = .ok (.iconst 1, 1) := by decide +kernel
theorem dX4_isOneTooMany_85 : decode cX4_isOneTooMany 85 = .ok (.goto 4, 3) := by decide +kernel
theorem dX4_isOneTooMany_88 : decode cX4_isOneTooMany 88 = .ok (.iconst 0, 1) := by decide +kernel
theorem dX4_isOneTooMany_89 : decode cX4_isOneTooMany 89 = .ok (.ireturn, 1) := by decide +kernel
theorem dX4_isOneTooMany_90 : decode cX4_isOneTooMany 90 = .ok (.aload_n 1, 1) := by decide +kernel
theorem dX4_isOneTooMany_91 : decode cX4_isOneTooMany 91 = .ok (.getfield 91, 3) := by decide +kernel
theorem dX4_isOneTooMany_94 : decode cX4_isOneTooMany 94 = .ok (.ireturn, 1) := by decide +kernel
theorem dX4_readPeople_0 : decode cX4_readPeople 0 = .ok (.aload_n 0, 1) := by decide +kernel
theorem dX4_readPeople_1 : decode cX4_readPeople 1 = .ok (.iconst 1, 1) := by decide +kernel
theorem dX4_readPeople_2 : decode cX4_readPeople 2 = .ok (.bipush 8, 2) := by decide +kernel
theorem dX4_readPeople_4 : decode cX4_readPeople 4 = .ok (.invokevirtual 95, 3) := by decide +kernel
theorem dX4_readPeople_7 : decode cX4_readPeople 7 = .ok (.istore_n 2, 1) := by decide +kernel
theorem dX4_readPeople_8 : decode cX4_readPeople 8 = .ok (.aload_n 0, 1) := by decide +kernel
theorem dX4_readPeople_9 : decode cX4_readPeople 9 = .ok (.invokevirtual 99, 3) := by decide +kernel
theorem dX4_readPeople_12 : decode cX4_readPeople 12 = .ok (.ifCond .eq 8, 3) := by decide +kernel
theorem dX4_readPeople_15 : decode cX4_readPeople 15 = .ok (.aload_n 1, 1) := by decide +kernel
theorem dX4_readPeople_16 : decode cX4_readPeople 16 = .ok (.iload_n 2, 1) := by decide +kernel
theorem dX4_readPeople_17 : decode cX4_readPeople 17 = .ok (.putfield 56, 3) := by decide +kernel
theorem dX4_readPeople_20 : decode cX4_readPeople 20 = .ok (.return_, 1) := by decide +kernel
theorem dX4_readCoat_0 : decode cX4_readCoat 0 = .ok (.aload_n 0, 1) := by decide +kernel
theorem dX4_readCoat_1 : decode cX4_readCoat 1 = .ok (.iconst 0, 1) := by decide +kernel
theorem dX4_readCoat_2 : decode cX4_readCoat 2 = .ok (.aload_n 1, 1) := by decide +kernel
theorem dX4_readCoat_3 : decode cX4_readCoat 3 = .ok (.getfield 56, 3) := by decide +kernel
theorem dX4_readCoat_6 : decode cX4_readCoat 6 = .ok (.iconst 1, 1) := by decide +kernel
theorem dX4_readCoat_7 : decode cX4_readCoat 7 = .ok (.isub, 1) := by decide +kernel
theorem dX4_readCoat_8 : decode cX4_readCoat 8 = .ok (.invokevirtual 95, 3) := by decide +kernel
theorem dX4_readCoat_11 : decode cX4_readCoat 11 = .ok (.istore_n 2, 1) := by decide +kernel
theorem dX4_readCoat_12 : decode cX4_readCoat 12 = .ok (.aload_n 0, 1) := by decide +kernel
theorem dX4_readCoat_13 : decode cX4_readCoat 13 = .ok (.aload_n 1, 1) := by decide +kernel
theorem dX4_readCoat_14 : decode cX4_readCoat 14 = .ok (.iload_n 2, 1) := by decide +kernel
theorem dX4_readCoat_15 : decode cX4_readCoat 15 = .ok (.invokevirtual 103, 3) := by decide +kernel
theorem dX4_readCoat_18 : decode cX4_readCoat 18 = .ok (.istore_n 3, 1) := by decide +kernel
theorem dX4_readCoat_19 : decode cX4_readCoat 19 = .ok (.aload_n 0, 1) := by decide +kernel
theorem dX4_readCoat_20 : decode cX4_readCoat 20 = .ok (.iconst 1, 1) := by decide +kernel
theorem dX4_readCoat_21 : decode cX4_readCoat 21 = .ok (.bipush 99, 2) := by decide +kernel
theorem dX4_readCoat_23 : decode cX4_readCoat 23 = .ok (.invokevirtual 95, 3) := by decide +kernel
theorem dX4_readCoat_26 : decode cX4_readCoat 26 = .ok (.istore 4, 2) := by decide +kernel
theorem dX4_readCoat_28 : decode cX4_readCoat 28 = .ok (.aload_n 0, 1) := by decide +kernel
theorem dX4_readCoat_29 : decode cX4_readCoat 29 = .ok (.invokevirtual 99, 3) := by decide +kernel
theorem dX4_readCoat_32 : decode cX4_readCoat 32 = .ok (.ifCond .eq 11, 3) := by decide +kernel
theorem dX4_readCoat_35 : decode cX4_readCoat 35 = .ok (.aload_n 1, 1) := by decide +kernel
theorem dX4_readCoat_36 : decode cX4_readCoat 36 = .ok (.iload_n 2, 1) := by decide +kernel
theorem dX4_readCoat_37 : decode cX4_readCoat 37 = .ok (.iload_n 3, 1) := by decide +kernel
theorem dX4_readCoat_38 : decode cX4_readCoat 38 = .ok (.iload 4, 2) := by decide +kernel
theorem dX4_readCoat_40 : decode cX4_readCoat 40 = .ok (.invokevirtual 107, 3) := by decide +kernel
theorem dX4_readCoat_43 : decode cX4_readCoat 43 = .ok (.return_, 1) := by decide +kernel
theorem dX4_readGoes_0 : decode cX4_readGoes 0 = .ok (.aload_n 0, 1) := by decide +kernel
theorem dX4_readGoes_1 : decode cX4_readGoes 1 = .ok (.iconst 0, 1) := by decide +kernel
theorem dX4_readGoes_2 : decode cX4_readGoes 2 = .ok (.aload_n 1, 1) := by decide +kernel
theorem dX4_readGoes_3 : decode cX4_readGoes 3 = .ok (.getfield 56, 3) := by decide +kernel
theorem dX4_readGoes_6 : decode cX4_readGoes 6 = .ok (.iconst 1, 1) := by decide +kernel
theorem dX4_readGoes_7 : decode cX4_readGoes 7 = .ok (.isub, 1) := by decide +kernel
theorem dX4_readGoes_8 : decode cX4_readGoes 8 = .ok (.invokevirtual 95, 3) := by decide +kernel
theorem dX4_readGoes_11 : decode cX4_readGoes 11 = .ok (.istore_n 2, 1) := by decide +kernel
theorem dX4_readGoes_12 : decode cX4_readGoes 12 = .ok (.aload_n 0, 1) := by decide +kernel
theorem dX4_readGoes_13 : decode cX4_readGoes 13 = .ok (.iconst 0, 1) := by decide +kernel
theorem dX4_readGoes_14 : decode cX4_readGoes 14 = .ok (.iconst 5, 1) := by decide +kernel
theorem dX4_readGoes_15 : decode cX4_readGoes 15 = .ok (.invokevirtual 95, 3) := by decide +kernel
theorem dX4_readGoes_18 : decode cX4_readGoes 18 = .ok (.istore_n 3, 1) := by decide +kernel
theorem dX4_readGoes_19 : decode cX4_readGoes 19 = .ok (.aload_n 0, 1) := by decide +kernel
theorem dX4_readGoes_20 : decode cX4_readGoes 20 = .ok (.iconst 0, 1) := by decide +kernel
theorem dX4_readGoes_21 : decode cX4_readGoes 21 = .ok (.bipush 23, 2) := by decide +kernel
theorem dX4_readGoes_23 : decode cX4_readGoes 23 = .ok (.invokevirtual 95, 3) := by decide +kernel
theorem dX4_readGoes_26 : decode cX4_readGoes 26 = .ok (.istore 4, 2) := by decide +kernel
theorem dX4_readGoes_28 : decode cX4_readGoes 28 = .ok (.aload_n 0, 1) := by decide +kernel
theorem dX4_readGoes_29 : decode cX4_readGoes 29 = .ok (.iconst 0, 1) := by decide +kernel
theorem dX4_readGoes_30 : decode cX4_readGoes 30 = .ok (.bipush 23, 2) := by decide +kernel
theorem dX4_readGoes_32 : decode cX4_readGoes 32 = .ok (.invokevirtual 95, 3) := by decide +kernel
theorem dX4_readGoes_35 : decode cX4_readGoes 35 = .ok (.istore 5, 2) := by decide +kernel
theorem dX4_readGoes_37 : decode cX4_readGoes 37 = .ok (.aload_n 0, 1) := by decide +kernel
theorem dX4_readGoes_38 : decode cX4_readGoes 38 = .ok (.getfield 22, 3) := by decide +kernel
theorem dX4_readGoes_41 : decode cX4_readGoes 41 = .ok (.ifCond .ne 31, 3) := by decide +kernel
theorem dX4_readGoes_44 : decode cX4_readGoes 44 = .ok (.iload 5, 2) := by decide +kernel
theorem dX4_readGoes_46 : decode cX4_readGoes 46 = .ok (.iload 4, 2) := by decide +kernel
theorem dX4_readGoes_48 : decode cX4_readGoes 48 = .ok (.if_icmp .lt 15, 3) := by decide +kernel
theorem dX4_readGoes_51 : decode cX4_readGoes 51 = .ok (.aload_n 1, 1) := by decide +kernel
theorem dX4_readGoes_52 : decode cX4_readGoes 52 = .ok (.iload_n 2, 1) := by decide +kernel
theorem dX4_readGoes_53 : decode cX4_readGoes 53 = .ok (.iload 4, 2) := by decide +kernel
theorem dX4_readGoes_55 : decode cX4_readGoes 55 = .ok (.iload 5, 2) := by decide +kernel
theorem dX4_readGoes_57 : decode cX4_readGoes 57 = .ok (.invokevirtual 111, 3) := by decide +kernel
theorem dX4_readGoes_60 : decode cX4_readGoes 60 = .ok (.ifCond .eq 12, 3) := by decide +kernel
theorem dX4_readGoes_63 : decode cX4_readGoes 63 = .ok (.aload_n 0, 1) := by decide +kernel
theorem dX4_readGoes_64 : decode cX4_readGoes 64 = .ok (.iconst 4, 1) := by decide +kernel
theorem dX4_readGoes_65 : decode cX4_readGoes 65 = .ok (.aload_n 0, 1) := by decide +kernel
theorem dX4_readGoes_66 : decode cX4_readGoes 66 = .ok (.getfield 28, 3) := by decide +kernel
theorem dX4_readGoes_69 : decode cX4_readGoes 69 = .ok (.invokevirtual 59, 3) := by decide +kernel
theorem dX4_readGoes_72 : decode cX4_readGoes 72 = .ok (.aload_n 0, 1) := by decide +kernel
theorem dX4_readGoes_73 : decode cX4_readGoes 73 = .ok (.invokevirtual 99, 3) := by decide +kernel
theorem dX4_readGoes_76 : decode cX4_readGoes 76 = .ok (.ifCond .eq 13, 3) := by decide +kernel
theorem dX4_readGoes_79 : decode cX4_readGoes 79 = .ok (.aload_n 1, 1) := by decide +kernel
theorem dX4_readGoes_80 : decode cX4_readGoes 80 = .ok (.iload_n 2, 1) := by decide +kernel
theorem dX4_readGoes_81 : decode cX4_readGoes 81 = .ok (.iload_n 3, 1) := by decide +kernel
theorem dX4_readGoes_82 : decode cX4_readGoes 82 = .ok (.iload 4, 2) := by decide +kernel
theorem dX4_readGoes_84 : decode cX4_readGoes 84 = .ok (.iload 5, 2) := by decide +kernel
theorem dX4_readGoes_86 : decode cX4_readGoes 86 = .ok (.invokevirtual 115, 3) := by decide +kernel
theorem dX4_readGoes_89 : decode cX4_readGoes 89 = .ok (.return_, 1) := by decide +kernel
theorem dX4_readLikes_0 : decode cX4_readLikes 0 = .ok (.aload_n 0, 1) := by decide +kernel
theorem dX4_readLikes_1 : decode cX4_readLikes 1 = .ok (.iconst 0, 1) := by decide +kernel
theorem dX4_readLikes_2 : decode cX4_readLikes 2 = .ok (.aload_n 1, 1) := by decide +kernel
theorem dX4_readLikes_3 : decode cX4_readLikes 3 = .ok (.getfield 56, 3) := by decide +kernel
theorem dX4_readLikes_6 : decode cX4_readLikes 6 = .ok (.iconst 1, 1) := by decide +kernel
theorem dX4_readLikes_7 : decode cX4_readLikes 7 = .ok (.isub, 1) := by decide +kernel
theorem dX4_readLikes_8 : decode cX4_readLikes 8 = .ok (.invokevirtual 95, 3) := by decide +kernel
theorem dX4_readLikes_11 : decode cX4_readLikes 11 = .ok (.istore_n 2, 1) := by decide +kernel
theorem dX4_readLikes_12 : decode cX4_readLikes 12 = .ok (.aload_n 0, 1) := by decide +kernel
theorem dX4_readLikes_13 : decode cX4_readLikes 13 = .ok (.aload_n 1, 1) := by decide +kernel
theorem dX4_readLikes_14 : decode cX4_readLikes 14 = .ok (.iload_n 2, 1) := by decide +kernel
theorem dX4_readLikes_15 : decode cX4_readLikes 15 = .ok (.invokevirtual 103, 3) := by decide +kernel
theorem dX4_readLikes_18 : decode cX4_readLikes 18 = .ok (.istore_n 3, 1) := by decide +kernel
theorem dX4_readLikes_19 : decode cX4_readLikes 19 = .ok (.aload_n 0, 1) := by decide +kernel
theorem dX4_readLikes_20 : decode cX4_readLikes 20 = .ok (.getfield 22, 3) := by decide +kernel
theorem dX4_readLikes_23 : decode cX4_readLikes 23 = .ok (.ifCond .ne 21, 3) := by decide +kernel
theorem dX4_readLikes_26 : decode cX4_readLikes 26 = .ok (.aload_n 1, 1) := by decide +kernel
theorem dX4_readLikes_27 : decode cX4_readLikes 27 = .ok (.iload_n 2, 1) := by decide +kernel
theorem dX4_readLikes_28 : decode cX4_readLikes 28 = .ok (.iload_n 3, 1) := by decide +kernel
theorem dX4_readLikes_29 : decode cX4_readLikes 29 = .ok (.invokevirtual 119, 3) := by decide +kernel
theorem dX4_readLikes_32 : decode cX4_readLikes 32 = .ok (.ifCond .eq 12, 3) := by decide +kernel
theorem dX4_readLikes_35 : decode cX4_readLikes 35 = .ok (.aload_n 0, 1) := by decide +kernel
theorem dX4_readLikes_36 : decode cX4_readLikes 36 = .ok (.iconst 4, 1) := by decide +kernel
theorem dX4_readLikes_37 : decode cX4_readLikes 37 = .ok (.aload_n 0, 1) := by decide +kernel
theorem dX4_readLikes_38 : decode cX4_readLikes 38 = .ok (.getfield 28, 3) := by decide +kernel
theorem dX4_readLikes_41 : decode cX4_readLikes 41 = .ok (.invokevirtual 59, 3) := by decide +kernel
theorem dX4_readLikes_44 : decode cX4_readLikes 44 = .ok (.aload_n 0, 1) := by decide +kernel
theorem dX4_readLikes_45 : decode cX4_readLikes 45 = .ok (.iconst 0, 1) := by decide +kernel
theorem dX4_readLikes_46 : decode cX4_readLikes 46 = .ok (.bipush 99, 2) := by decide +kernel
theorem dX4_readLikes_48 : decode cX4_readLikes 48 = .ok (.invokevirtual 95, 3) := by decide +kernel
theorem dX4_readLikes_51 : decode cX4_readLikes 51 = .ok (.istore 4, 2) := by decide +kernel
theorem dX4_readLikes_53 : decode cX4_readLikes 53 = .ok (.aload_n 0, 1) := by decide +kernel
theorem dX4_readLikes_54 : decode cX4_readLikes 54 = .ok (.invokevirtual 99, 3) := by decide +kernel
theorem dX4_readLikes_57 : decode cX4_readLikes 57 = .ok (.ifCond .eq 11, 3) := by decide +kernel
theorem dX4_readLikes_60 : decode cX4_readLikes 60 = .ok (.aload_n 1, 1) := by decide +kernel
theorem dX4_readLikes_61 : decode cX4_readLikes 61 = .ok (.iload_n 2, 1) := by decide +kernel
theorem dX4_readLikes_62 : decode cX4_readLikes 62 = .ok (.iload_n 3, 1) := by decide +kernel
theorem dX4_readLikes_63 : decode cX4_readLikes 63 = .ok (.iload 4, 2) := by decide +kernel
theorem dX4_readLikes_65 : decode cX4_readLikes 65 = .ok (.invokevirtual 123, 3) := by decide +kernel
theorem dX4_readLikes_68 : decode cX4_readLikes 68 = .ok (.return_, 1) := by decide +kernel
theorem dX4_readFrost_0 : decode cX4_readFrost 0 = .ok (.aload_n 0, 1) := by decide +kernel
theorem dX4_readFrost_1 : decode cX4_readFrost 1 = .ok (.iconst 0, 1) := by decide +kernel
theorem dX4_readFrost_2 : decode cX4_readFrost 2 = .ok (.bipush 99, 2) := by decide +kernel
theorem dX4_readFrost_4 : decode cX4_readFrost 4 = .ok (.invokevirtual 95, 3) := by decide +kernel
theorem dX4_readFrost_7 : decode cX4_readFrost 7 = .ok (.istore_n 2, 1) := by decide +kernel
theorem dX4_readFrost_8 : decode cX4_readFrost 8 = .ok (.aload_n 0, 1) := by decide +kernel
theorem dX4_readFrost_9 : decode cX4_readFrost 9 = .ok (.invokevirtual 99, 3) := by decide +kernel
theorem dX4_readFrost_12 : decode cX4_readFrost 12 = .ok (.ifCond .eq 13, 3) := by decide +kernel
theorem dX4_readFrost_15 : decode cX4_readFrost 15 = .ok (.aload_n 1, 1) := by decide +kernel
theorem dX4_readFrost_16 : decode cX4_readFrost 16 = .ok (.iload_n 2, 1) := by decide +kernel
theorem dX4_readFrost_17 : decode cX4_readFrost 17 = .ok (.putfield 126, 3) := by decide +kernel
theorem dX4_readFrost_20 : decode cX4_readFrost 20 = .ok (.aload_n 1, 1) := by decide +kernel
theorem dX4_readFrost_21 : decode cX4_readFrost 21 = .ok (.iconst 1, 1) := by decide +kernel
theorem dX4_readFrost_22 : decode cX4_readFrost 22 = .ok (.putfield 91, 3) := by decide +kernel
theorem dX4_readFrost_25 : decode cX4_readFrost 25 = .ok (.return_, 1) := by decide +kernel
theorem dX4_readOther_0 : decode cX4_readOther 0 = .ok (.aload_n 0, 1) := by decide +kernel
theorem dX4_readOther_1 : decode cX4_readOther 1 = .ok (.iconst 0, 1) := by decide +kernel
theorem dX4_readOther_2 : decode cX4_readOther 2 = .ok (.aload_n 1, 1) := by decide +kernel
theorem dX4_readOther_3 : decode cX4_readOther 3 = .ok (.getfield 56, 3) := by decide +kernel
theorem dX4_readOther_6 : decode cX4_readOther 6 = .ok (.iconst 1, 1) := by decide +kernel
theorem dX4_readOther_7 : decode cX4_readOther 7 = .ok (.isub, 1) := by decide +kernel
theorem dX4_readOther_8 : decode cX4_readOther 8 = .ok (.invokevirtual 95, 3) := by decide +kernel
theorem dX4_readOther_11 : decode cX4_readOther 11 = .ok (.istore_n 3, 1) := by decide +kernel
theorem dX4_readOther_12 : decode cX4_readOther 12 = .ok (.iload_n 3, 1) := by decide +kernel
theorem dX4_readOther_13 : decode cX4_readOther 13 = .ok (.iload_n 2, 1) := by decide +kernel
theorem dX4_readOther_14 : decode cX4_readOther 14 = .ok (.if_icmp .ne 12, 3) := by decide +kernel
theorem dX4_readOther_17 : decode cX4_readOther 17 = .ok (.aload_n 0, 1) := by decide +kernel
theorem dX4_readOther_18 : decode cX4_readOther 18 = .ok (.iconst 4, 1) := by decide +kernel
theorem dX4_readOther_19 : decode cX4_readOther 19 = .ok (.aload_n 0, 1) := by decide +kernel
theorem dX4_readOther_20 : decode cX4_readOther 20 = .ok (.getfield 28, 3) := by decide +kernel
theorem dX4_readOther_23 : decode cX4_readOther 23 = .ok (.invokevirtual 59, 3) := by decide +kernel
theorem dX4_readOther_26 : decode cX4_readOther 26 = .ok (.iload_n 3, 1) := by decide +kernel
theorem dX4_readOther_27 : decode cX4_readOther 27 = .ok (.ireturn, 1) := by decide +kernel
theorem dX4_readNumber_0 : decode cX4_readNumber 0 = .ok (.aload_n 0, 1) := by decide +kernel
theorem dX4_readNumber_1 : decode cX4_readNumber 1 = .ok (.getfield 22, 3) := by decide +kernel
theorem dX4_readNumber_4 : decode cX4_readNumber 4 = .ok (.ifCond .eq 5, 3) := by decide +kernel
theorem dX4_readNumber_7 : decode cX4_readNumber 7 = .ok (.iload_n 1, 1) := by decide +kernel
theorem dX4_readNumber_8 : decode cX4_readNumber 8 = .ok (.ireturn, 1) := by decide +kernel
theorem dX4_readNumber_9 : decode cX4_readNumber 9 = .ok (.aload_n 0, 1) := by decide +kernel
theorem dX4_readNumber_10 : decode cX4_readNumber 10 = .ok (.invokevirtual 39, 3) := by decide +kernel
theorem dX4_readNumber_13 : decode cX4_readNumber 13 = .ok (.aload_n 0, 1) := by decide +kernel
theorem dX4_readNumber_14 : decode cX4_readNumber 14 = .ok (.aload_n 0, 1) := by decide +kernel
theorem dX4_readNumber_15 : decode cX4_readNumber 15 = .ok (.getfield 19, 3) := by decide +kernel
theorem dX4_readNumber_18 : decode cX4_readNumber 18 = .ok (.putfield 28, 3) := by decide +kernel
theorem dX4_readNumber_21 : decode cX4_readNumber 21 = .ok (.iconst 0, 1) := by decide +kernel
theorem dX4_readNumber_22 : decode cX4_readNumber 22 = .ok (.istore_n 3, 1) := by decide +kernel
theorem dX4_readNumber_23 : decode cX4_readNumber 23 = .ok (.aload_n 0, 1) := by decide +kernel
theorem dX4_readNumber_24 : decode cX4_readNumber 24 = .ok (.getfield 19, 3) := by decide +kernel
theorem dX4_readNumber_27 : decode cX4_readNumber 27 = .ok (.aload_n 0, 1) := by decide +kernel
theorem dX4_readNumber_28 : decode cX4_readNumber 28 = .ok (.getfield 15, 3) := by decide +kernel
theorem dX4_readNumber_31 : decode cX4_readNumber 31 = .ok (.if_icmp .ge 75, 3) := by decide +kernel
theorem dX4_readNumber_34 : decode cX4_readNumber 34 = .ok (.aload_n 0, 1) := by decide +kernel
theorem dX4_readNumber_35 : decode cX4_readNumber 35 = .ok (.getfield 9, 3) := by decide +kernel
theorem dX4_readNumber_38 : decode cX4_readNumber 38 = .ok (.aload_n 0, 1) := by decide +kernel
theorem dX4_readNumber_39 : decode cX4_readNumber 39 = .ok (.getfield 19, 3) := by decide +kernel
theorem dX4_readNumber_42 : decode cX4_readNumber 42 = .ok (.iaload, 1) := by decide +kernel
theorem dX4_readNumber_43 : decode cX4_readNumber 43 = .ok (.bipush 48, 2) := by decide +kernel
theorem dX4_readNumber_45 : decode cX4_readNumber 45 = .ok (.if_icmp .lt 61, 3) := by decide +kernel
theorem dX4_readNumber_48 : decode cX4_readNumber 48 = .ok (.aload_n 0, 1) := by decide +kernel
theorem dX4_readNumber_49 : decode cX4_readNumber 49 = .ok (.getfield 9, 3) := by decide +kernel
theorem dX4_readNumber_52 : decode cX4_readNumber 52 = .ok (.aload_n 0, 1) := by decide +kernel
theorem dX4_readNumber_53 : decode cX4_readNumber 53 = .ok (.getfield 19, 3) := by decide +kernel
theorem dX4_readNumber_56 : decode cX4_readNumber 56 = .ok (.iaload, 1) := by decide +kernel
theorem dX4_readNumber_57 : decode cX4_readNumber 57 = .ok (.bipush 57, 2) := by decide +kernel
theorem dX4_readNumber_59 : decode cX4_readNumber 59 = .ok (.if_icmp .gt 47, 3) := by decide +kernel
theorem dX4_readNumber_62 : decode cX4_readNumber 62 = .ok (.aload_n 0, 1) := by decide +kernel
theorem dX4_readNumber_63 : decode cX4_readNumber 63 = .ok (.getfield 19, 3) := by decide +kernel
theorem dX4_readNumber_66 : decode cX4_readNumber 66 = .ok (.aload_n 0, 1) := by decide +kernel
theorem dX4_readNumber_67 : decode cX4_readNumber 67 = .ok (.getfield 28, 3) := by decide +kernel
theorem dX4_readNumber_70 : decode cX4_readNumber 70 = .ok (.isub, 1) := by decide +kernel
theorem dX4_readNumber_71 : decode cX4_readNumber 71 = .ok (.iconst 3, 1) := by decide +kernel
theorem dX4_readNumber_72 : decode cX4_readNumber 72 = .ok (.if_icmp .ge 21, 3) := by decide +kernel
theorem dX4_readNumber_75 : decode cX4_readNumber 75 = .ok (.iload_n 3, 1) := by decide +kernel
theorem dX4_readNumber_76 : decode cX4_readNumber 76 = .ok (.bipush 10, 2) := by decide +kernel
theorem dX4_readNumber_78 : decode cX4_readNumber 78 = .ok (.imul, 1) := by decide +kernel
theorem dX4_readNumber_79 : decode cX4_readNumber 79 = .ok (.aload_n 0, 1) := by decide +kernel
theorem dX4_readNumber_80 : decode cX4_readNumber 80 = .ok (.getfield 9, 3) := by decide +kernel
theorem dX4_readNumber_83 : decode cX4_readNumber 83 = .ok (.aload_n 0, 1) := by decide +kernel
theorem dX4_readNumber_84 : decode cX4_readNumber 84 = .ok (.getfield 19, 3) := by decide +kernel
theorem dX4_readNumber_87 : decode cX4_readNumber 87 = .ok (.iaload, 1) := by decide +kernel
theorem dX4_readNumber_88 : decode cX4_readNumber 88 = .ok (.iadd, 1) := by decide +kernel
theorem dX4_readNumber_89 : decode cX4_readNumber 89 = .ok (.bipush 48, 2) := by decide +kernel
theorem dX4_readNumber_91 : decode cX4_readNumber 91 = .ok (.isub, 1) := by decide +kernel
theorem dX4_readNumber_92 : decode cX4_readNumber 92 = .ok (.istore_n 3, 1) := by decide +kernel
theorem dX4_readNumber_93 : decode cX4_readNumber 93 = .ok (.aload_n 0, 1) := by decide +kernel
theorem dX4_readNumber_94 : decode cX4_readNumber 94 = .ok (.dup, 1) := by decide +kernel
theorem dX4_readNumber_95 : decode cX4_readNumber 95 = .ok (.getfield 19, 3) := by decide +kernel
theorem dX4_readNumber_98 : decode cX4_readNumber 98 = .ok (.iconst 1, 1) := by decide +kernel
theorem dX4_readNumber_99 : decode cX4_readNumber 99 = .ok (.iadd, 1) := by decide +kernel
theorem dX4_readNumber_100 : decode cX4_readNumber 100 = .ok (.putfield 19, 3) := by decide +kernel
theorem dX4_readNumber_103 : decode cX4_readNumber 103 = .ok (.goto (-80), 3) := by decide +kernel
theorem dX4_readNumber_106 : decode cX4_readNumber 106 = .ok (.aload_n 0, 1) := by decide +kernel
theorem dX4_readNumber_107 : decode cX4_readNumber 107 = .ok (.getfield 19, 3) := by decide +kernel
theorem dX4_readNumber_110 : decode cX4_readNumber 110 = .ok (.aload_n 0, 1) := by decide +kernel
theorem dX4_readNumber_111 : decode cX4_readNumber 111 = .ok (.getfield 28, 3) := by decide +kernel
theorem dX4_readNumber_114 : decode cX4_readNumber 114 = .ok (.isub, 1) := by decide +kernel
theorem dX4_readNumber_115 : decode cX4_readNumber 115 = .ok (.istore 4, 2) := by decide +kernel
theorem dX4_readNumber_117 : decode cX4_readNumber 117 = .ok (.iload 4, 2) := by decide +kernel
theorem dX4_readNumber_119 : decode cX4_readNumber 119 = .ok (.ifCond .ne 15, 3) := by decide +kernel
theorem dX4_readNumber_122 : decode cX4_readNumber 122 = .ok (.aload_n 0, 1) := by decide +kernel
theorem dX4_readNumber_123 : decode cX4_readNumber 123 = .ok (.iconst 1, 1) := by decide +kernel
theorem dX4_readNumber_124 : decode cX4_readNumber 124 = .ok (.aload_n 0, 1) := by decide +kernel
theorem dX4_readNumber_125 : decode cX4_readNumber 125 = .ok (.getfield 28, 3) := by decide +kernel
theorem dX4_readNumber_128 : decode cX4_readNumber 128 = .ok (.invokevirtual 59, 3) := by decide +kernel
theorem dX4_readNumber_131 : decode cX4_readNumber 131 = .ok (.goto 28, 3) := by decide +kernel
theorem dX4_readNumber_134 : decode cX4_readNumber 134 = .ok (.iload 4, 2) := by decide +kernel
theorem dX4_readNumber_136 : decode cX4_readNumber 136 = .ok (.iconst 3, 1) := by decide +kernel
theorem dX4_readNumber_137 : decode cX4_readNumber 137 = .ok (.if_icmp .gt 13, 3) := by decide +kernel
theorem dX4_readNumber_140 : decode cX4_readNumber 140 = .ok (.iload_n 3, 1) := by decide +kernel
theorem dX4_readNumber_141 : decode cX4_readNumber 141 = .ok (.iload_n 1, 1) := by decide +kernel
theorem dX4_readNumber_142 : decode cX4_readNumber 142 = .ok (.if_icmp .lt 8, 3) := by decide +kernel
theorem dX4_readNumber_145 : decode cX4_readNumber 145 = .ok (.iload_n 3, 1) := by decide +kernel
theorem dX4_readNumber_146 : decode cX4_readNumber 146 = .ok (.iload_n 2, 1) := by decide +kernel
theorem dX4_readNumber_147 : decode cX4_readNumber 147 = .ok (.if_icmp .le 12, 3) := by decide +kernel
theorem dX4_readNumber_150 : decode cX4_readNumber 150 = .ok (.aload_n 0, 1) := by decide +kernel
theorem dX4_readNumber_151 : decode cX4_readNumber 151 = .ok (.iconst 2, 1) := by decide +kernel
theorem dX4_readNumber_152 : decode cX4_readNumber 152 = .ok (.aload_n 0, 1) := by decide +kernel
theorem dX4_readNumber_153 : decode cX4_readNumber 153 = .ok (.getfield 28, 3) := by decide +kernel
theorem dX4_readNumber_156 : decode cX4_readNumber 156 = .ok (.invokevirtual 59, 3) := by decide +kernel
theorem dX4_readNumber_159 : decode cX4_readNumber 159 = .ok (.iload_n 3, 1) := by decide +kernel
theorem dX4_readNumber_160 : decode cX4_readNumber 160 = .ok (.ireturn, 1) := by decide +kernel
theorem dX4_clauseEnds_0 : decode cX4_clauseEnds 0 = .ok (.aload_n 0, 1) := by decide +kernel
theorem dX4_clauseEnds_1 : decode cX4_clauseEnds 1 = .ok (.getfield 22, 3) := by decide +kernel
theorem dX4_clauseEnds_4 : decode cX4_clauseEnds 4 = .ok (.ifCond .eq 5, 3) := by decide +kernel
theorem dX4_clauseEnds_7 : decode cX4_clauseEnds 7 = .ok (.iconst 0, 1) := by decide +kernel
theorem dX4_clauseEnds_8 : decode cX4_clauseEnds 8 = .ok (.ireturn, 1) := by decide +kernel
theorem dX4_clauseEnds_9 : decode cX4_clauseEnds 9 = .ok (.aload_n 0, 1) := by decide +kernel
theorem dX4_clauseEnds_10 : decode cX4_clauseEnds 10 = .ok (.invokevirtual 39, 3) := by decide +kernel
theorem dX4_clauseEnds_13 : decode cX4_clauseEnds 13 = .ok (.aload_n 0, 1) := by decide +kernel
theorem dX4_clauseEnds_14 : decode cX4_clauseEnds 14 = .ok (.getfield 19, 3) := by decide +kernel
theorem dX4_clauseEnds_17 : decode cX4_clauseEnds 17 = .ok (.aload_n 0, 1) := by decide +kernel
theorem dX4_clauseEnds_18 : decode cX4_clauseEnds 18 = .ok (.getfield 15, 3) := by decide +kernel
theorem dX4_clauseEnds_21 : decode cX4_clauseEnds 21 = .ok (.if_icmp .ge 17, 3) := by decide +kernel
theorem dX4_clauseEnds_24 : decode cX4_clauseEnds 24 = .ok (.aload_n 0, 1) := by decide +kernel
theorem dX4_clauseEnds_25 : decode cX4_clauseEnds 25 = .ok (.getfield 9, 3) := by decide +kernel
theorem dX4_clauseEnds_28 : decode cX4_clauseEnds 28 = .ok (.aload_n 0, 1) := by decide +kernel
theorem dX4_clauseEnds_29 : decode cX4_clauseEnds 29 = .ok (.getfield 19, 3) := by decide +kernel
theorem dX4_clauseEnds_32 : decode cX4_clauseEnds 32 = .ok (.iaload, 1) := by decide +kernel
theorem dX4_clauseEnds_33 : decode cX4_clauseEnds 33 = .ok (.bipush 59, 2) := by decide +kernel
theorem dX4_clauseEnds_35 : decode cX4_clauseEnds 35 = .ok (.if_icmp .eq 14, 3) := by decide +kernel
theorem dX4_clauseEnds_38 : decode cX4_clauseEnds 38 = .ok (.aload_n 0, 1) := by decide +kernel
theorem dX4_clauseEnds_39 : decode cX4_clauseEnds 39 = .ok (.iconst 1, 1) := by decide +kernel
theorem dX4_clauseEnds_40 : decode cX4_clauseEnds 40 = .ok (.aload_n 0, 1) := by decide +kernel
theorem dX4_clauseEnds_41 : decode cX4_clauseEnds 41 = .ok (.getfield 19, 3) := by decide +kernel
theorem dX4_clauseEnds_44 : decode cX4_clauseEnds 44 = .ok (.invokevirtual 59, 3) := by decide +kernel
theorem dX4_clauseEnds_47 : decode cX4_clauseEnds 47 = .ok (.iconst 0, 1) := by decide +kernel
theorem dX4_clauseEnds_48 : decode cX4_clauseEnds 48 = .ok (.ireturn, 1) := by decide +kernel
theorem dX4_clauseEnds_49 : decode cX4_clauseEnds 49 = .ok (.aload_n 0, 1) := by decide +kernel
theorem dX4_clauseEnds_50 : decode cX4_clauseEnds 50 = .ok (.dup, 1) := by decide +kernel
theorem dX4_clauseEnds_51 : decode cX4_clauseEnds 51 = .ok (.getfield 19, 3) := by decide +kernel
theorem dX4_clauseEnds_54 : decode cX4_clauseEnds 54 = .ok (.iconst 1, 1) := by decide +kernel
theorem dX4_clauseEnds_55 : decode cX4_clauseEnds 55 = .ok (.iadd, 1) := by decide +kernel
theorem dX4_clauseEnds_56 : decode cX4_clauseEnds 56 = .ok (.putfield 19, 3) := by decide +kernel
theorem dX4_clauseEnds_59 : decode cX4_clauseEnds 59 = .ok (.iconst 1, 1) := by decide +kernel
theorem dX4_clauseEnds_60 : decode cX4_clauseEnds 60 = .ok (.ireturn, 1) := by decide +kernel
theorem dX4_kindOfWord_0 : decode cX4_kindOfWord 0 = .ok (.aload_n 0, 1) := by decide +kernel
theorem dX4_kindOfWord_1 : decode cX4_kindOfWord 1 = .ok (.iload_n 1, 1) := by decide +kernel
theorem dX4_kindOfWord_2 : decode cX4_kindOfWord 2 = .ok (.ldc 129, 2) := by decide +kernel
theorem dX4_kindOfWord_4 : decode cX4_kindOfWord 4 = .ok (.invokevirtual 130, 3) := by decide +kernel
theorem dX4_kindOfWord_7 : decode cX4_kindOfWord 7 = .ok (.ifCond .eq 5, 3) := by decide +kernel
theorem dX4_kindOfWord_10 : decode cX4_kindOfWord 10 = .ok (.iconst 0, 1) := by decide +kernel
theorem dX4_kindOfWord_11 : decode cX4_kindOfWord 11 = .ok (.ireturn, 1) := by decide +kernel
theorem dX4_kindOfWord_12 : decode cX4_kindOfWord 12 = .ok (.aload_n 0, 1) := by decide +kernel
theorem dX4_kindOfWord_13 : decode cX4_kindOfWord 13 = .ok (.iload_n 1, 1) := by decide +kernel
theorem dX4_kindOfWord_14 : decode cX4_kindOfWord 14 = .ok (.ldc 134, 2) := by decide +kernel
theorem dX4_kindOfWord_16 : decode cX4_kindOfWord 16 = .ok (.invokevirtual 130, 3) := by decide +kernel
theorem dX4_kindOfWord_19 : decode cX4_kindOfWord 19 = .ok (.ifCond .eq 5, 3) := by decide +kernel
theorem dX4_kindOfWord_22 : decode cX4_kindOfWord 22 = .ok (.iconst 1, 1) := by decide +kernel
theorem dX4_kindOfWord_23 : decode cX4_kindOfWord 23 = .ok (.ireturn, 1) := by decide +kernel
theorem dX4_kindOfWord_24 : decode cX4_kindOfWord 24 = .ok (.aload_n 0, 1) := by decide +kernel
theorem dX4_kindOfWord_25 : decode cX4_kindOfWord 25 = .ok (.iload_n 1, 1) := by decide +kernel
theorem dX4_kindOfWord_26 : decode cX4_kindOfWord 26 = .ok (.ldc 136, 2) := by decide +kernel
theorem dX4_kindOfWord_28 : decode cX4_kindOfWord 28 = .ok (.invokevirtual 130, 3) := by decide +kernel
theorem dX4_kindOfWord_31 : decode cX4_kindOfWord 31 = .ok (.ifCond .eq 5, 3) := by decide +kernel
theorem dX4_kindOfWord_34 : decode cX4_kindOfWord 34 = .ok (.iconst 2, 1) := by decide +kernel
theorem dX4_kindOfWord_35 : decode cX4_kindOfWord 35 = .ok (.ireturn, 1) := by decide +kernel
theorem dX4_kindOfWord_36 : decode cX4_kindOfWord 36 = .ok (.aload_n 0, 1) := by decide +kernel
theorem dX4_kindOfWord_37 : decode cX4_kindOfWord 37 = .ok (.iload_n 1, 1) := by decide +kernel
theorem dX4_kindOfWord_38 : decode cX4_kindOfWord 38 = .ok (.ldc 138, 2) := by decide +kernel
theorem dX4_kindOfWord_40 : decode cX4_kindOfWord 40 = .ok (.invokevirtual 130, 3) := by decide +kernel
theorem dX4_kindOfWord_43 : decode cX4_kindOfWord 43 = .ok (.ifCond .eq 5, 3) := by decide +kernel
theorem dX4_kindOfWord_46 : decode cX4_kindOfWord 46 = .ok (.iconst 3, 1) := by decide +kernel
theorem dX4_kindOfWord_47 : decode cX4_kindOfWord 47 = .ok (.ireturn, 1) := by decide +kernel
theorem dX4_kindOfWord_48 : decode cX4_kindOfWord 48 = .ok (.aload_n 0, 1) := by decide +kernel
theorem dX4_kindOfWord_49 : decode cX4_kindOfWord 49 = .ok (.iload_n 1, 1) := by decide +kernel
theorem dX4_kindOfWord_50 : decode cX4_kindOfWord 50 = .ok (.ldc 140, 2) := by decide +kernel
theorem dX4_kindOfWord_52 : decode cX4_kindOfWord 52 = .ok (.invokevirtual 130, 3) := by decide +kernel
theorem dX4_kindOfWord_55 : decode cX4_kindOfWord 55 = .ok (.ifCond .eq 7, 3) := by decide +kernel
theorem dX4_kindOfWord_58 : decode cX4_kindOfWord 58 = .ok (.iconst 4, 1) := by decide +kernel
theorem dX4_kindOfWord_59 : decode cX4_kindOfWord 59 = .ok (.goto 4, 3) := by decide +kernel
theorem dX4_kindOfWord_62 : decode cX4_kindOfWord 62 = .ok (.iconst (-1), 1) := by decide +kernel
theorem dX4_kindOfWord_63 : decode cX4_kindOfWord 63 = .ok (.ireturn, 1) := by decide +kernel
theorem dX4_isWord_0 : decode cX4_isWord 0 = .ok (.aload_n 0, 1) := by decide +kernel
theorem dX4_isWord_1 : decode cX4_isWord 1 = .ok (.getfield 19, 3) := by decide +kernel
theorem dX4_isWord_4 : decode cX4_isWord 4 = .ok (.iload_n 1, 1) := by decide +kernel
theorem dX4_isWord_5 : decode cX4_isWord 5 = .ok (.isub, 1) := by decide +kernel
theorem dX4_isWord_6 : decode cX4_isWord 6 = .ok (.aload_n 2, 1) := by decide +kernel
theorem dX4_isWord_7 : decode cX4_isWord 7 = .ok (.invokevirtual 141, 3) := by decide +kernel
theorem dX4_isWord_10 : decode cX4_isWord 10 = .ok (.if_icmp .eq 5, 3) := by decide +kernel
theorem dX4_isWord_13 : decode cX4_isWord 13 = .ok (.iconst 0, 1) := by decide +kernel
theorem dX4_isWord_14 : decode cX4_isWord 14 = .ok (.ireturn, 1) := by decide +kernel
theorem dX4_isWord_15 : decode cX4_isWord 15 = .ok (.iconst 0, 1) := by decide +kernel
theorem dX4_isWord_16 : decode cX4_isWord 16 = .ok (.istore_n 3, 1) := by decide +kernel
theorem dX4_isWord_17 : decode cX4_isWord 17 = .ok (.iload_n 3, 1) := by decide +kernel
theorem dX4_isWord_18 : decode cX4_isWord 18 = .ok (.aload_n 2, 1) := by decide +kernel
theorem dX4_isWord_19 : decode cX4_isWord 19 = .ok (.invokevirtual 141, 3) := by decide +kernel
theorem dX4_isWord_22 : decode cX4_isWord 22 = .ok (.if_icmp .ge 27, 3) := by decide +kernel
theorem dX4_isWord_25 : decode cX4_isWord 25 = .ok (.aload_n 0, 1) := by decide +kernel
theorem dX4_isWord_26 : decode cX4_isWord 26 = .ok (.getfield 9, 3) := by decide +kernel
theorem dX4_isWord_29 : decode cX4_isWord 29 = .ok (.iload_n 1, 1) := by decide +kernel
theorem dX4_isWord_30 : decode cX4_isWord 30 = .ok (.iload_n 3, 1) := by decide +kernel
theorem dX4_isWord_31 : decode cX4_isWord 31 = .ok (.iadd, 1) := by decide +kernel
theorem dX4_isWord_32 : decode cX4_isWord 32 = .ok (.iaload, 1) := by decide +kernel
theorem dX4_isWord_33 : decode cX4_isWord 33 = .ok (.aload_n 2, 1) := by decide +kernel
theorem dX4_isWord_34 : decode cX4_isWord 34 = .ok (.iload_n 3, 1) := by decide +kernel
theorem dX4_isWord_35 : decode cX4_isWord 35 = .ok (.invokevirtual 146, 3) := by decide +kernel
theorem dX4_isWord_38 : decode cX4_isWord 38 = .ok (.if_icmp .eq 5, 3) := by decide +kernel
theorem dX4_isWord_41 : decode cX4_isWord 41 = .ok (.iconst 0, 1) := by decide +kernel
theorem dX4_isWord_42 : decode cX4_isWord 42 = .ok (.ireturn, 1) := by decide +kernel
theorem dX4_isWord_43 : decode cX4_isWord 43 = .ok (.iinc 3 1, 3) := by decide +kernel
theorem dX4_isWord_46 : decode cX4_isWord 46 = .ok (.goto (-29), 3) := by decide +kernel
theorem dX4_isWord_49 : decode cX4_isWord 49 = .ok (.iconst 1, 1) := by decide +kernel
theorem dX4_isWord_50 : decode cX4_isWord 50 = .ok (.ireturn, 1) := by decide +kernel
theorem dX4_skipLetters_0 : decode cX4_skipLetters 0 = .ok (.aload_n 0, 1) := by decide +kernel
theorem dX4_skipLetters_1 : decode cX4_skipLetters 1 = .ok (.getfield 19, 3) := by decide +kernel
theorem dX4_skipLetters_4 : decode cX4_skipLetters 4 = .ok (.aload_n 0, 1) := by decide +kernel
theorem dX4_skipLetters_5 : decode cX4_skipLetters 5 = .ok (.getfield 15, 3) := by decide +kernel
theorem dX4_skipLetters_8 : decode cX4_skipLetters 8 = .ok (.if_icmp .ge 44, 3) := by decide +kernel
theorem dX4_skipLetters_11 : decode cX4_skipLetters 11 = .ok (.aload_n 0, 1) := by decide +kernel
theorem dX4_skipLetters_12 : decode cX4_skipLetters 12 = .ok (.getfield 9, 3) := by decide +kernel
theorem dX4_skipLetters_15 : decode cX4_skipLetters 15 = .ok (.aload_n 0, 1) := by decide +kernel
theorem dX4_skipLetters_16 : decode cX4_skipLetters 16 = .ok (.getfield 19, 3) := by decide +kernel
theorem dX4_skipLetters_19 : decode cX4_skipLetters 19 = .ok (.iaload, 1) := by decide +kernel
theorem dX4_skipLetters_20 : decode cX4_skipLetters 20 = .ok (.bipush 97, 2) := by decide +kernel
theorem dX4_skipLetters_22 : decode cX4_skipLetters 22 = .ok (.if_icmp .lt 30, 3) := by decide +kernel
theorem dX4_skipLetters_25 : decode cX4_skipLetters 25 = .ok (.aload_n 0, 1) := by decide +kernel
theorem dX4_skipLetters_26 : decode cX4_skipLetters 26 = .ok (.getfield 9, 3) := by decide +kernel
theorem dX4_skipLetters_29 : decode cX4_skipLetters 29 = .ok (.aload_n 0, 1) := by decide +kernel
theorem dX4_skipLetters_30 : decode cX4_skipLetters 30 = .ok (.getfield 19, 3) := by decide +kernel
theorem dX4_skipLetters_33 : decode cX4_skipLetters 33 = .ok (.iaload, 1) := by decide +kernel
theorem dX4_skipLetters_34 : decode cX4_skipLetters 34 = .ok (.bipush 122, 2) := by decide +kernel
theorem dX4_skipLetters_36 : decode cX4_skipLetters 36 = .ok (.if_icmp .gt 16, 3) := by decide +kernel
theorem dX4_skipLetters_39 : decode cX4_skipLetters 39 = .ok (.aload_n 0, 1) := by decide +kernel
theorem dX4_skipLetters_40 : decode cX4_skipLetters 40 = .ok (.dup, 1) := by decide +kernel
theorem dX4_skipLetters_41 : decode cX4_skipLetters 41 = .ok (.getfield 19, 3) := by decide +kernel
theorem dX4_skipLetters_44 : decode cX4_skipLetters 44 = .ok (.iconst 1, 1) := by decide +kernel
theorem dX4_skipLetters_45 : decode cX4_skipLetters 45 = .ok (.iadd, 1) := by decide +kernel
theorem dX4_skipLetters_46 : decode cX4_skipLetters 46 = .ok (.putfield 19, 3) := by decide +kernel
theorem dX4_skipLetters_49 : decode cX4_skipLetters 49 = .ok (.goto (-49), 3) := by decide +kernel
theorem dX4_skipLetters_52 : decode cX4_skipLetters 52 = .ok (.return_, 1) := by decide +kernel
theorem dX4_skipBlanks_0 : decode cX4_skipBlanks 0 = .ok (.aload_n 0, 1) := by decide +kernel
theorem dX4_skipBlanks_1 : decode cX4_skipBlanks 1 = .ok (.getfield 19, 3) := by decide +kernel
theorem dX4_skipBlanks_4 : decode cX4_skipBlanks 4 = .ok (.aload_n 0, 1) := by decide +kernel
theorem dX4_skipBlanks_5 : decode cX4_skipBlanks 5 = .ok (.getfield 15, 3) := by decide +kernel
theorem dX4_skipBlanks_8 : decode cX4_skipBlanks 8 = .ok (.if_icmp .ge 30, 3) := by decide +kernel
theorem dX4_skipBlanks_11 : decode cX4_skipBlanks 11 = .ok (.aload_n 0, 1) := by decide +kernel
theorem dX4_skipBlanks_12 : decode cX4_skipBlanks 12 = .ok (.getfield 9, 3) := by decide +kernel
theorem dX4_skipBlanks_15 : decode cX4_skipBlanks 15 = .ok (.aload_n 0, 1) := by decide +kernel
theorem dX4_skipBlanks_16 : decode cX4_skipBlanks 16 = .ok (.getfield 19, 3) := by decide +kernel
theorem dX4_skipBlanks_19 : decode cX4_skipBlanks 19 = .ok (.iaload, 1) := by decide +kernel
theorem dX4_skipBlanks_20 : decode cX4_skipBlanks 20 = .ok (.bipush 32, 2) := by decide +kernel
theorem dX4_skipBlanks_22 : decode cX4_skipBlanks 22 = .ok (.if_icmp .ne 16, 3) := by decide +kernel
theorem dX4_skipBlanks_25 : decode cX4_skipBlanks 25 = .ok (.aload_n 0, 1) := by decide +kernel
theorem dX4_skipBlanks_26 : decode cX4_skipBlanks 26 = .ok (.dup, 1) := by decide +kernel
theorem dX4_skipBlanks_27 : decode cX4_skipBlanks 27 = .ok (.getfield 19, 3) := by decide +kernel
theorem dX4_skipBlanks_30 : decode cX4_skipBlanks 30 = .ok (.iconst 1, 1) := by decide +kernel
theorem dX4_skipBlanks_31 : decode cX4_skipBlanks 31 = .ok (.iadd, 1) := by decide +kernel
theorem dX4_skipBlanks_32 : decode cX4_skipBlanks 32 = .ok (.putfield 19, 3) := by decide +kernel
theorem dX4_skipBlanks_35 : decode cX4_skipBlanks 35 = .ok (.goto (-35), 3) := by decide +kernel
theorem dX4_skipBlanks_38 : decode cX4_skipBlanks 38 = .ok (.return_, 1) := by decide +kernel
theorem dX4_fail_0 : decode cX4_fail 0 = .ok (.aload_n 0, 1) := by decide +kernel
theorem dX4_fail_1 : decode cX4_fail 1 = .ok (.getfield 22, 3) := by decide +kernel
theorem dX4_fail_4 : decode cX4_fail 4 = .ok (.ifCond .ne 13, 3) := by decide +kernel
theorem dX4_fail_7 : decode cX4_fail 7 = .ok (.aload_n 0, 1) := by decide +kernel
theorem dX4_fail_8 : decode cX4_fail 8 = .ok (.iload_n 1, 1) := by decide +kernel
theorem dX4_fail_9 : decode cX4_fail 9 = .ok (.putfield 22, 3) := by decide +kernel
theorem dX4_fail_12 : decode cX4_fail 12 = .ok (.aload_n 0, 1) := by decide +kernel
theorem dX4_fail_13 : decode cX4_fail 13 = .ok (.iload_n 2, 1) := by decide +kernel
theorem dX4_fail_14 : decode cX4_fail 14 = .ok (.putfield 25, 3) := by decide +kernel
theorem dX4_fail_17 : decode cX4_fail 17 = .ok (.return_, 1) := by decide +kernel
theorem dX5_init_0 : decode cX5_init 0 = .ok (.aload_n 0, 1) := by decide +kernel
theorem dX5_init_1 : decode cX5_init 1 = .ok (.invokespecial 3, 3) := by decide +kernel
theorem dX5_init_4 : decode cX5_init 4 = .ok (.aload_n 0, 1) := by decide +kernel
theorem dX5_init_5 : decode cX5_init 5 = .ok (.bipush 30, 2) := by decide +kernel
theorem dX5_init_7 : decode cX5_init 7 = .ok (.iconst 3, 1) := by decide +kernel
theorem dX5_init_8 : decode cX5_init 8 = .ok (.multianewarray 9 2, 4) := by decide +kernel
theorem dX5_init_12 : decode cX5_init 12 = .ok (.putfield 11, 3) := by decide +kernel
theorem dX5_init_15 : decode cX5_init 15 = .ok (.aload_n 0, 1) := by decide +kernel
theorem dX5_init_16 : decode cX5_init 16 = .ok (.iconst 0, 1) := by decide +kernel
theorem dX5_init_17 : decode cX5_init 17 = .ok (.putfield 16, 3) := by decide +kernel
theorem dX5_init_20 : decode cX5_init 20 = .ok (.return_, 1) := by decide +kernel
theorem dX5_append_0 : decode cX5_append 0 = .ok (.aload_n 0, 1) := by decide +kernel
theorem dX5_append_1 : decode cX5_append 1 = .ok (.getfield 16, 3) := by decide +kernel
theorem dX5_append_4 : decode cX5_append 4 = .ok (.bipush 30, 2) := by decide +kernel
theorem dX5_append_6 : decode cX5_append 6 = .ok (.if_icmp .lt 6, 3) := by decide +kernel
theorem dX5_append_9 : decode cX5_append 9 = .ok (.ldc 20, 2) := by decide +kernel
theorem dX5_append_11 : decode cX5_append 11 = .ok (.ireturn, 1) := by decide +kernel
theorem dX5_append_12 : decode cX5_append 12 = .ok (.aload_n 0, 1) := by decide +kernel
theorem dX5_append_13 : decode cX5_append 13 = .ok (.getfield 11, 3) := by decide +kernel
theorem dX5_append_16 : decode cX5_append 16 = .ok (.aload_n 0, 1) := by decide +kernel
theorem dX5_append_17 : decode cX5_append 17 = .ok (.getfield 16, 3) := by decide +kernel
theorem dX5_append_20 : decode cX5_append 20 = .ok (.aaload, 1) := by decide +kernel
theorem dX5_append_21 : decode cX5_append 21 = .ok (.iconst 0, 1) := by decide +kernel
theorem dX5_append_22 : decode cX5_append 22 = .ok (.iload_n 1, 1) := by decide +kernel
theorem dX5_append_23 : decode cX5_append 23 = .ok (.iastore, 1) := by decide +kernel
theorem dX5_append_24 : decode cX5_append 24 = .ok (.aload_n 0, 1) := by decide +kernel
theorem dX5_append_25 : decode cX5_append 25 = .ok (.getfield 11, 3) := by decide +kernel
theorem dX5_append_28 : decode cX5_append 28 = .ok (.aload_n 0, 1) := by decide +kernel
theorem dX5_append_29 : decode cX5_append 29 = .ok (.getfield 16, 3) := by decide +kernel
theorem dX5_append_32 : decode cX5_append 32 = .ok (.aaload, 1) := by decide +kernel
theorem dX5_append_33 : decode cX5_append 33 = .ok (.iconst 1, 1) := by decide +kernel
theorem dX5_append_34 : decode cX5_append 34 = .ok (.iload_n 2, 1) := by decide +kernel
theorem dX5_append_35 : decode cX5_append 35 = .ok (.iastore, 1) := by decide +kernel
theorem dX5_append_36 : decode cX5_append 36 = .ok (.aload_n 0, 1) := by decide +kernel
theorem dX5_append_37 : decode cX5_append 37 = .ok (.getfield 11, 3) := by decide +kernel
theorem dX5_append_40 : decode cX5_append 40 = .ok (.aload_n 0, 1) := by decide +kernel
theorem dX5_append_41 : decode cX5_append 41 = .ok (.getfield 16, 3) := by decide +kernel
theorem dX5_append_44 : decode cX5_append 44 = .ok (.aaload, 1) := by decide +kernel
theorem dX5_append_45 : decode cX5_append 45 = .ok (.iconst 2, 1) := by decide +kernel
theorem dX5_append_46 : decode cX5_append 46 = .ok (.iload_n 3, 1) := by decide +kernel
theorem dX5_append_47 : decode cX5_append 47 = .ok (.iastore, 1) := by decide +kernel
theorem dX5_append_48 : decode cX5_append 48 = .ok (.aload_n 0, 1) := by decide +kernel
theorem dX5_append_49 : decode cX5_append 49 = .ok (.dup, 1) := by decide +kernel
theorem dX5_append_50 : decode cX5_append 50 = .ok (.getfield 16, 3) := by decide +kernel
theorem dX5_append_53 : decode cX5_append 53 = .ok (.iconst 1, 1) := by decide +kernel
theorem dX5_append_54 : decode cX5_append 54 = .ok (.iadd, 1) := by decide +kernel
theorem dX5_append_55 : decode cX5_append 55 = .ok (.putfield 16, 3) := by decide +kernel
theorem dX5_append_58 : decode cX5_append 58 = .ok (.aload_n 0, 1) := by decide +kernel
theorem dX5_append_59 : decode cX5_append 59 = .ok (.getfield 16, 3) := by decide +kernel
theorem dX5_append_62 : decode cX5_append 62 = .ok (.ireturn, 1) := by decide +kernel
theorem dX5_empty_0 : decode cX5_empty 0 = .ok (.aload_n 0, 1) := by decide +kernel
theorem dX5_empty_1 : decode cX5_empty 1 = .ok (.iconst 0, 1) := by decide +kernel
theorem dX5_empty_2 : decode cX5_empty 2 = .ok (.putfield 16, 3) := by decide +kernel
theorem dX5_empty_5 : decode cX5_empty 5 = .ok (.return_, 1) := by decide +kernel
theorem dX5_tellOfTheSame_0 : decode cX5_tellOfTheSame 0 = .ok (.aload_n 0, 1) := by decide +kernel
theorem dX5_tellOfTheSame_1 : decode cX5_tellOfTheSame 1 = .ok (.getfield 11, 3) := by decide +kernel
theorem dX5_tellOfTheSame_4 : decode cX5_tellOfTheSame 4 = .ok (.iload_n 1, 1) := by decide +kernel
theorem dX5_tellOfTheSame_5 : decode cX5_tellOfTheSame 5 = .ok (.aaload, 1) := by decide +kernel
theorem dX5_tellOfTheSame_6 : decode cX5_tellOfTheSame 6 = .ok (.iconst 0, 1) := by decide +kernel
theorem dX5_tellOfTheSame_7 : decode cX5_tellOfTheSame 7 = .ok (.iaload, 1) := by decide +kernel
theorem dX5_tellOfTheSame_8 : decode cX5_tellOfTheSame 8 = .ok (.aload_n 0, 1) := by decide +kernel
theorem dX5_tellOfTheSame_9 : decode cX5_tellOfTheSame 9 = .ok (.getfield 11, 3) := by decide +kernel
theorem dX5_tellOfTheSame_12 : decode cX5_tellOfTheSame 12 = .ok (.iload_n 2, 1) := by decide +kernel
theorem dX5_tellOfTheSame_13 : decode cX5_tellOfTheSame 13 = .ok (.aaload, 1) := by decide +kernel
theorem dX5_tellOfTheSame_14 : decode cX5_tellOfTheSame 14 = .ok (.iconst 0, 1) := by decide +kernel
theorem dX5_tellOfTheSame_15 : decode cX5_tellOfTheSame 15 = .ok (.iaload, 1) := by decide +kernel
theorem dX5_tellOfTheSame_16 : decode cX5_tellOfTheSame 16 = .ok (.if_icmp .ne 26, 3) := by decide +kernel
theorem dX5_tellOfTheSame_19 : decode cX5_tellOfTheSame 19 = .ok (.aload_n 0, 1) := by decide +kernel
theorem dX5_tellOfTheSame_20 : decode cX5_tellOfTheSame 20 = .ok (.getfield 11, 3) := by decide +kernel
theorem dX5_tellOfTheSame_23 : decode cX5_tellOfTheSame 23 = .ok (.iload_n 1, 1) := by decide +kernel
theorem dX5_tellOfTheSame_24 : decode cX5_tellOfTheSame 24 = .ok (.aaload, 1) := by decide +kernel
theorem dX5_tellOfTheSame_25 : decode cX5_tellOfTheSame 25 = .ok (.iconst 1, 1) := by decide +kernel
theorem dX5_tellOfTheSame_26 : decode cX5_tellOfTheSame 26 = .ok (.iaload, 1) := by decide +kernel
theorem dX5_tellOfTheSame_27 : decode cX5_tellOfTheSame 27 = .ok (.aload_n 0, 1) := by decide +kernel
theorem dX5_tellOfTheSame_28 : decode cX5_tellOfTheSame 28 = .ok (.getfield 11, 3) := by decide +kernel
theorem dX5_tellOfTheSame_31 : decode cX5_tellOfTheSame 31 = .ok (.iload_n 2, 1) := by decide +kernel
theorem dX5_tellOfTheSame_32 : decode cX5_tellOfTheSame 32 = .ok (.aaload, 1) := by decide +kernel
theorem dX5_tellOfTheSame_33 : decode cX5_tellOfTheSame 33 = .ok (.iconst 1, 1) := by decide +kernel
theorem dX5_tellOfTheSame_34 : decode cX5_tellOfTheSame 34 = .ok (.iaload, 1) := by decide +kernel
theorem dX5_tellOfTheSame_35 : decode cX5_tellOfTheSame 35 = .ok (.if_icmp .ne 7, 3) := by decide +kernel
theorem dX5_tellOfTheSame_38 : decode cX5_tellOfTheSame 38 = .ok (.iconst 1, 1) := by decide +kernel
theorem dX5_tellOfTheSame_39 : decode cX5_tellOfTheSame 39 = .ok (.goto 4, 3) := by decide +kernel
theorem dX5_tellOfTheSame_42 : decode cX5_tellOfTheSame 42 = .ok (.iconst 0, 1) := by decide +kernel
theorem dX5_tellOfTheSame_43 : decode cX5_tellOfTheSame 43 = .ok (.ireturn, 1) := by decide +kernel
theorem dX6_init_0 : decode cX6_init 0 = .ok (.aload_n 0, 1) := by decide +kernel
theorem dX6_init_1 : decode cX6_init 1 = .ok (.invokespecial 3, 3) := by decide +kernel
theorem dX6_init_4 : decode cX6_init 4 = .ok (.aload_n 0, 1) := by decide +kernel
theorem dX6_init_5 : decode cX6_init 5 = .ok (.bipush 8, 2) := by decide +kernel
theorem dX6_init_7 : decode cX6_init 7 = .ok (.iconst 2, 1) := by decide +kernel
theorem dX6_init_8 : decode cX6_init 8 = .ok (.multianewarray 9 2, 4) := by decide +kernel
theorem dX6_init_12 : decode cX6_init 12 = .ok (.putfield 11, 3) := by decide +kernel
theorem dX6_init_15 : decode cX6_init 15 = .ok (.aload_n 0, 1) := by decide +kernel
theorem dX6_init_16 : decode cX6_init 16 = .ok (.bipush 8, 2) := by decide +kernel
theorem dX6_init_18 : decode cX6_init 18 = .ok (.newarray .int, 2) := by decide +kernel
theorem dX6_init_20 : decode cX6_init 20 = .ok (.putfield 16, 3) := by decide +kernel
theorem dX6_init_23 : decode cX6_init 23 = .ok (.aload_n 0, 1) := by decide +kernel
theorem dX6_init_24 : decode cX6_init 24 = .ok (.bipush 10, 2) := by decide +kernel
theorem dX6_init_26 : decode cX6_init 26 = .ok (.iconst 4, 1) := by decide +kernel
theorem dX6_init_27 : decode cX6_init 27 = .ok (.multianewarray 9 2, 4) := by decide +kernel
theorem dX6_init_31 : decode cX6_init 31 = .ok (.putfield 20, 3) := by decide +kernel
theorem dX6_init_34 : decode cX6_init 34 = .ok (.aload_n 0, 1) := by decide +kernel
theorem dX6_init_35 : decode cX6_init 35 = .ok (.bipush 8, 2) := by decide +kernel
theorem dX6_init_37 : decode cX6_init 37 = .ok (.bipush 24, 2) := by decide +kernel
theorem dX6_init_39 : decode cX6_init 39 = .ok (.multianewarray 9 2, 4) := by decide +kernel
theorem dX6_init_43 : decode cX6_init 43 = .ok (.putfield 23, 3) := by decide +kernel
theorem dX6_init_46 : decode cX6_init 46 = .ok (.aload_n 0, 1) := by decide +kernel
theorem dX6_init_47 : decode cX6_init 47 = .ok (.bipush 8, 2) := by decide +kernel
theorem dX6_init_49 : decode cX6_init 49 = .ok (.bipush 8, 2) := by decide +kernel
theorem dX6_init_51 : decode cX6_init 51 = .ok (.multianewarray 9 2, 4) := by decide +kernel
theorem dX6_init_55 : decode cX6_init 55 = .ok (.putfield 26, 3) := by decide +kernel
theorem dX6_init_58 : decode cX6_init 58 = .ok (.aload_n 0, 1) := by decide +kernel
theorem dX6_init_59 : decode cX6_init 59 = .ok (.bipush 8, 2) := by decide +kernel
theorem dX6_init_61 : decode cX6_init 61 = .ok (.newarray .int, 2) := by decide +kernel
theorem dX6_init_63 : decode cX6_init 63 = .ok (.putfield 29, 3) := by decide +kernel
theorem dX6_init_66 : decode cX6_init 66 = .ok (.aload_n 0, 1) := by decide +kernel
theorem dX6_init_67 : decode cX6_init 67 = .ok (.invokevirtual 32, 3) := by decide +kernel
theorem dX6_init_70 : decode cX6_init 70 = .ok (.return_, 1) := by decide +kernel
theorem dX6_clear_0 : decode cX6_clear 0 = .ok (.aload_n 0, 1) := by decide +kernel
theorem dX6_clear_1 : decode cX6_clear 1 = .ok (.iconst 0, 1) := by decide +kernel
theorem dX6_clear_2 : decode cX6_clear 2 = .ok (.putfield 35, 3) := by decide +kernel
theorem dX6_clear_5 : decode cX6_clear 5 = .ok (.aload_n 0, 1) := by decide +kernel
theorem dX6_clear_6 : decode cX6_clear 6 = .ok (.iconst 0, 1) := by decide +kernel
theorem dX6_clear_7 : decode cX6_clear 7 = .ok (.putfield 39, 3) := by decide +kernel
theorem dX6_clear_10 : decode cX6_clear 10 = .ok (.aload_n 0, 1) := by decide +kernel
theorem dX6_clear_11 : decode cX6_clear 11 = .ok (.iconst 0, 1) := by decide +kernel
theorem dX6_clear_12 : decode cX6_clear 12 = .ok (.putfield 42, 3) := by decide +kernel
theorem dX6_clear_15 : decode cX6_clear 15 = .ok (.aload_n 0, 1) := by decide +kernel
theorem dX6_clear_16 : decode cX6_clear 16 = .ok (.iconst 0, 1) := by decide +kernel
theorem dX6_clear_17 : decode cX6_clear 17 = .ok (.putfield 45, 3) := by decide +kernel
theorem dX6_clear_20 : decode cX6_clear 20 = .ok (.aload_n 0, 1) := by decide +kernel
theorem dX6_clear_21 : decode cX6_clear 21 = .ok (.bipush 20, 2) := by decide +kernel
theorem dX6_clear_23 : decode cX6_clear 23 = .ok (.putfield 48, 3) := by decide +kernel
theorem dX6_clear_26 : decode cX6_clear 26 = .ok (.aload_n 0, 1) := by decide +kernel
theorem dX6_clear_27 : decode cX6_clear 27 = .ok (.iconst 0, 1) := by decide +kernel
theorem dX6_clear_28 : decode cX6_clear 28 = .ok (.putfield 51, 3) := by decide +kernel
theorem dX6_clear_31 : decode cX6_clear 31 = .ok (.aload_n 0, 1) := by decide +kernel
theorem dX6_clear_32 : decode cX6_clear 32 = .ok (.iconst 0, 1) := by decide +kernel
theorem dX6_clear_33 : decode cX6_clear 33 = .ok (.putfield 54, 3) := by decide +kernel
theorem dX6_clear_36 : decode cX6_clear 36 = .ok (.aload_n 0, 1) := by decide +kernel
theorem dX6_clear_37 : decode cX6_clear 37 = .ok (.iconst 0, 1) := by decide +kernel
theorem dX6_clear_38 : decode cX6_clear 38 = .ok (.putfield 58, 3) := by decide +kernel
theorem dX6_clear_41 : decode cX6_clear 41 = .ok (.iconst 0, 1) := by decide +kernel
theorem dX6_clear_42 : decode cX6_clear 42 = .ok (.istore_n 1, 1) := by decide +kernel
theorem dX6_clear_43 : decode cX6_clear 43 = .ok (.iload_n 1, 1) := by decide +kernel
theorem dX6_clear_44 : decode cX6_clear 44 = .ok (.bipush 8, 2) := by decide +kernel
theorem dX6_clear_46 : decode cX6_clear 46 = .ok (.if_icmp .ge 62, 3) := by decide +kernel
theorem dX6_clear_49 : decode cX6_clear 49 = .ok (.aload_n 0, 1) := by decide +kernel
theorem dX6_clear_50 : decode cX6_clear 50 = .ok (.getfield 29, 3) := by decide +kernel
theorem dX6_clear_53 : decode cX6_clear 53 = .ok (.iload_n 1, 1) := by decide +kernel
theorem dX6_clear_54 : decode cX6_clear 54 = .ok (.iconst 0, 1) := by decide +kernel
theorem dX6_clear_55 : decode cX6_clear 55 = .ok (.iastore, 1) := by decide +kernel
theorem dX6_clear_56 : decode cX6_clear 56 = .ok (.iconst 0, 1) := by decide +kernel
theorem dX6_clear_57 : decode cX6_clear 57 = .ok (.istore_n 2, 1) := by decide +kernel
theorem dX6_clear_58 : decode cX6_clear 58 = .ok (.iload_n 2, 1) := by decide +kernel
theorem dX6_clear_59 : decode cX6_clear 59 = .ok (.bipush 8, 2) := by decide +kernel
theorem dX6_clear_61 : decode cX6_clear 61 = .ok (.if_icmp .ge 18, 3) := by decide +kernel
theorem dX6_clear_64 : decode cX6_clear 64 = .ok (.aload_n 0, 1) := by decide +kernel
theorem dX6_clear_65 : decode cX6_clear 65 = .ok (.getfield 26, 3) := by decide +kernel
theorem dX6_clear_68 : decode cX6_clear 68 = .ok (.iload_n 1, 1) := by decide +kernel
theorem dX6_clear_69 : decode cX6_clear 69 = .ok (.aaload, 1) := by decide +kernel
theorem dX6_clear_70 : decode cX6_clear 70 = .ok (.iload_n 2, 1) := by decide +kernel
theorem dX6_clear_71 : decode cX6_clear 71 = .ok (.iconst 0, 1) := by decide +kernel
theorem dX6_clear_72 : decode cX6_clear 72 = .ok (.iastore, 1) := by decide +kernel
theorem dX6_clear_73 : decode cX6_clear 73 = .ok (.iinc 2 1, 3) := by decide +kernel
theorem dX6_clear_76 : decode cX6_clear 76 = .ok (.goto (-18), 3) := by decide +kernel
theorem dX6_clear_79 : decode cX6_clear 79 = .ok (.iconst 0, 1) := by decide +kernel
theorem dX6_clear_80 : decode cX6_clear 80 = .ok (.istore_n 2, 1) := by decide +kernel
theorem dX6_clear_81 : decode cX6_clear 81 = .ok (.iload_n 2, 1) := by decide +kernel
theorem dX6_clear_82 : decode cX6_clear 82 = .ok (.bipush 24, 2) := by decide +kernel
theorem dX6_clear_84 : decode cX6_clear 84 = .ok (.if_icmp .ge 18, 3) := by decide +kernel
theorem dX6_clear_87 : decode cX6_clear 87 = .ok (.aload_n 0, 1) := by decide +kernel
theorem dX6_clear_88 : decode cX6_clear 88 = .ok (.getfield 23, 3) := by decide +kernel
theorem dX6_clear_91 : decode cX6_clear 91 = .ok (.iload_n 1, 1) := by decide +kernel
theorem dX6_clear_92 : decode cX6_clear 92 = .ok (.aaload, 1) := by decide +kernel
theorem dX6_clear_93 : decode cX6_clear 93 = .ok (.iload_n 2, 1) := by decide +kernel
theorem dX6_clear_94 : decode cX6_clear 94 = .ok (.iconst (-1), 1) := by decide +kernel
theorem dX6_clear_95 : decode cX6_clear 95 = .ok (.iastore, 1) := by decide +kernel
theorem dX6_clear_96 : decode cX6_clear 96 = .ok (.iinc 2 1, 3) := by decide +kernel
theorem dX6_clear_99 : decode cX6_clear 99 = .ok (.goto (-18), 3) := by decide +kernel
theorem dX6_clear_102 : decode cX6_clear 102 = .ok (.iinc 1 1, 3) := by decide +kernel
theorem dX6_clear_105 : decode cX6_clear 105 = .ok (.goto (-62), 3) := by decide +kernel
theorem dX6_clear_108 : decode cX6_clear 108 = .ok (.return_, 1) := by decide +kernel
theorem dX6_hasPerson_0 : decode cX6_hasPerson 0 = .ok (.iload_n 1, 1) := by decide +kernel
theorem dX6_hasPerson_1 : decode cX6_hasPerson 1 = .ok (.ifCond .lt 15, 3) := by decide +kernel
theorem dX6_hasPerson_4 : decode cX6_hasPerson 4 = .ok (.iload_n 1, 1) := by decide +kernel
theorem dX6_hasPerson_5 : decode cX6_hasPerson 5 = .ok (.aload_n 0, 1) := by decide +kernel
theorem dX6_hasPerson_6 : decode cX6_hasPerson 6 = .ok (.getfield 35, 3) := by decide +kernel
theorem dX6_hasPerson_9 : decode cX6_hasPerson 9 = .ok (.if_icmp .ge 7, 3) := by decide +kernel
theorem dX6_hasPerson_12 : decode cX6_hasPerson 12 = .ok (.iconst 1, 1) := by decide +kernel
theorem dX6_hasPerson_13 : decode cX6_hasPerson 13 = .ok (.goto 4, 3) := by decide +kernel
theorem dX6_hasPerson_16 : decode cX6_hasPerson 16 = .ok (.iconst 0, 1) := by decide +kernel
theorem dX6_hasPerson_17 : decode cX6_hasPerson 17 = .ok (.ireturn, 1) := by decide +kernel
theorem dX6_hasCoat_0 : decode cX6_hasCoat 0 = .ok (.iload_n 1, 1) := by decide +kernel
theorem dX6_hasCoat_1 : decode cX6_hasCoat 1 = .ok (.ifCond .lt 15, 3) := by decide +kernel
theorem dX6_hasCoat_4 : decode cX6_hasCoat 4 = .ok (.iload_n 1, 1) := by decide +kernel
theorem dX6_hasCoat_5 : decode cX6_hasCoat 5 = .ok (.aload_n 0, 1) := by decide +kernel
theorem dX6_hasCoat_6 : decode cX6_hasCoat 6 = .ok (.getfield 39, 3) := by decide +kernel
theorem dX6_hasCoat_9 : decode cX6_hasCoat 9 = .ok (.if_icmp .ge 7, 3) := by decide +kernel
theorem dX6_hasCoat_12 : decode cX6_hasCoat 12 = .ok (.iconst 1, 1) := by decide +kernel
theorem dX6_hasCoat_13 : decode cX6_hasCoat 13 = .ok (.goto 4, 3) := by decide +kernel
theorem dX6_hasCoat_16 : decode cX6_hasCoat 16 = .ok (.iconst 0, 1) := by decide +kernel
theorem dX6_hasCoat_17 : decode cX6_hasCoat 17 = .ok (.ireturn, 1) := by decide +kernel
theorem dX6_isCut_0 : decode cX6_isCut 0 = .ok (.aload_n 0, 1) := by decide +kernel
theorem dX6_isCut_1 : decode cX6_isCut 1 = .ok (.getfield 51, 3) := by decide +kernel
theorem dX6_isCut_4 : decode cX6_isCut 4 = .ok (.iload_n 1, 1) := by decide +kernel
theorem dX6_isCut_5 : decode cX6_isCut 5 = .ok (.ishr, 1) := by decide +kernel
theorem dX6_isCut_6 : decode cX6_isCut 6 = .ok (.iconst 1, 1) := by decide +kernel
theorem dX6_isCut_7 : decode cX6_isCut 7 = .ok (.iand, 1) := by decide +kernel
theorem dX6_isCut_8 : decode cX6_isCut 8 = .ok (.ifCond .eq 7, 3) := by decide +kernel
theorem dX6_isCut_11 : decode cX6_isCut 11 = .ok (.iconst 1, 1) := by decide +kernel
theorem dX6_isCut_12 : decode cX6_isCut 12 = .ok (.goto 4, 3) := by decide +kernel
theorem dX6_isCut_15 : decode cX6_isCut 15 = .ok (.iconst 0, 1) := by decide +kernel
theorem dX6_isCut_16 : decode cX6_isCut 16 = .ok (.ireturn, 1) := by decide +kernel
theorem dX6_likingIsTold_0 : decode cX6_likingIsTold 0 = .ok (.aload_n 0, 1) := by decide +kernel
theorem dX6_likingIsTold_1 : decode cX6_likingIsTold 1 = .ok (.getfield 29, 3) := by decide +kernel
theorem dX6_likingIsTold_4 : decode cX6_likingIsTold 4 = .ok (.iload_n 1, 1) := by decide +kernel
theorem dX6_likingIsTold_5 : decode cX6_likingIsTold 5 = .ok (.iaload, 1) := by decide +kernel
theorem dX6_likingIsTold_6 : decode cX6_likingIsTold 6 = .ok (.iload_n 2, 1) := by decide +kernel
theorem dX6_likingIsTold_7 : decode cX6_likingIsTold 7 = .ok (.ishr, 1) := by decide +kernel
theorem dX6_likingIsTold_8 : decode cX6_likingIsTold 8 = .ok (.iconst 1, 1) := by decide +kernel
theorem dX6_likingIsTold_9 : decode cX6_likingIsTold 9 = .ok (.iand, 1) := by decide +kernel
theorem dX6_likingIsTold_10 : decode cX6_likingIsTold 10 = .ok (.ifCond .eq 7, 3) := by decide +kernel
theorem dX6_likingIsTold_13 : decode cX6_likingIsTold 13 = .ok (.iconst 1, 1) := by decide +kernel
theorem dX6_likingIsTold_14 : decode cX6_likingIsTold 14 = .ok (.goto 4, 3) := by decide +kernel
theorem dX6_likingIsTold_17 : decode cX6_likingIsTold 17 = .ok (.iconst 0, 1) := by decide +kernel
theorem dX6_likingIsTold_18 : decode cX6_likingIsTold 18 = .ok (.ireturn, 1) := by decide +kernel
theorem dX6_addCoat_0 : decode cX6_addCoat 0 = .ok (.aload_n 0, 1) := by decide +kernel
theorem dX6_addCoat_1 : decode cX6_addCoat 1 = .ok (.getfield 39, 3) := by decide +kernel
theorem dX6_addCoat_4 : decode cX6_addCoat 4 = .ok (.bipush 8, 2) := by decide +kernel
theorem dX6_addCoat_6 : decode cX6_addCoat 6 = .ok (.if_icmp .ge 47, 3) := by decide +kernel
theorem dX6_addCoat_9 : decode cX6_addCoat 9 = .ok (.aload_n 0, 1) := by decide +kernel
theorem dX6_addCoat_10 : decode cX6_addCoat 10 = .ok (.getfield 11, 3) := by decide +kernel
theorem dX6_addCoat_13 : decode cX6_addCoat 13 = .ok (.aload_n 0, 1) := by decide +kernel
theorem dX6_addCoat_14 : decode cX6_addCoat 14 = .ok (.getfield 39, 3) := by decide +kernel
theorem dX6_addCoat_17 : decode cX6_addCoat 17 = .ok (.aaload, 1) := by decide +kernel
theorem dX6_addCoat_18 : decode cX6_addCoat 18 = .ok (.iconst 0, 1) := by decide +kernel
theorem dX6_addCoat_19 : decode cX6_addCoat 19 = .ok (.iload_n 1, 1) := by decide +kernel
theorem dX6_addCoat_20 : decode cX6_addCoat 20 = .ok (.iastore, 1) := by decide +kernel
theorem dX6_addCoat_21 : decode cX6_addCoat 21 = .ok (.aload_n 0, 1) := by decide +kernel
theorem dX6_addCoat_22 : decode cX6_addCoat 22 = .ok (.getfield 11, 3) := by decide +kernel
theorem dX6_addCoat_25 : decode cX6_addCoat 25 = .ok (.aload_n 0, 1) := by decide +kernel
theorem dX6_addCoat_26 : decode cX6_addCoat 26 = .ok (.getfield 39, 3) := by decide +kernel
theorem dX6_addCoat_29 : decode cX6_addCoat 29 = .ok (.aaload, 1) := by decide +kernel
theorem dX6_addCoat_30 : decode cX6_addCoat 30 = .ok (.iconst 1, 1) := by decide +kernel
theorem dX6_addCoat_31 : decode cX6_addCoat 31 = .ok (.iload_n 2, 1) := by decide +kernel
theorem dX6_addCoat_32 : decode cX6_addCoat 32 = .ok (.iastore, 1) := by decide +kernel
theorem dX6_addCoat_33 : decode cX6_addCoat 33 = .ok (.aload_n 0, 1) := by decide +kernel
theorem dX6_addCoat_34 : decode cX6_addCoat 34 = .ok (.getfield 16, 3) := by decide +kernel
theorem dX6_addCoat_37 : decode cX6_addCoat 37 = .ok (.aload_n 0, 1) := by decide +kernel
theorem dX6_addCoat_38 : decode cX6_addCoat 38 = .ok (.getfield 39, 3) := by decide +kernel
theorem dX6_addCoat_41 : decode cX6_addCoat 41 = .ok (.iload_n 3, 1) := by decide +kernel
theorem dX6_addCoat_42 : decode cX6_addCoat 42 = .ok (.iastore, 1) := by decide +kernel
theorem dX6_addCoat_43 : decode cX6_addCoat 43 = .ok (.aload_n 0, 1) := by decide +kernel
theorem dX6_addCoat_44 : decode cX6_addCoat 44 = .ok (.dup, 1) := by decide +kernel
theorem dX6_addCoat_45 : decode cX6_addCoat 45 = .ok (.getfield 39, 3) := by decide +kernel
theorem dX6_addCoat_48 : decode cX6_addCoat 48 = .ok (.iconst 1, 1) := by decide +kernel
theorem dX6_addCoat_49 : decode cX6_addCoat 49 = .ok (.iadd, 1) := by decide +kernel
theorem dX6_addCoat_50 : decode cX6_addCoat 50 = .ok (.putfield 39, 3) := by decide +kernel
theorem dX6_addCoat_53 : decode cX6_addCoat 53 = .ok (.return_, 1) := by decide +kernel
theorem dX6_addErrand_0 : decode cX6_addErrand 0 = .ok (.aload_n 0, 1) := by decide +kernel
theorem dX6_addErrand_1 : decode cX6_addErrand 1 = .ok (.getfield 42, 3) := by decide +kernel
theorem dX6_addErrand_4 : decode cX6_addErrand 4 = .ok (.bipush 10, 2) := by decide +kernel
theorem dX6_addErrand_6 : decode cX6_addErrand 6 = .ok (.if_icmp .ge 71, 3) := by decide +kernel
theorem dX6_addErrand_9 : decode cX6_addErrand 9 = .ok (.aload_n 0, 1) := by decide +kernel
theorem dX6_addErrand_10 : decode cX6_addErrand 10 = .ok (.getfield 20, 3) := by decide +kernel
theorem dX6_addErrand_13 : decode cX6_addErrand 13 = .ok (.aload_n 0, 1) := by decide +kernel
theorem dX6_addErrand_14 : decode cX6_addErrand 14 = .ok (.getfield 42, 3) := by decide +kernel
theorem dX6_addErrand_17 : decode cX6_addErrand 17 = .ok (.aaload, 1) := by decide +kernel
theorem dX6_addErrand_18 : decode cX6_addErrand 18 = .ok (.astore 5, 2) := by decide +kernel
theorem dX6_addErrand_20 : decode cX6_addErrand 20 = .ok (.aload 5, 2) := by decide +kernel
theorem dX6_addErrand_22 : decode cX6_addErrand 22 = .ok (.iconst 0, 1) := by decide +kernel
theorem dX6_addErrand_23 : decode cX6_addErrand 23 = .ok (.iload_n 1, 1) := by decide +kernel
theorem dX6_addErrand_24 : decode cX6_addErrand 24 = .ok (.iastore, 1) := by decide +kernel
theorem dX6_addErrand_25 : decode cX6_addErrand 25 = .ok (.aload 5, 2) := by decide +kernel
theorem dX6_addErrand_27 : decode cX6_addErrand 27 = .ok (.iconst 1, 1) := by decide +kernel
theorem dX6_addErrand_28 : decode cX6_addErrand 28 = .ok (.iload_n 2, 1) := by decide +kernel
theorem dX6_addErrand_29 : decode cX6_addErrand 29 = .ok (.iastore, 1) := by decide +kernel
theorem dX6_addErrand_30 : decode cX6_addErrand 30 = .ok (.aload 5, 2) := by decide +kernel
theorem dX6_addErrand_32 : decode cX6_addErrand 32 = .ok (.iconst 2, 1) := by decide +kernel
theorem dX6_addErrand_33 : decode cX6_addErrand 33 = .ok (.iload_n 3, 1) := by decide +kernel
theorem dX6_addErrand_34 : decode cX6_addErrand 34 = .ok (.iastore, 1) := by decide +kernel
theorem dX6_addErrand_35 : decode cX6_addErrand 35 = .ok (.aload 5, 2) := by decide +kernel
theorem dX6_addErrand_37 : decode cX6_addErrand 37 = .ok (.iconst 3, 1) := by decide +kernel
theorem dX6_addErrand_38 : decode cX6_addErrand 38 = .ok (.iload 4, 2) := by decide +kernel
theorem dX6_addErrand_40 : decode cX6_addErrand 40 = .ok (.iastore, 1) := by decide +kernel
theorem dX6_addErrand_41 : decode cX6_addErrand 41 = .ok (.aload_n 0, 1) := by decide +kernel
theorem dX6_addErrand_42 : decode cX6_addErrand 42 = .ok (.dup, 1) := by decide +kernel
theorem dX6_addErrand_43 : decode cX6_addErrand 43 = .ok (.getfield 42, 3) := by decide +kernel
theorem dX6_addErrand_46 : decode cX6_addErrand 46 = .ok (.iconst 1, 1) := by decide +kernel
theorem dX6_addErrand_47 : decode cX6_addErrand 47 = .ok (.iadd, 1) := by decide +kernel
theorem dX6_addErrand_48 : decode cX6_addErrand 48 = .ok (.putfield 42, 3) := by decide +kernel
theorem dX6_addErrand_51 : decode cX6_addErrand 51 = .ok (.iload_n 3, 1) := by decide +kernel
theorem dX6_addErrand_52 : decode cX6_addErrand 52 = .ok (.istore 6, 2) := by decide +kernel
theorem dX6_addErrand_54 : decode cX6_addErrand 54 = .ok (.iload 6, 2) := by decide +kernel
theorem dX6_addErrand_56 : decode cX6_addErrand 56 = .ok (.iload 4, 2) := by decide +kernel
theorem dX6_addErrand_58 : decode cX6_addErrand 58 = .ok (.if_icmp .gt 19, 3) := by decide +kernel
theorem dX6_addErrand_61 : decode cX6_addErrand 61 = .ok (.aload_n 0, 1) := by decide +kernel
theorem dX6_addErrand_62 : decode cX6_addErrand 62 = .ok (.getfield 23, 3) := by decide +kernel
theorem dX6_addErrand_65 : decode cX6_addErrand 65 = .ok (.iload_n 1, 1) := by decide +kernel
theorem dX6_addErrand_66 : decode cX6_addErrand 66 = .ok (.aaload, 1) := by decide +kernel
theorem dX6_addErrand_67 : decode cX6_addErrand 67 = .ok (.iload 6, 2) := by decide +kernel
theorem dX6_addErrand_69 : decode cX6_addErrand 69 = .ok (.iload_n 2, 1) := by decide +kernel
theorem dX6_addErrand_70 : decode cX6_addErrand 70 = .ok (.iastore, 1) := by decide +kernel
theorem dX6_addErrand_71 : decode cX6_addErrand 71 = .ok (.iinc 6 1, 3) := by decide +kernel
theorem dX6_addErrand_74 : decode cX6_addErrand 74 = .ok (.goto (-20), 3) := by decide +kernel
theorem dX6_addErrand_77 : decode cX6_addErrand 77 = .ok (.return_, 1) := by decide +kernel
theorem dX6_addLiking_0 : decode cX6_addLiking 0 = .ok (.aload_n 0, 1) := by decide +kernel
theorem dX6_addLiking_1 : decode cX6_addLiking 1 = .ok (.dup, 1) := by decide +kernel
theorem dX6_addLiking_2 : decode cX6_addLiking 2 = .ok (.getfield 45, 3) := by decide +kernel
theorem dX6_addLiking_5 : decode cX6_addLiking 5 = .ok (.iconst 1, 1) := by decide +kernel
theorem dX6_addLiking_6 : decode cX6_addLiking 6 = .ok (.iadd, 1) := by decide +kernel
theorem dX6_addLiking_7 : decode cX6_addLiking 7 = .ok (.putfield 45, 3) := by decide +kernel
theorem dX6_addLiking_10 : decode cX6_addLiking 10 = .ok (.aload_n 0, 1) := by decide +kernel
theorem dX6_addLiking_11 : decode cX6_addLiking 11 = .ok (.getfield 26, 3) := by decide +kernel
theorem dX6_addLiking_14 : decode cX6_addLiking 14 = .ok (.iload_n 1, 1) := by decide +kernel
theorem dX6_addLiking_15 : decode cX6_addLiking 15 = .ok (.aaload, 1) := by decide +kernel
theorem dX6_addLiking_16 : decode cX6_addLiking 16 = .ok (.iload_n 2, 1) := by decide +kernel
theorem dX6_addLiking_17 : decode cX6_addLiking 17 = .ok (.iload_n 3, 1) := by decide +kernel
theorem dX6_addLiking_18 : decode cX6_addLiking 18 = .ok (.iastore, 1) := by decide +kernel
theorem dX6_addLiking_19 : decode cX6_addLiking 19 = .ok (.aload_n 0, 1) := by decide +kernel
theorem dX6_addLiking_20 : decode cX6_addLiking 20 = .ok (.getfield 29, 3) := by decide +kernel
theorem dX6_addLiking_23 : decode cX6_addLiking 23 = .ok (.iload_n 1, 1) := by decide +kernel
theorem dX6_addLiking_24 : decode cX6_addLiking 24 = .ok (.dup2, 1) := by decide +kernel
theorem dX6_addLiking_25 : decode cX6_addLiking 25 = .ok (.iaload, 1) := by decide +kernel
theorem dX6_addLiking_26 : decode cX6_addLiking 26 = .ok (.iconst 1, 1) := by decide +kernel
theorem dX6_addLiking_27 : decode cX6_addLiking 27 = .ok (.iload_n 2, 1) := by decide +kernel
theorem dX6_addLiking_28 : decode cX6_addLiking 28 = .ok (.ishl, 1) := by decide +kernel
theorem dX6_addLiking_29 : decode cX6_addLiking 29 = .ok (.ior, 1) := by decide +kernel
theorem dX6_addLiking_30 : decode cX6_addLiking 30 = .ok (.iastore, 1) := by decide +kernel
theorem dX6_addLiking_31 : decode cX6_addLiking 31 = .ok (.return_, 1) := by decide +kernel
theorem dX6_isOutWithin_0 : decode cX6_isOutWithin 0 = .ok (.iload_n 2, 1) := by decide +kernel
theorem dX6_isOutWithin_1 : decode cX6_isOutWithin 1 = .ok (.istore 4, 2) := by decide +kernel
theorem dX6_isOutWithin_3 : decode cX6_isOutWithin 3 = .ok (.iload 4, 2) := by decide +kernel
theorem dX6_isOutWithin_5 : decode cX6_isOutWithin 5 = .ok (.iload_n 3, 1) := by decide +kernel
theorem dX6_isOutWithin_6 : decode cX6_isOutWithin 6 = .ok (.if_icmp .gt 24, 3) := by decide +kernel
theorem dX6_isOutWithin_9 : decode cX6_isOutWithin 9 = .ok (.aload_n 0, 1) := by decide +kernel
theorem dX6_isOutWithin_10 : decode cX6_isOutWithin 10 = .ok (.getfield 23, 3) := by decide +kernel
theorem dX6_isOutWithin_13 : decode cX6_isOutWithin 13 = .ok (.iload_n 1, 1) := by decide +kernel
theorem dX6_isOutWithin_14 : decode cX6_isOutWithin 14 = .ok (.aaload, 1) := by decide +kernel
theorem dX6_isOutWithin_15 : decode cX6_isOutWithin 15 = .ok (.iload 4, 2) := by decide +kernel
theorem dX6_isOutWithin_17 : decode cX6_isOutWithin 17 = .ok (.iaload, 1) := by decide +kernel
theorem dX6_isOutWithin_18 : decode cX6_isOutWithin 18 = .ok (.iconst (-1), 1) := by decide +kernel
theorem dX6_isOutWithin_19 : decode cX6_isOutWithin 19 = .ok (.if_icmp .eq 5, 3) := by decide +kernel
theorem dX6_isOutWithin_22 : decode cX6_isOutWithin 22 = .ok (.iconst 1, 1) := by decide +kernel
theorem dX6_isOutWithin_23 : decode cX6_isOutWithin 23 = .ok (.ireturn, 1) := by decide +kernel
theorem dX6_isOutWithin_24 : decode cX6_isOutWithin 24 = .ok (.iinc 4 1, 3) := by decide +kernel
theorem dX6_isOutWithin_27 : decode cX6_isOutWithin 27 = .ok (.goto (-24), 3) := by decide +kernel
theorem dX6_isOutWithin_30 : decode cX6_isOutWithin 30 = .ok (.iconst 0, 1) := by decide +kernel
theorem dX6_isOutWithin_31 : decode cX6_isOutWithin 31 = .ok (.ireturn, 1) := by decide +kernel
theorem dX6_markSteadyHours_0 : decode cX6_markSteadyHours 0 = .ok (.aload_n 0, 1) := by decide +kernel
theorem dX6_markSteadyHours_1 : decode cX6_markSteadyHours 1 = .ok (.iconst 0, 1) := by decide +kernel
theorem dX6_markSteadyHours_2 : decode cX6_markSteadyHours 2 = .ok (.putfield 58, 3) := by decide +kernel
theorem dX6_markSteadyHours_5 : decode cX6_markSteadyHours 5 = .ok (.iconst 1, 1) := by decide +kernel
theorem dX6_markSteadyHours_6 : decode cX6_markSteadyHours 6 = .ok (.istore_n 1, 1) := by decide +kernel
theorem dX6_markSteadyHours_7 : decode cX6_markSteadyHours 7 = .ok (.iload_n 1, 1) := by decide +kernel
theorem dX6_markSteadyHours_8 : decode cX6_markSteadyHours 8 = .ok (.bipush 24, 2) := by decide +kernel
theorem dX6_markSteadyHours_10 : decode cX6_markSteadyHours 10 = .ok (.if_icmp .ge 74, 3) := by decide +kernel
theorem dX6_markSteadyHours_13 : decode cX6_markSteadyHours 13 = .ok (.iconst 1, 1) := by decide +kernel
theorem dX6_markSteadyHours_14 : decode cX6_markSteadyHours 14 = .ok (.istore_n 2, 1) := by decide +kernel
theorem dX6_markSteadyHours_15 : decode cX6_markSteadyHours 15 = .ok (.iconst 0, 1) := by decide +kernel
theorem dX6_markSteadyHours_16 : decode cX6_markSteadyHours 16 = .ok (.istore_n 3, 1) := by decide +kernel
theorem dX6_markSteadyHours_17 : decode cX6_markSteadyHours 17 = .ok (.iload_n 3, 1) := by decide +kernel
theorem dX6_markSteadyHours_18 : decode cX6_markSteadyHours 18 = .ok (.aload_n 0, 1) := by decide +kernel
theorem dX6_markSteadyHours_19 : decode cX6_markSteadyHours 19 = .ok (.getfield 35, 3) := by decide +kernel
theorem dX6_markSteadyHours_22 : decode cX6_markSteadyHours 22 = .ok (.if_icmp .ge 40, 3) := by decide +kernel
theorem dX6_markSteadyHours_25 : decode cX6_markSteadyHours 25 = .ok (.iload_n 2, 1) := by decide +kernel
theorem dX6_markSteadyHours_26 : decode cX6_markSteadyHours 26 = .ok (.ifCond .eq 36, 3) := by decide +kernel
theorem dX6_markSteadyHours_29 : decode cX6_markSteadyHours 29 = .ok (.aload_n 0, 1) := by decide +kernel
theorem dX6_markSteadyHours_30 : decode cX6_markSteadyHours 30 = .ok (.getfield 23, 3) := by decide +kernel
theorem dX6_markSteadyHours_33 : decode cX6_markSteadyHours 33 = .ok (.iload_n 3, 1) := by decide +kernel
theorem dX6_markSteadyHours_34 : decode cX6_markSteadyHours 34 = .ok (.aaload, 1) := by decide +kernel
theorem dX6_markSteadyHours_35 : decode cX6_markSteadyHours 35 = .ok (.iload_n 1, 1) := by decide +kernel
theorem dX6_markSteadyHours_36 : decode cX6_markSteadyHours 36 = .ok (.iaload, 1) := by decide +kernel
theorem dX6_markSteadyHours_37 : decode cX6_markSteadyHours 37 = .ok (.aload_n 0, 1) := by decide +kernel
theorem dX6_markSteadyHours_38 : decode cX6_markSteadyHours 38 = .ok (.getfield 23, 3) := by decide +kernel
theorem dX6_markSteadyHours_41 : decode cX6_markSteadyHours 41 = .ok (.iload_n 3, 1) := by decide +kernel
theorem dX6_markSteadyHours_42 : decode cX6_markSteadyHours 42 = .ok (.aaload, 1) := by decide +kernel
theorem dX6_markSteadyHours_43 : decode cX6_markSteadyHours 43 = .ok (.iload_n 1, 1) := by decide +kernel
theorem dX6_markSteadyHours_44 : decode cX6_markSteadyHours 44 = .ok (.iconst 1, 1) := by decide +kernel
theorem dX6_markSteadyHours_45 : decode cX6_markSteadyHours 45 = .ok (.isub, 1) := by decide +kernel
theorem dX6_markSteadyHours_46 : decode cX6_markSteadyHours 46 = .ok (.iaload, 1) := by decide +kernel
theorem dX6_markSteadyHours_47 : decode cX6_markSteadyHours 47 = .ok (.if_icmp .ne 7, 3) := by decide +kernel
theorem dX6_markSteadyHours_50 : decode cX6_markSteadyHours 50 = .ok (.iconst 1, 1) := by decide +kernel
theorem dX6_markSteadyHours_51 : decode cX6_markSteadyHours 51 = .ok (.goto 4, 3) := by decide +kernel
theorem dX6_markSteadyHours_54 : decode cX6_markSteadyHours 54 = .ok (.iconst 0, 1) := by decide +kernel
theorem dX6_markSteadyHours_55 : decode cX6_markSteadyHours 55 = .ok (.istore_n 2, 1) := by decide +kernel
theorem dX6_markSteadyHours_56 : decode cX6_markSteadyHours 56 = .ok (.iinc 3 1, 3) := by decide +kernel
theorem dX6_markSteadyHours_59 : decode cX6_markSteadyHours 59 = .ok (.goto (-42), 3) := by decide +kernel
theorem dX6_markSteadyHours_62 : decode cX6_markSteadyHours 62 = .ok (.iload_n 2, 1) := by decide +kernel
theorem dX6_markSteadyHours_63 : decode cX6_markSteadyHours 63 = .ok (.ifCond .eq 15, 3) := by decide +kernel
theorem dX6_markSteadyHours_66 : decode cX6_markSteadyHours 66 = .ok (.aload_n 0, 1) := by decide +kernel
theorem dX6_markSteadyHours_67 : decode cX6_markSteadyHours 67 = .ok (.dup, 1) := by decide +kernel
theorem dX6_markSteadyHours_68 : decode cX6_markSteadyHours 68 = .ok (.getfield 58, 3) := by decide +kernel
theorem dX6_markSteadyHours_71 : decode cX6_markSteadyHours 71 = .ok (.iconst 1, 1) := by decide +kernel
theorem dX6_markSteadyHours_72 : decode cX6_markSteadyHours 72 = .ok (.iload_n 1, 1) := by decide +kernel
theorem dX6_markSteadyHours_73 : decode cX6_markSteadyHours 73 = .ok (.ishl, 1) := by decide +kernel
theorem dX6_markSteadyHours_74 : decode cX6_markSteadyHours 74 = .ok (.ior, 1) := by decide +kernel
theorem dX6_markSteadyHours_75 : decode cX6_markSteadyHours 75 = .ok (.putfield 58, 3) := by decide +kernel
theorem dX6_markSteadyHours_78 : decode cX6_markSteadyHours 78 = .ok (.iinc 1 1, 3) := by decide +kernel
theorem dX6_markSteadyHours_81 : decode cX6_markSteadyHours 81 = .ok (.goto (-74), 3) := by decide +kernel
theorem dX6_markSteadyHours_84 : decode cX6_markSteadyHours 84 = .ok (.return_, 1) := by decide +kernel
theorem dX6_isLikeHourBefore_0 : decode cX6_isLikeHourBefore 0 = .ok (.aload_n 0, 1) := by decide +kernel
theorem dX6_isLikeHourBefore_1 : decode cX6_isLikeHourBefore 1 = .ok (.getfield 58, 3) := by decide +kernel
theorem dX6_isLikeHourBefore_4 : decode cX6_isLikeHourBefore 4 = .ok (.iload_n 1, 1) := by decide +kernel
theorem dX6_isLikeHourBefore_5 : decode cX6_isLikeHourBefore 5 = .ok (.ishr, 1) := by decide +kernel
theorem dX6_isLikeHourBefore_6 : decode cX6_isLikeHourBefore 6 = .ok (.iconst 1, 1) := by decide +kernel
theorem dX6_isLikeHourBefore_7 : decode cX6_isLikeHourBefore 7 = .ok (.iand, 1) := by decide +kernel
theorem dX6_isLikeHourBefore_8 : decode cX6_isLikeHourBefore 8 = .ok (.ifCond .eq 7, 3) := by decide +kernel
theorem dX6_isLikeHourBefore_11 : decode cX6_isLikeHourBefore 11 = .ok (.iconst 1, 1) := by decide +kernel
theorem dX6_isLikeHourBefore_12 : decode cX6_isLikeHourBefore 12 = .ok (.goto 4, 3) := by decide +kernel
theorem dX6_isLikeHourBefore_15 : decode cX6_isLikeHourBefore 15 = .ok (.iconst 0, 1) := by decide +kernel
theorem dX6_isLikeHourBefore_16 : decode cX6_isLikeHourBefore 16 = .ok (.ireturn, 1) := by decide +kernel
theorem dX6_countOut_0 : decode cX6_countOut 0 = .ok (.iconst 0, 1) := by decide +kernel
theorem dX6_countOut_1 : decode cX6_countOut 1 = .ok (.istore_n 2, 1) := by decide +kernel
theorem dX6_countOut_2 : decode cX6_countOut 2 = .ok (.iconst 0, 1) := by decide +kernel
theorem dX6_countOut_3 : decode cX6_countOut 3 = .ok (.istore_n 3, 1) := by decide +kernel
theorem dX6_countOut_4 : decode cX6_countOut 4 = .ok (.iload_n 3, 1) := by decide +kernel
theorem dX6_countOut_5 : decode cX6_countOut 5 = .ok (.aload_n 0, 1) := by decide +kernel
theorem dX6_countOut_6 : decode cX6_countOut 6 = .ok (.getfield 35, 3) := by decide +kernel
theorem dX6_countOut_9 : decode cX6_countOut 9 = .ok (.if_icmp .ge 24, 3) := by decide +kernel
theorem dX6_countOut_12 : decode cX6_countOut 12 = .ok (.aload_n 0, 1) := by decide +kernel
theorem dX6_countOut_13 : decode cX6_countOut 13 = .ok (.getfield 23, 3) := by decide +kernel
theorem dX6_countOut_16 : decode cX6_countOut 16 = .ok (.iload_n 3, 1) := by decide +kernel
theorem dX6_countOut_17 : decode cX6_countOut 17 = .ok (.aaload, 1) := by decide +kernel
theorem dX6_countOut_18 : decode cX6_countOut 18 = .ok (.iload_n 1, 1) := by decide +kernel
theorem dX6_countOut_19 : decode cX6_countOut 19 = .ok (.iaload, 1) := by decide +kernel
theorem dX6_countOut_20 : decode cX6_countOut 20 = .ok (.iconst (-1), 1) := by decide +kernel
theorem dX6_countOut_21 : decode cX6_countOut 21 = .ok (.if_icmp .eq 6, 3) := by decide +kernel
theorem dX6_countOut_24 : decode cX6_countOut 24 = .ok (.iinc 2 1, 3) := by decide +kernel
theorem dX6_countOut_27 : decode cX6_countOut 27 = .ok (.iinc 3 1, 3) := by decide +kernel
theorem dX6_countOut_30 : decode cX6_countOut 30 = .ok (.goto (-26), 3) := by decide +kernel
theorem dX6_countOut_33 : decode cX6_countOut 33 = .ok (.iload_n 2, 1) := by decide +kernel
theorem dX6_countOut_34 : decode cX6_countOut 34 = .ok (.ireturn, 1) := by decide +kernel
theorem dX6_hoursOfBothOut_0 : decode cX6_hoursOfBothOut 0 = .ok (.aload_n 0, 1) := by decide +kernel
theorem dX6_hoursOfBothOut_1 : decode cX6_hoursOfBothOut 1 = .ok (.getfield 23, 3) := by decide +kernel
theorem dX6_hoursOfBothOut_4 : decode cX6_hoursOfBothOut 4 = .ok (.aload_n 0, 1) := by decide +kernel
theorem dX6_hoursOfBothOut_5 : decode cX6_hoursOfBothOut 5 = .ok (.getfield 11, 3) := by decide +kernel
theorem dX6_hoursOfBothOut_8 : decode cX6_hoursOfBothOut 8 = .ok (.iload_n 1, 1) := by decide +kernel
theorem dX6_hoursOfBothOut_9 : decode cX6_hoursOfBothOut 9 = .ok (.aaload, 1) := by decide +kernel
theorem dX6_hoursOfBothOut_10 : decode cX6_hoursOfBothOut 10 = .ok (.iconst 0, 1) := by decide +kernel
theorem dX6_hoursOfBothOut_11 : decode cX6_hoursOfBothOut 11 = .ok (.iaload, 1) := by decide +kernel
theorem dX6_hoursOfBothOut_12 : decode cX6_hoursOfBothOut 12 = .ok (.aaload, 1) := by decide +kernel
theorem dX6_hoursOfBothOut_13 : decode cX6_hoursOfBothOut 13 = .ok (.astore_n 2, 1) := by decide +kernel
theorem dX6_hoursOfBothOut_14 : decode cX6_hoursOfBothOut 14 = .ok (.aload_n 0, 1) := by decide +kernel
theorem dX6_hoursOfBothOut_15 : decode cX6_hoursOfBothOut 15 = .ok (.getfield 23, 3) := by decide +kernel
theorem dX6_hoursOfBothOut_18 : decode cX6_hoursOfBothOut 18 = .ok (.aload_n 0, 1) := by decide +kernel
theorem dX6_hoursOfBothOut_19 : decode cX6_hoursOfBothOut 19 = .ok (.getfield 11, 3) := by decide +kernel
theorem dX6_hoursOfBothOut_22 : decode cX6_hoursOfBothOut 22 = .ok (.iload_n 1, 1) := by decide +kernel
theorem dX6_hoursOfBothOut_23 : decode cX6_hoursOfBothOut 23 = .ok (.aaload, 1) := by decide +kernel
theorem dX6_hoursOfBothOut_24 : decode cX6_hoursOfBothOut 24 = .ok (.iconst 1, 1) := by decide +kernel
theorem dX6_hoursOfBothOut_25 : decode cX6_hoursOfBothOut 25 = .ok (.iaload, 1) := by decide +kernel
theorem dX6_hoursOfBothOut_26 : decode cX6_hoursOfBothOut 26 = .ok (.aaload, 1) := by decide +kernel
theorem dX6_hoursOfBothOut_27 : decode cX6_hoursOfBothOut 27 = .ok (.astore_n 3, 1) := by decide +kernel
theorem dX6_hoursOfBothOut_28 : decode cX6_hoursOfBothOut 28 = .ok (.iconst 0, 1) := by decide +kernel
theorem dX6_hoursOfBothOut_29 : decode cX6_hoursOfBothOut 29 = .ok (.istore 4, 2) := by decide +kernel
theorem dX6_hoursOfBothOut_31 : decode cX6_hoursOfBothOut 31 = .ok (.iconst 0, 1) := by decide +kernel
theorem dX6_hoursOfBothOut_32 : decode cX6_hoursOfBothOut 32 = .ok (.istore 5, 2) := by decide +kernel
theorem dX6_hoursOfBothOut_34 : decode cX6_hoursOfBothOut 34 = .ok (.iload 5, 2) := by decide +kernel
theorem dX6_hoursOfBothOut_36 : decode cX6_hoursOfBothOut 36 = .ok (.bipush 24, 2) := by decide +kernel
theorem dX6_hoursOfBothOut_38 : decode cX6_hoursOfBothOut 38 = .ok (.if_icmp .ge 34, 3) := by decide +kernel
theorem dX6_hoursOfBothOut_41 : decode cX6_hoursOfBothOut 41 = .ok (.aload_n 2, 1) := by decide +kernel
theorem dX6_hoursOfBothOut_42 : decode cX6_hoursOfBothOut 42 = .ok (.iload 5, 2) := by decide +kernel
theorem dX6_hoursOfBothOut_44 : decode cX6_hoursOfBothOut 44 = .ok (.iaload, 1) := by decide +kernel
theorem dX6_hoursOfBothOut_45 : decode cX6_hoursOfBothOut 45 = .ok (.iconst (-1), 1) := by decide +kernel
theorem dX6_hoursOfBothOut_46 : decode cX6_hoursOfBothOut 46 = .ok (.if_icmp .eq 20, 3) := by decide +kernel
theorem dX6_hoursOfBothOut_49 : decode cX6_hoursOfBothOut 49 = .ok (.aload_n 3, 1) := by decide +kernel
theorem dX6_hoursOfBothOut_50 : decode cX6_hoursOfBothOut 50 = .ok (.iload 5, 2) := by decide +kernel
theorem dX6_hoursOfBothOut_52 : decode cX6_hoursOfBothOut 52 = .ok (.iaload, 1) := by decide +kernel
theorem dX6_hoursOfBothOut_53 : decode cX6_hoursOfBothOut 53 = .ok (.iconst (-1), 1) := by decide +kernel
theorem dX6_hoursOfBothOut_54 : decode cX6_hoursOfBothOut 54 = .ok (.if_icmp .eq 12, 3) := by decide +kernel
theorem dX6_hoursOfBothOut_57 : decode cX6_hoursOfBothOut 57 = .ok (.iload 4, 2) := by decide +kernel
theorem dX6_hoursOfBothOut_59 : decode cX6_hoursOfBothOut 59 = .ok (.iconst 1, 1) := by decide +kernel
theorem dX6_hoursOfBothOut_60 : decode cX6_hoursOfBothOut 60 = .ok (.iload 5, 2) := by decide +kernel
theorem dX6_hoursOfBothOut_62 : decode cX6_hoursOfBothOut 62 = .ok (.ishl, 1) := by decide +kernel
theorem dX6_hoursOfBothOut_63 : decode cX6_hoursOfBothOut 63 = .ok (.ior, 1) := by decide +kernel
theorem dX6_hoursOfBothOut_64 : decode cX6_hoursOfBothOut 64 = .ok (.istore 4, 2) := by decide +kernel
theorem dX6_hoursOfBothOut_66 : decode cX6_hoursOfBothOut 66 = .ok (.iinc 5 1, 3) := by decide +kernel
theorem dX6_hoursOfBothOut_69 : decode cX6_hoursOfBothOut 69 = .ok (.goto (-35), 3) := by decide +kernel
theorem dX6_hoursOfBothOut_72 : decode cX6_hoursOfBothOut 72 = .ok (.iload 4, 2) := by decide +kernel
theorem dX6_hoursOfBothOut_74 : decode cX6_hoursOfBothOut 74 = .ok (.ireturn, 1) := by decide +kernel
theorem dX6_ownersOf_0 : decode cX6_ownersOf 0 = .ok (.iconst 1, 1) := by decide +kernel
theorem dX6_ownersOf_1 : decode cX6_ownersOf 1 = .ok (.aload_n 0, 1) := by decide +kernel
theorem dX6_ownersOf_2 : decode cX6_ownersOf 2 = .ok (.getfield 11, 3) := by decide +kernel
theorem dX6_ownersOf_5 : decode cX6_ownersOf 5 = .ok (.iload_n 1, 1) := by decide +kernel
theorem dX6_ownersOf_6 : decode cX6_ownersOf 6 = .ok (.aaload, 1) := by decide +kernel
theorem dX6_ownersOf_7 : decode cX6_ownersOf 7 = .ok (.iconst 0, 1) := by decide +kernel
theorem dX6_ownersOf_8 : decode cX6_ownersOf 8 = .ok (.iaload, 1) := by decide +kernel
theorem dX6_ownersOf_9 : decode cX6_ownersOf 9 = .ok (.ishl, 1) := by decide +kernel
theorem dX6_ownersOf_10 : decode cX6_ownersOf 10 = .ok (.iconst 1, 1) := by decide +kernel
theorem dX6_ownersOf_11 : decode cX6_ownersOf 11 = .ok (.aload_n 0, 1) := by decide +kernel
theorem dX6_ownersOf_12 : decode cX6_ownersOf 12 = .ok (.getfield 11, 3) := by decide +kernel
theorem dX6_ownersOf_15 : decode cX6_ownersOf 15 = .ok (.iload_n 1, 1) := by decide +kernel
theorem dX6_ownersOf_16 : decode cX6_ownersOf 16 = .ok (.aaload, 1) := by decide +kernel
theorem dX6_ownersOf_17 : decode cX6_ownersOf 17 = .ok (.iconst 1, 1) := by decide +kernel
theorem dX6_ownersOf_18 : decode cX6_ownersOf 18 = .ok (.iaload, 1) := by decide +kernel
theorem dX6_ownersOf_19 : decode cX6_ownersOf 19 = .ok (.ishl, 1) := by decide +kernel
theorem dX6_ownersOf_20 : decode cX6_ownersOf 20 = .ok (.ior, 1) := by decide +kernel
theorem dX6_ownersOf_21 : decode cX6_ownersOf 21 = .ok (.ireturn, 1) := by decide +kernel
theorem dX6_maySell_0 : decode cX6_maySell 0 = .ok (.aload_n 0, 1) := by decide +kernel
theorem dX6_maySell_1 : decode cX6_maySell 1 = .ok (.iload_n 1, 1) := by decide +kernel
theorem dX6_maySell_2 : decode cX6_maySell 2 = .ok (.invokevirtual 61, 3) := by decide +kernel
theorem dX6_maySell_5 : decode cX6_maySell 5 = .ok (.ifCond .ne 31, 3) := by decide +kernel
theorem dX6_maySell_8 : decode cX6_maySell 8 = .ok (.aload_n 0, 1) := by decide +kernel
theorem dX6_maySell_9 : decode cX6_maySell 9 = .ok (.getfield 11, 3) := by decide +kernel
theorem dX6_maySell_12 : decode cX6_maySell 12 = .ok (.iload_n 1, 1) := by decide +kernel
theorem dX6_maySell_13 : decode cX6_maySell 13 = .ok (.aaload, 1) := by decide +kernel
theorem dX6_maySell_14 : decode cX6_maySell 14 = .ok (.iconst 0, 1) := by decide +kernel
theorem dX6_maySell_15 : decode cX6_maySell 15 = .ok (.iaload, 1) := by decide +kernel
theorem dX6_maySell_16 : decode cX6_maySell 16 = .ok (.iload_n 3, 1) := by decide +kernel
theorem dX6_maySell_17 : decode cX6_maySell 17 = .ok (.if_icmp .eq 19, 3) := by decide +kernel
theorem dX6_maySell_20 : decode cX6_maySell 20 = .ok (.aload_n 0, 1) := by decide +kernel
theorem dX6_maySell_21 : decode cX6_maySell 21 = .ok (.getfield 11, 3) := by decide +kernel
theorem dX6_maySell_24 : decode cX6_maySell 24 = .ok (.iload_n 1, 1) := by decide +kernel
theorem dX6_maySell_25 : decode cX6_maySell 25 = .ok (.aaload, 1) := by decide +kernel
theorem dX6_maySell_26 : decode cX6_maySell 26 = .ok (.iconst 1, 1) := by decide +kernel
theorem dX6_maySell_27 : decode cX6_maySell 27 = .ok (.iaload, 1) := by decide +kernel
theorem dX6_maySell_28 : decode cX6_maySell 28 = .ok (.iload_n 3, 1) := by decide +kernel
theorem dX6_maySell_29 : decode cX6_maySell 29 = .ok (.if_icmp .eq 7, 3) := by decide +kernel
theorem dX6_maySell_32 : decode cX6_maySell 32 = .ok (.iconst 1, 1) := by decide +kernel
theorem dX6_maySell_33 : decode cX6_maySell 33 = .ok (.goto 4, 3) := by decide +kernel
theorem dX6_maySell_36 : decode cX6_maySell 36 = .ok (.iconst 0, 1) := by decide +kernel
theorem dX6_maySell_37 : decode cX6_maySell 37 = .ok (.ireturn, 1) := by decide +kernel
theorem dX6_wearers_0 : decode cX6_wearers 0 = .ok (.iconst 0, 1) := by decide +kernel
theorem dX6_wearers_1 : decode cX6_wearers 1 = .ok (.istore 4, 2) := by decide +kernel
theorem dX6_wearers_3 : decode cX6_wearers 3 = .ok (.iconst 0, 1) := by decide +kernel
theorem dX6_wearers_4 : decode cX6_wearers 4 = .ok (.istore 5, 2) := by decide +kernel
theorem dX6_wearers_6 : decode cX6_wearers 6 = .ok (.iload 5, 2) := by decide +kernel
theorem dX6_wearers_8 : decode cX6_wearers 8 = .ok (.iconst 2, 1) := by decide +kernel
theorem dX6_wearers_9 : decode cX6_wearers 9 = .ok (.if_icmp .ge 53, 3) := by decide +kernel
theorem dX6_wearers_12 : decode cX6_wearers 12 = .ok (.iload_n 2, 1) := by decide +kernel
theorem dX6_wearers_13 : decode cX6_wearers 13 = .ok (.iload 5, 2) := by decide +kernel
theorem dX6_wearers_15 : decode cX6_wearers 15 = .ok (.ishr, 1) := by decide +kernel
theorem dX6_wearers_16 : decode cX6_wearers 16 = .ok (.iconst 1, 1) := by decide +kernel
theorem dX6_wearers_17 : decode cX6_wearers 17 = .ok (.iand, 1) := by decide +kernel
theorem dX6_wearers_18 : decode cX6_wearers 18 = .ok (.ifCond .eq 38, 3) := by decide +kernel
theorem dX6_wearers_21 : decode cX6_wearers 21 = .ok (.aload_n 0, 1) := by decide +kernel
theorem dX6_wearers_22 : decode cX6_wearers 22 = .ok (.getfield 11, 3) := by decide +kernel
theorem dX6_wearers_25 : decode cX6_wearers 25 = .ok (.iload_n 1, 1) := by decide +kernel
theorem dX6_wearers_26 : decode cX6_wearers 26 = .ok (.aaload, 1) := by decide +kernel
theorem dX6_wearers_27 : decode cX6_wearers 27 = .ok (.iload 5, 2) := by decide +kernel
theorem dX6_wearers_29 : decode cX6_wearers 29 = .ok (.iaload, 1) := by decide +kernel
theorem dX6_wearers_30 : decode cX6_wearers 30 = .ok (.istore 6, 2) := by decide +kernel
theorem dX6_wearers_32 : decode cX6_wearers 32 = .ok (.aload_n 0, 1) := by decide +kernel
theorem dX6_wearers_33 : decode cX6_wearers 33 = .ok (.getfield 23, 3) := by decide +kernel
theorem dX6_wearers_36 : decode cX6_wearers 36 = .ok (.iload 6, 2) := by decide +kernel
theorem dX6_wearers_38 : decode cX6_wearers 38 = .ok (.aaload, 1) := by decide +kernel
theorem dX6_wearers_39 : decode cX6_wearers 39 = .ok (.iload_n 3, 1) := by decide +kernel
theorem dX6_wearers_40 : decode cX6_wearers 40 = .ok (.iaload, 1) := by decide +kernel
theorem dX6_wearers_41 : decode cX6_wearers 41 = .ok (.iconst (-1), 1) := by decide +kernel
theorem dX6_wearers_42 : decode cX6_wearers 42 = .ok (.if_icmp .ne 5, 3) := by decide +kernel
theorem dX6_wearers_45 : decode cX6_wearers 45 = .ok (.iconst (-1), 1) := by decide +kernel
theorem dX6_wearers_46 : decode cX6_wearers 46 = .ok (.ireturn, 1) := by decide +kernel
theorem dX6_wearers_47 : decode cX6_wearers 47 = .ok (.iload 4, 2) := by decide +kernel
theorem dX6_wearers_49 : decode cX6_wearers 49 = .ok (.iconst 1, 1) := by decide +kernel
theorem dX6_wearers_50 : decode cX6_wearers 50 = .ok (.iload 6, 2) := by decide +kernel
theorem dX6_wearers_52 : decode cX6_wearers 52 = .ok (.ishl, 1) := by decide +kernel
theorem dX6_wearers_53 : decode cX6_wearers 53 = .ok (.ior, 1) := by decide +kernel
theorem dX6_wearers_54 : decode cX6_wearers 54 = .ok (.istore 4, 2) := by decide +kernel
theorem dX6_wearers_56 : decode cX6_wearers 56 = .ok (.iinc 5 1, 3) := by decide +kernel
theorem dX6_wearers_59 : decode cX6_wearers 59 = .ok (.goto (-53), 3) := by decide +kernel
theorem dX6_wearers_62 : decode cX6_wearers 62 = .ok (.aload_n 0, 1) := by decide +kernel
theorem dX6_wearers_63 : decode cX6_wearers 63 = .ok (.getfield 23, 3) := by decide +kernel
theorem dX6_wearers_66 : decode cX6_wearers 66 = .ok (.aload_n 0, 1) := by decide +kernel
theorem dX6_wearers_67 : decode cX6_wearers 67 = .ok (.getfield 11, 3) := by decide +kernel
theorem dX6_wearers_70 : decode cX6_wearers 70 = .ok (.iload_n 1, 1) := by decide +kernel
theorem dX6_wearers_71 : decode cX6_wearers 71 = .ok (.aaload, 1) := by decide +kernel
theorem dX6_wearers_72 : decode cX6_wearers 72 = .ok (.iconst 0, 1) := by decide +kernel
theorem dX6_wearers_73 : decode cX6_wearers 73 = .ok (.iaload, 1) := by decide +kernel
theorem dX6_wearers_74 : decode cX6_wearers 74 = .ok (.aaload, 1) := by decide +kernel
theorem dX6_wearers_75 : decode cX6_wearers 75 = .ok (.iload_n 3, 1) := by decide +kernel
theorem dX6_wearers_76 : decode cX6_wearers 76 = .ok (.iaload, 1) := by decide +kernel
theorem dX6_wearers_77 : decode cX6_wearers 77 = .ok (.aload_n 0, 1) := by decide +kernel
theorem dX6_wearers_78 : decode cX6_wearers 78 = .ok (.getfield 23, 3) := by decide +kernel
theorem dX6_wearers_81 : decode cX6_wearers 81 = .ok (.aload_n 0, 1) := by decide +kernel
theorem dX6_wearers_82 : decode cX6_wearers 82 = .ok (.getfield 11, 3) := by decide +kernel
theorem dX6_wearers_85 : decode cX6_wearers 85 = .ok (.iload_n 1, 1) := by decide +kernel
theorem dX6_wearers_86 : decode cX6_wearers 86 = .ok (.aaload, 1) := by decide +kernel
theorem dX6_wearers_87 : decode cX6_wearers 87 = .ok (.iconst 1, 1) := by decide +kernel
theorem dX6_wearers_88 : decode cX6_wearers 88 = .ok (.iaload, 1) := by decide +kernel
theorem dX6_wearers_89 : decode cX6_wearers 89 = .ok (.aaload, 1) := by decide +kernel
theorem dX6_wearers_90 : decode cX6_wearers 90 = .ok (.iload_n 3, 1) := by decide +kernel
theorem dX6_wearers_91 : decode cX6_wearers 91 = .ok (.iaload, 1) := by decide +kernel
theorem dX6_wearers_92 : decode cX6_wearers 92 = .ok (.if_icmp .ne 7, 3) := by decide +kernel
theorem dX6_wearers_95 : decode cX6_wearers 95 = .ok (.iconst 1, 1) := by decide +kernel
theorem dX6_wearers_96 : decode cX6_wearers 96 = .ok (.goto 4, 3) := by decide +kernel
theorem dX6_wearers_99 : decode cX6_wearers 99 = .ok (.iconst 0, 1) := by decide +kernel
theorem dX6_wearers_100 : decode cX6_wearers 100 = .ok (.istore 5, 2) := by decide +kernel
theorem dX6_wearers_102 : decode cX6_wearers 102 = .ok (.iload_n 2, 1) := by decide +kernel
theorem dX6_wearers_103 : decode cX6_wearers 103 = .ok (.iconst 3, 1) := by decide +kernel
theorem dX6_wearers_104 : decode cX6_wearers 104 = .ok (.if_icmp .ne 20, 3) := by decide +kernel
theorem dX6_wearers_107 : decode cX6_wearers 107 = .ok (.iload 5, 2) := by decide +kernel
theorem dX6_wearers_109 : decode cX6_wearers 109 = .ok (.ifCond .ne 15, 3) := by decide +kernel
theorem dX6_wearers_112 : decode cX6_wearers 112 = .ok (.aload_n 0, 1) := by decide +kernel
theorem dX6_wearers_113 : decode cX6_wearers 113 = .ok (.iload_n 1, 1) := by decide +kernel
theorem dX6_wearers_114 : decode cX6_wearers 114 = .ok (.invokevirtual 61, 3) := by decide +kernel
theorem dX6_wearers_117 : decode cX6_wearers 117 = .ok (.ifCond .ne 7, 3) := by decide +kernel
theorem dX6_wearers_120 : decode cX6_wearers 120 = .ok (.iconst (-1), 1) := by decide +kernel
theorem dX6_wearers_121 : decode cX6_wearers 121 = .ok (.goto 5, 3) := by decide +kernel
theorem dX6_wearers_124 : decode cX6_wearers 124 = .ok (.iload 4, 2) := by decide +kernel
theorem dX6_wearers_126 : decode cX6_wearers 126 = .ok (.ireturn, 1) := by decide +kernel
theorem dX6_warmthEach_0 : decode cX6_warmthEach 0 = .ok (.iload_n 2, 1) := by decide +kernel
theorem dX6_warmthEach_1 : decode cX6_warmthEach 1 = .ok (.iconst 3, 1) := by decide +kernel
theorem dX6_warmthEach_2 : decode cX6_warmthEach 2 = .ok (.if_icmp .eq 11, 3) := by decide +kernel
theorem dX6_warmthEach_5 : decode cX6_warmthEach 5 = .ok (.aload_n 0, 1) := by decide +kernel
theorem dX6_warmthEach_6 : decode cX6_warmthEach 6 = .ok (.iload_n 1, 1) := by decide +kernel
theorem dX6_warmthEach_7 : decode cX6_warmthEach 7 = .ok (.invokevirtual 61, 3) := by decide +kernel
theorem dX6_warmthEach_10 : decode cX6_warmthEach 10 = .ok (.ifCond .eq 14, 3) := by decide +kernel
theorem dX6_warmthEach_13 : decode cX6_warmthEach 13 = .ok (.aload_n 0, 1) := by decide +kernel
theorem dX6_warmthEach_14 : decode cX6_warmthEach 14 = .ok (.getfield 16, 3) := by decide +kernel
theorem dX6_warmthEach_17 : decode cX6_warmthEach 17 = .ok (.iload_n 1, 1) := by decide +kernel
theorem dX6_warmthEach_18 : decode cX6_warmthEach 18 = .ok (.iaload, 1) := by decide +kernel
theorem dX6_warmthEach_19 : decode cX6_warmthEach 19 = .ok (.iconst 2, 1) := by decide +kernel
theorem dX6_warmthEach_20 : decode cX6_warmthEach 20 = .ok (.idiv, 1) := by decide +kernel
theorem dX6_warmthEach_21 : decode cX6_warmthEach 21 = .ok (.goto 9, 3) := by decide +kernel
theorem dX6_warmthEach_24 : decode cX6_warmthEach 24 = .ok (.aload_n 0, 1) := by decide +kernel
theorem dX6_warmthEach_25 : decode cX6_warmthEach 25 = .ok (.getfield 16, 3) := by decide +kernel
theorem dX6_warmthEach_28 : decode cX6_warmthEach 28 = .ok (.iload_n 1, 1) := by decide +kernel
theorem dX6_warmthEach_29 : decode cX6_warmthEach 29 = .ok (.iaload, 1) := by decide +kernel
theorem dX6_warmthEach_30 : decode cX6_warmthEach 30 = .ok (.ireturn, 1) := by decide +kernel
theorem dX7_init_0 : decode cX7_init 0 = .ok (.aload_n 0, 1) := by decide +kernel
theorem dX7_init_1 : decode cX7_init 1 = .ok (.invokespecial 3, 3) := by decide +kernel
theorem dX7_init_4 : decode cX7_init 4 = .ok (.aload_n 0, 1) := by decide +kernel
theorem dX7_init_5 : decode cX7_init 5 = .ok (.bipush 8, 2) := by decide +kernel
theorem dX7_init_7 : decode cX7_init 7 = .ok (.newarray .int, 2) := by decide +kernel
theorem dX7_init_9 : decode cX7_init 9 = .ok (.putfield 9, 3) := by decide +kernel
theorem dX7_init_12 : decode cX7_init 12 = .ok (.aload_n 0, 1) := by decide +kernel
theorem dX7_init_13 : decode cX7_init 13 = .ok (.bipush 8, 2) := by decide +kernel
theorem dX7_init_15 : decode cX7_init 15 = .ok (.iconst 4, 1) := by decide +kernel
theorem dX7_init_16 : decode cX7_init 16 = .ok (.multianewarray 15 2, 4) := by decide +kernel
theorem dX7_init_20 : decode cX7_init 20 = .ok (.putfield 17, 3) := by decide +kernel
theorem dX7_init_23 : decode cX7_init 23 = .ok (.aload_n 0, 1) := by decide +kernel
theorem dX7_init_24 : decode cX7_init 24 = .ok (.bipush 8, 2) := by decide +kernel
theorem dX7_init_26 : decode cX7_init 26 = .ok (.iconst 4, 1) := by decide +kernel
theorem dX7_init_27 : decode cX7_init 27 = .ok (.multianewarray 15 2, 4) := by decide +kernel
theorem dX7_init_31 : decode cX7_init 31 = .ok (.putfield 20, 3) := by decide +kernel
theorem dX7_init_34 : decode cX7_init 34 = .ok (.aload_n 0, 1) := by decide +kernel
theorem dX7_init_35 : decode cX7_init 35 = .ok (.bipush 9, 2) := by decide +kernel
theorem dX7_init_37 : decode cX7_init 37 = .ok (.newarray .int, 2) := by decide +kernel
theorem dX7_init_39 : decode cX7_init 39 = .ok (.putfield 23, 3) := by decide +kernel
theorem dX7_init_42 : decode cX7_init 42 = .ok (.aload_n 0, 1) := by decide +kernel
theorem dX7_init_43 : decode cX7_init 43 = .ok (.bipush 9, 2) := by decide +kernel
theorem dX7_init_45 : decode cX7_init 45 = .ok (.sipush 256, 3) := by decide +kernel
theorem dX7_init_48 : decode cX7_init 48 = .ok (.multianewarray 15 2, 4) := by decide +kernel
theorem dX7_init_52 : decode cX7_init 52 = .ok (.putfield 26, 3) := by decide +kernel
theorem dX7_init_55 : decode cX7_init 55 = .ok (.return_, 1) := by decide +kernel
theorem dX7_chillOfDay_0 : decode cX7_chillOfDay 0 = .ok (.iconst 0, 1) := by decide +kernel
theorem dX7_chillOfDay_1 : decode cX7_chillOfDay 1 = .ok (.istore_n 2, 1) := by decide +kernel
theorem dX7_chillOfDay_2 : decode cX7_chillOfDay 2 = .ok (.iconst 0, 1) := by decide +kernel
theorem dX7_chillOfDay_3 : decode cX7_chillOfDay 3 = .ok (.istore_n 3, 1) := by decide +kernel
theorem dX7_chillOfDay_4 : decode cX7_chillOfDay 4 = .ok (.iconst 0, 1) := by decide +kernel
theorem dX7_chillOfDay_5 : decode cX7_chillOfDay 5 = .ok (.istore 4, 2) := by decide +kernel
theorem dX7_chillOfDay_7 : decode cX7_chillOfDay 7 = .ok (.iload 4, 2) := by decide +kernel
theorem dX7_chillOfDay_9 : decode cX7_chillOfDay 9 = .ok (.bipush 24, 2) := by decide +kernel
theorem dX7_chillOfDay_11 : decode cX7_chillOfDay 11 = .ok (.if_icmp .ge 30, 3) := by decide +kernel
theorem dX7_chillOfDay_14 : decode cX7_chillOfDay 14 = .ok (.aload_n 1, 1) := by decide +kernel
theorem dX7_chillOfDay_15 : decode cX7_chillOfDay 15 = .ok (.iload 4, 2) := by decide +kernel
theorem dX7_chillOfDay_17 : decode cX7_chillOfDay 17 = .ok (.invokevirtual 29, 3) := by decide +kernel
theorem dX7_chillOfDay_20 : decode cX7_chillOfDay 20 = .ok (.ifCond .ne 11, 3) := by decide +kernel
theorem dX7_chillOfDay_23 : decode cX7_chillOfDay 23 = .ok (.aload_n 0, 1) := by decide +kernel
theorem dX7_chillOfDay_24 : decode cX7_chillOfDay 24 = .ok (.aload_n 1, 1) := by decide +kernel
theorem dX7_chillOfDay_25 : decode cX7_chillOfDay 25 = .ok (.iload 4, 2) := by decide +kernel
theorem dX7_chillOfDay_27 : decode cX7_chillOfDay 27 = .ok (.invokevirtual 35, 3) := by decide +kernel
theorem dX7_chillOfDay_30 : decode cX7_chillOfDay 30 = .ok (.istore_n 3, 1) := by decide +kernel
theorem dX7_chillOfDay_31 : decode cX7_chillOfDay 31 = .ok (.iload_n 2, 1) := by decide +kernel
theorem dX7_chillOfDay_32 : decode cX7_chillOfDay 32 = .ok (.iload_n 3, 1) := by decide +kernel
theorem dX7_chillOfDay_33 : decode cX7_chillOfDay 33 = .ok (.iadd, 1) := by decide +kernel
theorem dX7_chillOfDay_34 : decode cX7_chillOfDay 34 = .ok (.istore_n 2, 1) := by decide +kernel
theorem dX7_chillOfDay_35 : decode cX7_chillOfDay 35 = .ok (.iinc 4 1, 3) := by decide +kernel
theorem dX7_chillOfDay_38 : decode cX7_chillOfDay 38 = .ok (.goto (-31), 3) := by decide +kernel
theorem dX7_chillOfDay_41 : decode cX7_chillOfDay 41 = .ok (.iload_n 2, 1) := by decide +kernel
theorem dX7_chillOfDay_42 : decode cX7_chillOfDay 42 = .ok (.ireturn, 1) := by decide +kernel
theorem dX7_chillOfHour_0 : decode cX7_chillOfHour 0 = .ok (.iconst 0, 1) := by decide +kernel
theorem dX7_chillOfHour_1 : decode cX7_chillOfHour 1 = .ok (.istore_n 3, 1) := by decide +kernel
theorem dX7_chillOfHour_2 : decode cX7_chillOfHour 2 = .ok (.iload_n 3, 1) := by decide +kernel
theorem dX7_chillOfHour_3 : decode cX7_chillOfHour 3 = .ok (.aload_n 1, 1) := by decide +kernel
theorem dX7_chillOfHour_4 : decode cX7_chillOfHour 4 = .ok (.getfield 39, 3) := by decide +kernel
theorem dX7_chillOfHour_7 : decode cX7_chillOfHour 7 = .ok (.if_icmp .ge 16, 3) := by decide +kernel
theorem dX7_chillOfHour_10 : decode cX7_chillOfHour 10 = .ok (.aload_n 0, 1) := by decide +kernel
theorem dX7_chillOfHour_11 : decode cX7_chillOfHour 11 = .ok (.aload_n 1, 1) := by decide +kernel
theorem dX7_chillOfHour_12 : decode cX7_chillOfHour 12 = .ok (.iload_n 3, 1) := by decide +kernel
theorem dX7_chillOfHour_13 : decode cX7_chillOfHour 13 = .ok (.iload_n 2, 1) := by decide +kernel
theorem dX7_chillOfHour_14 : decode cX7_chillOfHour 14 = .ok (.invokevirtual 43, 3) := by decide +kernel
theorem dX7_chillOfHour_17 : decode cX7_chillOfHour 17 = .ok (.iinc 3 1, 3) := by decide +kernel
theorem dX7_chillOfHour_20 : decode cX7_chillOfHour 20 = .ok (.goto (-18), 3) := by decide +kernel
theorem dX7_chillOfHour_23 : decode cX7_chillOfHour 23 = .ok (.aload_n 0, 1) := by decide +kernel
theorem dX7_chillOfHour_24 : decode cX7_chillOfHour 24 = .ok (.aload_n 1, 1) := by decide +kernel
theorem dX7_chillOfHour_25 : decode cX7_chillOfHour 25 = .ok (.getfield 39, 3) := by decide +kernel
theorem dX7_chillOfHour_28 : decode cX7_chillOfHour 28 = .ok (.invokevirtual 47, 3) := by decide +kernel
theorem dX7_chillOfHour_31 : decode cX7_chillOfHour 31 = .ok (.aload_n 0, 1) := by decide +kernel
theorem dX7_chillOfHour_32 : decode cX7_chillOfHour 32 = .ok (.getfield 26, 3) := by decide +kernel
theorem dX7_chillOfHour_35 : decode cX7_chillOfHour 35 = .ok (.aload_n 1, 1) := by decide +kernel
theorem dX7_chillOfHour_36 : decode cX7_chillOfHour 36 = .ok (.getfield 39, 3) := by decide +kernel
theorem dX7_chillOfHour_39 : decode cX7_chillOfHour 39 = .ok (.aaload, 1) := by decide +kernel
theorem dX7_chillOfHour_40 : decode cX7_chillOfHour 40 = .ok (.iconst 0, 1) := by decide +kernel
theorem dX7_chillOfHour_41 : decode cX7_chillOfHour 41 = .ok (.iconst 0, 1) := by decide +kernel
theorem dX7_chillOfHour_42 : decode cX7_chillOfHour 42 = .ok (.iastore, 1) := by decide +kernel
theorem dX7_chillOfHour_43 : decode cX7_chillOfHour 43 = .ok (.aload_n 1, 1) := by decide +kernel
theorem dX7_chillOfHour_44 : decode cX7_chillOfHour 44 = .ok (.getfield 39, 3) := by decide +kernel
theorem dX7_chillOfHour_47 : decode cX7_chillOfHour 47 = .ok (.iconst 1, 1) := by decide +kernel
theorem dX7_chillOfHour_48 : decode cX7_chillOfHour 48 = .ok (.isub, 1) := by decide +kernel
theorem dX7_chillOfHour_49 : decode cX7_chillOfHour 49 = .ok (.istore_n 3, 1) := by decide +kernel
theorem dX7_chillOfHour_50 : decode cX7_chillOfHour 50 = .ok (.iload_n 3, 1) := by decide +kernel
theorem dX7_chillOfHour_51 : decode cX7_chillOfHour 51 = .ok (.ifCond .lt 14, 3) := by decide +kernel
theorem dX7_chillOfHour_54 : decode cX7_chillOfHour 54 = .ok (.aload_n 0, 1) := by decide +kernel
theorem dX7_chillOfHour_55 : decode cX7_chillOfHour 55 = .ok (.iload_n 3, 1) := by decide +kernel
theorem dX7_chillOfHour_56 : decode cX7_chillOfHour 56 = .ok (.invokevirtual 51, 3) := by decide +kernel
theorem dX7_chillOfHour_59 : decode cX7_chillOfHour 59 = .ok (.iinc 3 (-1), 3) := by decide +kernel
theorem dX7_chillOfHour_62 : decode cX7_chillOfHour 62 = .ok (.goto (-12), 3) := by decide +kernel
theorem dX7_chillOfHour_65 : decode cX7_chillOfHour 65 = .ok (.aload_n 1, 1) := by decide +kernel
theorem dX7_chillOfHour_66 : decode cX7_chillOfHour 66 = .ok (.iload_n 2, 1) := by decide +kernel
theorem dX7_chillOfHour_67 : decode cX7_chillOfHour 67 = .ok (.invokevirtual 54, 3) := by decide +kernel
theorem dX7_chillOfHour_70 : decode cX7_chillOfHour 70 = .ok (.aload_n 1, 1) := by decide +kernel
theorem dX7_chillOfHour_71 : decode cX7_chillOfHour 71 = .ok (.getfield 58, 3) := by decide +kernel
theorem dX7_chillOfHour_74 : decode cX7_chillOfHour 74 = .ok (.imul, 1) := by decide +kernel
theorem dX7_chillOfHour_75 : decode cX7_chillOfHour 75 = .ok (.aload_n 0, 1) := by decide +kernel
theorem dX7_chillOfHour_76 : decode cX7_chillOfHour 76 = .ok (.getfield 26, 3) := by decide +kernel
theorem dX7_chillOfHour_79 : decode cX7_chillOfHour 79 = .ok (.iconst 0, 1) := by decide +kernel
theorem dX7_chillOfHour_80 : decode cX7_chillOfHour 80 = .ok (.aaload, 1) := by decide +kernel
theorem dX7_chillOfHour_81 : decode cX7_chillOfHour 81 = .ok (.iconst 0, 1) := by decide +kernel
theorem dX7_chillOfHour_82 : decode cX7_chillOfHour 82 = .ok (.iaload, 1) := by decide +kernel
theorem dX7_chillOfHour_83 : decode cX7_chillOfHour 83 = .ok (.isub, 1) := by decide +kernel
theorem dX7_chillOfHour_84 : decode cX7_chillOfHour 84 = .ok (.ireturn, 1) := by decide +kernel
theorem dX7_choose_0 : decode cX7_choose 0 = .ok (.aload_n 0, 1) := by decide +kernel
theorem dX7_choose_1 : decode cX7_choose 1 = .ok (.aload_n 1, 1) := by decide +kernel
theorem dX7_choose_2 : decode cX7_choose 2 = .ok (.iload_n 2, 1) := by decide +kernel
theorem dX7_choose_3 : decode cX7_choose 3 = .ok (.invokevirtual 35, 3) := by decide +kernel
theorem dX7_choose_6 : decode cX7_choose 6 = .ok (.pop, 1) := by decide +kernel
theorem dX7_choose_7 : decode cX7_choose 7 = .ok (.iconst 0, 1) := by decide +kernel
theorem dX7_choose_8 : decode cX7_choose 8 = .ok (.istore_n 3, 1) := by decide +kernel
theorem dX7_choose_9 : decode cX7_choose 9 = .ok (.iconst 0, 1) := by decide +kernel
theorem dX7_choose_10 : decode cX7_choose 10 = .ok (.istore 4, 2) := by decide +kernel
theorem dX7_choose_12 : decode cX7_choose 12 = .ok (.iload 4, 2) := by decide +kernel
theorem dX7_choose_14 : decode cX7_choose 14 = .ok (.aload_n 1, 1) := by decide +kernel
theorem dX7_choose_15 : decode cX7_choose 15 = .ok (.getfield 39, 3) := by decide +kernel
theorem dX7_choose_18 : decode cX7_choose 18 = .ok (.if_icmp .ge 50, 3) := by decide +kernel
theorem dX7_choose_21 : decode cX7_choose 21 = .ok (.aload_n 0, 1) := by decide +kernel
theorem dX7_choose_22 : decode cX7_choose 22 = .ok (.iload 4, 2) := by decide +kernel
theorem dX7_choose_24 : decode cX7_choose 24 = .ok (.iload_n 3, 1) := by decide +kernel
theorem dX7_choose_25 : decode cX7_choose 25 = .ok (.invokevirtual 61, 3) := by decide +kernel
theorem dX7_choose_28 : decode cX7_choose 28 = .ok (.istore 5, 2) := by decide +kernel
theorem dX7_choose_30 : decode cX7_choose 30 = .ok (.aload_n 0, 1) := by decide +kernel
theorem dX7_choose_31 : decode cX7_choose 31 = .ok (.getfield 9, 3) := by decide +kernel
theorem dX7_choose_34 : decode cX7_choose 34 = .ok (.iload 4, 2) := by decide +kernel
theorem dX7_choose_36 : decode cX7_choose 36 = .ok (.iload 5, 2) := by decide +kernel
theorem dX7_choose_38 : decode cX7_choose 38 = .ok (.iastore, 1) := by decide +kernel
theorem dX7_choose_39 : decode cX7_choose 39 = .ok (.iload_n 3, 1) := by decide +kernel
theorem dX7_choose_40 : decode cX7_choose 40 = .ok (.aload_n 0, 1) := by decide +kernel
theorem dX7_choose_41 : decode cX7_choose 41 = .ok (.getfield 17, 3) := by decide +kernel
theorem dX7_choose_44 : decode cX7_choose 44 = .ok (.iload 4, 2) := by decide +kernel
theorem dX7_choose_46 : decode cX7_choose 46 = .ok (.aaload, 1) := by decide +kernel
theorem dX7_choose_47 : decode cX7_choose 47 = .ok (.iload 5, 2) := by decide +kernel
theorem dX7_choose_49 : decode cX7_choose 49 = .ok (.iaload, 1) := by decide +kernel
theorem dX7_choose_50 : decode cX7_choose 50 = .ok (.ior, 1) := by decide +kernel
theorem dX7_choose_51 : decode cX7_choose 51 = .ok (.aload_n 0, 1) := by decide +kernel
theorem dX7_choose_52 : decode cX7_choose 52 = .ok (.getfield 23, 3) := by decide +kernel
theorem dX7_choose_55 : decode cX7_choose 55 = .ok (.iload 4, 2) := by decide +kernel
theorem dX7_choose_57 : decode cX7_choose 57 = .ok (.iconst 1, 1) := by decide +kernel
theorem dX7_choose_58 : decode cX7_choose 58 = .ok (.iadd, 1) := by decide +kernel
theorem dX7_choose_59 : decode cX7_choose 59 = .ok (.iaload, 1) := by decide +kernel
theorem dX7_choose_60 : decode cX7_choose 60 = .ok (.iand, 1) := by decide +kernel
theorem dX7_choose_61 : decode cX7_choose 61 = .ok (.istore_n 3, 1) := by decide +kernel
theorem dX7_choose_62 : decode cX7_choose 62 = .ok (.iinc 4 1, 3) := by decide +kernel
theorem dX7_choose_65 : decode cX7_choose 65 = .ok (.goto (-53), 3) := by decide +kernel
theorem dX7_choose_68 : decode cX7_choose 68 = .ok (.return_, 1) := by decide +kernel
theorem dX7_warmthOn_0 : decode cX7_warmthOn 0 = .ok (.iconst 0, 1) := by decide +kernel
theorem dX7_warmthOn_1 : decode cX7_warmthOn 1 = .ok (.istore_n 3, 1) := by decide +kernel
theorem dX7_warmthOn_2 : decode cX7_warmthOn 2 = .ok (.iload_n 3, 1) := by decide +kernel
theorem dX7_warmthOn_3 : decode cX7_warmthOn 3 = .ok (.aload_n 1, 1) := by decide +kernel
theorem dX7_warmthOn_4 : decode cX7_warmthOn 4 = .ok (.getfield 39, 3) := by decide +kernel
theorem dX7_warmthOn_7 : decode cX7_warmthOn 7 = .ok (.if_icmp .ge 41, 3) := by decide +kernel
theorem dX7_warmthOn_10 : decode cX7_warmthOn 10 = .ok (.aload_n 0, 1) := by decide +kernel
theorem dX7_warmthOn_11 : decode cX7_warmthOn 11 = .ok (.getfield 17, 3) := by decide +kernel
theorem dX7_warmthOn_14 : decode cX7_warmthOn 14 = .ok (.iload_n 3, 1) := by decide +kernel
theorem dX7_warmthOn_15 : decode cX7_warmthOn 15 = .ok (.aaload, 1) := by decide +kernel
theorem dX7_warmthOn_16 : decode cX7_warmthOn 16 = .ok (.aload_n 0, 1) := by decide +kernel
theorem dX7_warmthOn_17 : decode cX7_warmthOn 17 = .ok (.getfield 9, 3) := by decide +kernel
theorem dX7_warmthOn_20 : decode cX7_warmthOn 20 = .ok (.iload_n 3, 1) := by decide +kernel
theorem dX7_warmthOn_21 : decode cX7_warmthOn 21 = .ok (.iaload, 1) := by decide +kernel
theorem dX7_warmthOn_22 : decode cX7_warmthOn 22 = .ok (.iaload, 1) := by decide +kernel
theorem dX7_warmthOn_23 : decode cX7_warmthOn 23 = .ok (.iload_n 2, 1) := by decide +kernel
theorem dX7_warmthOn_24 : decode cX7_warmthOn 24 = .ok (.ishr, 1) := by decide +kernel
theorem dX7_warmthOn_25 : decode cX7_warmthOn 25 = .ok (.iconst 1, 1) := by decide +kernel
theorem dX7_warmthOn_26 : decode cX7_warmthOn 26 = .ok (.iand, 1) := by decide +kernel
theorem dX7_warmthOn_27 : decode cX7_warmthOn 27 = .ok (.ifCond .eq 15, 3) := by decide +kernel
theorem dX7_warmthOn_30 : decode cX7_warmthOn 30 = .ok (.aload_n 1, 1) := by decide +kernel
theorem dX7_warmthOn_31 : decode cX7_warmthOn 31 = .ok (.iload_n 3, 1) := by decide +kernel
theorem dX7_warmthOn_32 : decode cX7_warmthOn 32 = .ok (.aload_n 0, 1) := by decide +kernel
theorem dX7_warmthOn_33 : decode cX7_warmthOn 33 = .ok (.getfield 9, 3) := by decide +kernel
theorem dX7_warmthOn_36 : decode cX7_warmthOn 36 = .ok (.iload_n 3, 1) := by decide +kernel
theorem dX7_warmthOn_37 : decode cX7_warmthOn 37 = .ok (.iaload, 1) := by decide +kernel
theorem dX7_warmthOn_38 : decode cX7_warmthOn 38 = .ok (.invokevirtual 65, 3) := by decide +kernel
theorem dX7_warmthOn_41 : decode cX7_warmthOn 41 = .ok (.ireturn, 1) := by decide +kernel
theorem dX7_warmthOn_42 : decode cX7_warmthOn 42 = .ok (.iinc 3 1, 3) := by decide +kernel
theorem dX7_warmthOn_45 : decode cX7_warmthOn 45 = .ok (.goto (-43), 3) := by decide +kernel
theorem dX7_warmthOn_48 : decode cX7_warmthOn 48 = .ok (.iconst 0, 1) := by decide +kernel
theorem dX7_warmthOn_49 : decode cX7_warmthOn 49 = .ok (.ireturn, 1) := by decide +kernel
theorem dX7_layOut_0 : decode cX7_layOut 0 = .ok (.iconst 0, 1) := by decide +kernel
theorem dX7_layOut_1 : decode cX7_layOut 1 = .ok (.istore 4, 2) := by decide +kernel
theorem dX7_layOut_3 : decode cX7_layOut 3 = .ok (.iload 4, 2) := by decide +kernel
theorem dX7_layOut_5 : decode cX7_layOut 5 = .ok (.iconst 4, 1) := by decide +kernel
theorem dX7_layOut_6 : decode cX7_layOut 6 = .ok (.if_icmp .ge 69, 3) := by decide +kernel
theorem dX7_layOut_9 : decode cX7_layOut 9 = .ok (.aload_n 1, 1) := by decide +kernel
theorem dX7_layOut_10 : decode cX7_layOut 10 = .ok (.iload_n 2, 1) := by decide +kernel
theorem dX7_layOut_11 : decode cX7_layOut 11 = .ok (.iload 4, 2) := by decide +kernel
theorem dX7_layOut_13 : decode cX7_layOut 13 = .ok (.iload_n 3, 1) := by decide +kernel
theorem dX7_layOut_14 : decode cX7_layOut 14 = .ok (.invokevirtual 68, 3) := by decide +kernel
theorem dX7_layOut_17 : decode cX7_layOut 17 = .ok (.istore 5, 2) := by decide +kernel
theorem dX7_layOut_19 : decode cX7_layOut 19 = .ok (.aload_n 0, 1) := by decide +kernel
theorem dX7_layOut_20 : decode cX7_layOut 20 = .ok (.getfield 17, 3) := by decide +kernel
theorem dX7_layOut_23 : decode cX7_layOut 23 = .ok (.iload_n 2, 1) := by decide +kernel
theorem dX7_layOut_24 : decode cX7_layOut 24 = .ok (.aaload, 1) := by decide +kernel
theorem dX7_layOut_25 : decode cX7_layOut 25 = .ok (.iload 4, 2) := by decide +kernel
theorem dX7_layOut_27 : decode cX7_layOut 27 = .ok (.iload 5, 2) := by decide +kernel
theorem dX7_layOut_29 : decode cX7_layOut 29 = .ok (.iastore, 1) := by decide +kernel
theorem dX7_layOut_30 : decode cX7_layOut 30 = .ok (.aload_n 0, 1) := by decide +kernel
theorem dX7_layOut_31 : decode cX7_layOut 31 = .ok (.getfield 20, 3) := by decide +kernel
theorem dX7_layOut_34 : decode cX7_layOut 34 = .ok (.iload_n 2, 1) := by decide +kernel
theorem dX7_layOut_35 : decode cX7_layOut 35 = .ok (.aaload, 1) := by decide +kernel
theorem dX7_layOut_36 : decode cX7_layOut 36 = .ok (.iload 4, 2) := by decide +kernel
theorem dX7_layOut_38 : decode cX7_layOut 38 = .ok (.iload 5, 2) := by decide +kernel
theorem dX7_layOut_40 : decode cX7_layOut 40 = .ok (.iconst (-1), 1) := by decide +kernel
theorem dX7_layOut_41 : decode cX7_layOut 41 = .ok (.if_icmp .ne 7, 3) := by decide +kernel
theorem dX7_layOut_44 : decode cX7_layOut 44 = .ok (.iconst 0, 1) := by decide +kernel
theorem dX7_layOut_45 : decode cX7_layOut 45 = .ok (.goto 23, 3) := by decide +kernel
theorem dX7_layOut_48 : decode cX7_layOut 48 = .ok (.iload 5, 2) := by decide +kernel
theorem dX7_layOut_50 : decode cX7_layOut 50 = .ok (.invokestatic 71, 3) := by decide +kernel
theorem dX7_layOut_53 : decode cX7_layOut 53 = .ok (.aload_n 1, 1) := by decide +kernel
theorem dX7_layOut_54 : decode cX7_layOut 54 = .ok (.getfield 58, 3) := by decide +kernel
theorem dX7_layOut_57 : decode cX7_layOut 57 = .ok (.aload_n 1, 1) := by decide +kernel
theorem dX7_layOut_58 : decode cX7_layOut 58 = .ok (.iload_n 2, 1) := by decide +kernel
theorem dX7_layOut_59 : decode cX7_layOut 59 = .ok (.iload 4, 2) := by decide +kernel
theorem dX7_layOut_61 : decode cX7_layOut 61 = .ok (.invokevirtual 65, 3) := by decide +kernel
theorem dX7_layOut_64 : decode cX7_layOut 64 = .ok (.invokestatic 76, 3) := by decide +kernel
theorem dX7_layOut_67 : decode cX7_layOut 67 = .ok (.imul, 1) := by decide +kernel
theorem dX7_layOut_68 : decode cX7_layOut 68 = .ok (.iastore, 1) := by decide +kernel
theorem dX7_layOut_69 : decode cX7_layOut 69 = .ok (.iinc 4 1, 3) := by decide +kernel
theorem dX7_layOut_72 : decode cX7_layOut 72 = .ok (.goto (-69), 3) := by decide +kernel
theorem dX7_layOut_75 : decode cX7_layOut 75 = .ok (.return_, 1) := by decide +kernel
theorem dX7_findConcerned_0 : decode cX7_findConcerned 0 = .ok (.iconst 0, 1) := by decide +kernel
theorem dX7_findConcerned_1 : decode cX7_findConcerned 1 = .ok (.istore_n 2, 1) := by decide +kernel
theorem dX7_findConcerned_2 : decode cX7_findConcerned 2 = .ok (.iload_n 1, 1) := by decide +kernel
theorem dX7_findConcerned_3 : decode cX7_findConcerned 3 = .ok (.istore_n 3, 1) := by decide +kernel
theorem dX7_findConcerned_4 : decode cX7_findConcerned 4 = .ok (.iload_n 3, 1) := by decide +kernel
theorem dX7_findConcerned_5 : decode cX7_findConcerned 5 = .ok (.ifCond .lt 33, 3) := by decide +kernel
theorem dX7_findConcerned_8 : decode cX7_findConcerned 8 = .ok (.iload_n 2, 1) := by decide +kernel
theorem dX7_findConcerned_9 : decode cX7_findConcerned 9 = .ok (.iload_n 3, 1) := by decide +kernel
theorem dX7_findConcerned_10 : decode cX7_findConcerned 10 = .ok (.iload_n 1, 1) := by decide +kernel
theorem dX7_findConcerned_11 : decode cX7_findConcerned 11 = .ok (.if_icmp .ge 11, 3) := by decide +kernel
theorem dX7_findConcerned_14 : decode cX7_findConcerned 14 = .ok (.aload_n 0, 1) := by decide +kernel
theorem dX7_findConcerned_15 : decode cX7_findConcerned 15 = .ok (.iload_n 3, 1) := by decide +kernel
theorem dX7_findConcerned_16 : decode cX7_findConcerned 16 = .ok (.invokevirtual 81, 3) := by decide +kernel
theorem dX7_findConcerned_19 : decode cX7_findConcerned 19 = .ok (.goto 4, 3) := by decide +kernel
theorem dX7_findConcerned_22 : decode cX7_findConcerned 22 = .ok (.iconst 0, 1) := by decide +kernel
theorem dX7_findConcerned_23 : decode cX7_findConcerned 23 = .ok (.ior, 1) := by decide +kernel
theorem dX7_findConcerned_24 : decode cX7_findConcerned 24 = .ok (.istore_n 2, 1) := by decide +kernel
theorem dX7_findConcerned_25 : decode cX7_findConcerned 25 = .ok (.aload_n 0, 1) := by decide +kernel
theorem dX7_findConcerned_26 : decode cX7_findConcerned 26 = .ok (.getfield 23, 3) := by decide +kernel
theorem dX7_findConcerned_29 : decode cX7_findConcerned 29 = .ok (.iload_n 3, 1) := by decide +kernel
theorem dX7_findConcerned_30 : decode cX7_findConcerned 30 = .ok (.iload_n 2, 1) := by decide +kernel
theorem dX7_findConcerned_31 : decode cX7_findConcerned 31 = .ok (.iastore, 1) := by decide +kernel
theorem dX7_findConcerned_32 : decode cX7_findConcerned 32 = .ok (.iinc 3 (-1), 3) := by decide +kernel
theorem dX7_findConcerned_35 : decode cX7_findConcerned 35 = .ok (.goto (-31), 3) := by decide +kernel
theorem dX7_findConcerned_38 : decode cX7_findConcerned 38 = .ok (.iconst 0, 1) := by decide +kernel
theorem dX7_findConcerned_39 : decode cX7_findConcerned 39 = .ok (.istore_n 3, 1) := by decide +kernel
theorem dX7_findConcerned_40 : decode cX7_findConcerned 40 = .ok (.iconst 0, 1) := by decide +kernel
theorem dX7_findConcerned_41 : decode cX7_findConcerned 41 = .ok (.istore 4, 2) := by decide +kernel
theorem dX7_findConcerned_43 : decode cX7_findConcerned 43 = .ok (.iload 4, 2) := by decide +kernel
theorem dX7_findConcerned_45 : decode cX7_findConcerned 45 = .ok (.iload_n 1, 1) := by decide +kernel
theorem dX7_findConcerned_46 : decode cX7_findConcerned 46 = .ok (.if_icmp .gt 39, 3) := by decide +kernel
theorem dX7_findConcerned_49 : decode cX7_findConcerned 49 = .ok (.aload_n 0, 1) := by decide +kernel
theorem dX7_findConcerned_50 : decode cX7_findConcerned 50 = .ok (.getfield 23, 3) := by decide +kernel
theorem dX7_findConcerned_53 : decode cX7_findConcerned 53 = .ok (.iload 4, 2) := by decide +kernel
theorem dX7_findConcerned_55 : decode cX7_findConcerned 55 = .ok (.dup2, 1) := by decide +kernel
theorem dX7_findConcerned_56 : decode cX7_findConcerned 56 = .ok (.iaload, 1) := by decide +kernel
theorem dX7_findConcerned_57 : decode cX7_findConcerned 57 = .ok (.iload_n 3, 1) := by decide +kernel
theorem dX7_findConcerned_58 : decode cX7_findConcerned 58 = .ok (.iand, 1) := by decide +kernel
theorem dX7_findConcerned_59 : decode cX7_findConcerned 59 = .ok (.iastore, 1) := by decide +kernel
theorem dX7_findConcerned_60 : decode cX7_findConcerned 60 = .ok (.iload_n 3, 1) := by decide +kernel
theorem dX7_findConcerned_61 : decode cX7_findConcerned 61 = .ok (.iload 4, 2) := by decide +kernel
theorem dX7_findConcerned_63 : decode cX7_findConcerned 63 = .ok (.iload_n 1, 1) := by decide +kernel
theorem dX7_findConcerned_64 : decode cX7_findConcerned 64 = .ok (.if_icmp .ge 12, 3) := by decide +kernel
theorem dX7_findConcerned_67 : decode cX7_findConcerned 67 = .ok (.aload_n 0, 1) := by decide +kernel
theorem dX7_findConcerned_68 : decode cX7_findConcerned 68 = .ok (.iload 4, 2) := by decide +kernel
theorem dX7_findConcerned_70 : decode cX7_findConcerned 70 = .ok (.invokevirtual 81, 3) := by decide +kernel
theorem dX7_findConcerned_73 : decode cX7_findConcerned 73 = .ok (.goto 4, 3) := by decide +kernel
theorem dX7_findConcerned_76 : decode cX7_findConcerned 76 = .ok (.iconst 0, 1) := by decide +kernel
theorem dX7_findConcerned_77 : decode cX7_findConcerned 77 = .ok (.ior, 1) := by decide +kernel
theorem dX7_findConcerned_78 : decode cX7_findConcerned 78 = .ok (.istore_n 3, 1) := by decide +kernel
theorem dX7_findConcerned_79 : decode cX7_findConcerned 79 = .ok (.iinc 4 1, 3) := by decide +kernel
theorem dX7_findConcerned_82 : decode cX7_findConcerned 82 = .ok (.goto (-39), 3) := by decide +kernel
theorem dX7_findConcerned_85 : decode cX7_findConcerned 85 = .ok (.return_, 1) := by decide +kernel
theorem dX7_outOwners_0 : decode cX7_outOwners 0 = .ok (.iconst 0, 1) := by decide +kernel
theorem dX7_outOwners_1 : decode cX7_outOwners 1 = .ok (.aload_n 0, 1) := by decide +kernel
theorem dX7_outOwners_2 : decode cX7_outOwners 2 = .ok (.getfield 17, 3) := by decide +kernel
theorem dX7_outOwners_5 : decode cX7_outOwners 5 = .ok (.iload_n 1, 1) := by decide +kernel
theorem dX7_outOwners_6 : decode cX7_outOwners 6 = .ok (.aaload, 1) := by decide +kernel
theorem dX7_outOwners_7 : decode cX7_outOwners 7 = .ok (.iconst 1, 1) := by decide +kernel
theorem dX7_outOwners_8 : decode cX7_outOwners 8 = .ok (.iaload, 1) := by decide +kernel
theorem dX7_outOwners_9 : decode cX7_outOwners 9 = .ok (.invokestatic 84, 3) := by decide +kernel
theorem dX7_outOwners_12 : decode cX7_outOwners 12 = .ok (.iconst 0, 1) := by decide +kernel
theorem dX7_outOwners_13 : decode cX7_outOwners 13 = .ok (.aload_n 0, 1) := by decide +kernel
theorem dX7_outOwners_14 : decode cX7_outOwners 14 = .ok (.getfield 17, 3) := by decide +kernel
theorem dX7_outOwners_17 : decode cX7_outOwners 17 = .ok (.iload_n 1, 1) := by decide +kernel
theorem dX7_outOwners_18 : decode cX7_outOwners 18 = .ok (.aaload, 1) := by decide +kernel
theorem dX7_outOwners_19 : decode cX7_outOwners 19 = .ok (.iconst 2, 1) := by decide +kernel
theorem dX7_outOwners_20 : decode cX7_outOwners 20 = .ok (.iaload, 1) := by decide +kernel
theorem dX7_outOwners_21 : decode cX7_outOwners 21 = .ok (.invokestatic 84, 3) := by decide +kernel
theorem dX7_outOwners_24 : decode cX7_outOwners 24 = .ok (.ior, 1) := by decide +kernel
theorem dX7_outOwners_25 : decode cX7_outOwners 25 = .ok (.ireturn, 1) := by decide +kernel
theorem dX7_weigh_0 : decode cX7_weigh 0 = .ok (.iconst 1, 1) := by decide +kernel
theorem dX7_weigh_1 : decode cX7_weigh 1 = .ok (.aload_n 0, 1) := by decide +kernel
theorem dX7_weigh_2 : decode cX7_weigh 2 = .ok (.getfield 23, 3) := by decide +kernel
theorem dX7_weigh_5 : decode cX7_weigh 5 = .ok (.iload_n 1, 1) := by decide +kernel
theorem dX7_weigh_6 : decode cX7_weigh 6 = .ok (.iaload, 1) := by decide +kernel
theorem dX7_weigh_7 : decode cX7_weigh 7 = .ok (.invokestatic 71, 3) := by decide +kernel
theorem dX7_weigh_10 : decode cX7_weigh 10 = .ok (.ishl, 1) := by decide +kernel
theorem dX7_weigh_11 : decode cX7_weigh 11 = .ok (.istore_n 2, 1) := by decide +kernel
theorem dX7_weigh_12 : decode cX7_weigh 12 = .ok (.iconst 0, 1) := by decide +kernel
theorem dX7_weigh_13 : decode cX7_weigh 13 = .ok (.istore_n 3, 1) := by decide +kernel
theorem dX7_weigh_14 : decode cX7_weigh 14 = .ok (.iconst 0, 1) := by decide +kernel
theorem dX7_weigh_15 : decode cX7_weigh 15 = .ok (.istore 4, 2) := by decide +kernel
theorem dX7_weigh_17 : decode cX7_weigh 17 = .ok (.iload 4, 2) := by decide +kernel
theorem dX7_weigh_19 : decode cX7_weigh 19 = .ok (.iload_n 2, 1) := by decide +kernel
theorem dX7_weigh_20 : decode cX7_weigh 20 = .ok (.if_icmp .ge 45, 3) := by decide +kernel
theorem dX7_weigh_23 : decode cX7_weigh 23 = .ok (.aload_n 0, 1) := by decide +kernel
theorem dX7_weigh_24 : decode cX7_weigh 24 = .ok (.getfield 26, 3) := by decide +kernel
theorem dX7_weigh_27 : decode cX7_weigh 27 = .ok (.iload_n 1, 1) := by decide +kernel
theorem dX7_weigh_28 : decode cX7_weigh 28 = .ok (.aaload, 1) := by decide +kernel
theorem dX7_weigh_29 : decode cX7_weigh 29 = .ok (.iload_n 3, 1) := by decide +kernel
theorem dX7_weigh_30 : decode cX7_weigh 30 = .ok (.aload_n 0, 1) := by decide +kernel
theorem dX7_weigh_31 : decode cX7_weigh 31 = .ok (.iload_n 1, 1) := by decide +kernel
theorem dX7_weigh_32 : decode cX7_weigh 32 = .ok (.aload_n 0, 1) := by decide +kernel
theorem dX7_weigh_33 : decode cX7_weigh 33 = .ok (.iload_n 1, 1) := by decide +kernel
theorem dX7_weigh_34 : decode cX7_weigh 34 = .ok (.iload_n 3, 1) := by decide +kernel
theorem dX7_weigh_35 : decode cX7_weigh 35 = .ok (.invokevirtual 61, 3) := by decide +kernel
theorem dX7_weigh_38 : decode cX7_weigh 38 = .ok (.iload_n 3, 1) := by decide +kernel
theorem dX7_weigh_39 : decode cX7_weigh 39 = .ok (.invokevirtual 87, 3) := by decide +kernel
theorem dX7_weigh_42 : decode cX7_weigh 42 = .ok (.iastore, 1) := by decide +kernel
theorem dX7_weigh_43 : decode cX7_weigh 43 = .ok (.iload_n 3, 1) := by decide +kernel
theorem dX7_weigh_44 : decode cX7_weigh 44 = .ok (.aload_n 0, 1) := by decide +kernel
theorem dX7_weigh_45 : decode cX7_weigh 45 = .ok (.getfield 23, 3) := by decide +kernel
theorem dX7_weigh_48 : decode cX7_weigh 48 = .ok (.iload_n 1, 1) := by decide +kernel
theorem dX7_weigh_49 : decode cX7_weigh 49 = .ok (.iaload, 1) := by decide +kernel
theorem dX7_weigh_50 : decode cX7_weigh 50 = .ok (.isub, 1) := by decide +kernel
theorem dX7_weigh_51 : decode cX7_weigh 51 = .ok (.aload_n 0, 1) := by decide +kernel
theorem dX7_weigh_52 : decode cX7_weigh 52 = .ok (.getfield 23, 3) := by decide +kernel
theorem dX7_weigh_55 : decode cX7_weigh 55 = .ok (.iload_n 1, 1) := by decide +kernel
theorem dX7_weigh_56 : decode cX7_weigh 56 = .ok (.iaload, 1) := by decide +kernel
theorem dX7_weigh_57 : decode cX7_weigh 57 = .ok (.iand, 1) := by decide +kernel
theorem dX7_weigh_58 : decode cX7_weigh 58 = .ok (.istore_n 3, 1) := by decide +kernel
theorem dX7_weigh_59 : decode cX7_weigh 59 = .ok (.iinc 4 1, 3) := by decide +kernel
theorem dX7_weigh_62 : decode cX7_weigh 62 = .ok (.goto (-45), 3) := by decide +kernel
theorem dX7_weigh_65 : decode cX7_weigh 65 = .ok (.return_, 1) := by decide +kernel
theorem dX7_firstBest_0 : decode cX7_firstBest 0 = .ok (.iconst 0, 1) := by decide +kernel
theorem dX7_firstBest_1 : decode cX7_firstBest 1 = .ok (.istore_n 3, 1) := by decide +kernel
theorem dX7_firstBest_2 : decode cX7_firstBest 2 = .ok (.aload_n 0, 1) := by decide +kernel
theorem dX7_firstBest_3 : decode cX7_firstBest 3 = .ok (.iload_n 1, 1) := by decide +kernel
theorem dX7_firstBest_4 : decode cX7_firstBest 4 = .ok (.iconst 0, 1) := by decide +kernel
theorem dX7_firstBest_5 : decode cX7_firstBest 5 = .ok (.iload_n 2, 1) := by decide +kernel
theorem dX7_firstBest_6 : decode cX7_firstBest 6 = .ok (.invokevirtual 87, 3) := by decide +kernel
theorem dX7_firstBest_9 : decode cX7_firstBest 9 = .ok (.istore 4, 2) := by decide +kernel
theorem dX7_firstBest_11 : decode cX7_firstBest 11 = .ok (.iconst 1, 1) := by decide +kernel
theorem dX7_firstBest_12 : decode cX7_firstBest 12 = .ok (.istore 5, 2) := by decide +kernel
theorem dX7_firstBest_14 : decode cX7_firstBest 14 = .ok (.iload 5, 2) := by decide +kernel
theorem dX7_firstBest_16 : decode cX7_firstBest 16 = .ok (.iconst 4, 1) := by decide +kernel
theorem dX7_firstBest_17 : decode cX7_firstBest 17 = .ok (.if_icmp .ge 60, 3) := by decide +kernel
theorem dX7_firstBest_20 : decode cX7_firstBest 20 = .ok (.aload_n 0, 1) := by decide +kernel
theorem dX7_firstBest_21 : decode cX7_firstBest 21 = .ok (.getfield 17, 3) := by decide +kernel
theorem dX7_firstBest_24 : decode cX7_firstBest 24 = .ok (.iload_n 1, 1) := by decide +kernel
theorem dX7_firstBest_25 : decode cX7_firstBest 25 = .ok (.aaload, 1) := by decide +kernel
theorem dX7_firstBest_26 : decode cX7_firstBest 26 = .ok (.iload 5, 2) := by decide +kernel
theorem dX7_firstBest_28 : decode cX7_firstBest 28 = .ok (.iaload, 1) := by decide +kernel
theorem dX7_firstBest_29 : decode cX7_firstBest 29 = .ok (.iconst (-1), 1) := by decide +kernel
theorem dX7_firstBest_30 : decode cX7_firstBest 30 = .ok (.if_icmp .eq 41, 3) := by decide +kernel
theorem dX7_firstBest_33 : decode cX7_firstBest 33 = .ok (.aload_n 0, 1) := by decide +kernel
theorem dX7_firstBest_34 : decode cX7_firstBest 34 = .ok (.getfield 17, 3) := by decide +kernel
theorem dX7_firstBest_37 : decode cX7_firstBest 37 = .ok (.iload_n 1, 1) := by decide +kernel
theorem dX7_firstBest_38 : decode cX7_firstBest 38 = .ok (.aaload, 1) := by decide +kernel
theorem dX7_firstBest_39 : decode cX7_firstBest 39 = .ok (.iload 5, 2) := by decide +kernel
theorem dX7_firstBest_41 : decode cX7_firstBest 41 = .ok (.iaload, 1) := by decide +kernel
theorem dX7_firstBest_42 : decode cX7_firstBest 42 = .ok (.iload_n 2, 1) := by decide +kernel
theorem dX7_firstBest_43 : decode cX7_firstBest 43 = .ok (.iand, 1) := by decide +kernel
theorem dX7_firstBest_44 : decode cX7_firstBest 44 = .ok (.ifCond .ne 27, 3) := by decide +kernel
theorem dX7_firstBest_47 : decode cX7_firstBest 47 = .ok (.aload_n 0, 1) := by decide +kernel
theorem dX7_firstBest_48 : decode cX7_firstBest 48 = .ok (.iload_n 1, 1) := by decide +kernel
theorem dX7_firstBest_49 : decode cX7_firstBest 49 = .ok (.iload 5, 2) := by decide +kernel
theorem dX7_firstBest_51 : decode cX7_firstBest 51 = .ok (.iload_n 2, 1) := by decide +kernel
theorem dX7_firstBest_52 : decode cX7_firstBest 52 = .ok (.invokevirtual 87, 3) := by decide +kernel
theorem dX7_firstBest_55 : decode cX7_firstBest 55 = .ok (.istore 6, 2) := by decide +kernel
theorem dX7_firstBest_57 : decode cX7_firstBest 57 = .ok (.iload 6, 2) := by decide +kernel
theorem dX7_firstBest_59 : decode cX7_firstBest 59 = .ok (.iload 4, 2) := by decide +kernel
theorem dX7_firstBest_61 : decode cX7_firstBest 61 = .ok (.if_icmp .le 10, 3) := by decide +kernel
theorem dX7_firstBest_64 : decode cX7_firstBest 64 = .ok (.iload 5, 2) := by decide +kernel
theorem dX7_firstBest_66 : decode cX7_firstBest 66 = .ok (.istore_n 3, 1) := by decide +kernel
theorem dX7_firstBest_67 : decode cX7_firstBest 67 = .ok (.iload 6, 2) := by decide +kernel
theorem dX7_firstBest_69 : decode cX7_firstBest 69 = .ok (.istore 4, 2) := by decide +kernel
theorem dX7_firstBest_71 : decode cX7_firstBest 71 = .ok (.iinc 5 1, 3) := by decide +kernel
theorem dX7_firstBest_74 : decode cX7_firstBest 74 = .ok (.goto (-60), 3) := by decide +kernel
theorem dX7_firstBest_77 : decode cX7_firstBest 77 = .ok (.iload_n 3, 1) := by decide +kernel
theorem dX7_firstBest_78 : decode cX7_firstBest 78 = .ok (.ireturn, 1) := by decide +kernel
theorem dX7_sparedBy_0 : decode cX7_sparedBy 0 = .ok (.iload_n 3, 1) := by decide +kernel
theorem dX7_sparedBy_1 : decode cX7_sparedBy 1 = .ok (.aload_n 0, 1) := by decide +kernel
theorem dX7_sparedBy_2 : decode cX7_sparedBy 2 = .ok (.getfield 17, 3) := by decide +kernel
theorem dX7_sparedBy_5 : decode cX7_sparedBy 5 = .ok (.iload_n 1, 1) := by decide +kernel
theorem dX7_sparedBy_6 : decode cX7_sparedBy 6 = .ok (.aaload, 1) := by decide +kernel
theorem dX7_sparedBy_7 : decode cX7_sparedBy 7 = .ok (.iload_n 2, 1) := by decide +kernel
theorem dX7_sparedBy_8 : decode cX7_sparedBy 8 = .ok (.iaload, 1) := by decide +kernel
theorem dX7_sparedBy_9 : decode cX7_sparedBy 9 = .ok (.ior, 1) := by decide +kernel
theorem dX7_sparedBy_10 : decode cX7_sparedBy 10 = .ok (.aload_n 0, 1) := by decide +kernel
theorem dX7_sparedBy_11 : decode cX7_sparedBy 11 = .ok (.getfield 23, 3) := by decide +kernel
theorem dX7_sparedBy_14 : decode cX7_sparedBy 14 = .ok (.iload_n 1, 1) := by decide +kernel
theorem dX7_sparedBy_15 : decode cX7_sparedBy 15 = .ok (.iconst 1, 1) := by decide +kernel
theorem dX7_sparedBy_16 : decode cX7_sparedBy 16 = .ok (.iadd, 1) := by decide +kernel
theorem dX7_sparedBy_17 : decode cX7_sparedBy 17 = .ok (.iaload, 1) := by decide +kernel
theorem dX7_sparedBy_18 : decode cX7_sparedBy 18 = .ok (.iand, 1) := by decide +kernel
theorem dX7_sparedBy_19 : decode cX7_sparedBy 19 = .ok (.istore 4, 2) := by decide +kernel
theorem dX7_sparedBy_21 : decode cX7_sparedBy 21 = .ok (.aload_n 0, 1) := by decide +kernel
theorem dX7_sparedBy_22 : decode cX7_sparedBy 22 = .ok (.getfield 20, 3) := by decide +kernel
theorem dX7_sparedBy_25 : decode cX7_sparedBy 25 = .ok (.iload_n 1, 1) := by decide +kernel
theorem dX7_sparedBy_26 : decode cX7_sparedBy 26 = .ok (.aaload, 1) := by decide +kernel
theorem dX7_sparedBy_27 : decode cX7_sparedBy 27 = .ok (.iload_n 2, 1) := by decide +kernel
theorem dX7_sparedBy_28 : decode cX7_sparedBy 28 = .ok (.iaload, 1) := by decide +kernel
theorem dX7_sparedBy_29 : decode cX7_sparedBy 29 = .ok (.aload_n 0, 1) := by decide +kernel
theorem dX7_sparedBy_30 : decode cX7_sparedBy 30 = .ok (.getfield 26, 3) := by decide +kernel
theorem dX7_sparedBy_33 : decode cX7_sparedBy 33 = .ok (.iload_n 1, 1) := by decide +kernel
theorem dX7_sparedBy_34 : decode cX7_sparedBy 34 = .ok (.iconst 1, 1) := by decide +kernel
theorem dX7_sparedBy_35 : decode cX7_sparedBy 35 = .ok (.iadd, 1) := by decide +kernel
theorem dX7_sparedBy_36 : decode cX7_sparedBy 36 = .ok (.aaload, 1) := by decide +kernel
theorem dX7_sparedBy_37 : decode cX7_sparedBy 37 = .ok (.iload 4, 2) := by decide +kernel
theorem dX7_sparedBy_39 : decode cX7_sparedBy 39 = .ok (.iaload, 1) := by decide +kernel
theorem dX7_sparedBy_40 : decode cX7_sparedBy 40 = .ok (.iadd, 1) := by decide +kernel
theorem dX7_sparedBy_41 : decode cX7_sparedBy 41 = .ok (.ireturn, 1) := by decide +kernel
theorem dX8_init_0 : decode cX8_init 0 = .ok (.aload_n 0, 1) := by decide +kernel
theorem dX8_init_1 : decode cX8_init 1 = .ok (.invokespecial 1, 3) := by decide +kernel
theorem dX8_init_4 : decode cX8_init 4 = .ok (.aload_n 0, 1) := by decide +kernel
theorem dX8_init_5 : decode cX8_init 5 = .ok (.new 7, 3) := by decide +kernel
theorem dX8_init_8 : decode cX8_init 8 = .ok (.dup, 1) := by decide +kernel
theorem dX8_init_9 : decode cX8_init 9 = .ok (.invokespecial 9, 3) := by decide +kernel
theorem dX8_init_12 : decode cX8_init 12 = .ok (.putfield 10, 3) := by decide +kernel
theorem dX8_init_15 : decode cX8_init 15 = .ok (.aload_n 0, 1) := by decide +kernel
theorem dX8_init_16 : decode cX8_init 16 = .ok (.new 16, 3) := by decide +kernel
theorem dX8_init_19 : decode cX8_init 19 = .ok (.dup, 1) := by decide +kernel
theorem dX8_init_20 : decode cX8_init 20 = .ok (.invokespecial 18, 3) := by decide +kernel
theorem dX8_init_23 : decode cX8_init 23 = .ok (.putfield 19, 3) := by decide +kernel
theorem dX8_init_26 : decode cX8_init 26 = .ok (.aload_n 0, 1) := by decide +kernel
theorem dX8_init_27 : decode cX8_init 27 = .ok (.new 23, 3) := by decide +kernel
theorem dX8_init_30 : decode cX8_init 30 = .ok (.dup, 1) := by decide +kernel
theorem dX8_init_31 : decode cX8_init 31 = .ok (.invokespecial 25, 3) := by decide +kernel
theorem dX8_init_34 : decode cX8_init 34 = .ok (.putfield 26, 3) := by decide +kernel
theorem dX8_init_37 : decode cX8_init 37 = .ok (.aload_n 0, 1) := by decide +kernel
theorem dX8_init_38 : decode cX8_init 38 = .ok (.new 30, 3) := by decide +kernel
theorem dX8_init_41 : decode cX8_init 41 = .ok (.dup, 1) := by decide +kernel
theorem dX8_init_42 : decode cX8_init 42 = .ok (.invokespecial 32, 3) := by decide +kernel
theorem dX8_init_45 : decode cX8_init 45 = .ok (.putfield 33, 3) := by decide +kernel
theorem dX8_init_48 : decode cX8_init 48 = .ok (.aload_n 0, 1) := by decide +kernel
theorem dX8_init_49 : decode cX8_init 49 = .ok (.new 37, 3) := by decide +kernel
theorem dX8_init_52 : decode cX8_init 52 = .ok (.dup, 1) := by decide +kernel
theorem dX8_init_53 : decode cX8_init 53 = .ok (.invokespecial 39, 3) := by decide +kernel
theorem dX8_init_56 : decode cX8_init 56 = .ok (.putfield 40, 3) := by decide +kernel
theorem dX8_init_59 : decode cX8_init 59 = .ok (.aload_n 0, 1) := by decide +kernel
theorem dX8_init_60 : decode cX8_init 60 = .ok (.new 37, 3) := by decide +kernel
theorem dX8_init_63 : decode cX8_init 63 = .ok (.dup, 1) := by decide +kernel
theorem dX8_init_64 : decode cX8_init 64 = .ok (.invokespecial 39, 3) := by decide +kernel
theorem dX8_init_67 : decode cX8_init 67 = .ok (.putfield 44, 3) := by decide +kernel
theorem dX8_init_70 : decode cX8_init 70 = .ok (.aload_n 0, 1) := by decide +kernel
theorem dX8_init_71 : decode cX8_init 71 = .ok (.iconst 2, 1) := by decide +kernel
theorem dX8_init_72 : decode cX8_init 72 = .ok (.anewarray 47, 3) := by decide +kernel
theorem dX8_init_75 : decode cX8_init 75 = .ok (.putfield 49, 3) := by decide +kernel
theorem dX8_init_78 : decode cX8_init 78 = .ok (.iconst 0, 1) := by decide +kernel
theorem dX8_init_79 : decode cX8_init 79 = .ok (.istore_n 1, 1) := by decide +kernel
theorem dX8_init_80 : decode cX8_init 80 = .ok (.iload_n 1, 1) := by decide +kernel
theorem dX8_init_81 : decode cX8_init 81 = .ok (.iconst 2, 1) := by decide +kernel
theorem dX8_init_82 : decode cX8_init 82 = .ok (.if_icmp .ge 22, 3) := by decide +kernel
theorem dX8_init_85 : decode cX8_init 85 = .ok (.aload_n 0, 1) := by decide +kernel
theorem dX8_init_86 : decode cX8_init 86 = .ok (.getfield 49, 3) := by decide +kernel
theorem dX8_init_89 : decode cX8_init 89 = .ok (.iload_n 1, 1) := by decide +kernel
theorem dX8_init_90 : decode cX8_init 90 = .ok (.new 47, 3) := by decide +kernel
theorem dX8_init_93 : decode cX8_init 93 = .ok (.dup, 1) := by decide +kernel
theorem dX8_init_94 : decode cX8_init 94 = .ok (.invokespecial 53, 3) := by decide +kernel
theorem dX8_init_97 : decode cX8_init 97 = .ok (.aastore, 1) := by decide +kernel
theorem dX8_init_98 : decode cX8_init 98 = .ok (.iinc 1 1, 3) := by decide +kernel
theorem dX8_init_101 : decode cX8_init 101 = .ok (.goto (-21), 3) := by decide +kernel
theorem dX8_init_104 : decode cX8_init 104 = .ok (.aload_n 0, 1) := by decide +kernel
theorem dX8_init_105 : decode cX8_init 105 = .ok (.new 54, 3) := by decide +kernel
theorem dX8_init_108 : decode cX8_init 108 = .ok (.dup, 1) := by decide +kernel
theorem dX8_init_109 : decode cX8_init 109 = .ok (.invokespecial 56, 3) := by decide +kernel
theorem dX8_init_112 : decode cX8_init 112 = .ok (.putfield 57, 3) := by decide +kernel
theorem dX8_init_115 : decode cX8_init 115 = .ok (.aload_n 0, 1) := by decide +kernel
theorem dX8_init_116 : decode cX8_init 116 = .ok (.new 54, 3) := by decide +kernel
theorem dX8_init_119 : decode cX8_init 119 = .ok (.dup, 1) := by decide +kernel
theorem dX8_init_120 : decode cX8_init 120 = .ok (.invokespecial 56, 3) := by decide +kernel
theorem dX8_init_123 : decode cX8_init 123 = .ok (.putfield 61, 3) := by decide +kernel
theorem dX8_init_126 : decode cX8_init 126 = .ok (.aload_n 0, 1) := by decide +kernel
theorem dX8_init_127 : decode cX8_init 127 = .ok (.lconst 0, 1) := by decide +kernel
theorem dX8_init_128 : decode cX8_init 128 = .ok (.putfield 64, 3) := by decide +kernel
theorem dX8_init_131 : decode cX8_init 131 = .ok (.aload_n 0, 1) := by decide +kernel
theorem dX8_init_132 : decode cX8_init 132 = .ok (.iconst (-1), 1) := by decide +kernel
theorem dX8_init_133 : decode cX8_init 133 = .ok (.putfield 68, 3) := by decide +kernel
theorem dX8_init_136 : decode cX8_init 136 = .ok (.return_, 1) := by decide +kernel
theorem dX8_feed_0 : decode cX8_feed 0 = .ok (.iload_n 1, 1) := by decide +kernel
theorem dX8_feed_1 : decode cX8_feed 1 = .ok (.iconst 1, 1) := by decide +kernel
theorem dX8_feed_2 : decode cX8_feed 2 = .ok (.if_icmp .lt 9, 3) := by decide +kernel
theorem dX8_feed_5 : decode cX8_feed 5 = .ok (.iload_n 1, 1) := by decide +kernel
theorem dX8_feed_6 : decode cX8_feed 6 = .ok (.bipush 8, 2) := by decide +kernel
theorem dX8_feed_8 : decode cX8_feed 8 = .ok (.if_icmp .le 6, 3) := by decide +kernel
theorem dX8_feed_11 : decode cX8_feed 11 = .ok (.ldc 72, 2) := by decide +kernel
theorem dX8_feed_13 : decode cX8_feed 13 = .ok (.ireturn, 1) := by decide +kernel
theorem dX8_feed_14 : decode cX8_feed 14 = .ok (.aload_n 0, 1) := by decide +kernel
theorem dX8_feed_15 : decode cX8_feed 15 = .ok (.getfield 10, 3) := by decide +kernel
theorem dX8_feed_18 : decode cX8_feed 18 = .ok (.iload_n 1, 1) := by decide +kernel
theorem dX8_feed_19 : decode cX8_feed 19 = .ok (.lload_n 2, 1) := by decide +kernel
theorem dX8_feed_20 : decode cX8_feed 20 = .ok (.invokevirtual 73, 3) := by decide +kernel
theorem dX8_feed_23 : decode cX8_feed 23 = .ok (.ireturn, 1) := by decide +kernel
theorem dX8_town_0 : decode cX8_town 0 = .ok (.aload_n 0, 1) := by decide +kernel
theorem dX8_town_1 : decode cX8_town 1 = .ok (.getfield 10, 3) := by decide +kernel
theorem dX8_town_4 : decode cX8_town 4 = .ok (.aload_n 0, 1) := by decide +kernel
theorem dX8_town_5 : decode cX8_town 5 = .ok (.getfield 61, 3) := by decide +kernel
theorem dX8_town_8 : decode cX8_town 8 = .ok (.invokevirtual 77, 3) := by decide +kernel
theorem dX8_town_11 : decode cX8_town 11 = .ok (.istore_n 1, 1) := by decide +kernel
theorem dX8_town_12 : decode cX8_town 12 = .ok (.aload_n 0, 1) := by decide +kernel
theorem dX8_town_13 : decode cX8_town 13 = .ok (.aload_n 0, 1) := by decide +kernel
theorem dX8_town_14 : decode cX8_town 14 = .ok (.getfield 10, 3) := by decide +kernel
theorem dX8_town_17 : decode cX8_town 17 = .ok (.invokevirtual 81, 3) := by decide +kernel
theorem dX8_town_20 : decode cX8_town 20 = .ok (.putfield 68, 3) := by decide +kernel
theorem dX8_town_23 : decode cX8_town 23 = .ok (.aload_n 0, 1) := by decide +kernel
theorem dX8_town_24 : decode cX8_town 24 = .ok (.getfield 10, 3) := by decide +kernel
theorem dX8_town_27 : decode cX8_town 27 = .ok (.invokevirtual 85, 3) := by decide +kernel
theorem dX8_town_30 : decode cX8_town 30 = .ok (.iload_n 1, 1) := by decide +kernel
theorem dX8_town_31 : decode cX8_town 31 = .ok (.ifCond .eq 8, 3) := by decide +kernel
theorem dX8_town_34 : decode cX8_town 34 = .ok (.bipush (-10), 2) := by decide +kernel
theorem dX8_town_36 : decode cX8_town 36 = .ok (.iload_n 1, 1) := by decide +kernel
theorem dX8_town_37 : decode cX8_town 37 = .ok (.isub, 1) := by decide +kernel
theorem dX8_town_38 : decode cX8_town 38 = .ok (.ireturn, 1) := by decide +kernel
theorem dX8_town_39 : decode cX8_town 39 = .ok (.aload_n 0, 1) := by decide +kernel
theorem dX8_town_40 : decode cX8_town 40 = .ok (.getfield 57, 3) := by decide +kernel
theorem dX8_town_43 : decode cX8_town 43 = .ok (.astore_n 2, 1) := by decide +kernel
theorem dX8_town_44 : decode cX8_town 44 = .ok (.aload_n 0, 1) := by decide +kernel
theorem dX8_town_45 : decode cX8_town 45 = .ok (.aload_n 0, 1) := by decide +kernel
theorem dX8_town_46 : decode cX8_town 46 = .ok (.getfield 61, 3) := by decide +kernel
theorem dX8_town_49 : decode cX8_town 49 = .ok (.putfield 57, 3) := by decide +kernel
theorem dX8_town_52 : decode cX8_town 52 = .ok (.aload_n 0, 1) := by decide +kernel
theorem dX8_town_53 : decode cX8_town 53 = .ok (.aload_n 2, 1) := by decide +kernel
theorem dX8_town_54 : decode cX8_town 54 = .ok (.putfield 61, 3) := by decide +kernel
theorem dX8_town_57 : decode cX8_town 57 = .ok (.aload_n 0, 1) := by decide +kernel
theorem dX8_town_58 : decode cX8_town 58 = .ok (.getfield 40, 3) := by decide +kernel
theorem dX8_town_61 : decode cX8_town 61 = .ok (.invokevirtual 88, 3) := by decide +kernel
theorem dX8_town_64 : decode cX8_town 64 = .ok (.aload_n 0, 1) := by decide +kernel
theorem dX8_town_65 : decode cX8_town 65 = .ok (.getfield 44, 3) := by decide +kernel
theorem dX8_town_68 : decode cX8_town 68 = .ok (.invokevirtual 88, 3) := by decide +kernel
theorem dX8_town_71 : decode cX8_town 71 = .ok (.iconst 0, 1) := by decide +kernel
theorem dX8_town_72 : decode cX8_town 72 = .ok (.istore_n 3, 1) := by decide +kernel
theorem dX8_town_73 : decode cX8_town 73 = .ok (.iload_n 3, 1) := by decide +kernel
theorem dX8_town_74 : decode cX8_town 74 = .ok (.iconst 2, 1) := by decide +kernel
theorem dX8_town_75 : decode cX8_town 75 = .ok (.if_icmp .ge 19, 3) := by decide +kernel
theorem dX8_town_78 : decode cX8_town 78 = .ok (.aload_n 0, 1) := by decide +kernel
theorem dX8_town_79 : decode cX8_town 79 = .ok (.getfield 49, 3) := by decide +kernel
theorem dX8_town_82 : decode cX8_town 82 = .ok (.iload_n 3, 1) := by decide +kernel
theorem dX8_town_83 : decode cX8_town 83 = .ok (.aaload, 1) := by decide +kernel
theorem dX8_town_84 : decode cX8_town 84 = .ok (.iconst 0, 1) := by decide +kernel
theorem dX8_town_85 : decode cX8_town 85 = .ok (.putfield 89, 3) := by decide +kernel
theorem dX8_town_88 : decode cX8_town 88 = .ok (.iinc 3 1, 3) := by decide +kernel
theorem dX8_town_91 : decode cX8_town 91 = .ok (.goto (-18), 3) := by decide +kernel
theorem dX8_town_94 : decode cX8_town 94 = .ok (.aload_n 0, 1) := by decide +kernel
theorem dX8_town_95 : decode cX8_town 95 = .ok (.getfield 57, 3) := by decide +kernel
theorem dX8_town_98 : decode cX8_town 98 = .ok (.getfield 93, 3) := by decide +kernel
theorem dX8_town_101 : decode cX8_town 101 = .ok (.ireturn, 1) := by decide +kernel
theorem dX8_fault_0 : decode cX8_fault 0 = .ok (.aload_n 0, 1) := by decide +kernel
theorem dX8_fault_1 : decode cX8_fault 1 = .ok (.getfield 68, 3) := by decide +kernel
theorem dX8_fault_4 : decode cX8_fault 4 = .ok (.ireturn, 1) := by decide +kernel
theorem dX8_told_0 : decode cX8_told 0 = .ok (.iload_n 1, 1) := by decide +kernel
theorem dX8_told_1 : decode cX8_told 1 = .ok (.tableswitch 143 0 9 #[55, 63, 71, 79, 87, 95, 103, 111, 119, 131], 55) := by decide +kernel
theorem dX8_told_56 : decode cX8_told 56 = .ok (.aload_n 0, 1) := by decide +kernel
theorem dX8_told_57 : decode cX8_told 57 = .ok (.getfield 57, 3) := by decide +kernel
theorem dX8_told_60 : decode cX8_told 60 = .ok (.getfield 96, 3) := by decide +kernel
theorem dX8_told_63 : decode cX8_told 63 = .ok (.ireturn, 1) := by decide +kernel
theorem dX8_told_64 : decode cX8_told 64 = .ok (.aload_n 0, 1) := by decide +kernel
theorem dX8_told_65 : decode cX8_told 65 = .ok (.getfield 57, 3) := by decide +kernel
theorem dX8_told_68 : decode cX8_told 68 = .ok (.getfield 93, 3) := by decide +kernel
theorem dX8_told_71 : decode cX8_told 71 = .ok (.ireturn, 1) := by decide +kernel
theorem dX8_told_72 : decode cX8_told 72 = .ok (.aload_n 0, 1) := by decide +kernel
theorem dX8_told_73 : decode cX8_told 73 = .ok (.getfield 57, 3) := by decide +kernel
theorem dX8_told_76 : decode cX8_told 76 = .ok (.getfield 99, 3) := by decide +kernel
theorem dX8_told_79 : decode cX8_told 79 = .ok (.ireturn, 1) := by decide +kernel
theorem dX8_told_80 : decode cX8_told 80 = .ok (.aload_n 0, 1) := by decide +kernel
theorem dX8_told_81 : decode cX8_told 81 = .ok (.getfield 10, 3) := by decide +kernel
theorem dX8_told_84 : decode cX8_told 84 = .ok (.invokevirtual 102, 3) := by decide +kernel
theorem dX8_told_87 : decode cX8_told 87 = .ok (.ireturn, 1) := by decide +kernel
theorem dX8_told_88 : decode cX8_told 88 = .ok (.aload_n 0, 1) := by decide +kernel
theorem dX8_told_89 : decode cX8_told 89 = .ok (.getfield 57, 3) := by decide +kernel
theorem dX8_told_92 : decode cX8_told 92 = .ok (.getfield 105, 3) := by decide +kernel
theorem dX8_told_95 : decode cX8_told 95 = .ok (.ireturn, 1) := by decide +kernel
theorem dX8_told_96 : decode cX8_told 96 = .ok (.aload_n 0, 1) := by decide +kernel
theorem dX8_told_97 : decode cX8_told 97 = .ok (.getfield 57, 3) := by decide +kernel
theorem dX8_told_100 : decode cX8_told 100 = .ok (.getfield 108, 3) := by decide +kernel
theorem dX8_told_103 : decode cX8_told 103 = .ok (.ireturn, 1) := by decide +kernel
theorem dX8_told_104 : decode cX8_told 104 = .ok (.aload_n 0, 1) := by decide +kernel
theorem dX8_told_105 : decode cX8_told 105 = .ok (.getfield 40, 3) := by decide +kernel
theorem dX8_told_108 : decode cX8_told 108 = .ok (.getfield 111, 3) := by decide +kernel
theorem dX8_told_111 : decode cX8_told 111 = .ok (.ireturn, 1) := by decide +kernel
theorem dX8_told_112 : decode cX8_told 112 = .ok (.aload_n 0, 1) := by decide +kernel
theorem dX8_told_113 : decode cX8_told 113 = .ok (.getfield 44, 3) := by decide +kernel
theorem dX8_told_116 : decode cX8_told 116 = .ok (.getfield 111, 3) := by decide +kernel
theorem dX8_told_119 : decode cX8_told 119 = .ok (.ireturn, 1) := by decide +kernel
theorem dX8_told_120 : decode cX8_told 120 = .ok (.aload_n 0, 1) := by decide +kernel
theorem dX8_told_121 : decode cX8_told 121 = .ok (.getfield 19, 3) := by decide +kernel
theorem dX8_told_124 : decode cX8_told 124 = .ok (.aload_n 0, 1) := by decide +kernel
theorem dX8_told_125 : decode cX8_told 125 = .ok (.getfield 57, 3) := by decide +kernel
theorem dX8_told_128 : decode cX8_told 128 = .ok (.invokevirtual 114, 3) := by decide +kernel
theorem dX8_told_131 : decode cX8_told 131 = .ok (.ireturn, 1) := by decide +kernel
theorem dX8_told_132 : decode cX8_told 132 = .ok (.aload_n 0, 1) := by decide +kernel
theorem dX8_told_133 : decode cX8_told 133 = .ok (.getfield 33, 3) := by decide +kernel
theorem dX8_told_136 : decode cX8_told 136 = .ok (.aload_n 0, 1) := by decide +kernel
theorem dX8_told_137 : decode cX8_told 137 = .ok (.getfield 57, 3) := by decide +kernel
theorem dX8_told_140 : decode cX8_told 140 = .ok (.invokevirtual 117, 3) := by decide +kernel
theorem dX8_told_143 : decode cX8_told 143 = .ok (.ireturn, 1) := by decide +kernel
theorem dX8_told_144 : decode cX8_told 144 = .ok (.ldc 72, 2) := by decide +kernel
theorem dX8_told_146 : decode cX8_told 146 = .ok (.ireturn, 1) := by decide +kernel
theorem dX8_coat_0 : decode cX8_coat 0 = .ok (.aload_n 0, 1) := by decide +kernel
theorem dX8_coat_1 : decode cX8_coat 1 = .ok (.getfield 57, 3) := by decide +kernel
theorem dX8_coat_4 : decode cX8_coat 4 = .ok (.iload_n 1, 1) := by decide +kernel
theorem dX8_coat_5 : decode cX8_coat 5 = .ok (.invokevirtual 120, 3) := by decide +kernel
theorem dX8_coat_8 : decode cX8_coat 8 = .ok (.ifCond .ne 6, 3) := by decide +kernel
theorem dX8_coat_11 : decode cX8_coat 11 = .ok (.ldc 124, 2) := by decide +kernel
theorem dX8_coat_13 : decode cX8_coat 13 = .ok (.ireturn, 1) := by decide +kernel
theorem dX8_coat_14 : decode cX8_coat 14 = .ok (.iload_n 2, 1) := by decide +kernel
theorem dX8_coat_15 : decode cX8_coat 15 = .ok (.tableswitch 80 0 3 #[29, 41, 53, 63], 29) := by decide +kernel
theorem dX8_coat_44 : decode cX8_coat 44 = .ok (.aload_n 0, 1) := by decide +kernel
theorem dX8_coat_45 : decode cX8_coat 45 = .ok (.getfield 57, 3) := by decide +kernel
theorem dX8_coat_48 : decode cX8_coat 48 = .ok (.getfield 125, 3) := by decide +kernel
theorem dX8_coat_51 : decode cX8_coat 51 = .ok (.iload_n 1, 1) := by decide +kernel
theorem dX8_coat_52 : decode cX8_coat 52 = .ok (.aaload, 1) := by decide +kernel
theorem dX8_coat_53 : decode cX8_coat 53 = .ok (.iconst 0, 1) := by decide +kernel
theorem dX8_coat_54 : decode cX8_coat 54 = .ok (.iaload, 1) := by decide +kernel
theorem dX8_coat_55 : decode cX8_coat 55 = .ok (.ireturn, 1) := by decide +kernel
theorem dX8_coat_56 : decode cX8_coat 56 = .ok (.aload_n 0, 1) := by decide +kernel
theorem dX8_coat_57 : decode cX8_coat 57 = .ok (.getfield 57, 3) := by decide +kernel
theorem dX8_coat_60 : decode cX8_coat 60 = .ok (.getfield 125, 3) := by decide +kernel
theorem dX8_coat_63 : decode cX8_coat 63 = .ok (.iload_n 1, 1) := by decide +kernel
theorem dX8_coat_64 : decode cX8_coat 64 = .ok (.aaload, 1) := by decide +kernel
theorem dX8_coat_65 : decode cX8_coat 65 = .ok (.iconst 1, 1) := by decide +kernel
theorem dX8_coat_66 : decode cX8_coat 66 = .ok (.iaload, 1) := by decide +kernel
theorem dX8_coat_67 : decode cX8_coat 67 = .ok (.ireturn, 1) := by decide +kernel
theorem dX8_coat_68 : decode cX8_coat 68 = .ok (.aload_n 0, 1) := by decide +kernel
theorem dX8_coat_69 : decode cX8_coat 69 = .ok (.getfield 57, 3) := by decide +kernel
theorem dX8_coat_72 : decode cX8_coat 72 = .ok (.getfield 129, 3) := by decide +kernel
theorem dX8_coat_75 : decode cX8_coat 75 = .ok (.iload_n 1, 1) := by decide +kernel
theorem dX8_coat_76 : decode cX8_coat 76 = .ok (.iaload, 1) := by decide +kernel
theorem dX8_coat_77 : decode cX8_coat 77 = .ok (.ireturn, 1) := by decide +kernel
theorem dX8_coat_78 : decode cX8_coat 78 = .ok (.aload_n 0, 1) := by decide +kernel
theorem dX8_coat_79 : decode cX8_coat 79 = .ok (.getfield 57, 3) := by decide +kernel
theorem dX8_coat_82 : decode cX8_coat 82 = .ok (.iload_n 1, 1) := by decide +kernel
theorem dX8_coat_83 : decode cX8_coat 83 = .ok (.invokevirtual 133, 3) := by decide +kernel
theorem dX8_coat_86 : decode cX8_coat 86 = .ok (.ifCond .eq 7, 3) := by decide +kernel
theorem dX8_coat_89 : decode cX8_coat 89 = .ok (.iconst 1, 1) := by decide +kernel
theorem dX8_coat_90 : decode cX8_coat 90 = .ok (.goto 4, 3) := by decide +kernel
theorem dX8_coat_93 : decode cX8_coat 93 = .ok (.iconst 0, 1) := by decide +kernel
theorem dX8_coat_94 : decode cX8_coat 94 = .ok (.ireturn, 1) := by decide +kernel
theorem dX8_coat_95 : decode cX8_coat 95 = .ok (.ldc 72, 2) := by decide +kernel
theorem dX8_coat_97 : decode cX8_coat 97 = .ok (.ireturn, 1) := by decide +kernel
theorem dX8_errand_0 : decode cX8_errand 0 = .ok (.iload_n 1, 1) := by decide +kernel
theorem dX8_errand_1 : decode cX8_errand 1 = .ok (.ifCond .lt 14, 3) := by decide +kernel
theorem dX8_errand_4 : decode cX8_errand 4 = .ok (.iload_n 1, 1) := by decide +kernel
theorem dX8_errand_5 : decode cX8_errand 5 = .ok (.aload_n 0, 1) := by decide +kernel
theorem dX8_errand_6 : decode cX8_errand 6 = .ok (.getfield 57, 3) := by decide +kernel
theorem dX8_errand_9 : decode cX8_errand 9 = .ok (.getfield 99, 3) := by decide +kernel
theorem dX8_errand_12 : decode cX8_errand 12 = .ok (.if_icmp .lt 6, 3) := by decide +kernel
theorem dX8_errand_15 : decode cX8_errand 15 = .ok (.ldc 124, 2) := by decide +kernel
theorem dX8_errand_17 : decode cX8_errand 17 = .ok (.ireturn, 1) := by decide +kernel
theorem dX8_errand_18 : decode cX8_errand 18 = .ok (.iload_n 2, 1) := by decide +kernel
theorem dX8_errand_19 : decode cX8_errand 19 = .ok (.ifCond .lt 8, 3) := by decide +kernel
theorem dX8_errand_22 : decode cX8_errand 22 = .ok (.iload_n 2, 1) := by decide +kernel
theorem dX8_errand_23 : decode cX8_errand 23 = .ok (.iconst 3, 1) := by decide +kernel
theorem dX8_errand_24 : decode cX8_errand 24 = .ok (.if_icmp .le 6, 3) := by decide +kernel
theorem dX8_errand_27 : decode cX8_errand 27 = .ok (.ldc 72, 2) := by decide +kernel
theorem dX8_errand_29 : decode cX8_errand 29 = .ok (.ireturn, 1) := by decide +kernel
theorem dX8_errand_30 : decode cX8_errand 30 = .ok (.aload_n 0, 1) := by decide +kernel
theorem dX8_errand_31 : decode cX8_errand 31 = .ok (.getfield 57, 3) := by decide +kernel
theorem dX8_errand_34 : decode cX8_errand 34 = .ok (.getfield 136, 3) := by decide +kernel
theorem dX8_errand_37 : decode cX8_errand 37 = .ok (.iload_n 1, 1) := by decide +kernel
theorem dX8_errand_38 : decode cX8_errand 38 = .ok (.aaload, 1) := by decide +kernel
theorem dX8_errand_39 : decode cX8_errand 39 = .ok (.iload_n 2, 1) := by decide +kernel
theorem dX8_errand_40 : decode cX8_errand 40 = .ok (.iaload, 1) := by decide +kernel
theorem dX8_errand_41 : decode cX8_errand 41 = .ok (.ireturn, 1) := by decide +kernel
theorem dX8_where_0 : decode cX8_where 0 = .ok (.aload_n 0, 1) := by decide +kernel
theorem dX8_where_1 : decode cX8_where 1 = .ok (.getfield 57, 3) := by decide +kernel
theorem dX8_where_4 : decode cX8_where 4 = .ok (.iload_n 1, 1) := by decide +kernel
theorem dX8_where_5 : decode cX8_where 5 = .ok (.invokevirtual 139, 3) := by decide +kernel
theorem dX8_where_8 : decode cX8_where 8 = .ok (.ifCond .ne 6, 3) := by decide +kernel
theorem dX8_where_11 : decode cX8_where 11 = .ok (.ldc 124, 2) := by decide +kernel
theorem dX8_where_13 : decode cX8_where 13 = .ok (.ireturn, 1) := by decide +kernel
theorem dX8_where_14 : decode cX8_where 14 = .ok (.iload_n 2, 1) := by decide +kernel
theorem dX8_where_15 : decode cX8_where 15 = .ok (.invokestatic 142, 3) := by decide +kernel
theorem dX8_where_18 : decode cX8_where 18 = .ok (.ifCond .eq 17, 3) := by decide +kernel
theorem dX8_where_21 : decode cX8_where 21 = .ok (.aload_n 0, 1) := by decide +kernel
theorem dX8_where_22 : decode cX8_where 22 = .ok (.getfield 57, 3) := by decide +kernel
theorem dX8_where_25 : decode cX8_where 25 = .ok (.getfield 145, 3) := by decide +kernel
theorem dX8_where_28 : decode cX8_where 28 = .ok (.iload_n 1, 1) := by decide +kernel
theorem dX8_where_29 : decode cX8_where 29 = .ok (.aaload, 1) := by decide +kernel
theorem dX8_where_30 : decode cX8_where 30 = .ok (.iload_n 2, 1) := by decide +kernel
theorem dX8_where_31 : decode cX8_where 31 = .ok (.iaload, 1) := by decide +kernel
theorem dX8_where_32 : decode cX8_where 32 = .ok (.goto 5, 3) := by decide +kernel
theorem dX8_where_35 : decode cX8_where 35 = .ok (.ldc 72, 2) := by decide +kernel
theorem dX8_where_37 : decode cX8_where 37 = .ok (.ireturn, 1) := by decide +kernel
theorem dX8_likes_0 : decode cX8_likes 0 = .ok (.aload_n 0, 1) := by decide +kernel
theorem dX8_likes_1 : decode cX8_likes 1 = .ok (.getfield 57, 3) := by decide +kernel
theorem dX8_likes_4 : decode cX8_likes 4 = .ok (.iload_n 1, 1) := by decide +kernel
theorem dX8_likes_5 : decode cX8_likes 5 = .ok (.invokevirtual 139, 3) := by decide +kernel
theorem dX8_likes_8 : decode cX8_likes 8 = .ok (.ifCond .eq 19, 3) := by decide +kernel
theorem dX8_likes_11 : decode cX8_likes 11 = .ok (.aload_n 0, 1) := by decide +kernel
theorem dX8_likes_12 : decode cX8_likes 12 = .ok (.getfield 57, 3) := by decide +kernel
theorem dX8_likes_15 : decode cX8_likes 15 = .ok (.iload_n 2, 1) := by decide +kernel
theorem dX8_likes_16 : decode cX8_likes 16 = .ok (.invokevirtual 139, 3) := by decide +kernel
theorem dX8_likes_19 : decode cX8_likes 19 = .ok (.ifCond .eq 8, 3) := by decide +kernel
theorem dX8_likes_22 : decode cX8_likes 22 = .ok (.iload_n 1, 1) := by decide +kernel
theorem dX8_likes_23 : decode cX8_likes 23 = .ok (.iload_n 2, 1) := by decide +kernel
theorem dX8_likes_24 : decode cX8_likes 24 = .ok (.if_icmp .ne 6, 3) := by decide +kernel
theorem dX8_likes_27 : decode cX8_likes 27 = .ok (.ldc 124, 2) := by decide +kernel
theorem dX8_likes_29 : decode cX8_likes 29 = .ok (.ireturn, 1) := by decide +kernel
theorem dX8_likes_30 : decode cX8_likes 30 = .ok (.aload_n 0, 1) := by decide +kernel
theorem dX8_likes_31 : decode cX8_likes 31 = .ok (.getfield 57, 3) := by decide +kernel
theorem dX8_likes_34 : decode cX8_likes 34 = .ok (.getfield 148, 3) := by decide +kernel
theorem dX8_likes_37 : decode cX8_likes 37 = .ok (.iload_n 1, 1) := by decide +kernel
theorem dX8_likes_38 : decode cX8_likes 38 = .ok (.aaload, 1) := by decide +kernel
theorem dX8_likes_39 : decode cX8_likes 39 = .ok (.iload_n 2, 1) := by decide +kernel
theorem dX8_likes_40 : decode cX8_likes 40 = .ok (.iaload, 1) := by decide +kernel
theorem dX8_likes_41 : decode cX8_likes 41 = .ok (.ireturn, 1) := by decide +kernel
theorem dX8_net_0 : decode cX8_net 0 = .ok (.aload_n 0, 1) := by decide +kernel
theorem dX8_net_1 : decode cX8_net 1 = .ok (.getfield 57, 3) := by decide +kernel
theorem dX8_net_4 : decode cX8_net 4 = .ok (.iload_n 1, 1) := by decide +kernel
theorem dX8_net_5 : decode cX8_net 5 = .ok (.invokevirtual 139, 3) := by decide +kernel
theorem dX8_net_8 : decode cX8_net 8 = .ok (.ifCond .ne 6, 3) := by decide +kernel
theorem dX8_net_11 : decode cX8_net 11 = .ok (.ldc 124, 2) := by decide +kernel
theorem dX8_net_13 : decode cX8_net 13 = .ok (.ireturn, 1) := by decide +kernel
theorem dX8_net_14 : decode cX8_net 14 = .ok (.iload_n 2, 1) := by decide +kernel
theorem dX8_net_15 : decode cX8_net 15 = .ok (.ifCond .lt 8, 3) := by decide +kernel
theorem dX8_net_18 : decode cX8_net 18 = .ok (.iload_n 2, 1) := by decide +kernel
theorem dX8_net_19 : decode cX8_net 19 = .ok (.iconst 3, 1) := by decide +kernel
theorem dX8_net_20 : decode cX8_net 20 = .ok (.if_icmp .le 6, 3) := by decide +kernel
theorem dX8_net_23 : decode cX8_net 23 = .ok (.ldc 72, 2) := by decide +kernel
theorem dX8_net_25 : decode cX8_net 25 = .ok (.ireturn, 1) := by decide +kernel
theorem dX8_net_26 : decode cX8_net 26 = .ok (.aload_n 0, 1) := by decide +kernel
theorem dX8_net_27 : decode cX8_net 27 = .ok (.getfield 33, 3) := by decide +kernel
theorem dX8_net_30 : decode cX8_net 30 = .ok (.aload_n 0, 1) := by decide +kernel
theorem dX8_net_31 : decode cX8_net 31 = .ok (.getfield 57, 3) := by decide +kernel
theorem dX8_net_34 : decode cX8_net 34 = .ok (.iload_n 1, 1) := by decide +kernel
theorem dX8_net_35 : decode cX8_net 35 = .ok (.invokevirtual 151, 3) := by decide +kernel
theorem dX8_net_38 : decode cX8_net 38 = .ok (.iload_n 2, 1) := by decide +kernel
theorem dX8_net_39 : decode cX8_net 39 = .ok (.tableswitch 49 0 2 #[25, 33, 41], 25) := by decide +kernel
theorem dX8_net_64 : decode cX8_net 64 = .ok (.aload_n 0, 1) := by decide +kernel
theorem dX8_net_65 : decode cX8_net 65 = .ok (.getfield 33, 3) := by decide +kernel
theorem dX8_net_68 : decode cX8_net 68 = .ok (.getfield 155, 3) := by decide +kernel
theorem dX8_net_71 : decode cX8_net 71 = .ok (.ireturn, 1) := by decide +kernel
theorem dX8_net_72 : decode cX8_net 72 = .ok (.aload_n 0, 1) := by decide +kernel
theorem dX8_net_73 : decode cX8_net 73 = .ok (.getfield 33, 3) := by decide +kernel
theorem dX8_net_76 : decode cX8_net 76 = .ok (.getfield 158, 3) := by decide +kernel
theorem dX8_net_79 : decode cX8_net 79 = .ok (.ireturn, 1) := by decide +kernel
theorem dX8_net_80 : decode cX8_net 80 = .ok (.aload_n 0, 1) := by decide +kernel
theorem dX8_net_81 : decode cX8_net 81 = .ok (.getfield 33, 3) := by decide +kernel
theorem dX8_net_84 : decode cX8_net 84 = .ok (.getfield 161, 3) := by decide +kernel
theorem dX8_net_87 : decode cX8_net 87 = .ok (.ireturn, 1) := by decide +kernel
theorem dX8_net_88 : decode cX8_net 88 = .ok (.aload_n 0, 1) := by decide +kernel
theorem dX8_net_89 : decode cX8_net 89 = .ok (.getfield 33, 3) := by decide +kernel
theorem dX8_net_92 : decode cX8_net 92 = .ok (.invokevirtual 164, 3) := by decide +kernel
theorem dX8_net_95 : decode cX8_net 95 = .ok (.ireturn, 1) := by decide +kernel
theorem dX8_sell_0 : decode cX8_sell 0 = .ok (.aload_n 0, 1) := by decide +kernel
theorem dX8_sell_1 : decode cX8_sell 1 = .ok (.getfield 57, 3) := by decide +kernel
theorem dX8_sell_4 : decode cX8_sell 4 = .ok (.iload_n 1, 1) := by decide +kernel
theorem dX8_sell_5 : decode cX8_sell 5 = .ok (.invokevirtual 120, 3) := by decide +kernel
theorem dX8_sell_8 : decode cX8_sell 8 = .ok (.ifCond .eq 14, 3) := by decide +kernel
theorem dX8_sell_11 : decode cX8_sell 11 = .ok (.aload_n 0, 1) := by decide +kernel
theorem dX8_sell_12 : decode cX8_sell 12 = .ok (.getfield 57, 3) := by decide +kernel
theorem dX8_sell_15 : decode cX8_sell 15 = .ok (.iload_n 3, 1) := by decide +kernel
theorem dX8_sell_16 : decode cX8_sell 16 = .ok (.invokevirtual 139, 3) := by decide +kernel
theorem dX8_sell_19 : decode cX8_sell 19 = .ok (.ifCond .ne 6, 3) := by decide +kernel
theorem dX8_sell_22 : decode cX8_sell 22 = .ok (.ldc 124, 2) := by decide +kernel
theorem dX8_sell_24 : decode cX8_sell 24 = .ok (.ireturn, 1) := by decide +kernel
theorem dX8_sell_25 : decode cX8_sell 25 = .ok (.iload_n 2, 1) := by decide +kernel
theorem dX8_sell_26 : decode cX8_sell 26 = .ok (.ifCond .lt 8, 3) := by decide +kernel
theorem dX8_sell_29 : decode cX8_sell 29 = .ok (.iload_n 2, 1) := by decide +kernel
theorem dX8_sell_30 : decode cX8_sell 30 = .ok (.iconst 1, 1) := by decide +kernel
theorem dX8_sell_31 : decode cX8_sell 31 = .ok (.if_icmp .le 6, 3) := by decide +kernel
theorem dX8_sell_34 : decode cX8_sell 34 = .ok (.ldc 72, 2) := by decide +kernel
theorem dX8_sell_36 : decode cX8_sell 36 = .ok (.ireturn, 1) := by decide +kernel
theorem dX8_sell_37 : decode cX8_sell 37 = .ok (.aload_n 0, 1) := by decide +kernel
theorem dX8_sell_38 : decode cX8_sell 38 = .ok (.getfield 57, 3) := by decide +kernel
theorem dX8_sell_41 : decode cX8_sell 41 = .ok (.iload_n 1, 1) := by decide +kernel
theorem dX8_sell_42 : decode cX8_sell 42 = .ok (.iload_n 2, 1) := by decide +kernel
theorem dX8_sell_43 : decode cX8_sell 43 = .ok (.iload_n 3, 1) := by decide +kernel
theorem dX8_sell_44 : decode cX8_sell 44 = .ok (.invokevirtual 167, 3) := by decide +kernel
theorem dX8_sell_47 : decode cX8_sell 47 = .ok (.ifCond .ne 6, 3) := by decide +kernel
theorem dX8_sell_50 : decode cX8_sell 50 = .ok (.ldc 171, 2) := by decide +kernel
theorem dX8_sell_52 : decode cX8_sell 52 = .ok (.ireturn, 1) := by decide +kernel
theorem dX8_sell_53 : decode cX8_sell 53 = .ok (.aload_n 0, 1) := by decide +kernel
theorem dX8_sell_54 : decode cX8_sell 54 = .ok (.getfield 57, 3) := by decide +kernel
theorem dX8_sell_57 : decode cX8_sell 57 = .ok (.getfield 125, 3) := by decide +kernel
theorem dX8_sell_60 : decode cX8_sell 60 = .ok (.iload_n 1, 1) := by decide +kernel
theorem dX8_sell_61 : decode cX8_sell 61 = .ok (.aaload, 1) := by decide +kernel
theorem dX8_sell_62 : decode cX8_sell 62 = .ok (.iload_n 2, 1) := by decide +kernel
theorem dX8_sell_63 : decode cX8_sell 63 = .ok (.iaload, 1) := by decide +kernel
theorem dX8_sell_64 : decode cX8_sell 64 = .ok (.istore 4, 2) := by decide +kernel
theorem dX8_sell_66 : decode cX8_sell 66 = .ok (.aload_n 0, 1) := by decide +kernel
theorem dX8_sell_67 : decode cX8_sell 67 = .ok (.getfield 57, 3) := by decide +kernel
theorem dX8_sell_70 : decode cX8_sell 70 = .ok (.getfield 125, 3) := by decide +kernel
theorem dX8_sell_73 : decode cX8_sell 73 = .ok (.iload_n 1, 1) := by decide +kernel
theorem dX8_sell_74 : decode cX8_sell 74 = .ok (.aaload, 1) := by decide +kernel
theorem dX8_sell_75 : decode cX8_sell 75 = .ok (.iload_n 2, 1) := by decide +kernel
theorem dX8_sell_76 : decode cX8_sell 76 = .ok (.iload_n 3, 1) := by decide +kernel
theorem dX8_sell_77 : decode cX8_sell 77 = .ok (.iastore, 1) := by decide +kernel
theorem dX8_sell_78 : decode cX8_sell 78 = .ok (.iload 4, 2) := by decide +kernel
theorem dX8_sell_80 : decode cX8_sell 80 = .ok (.ireturn, 1) := by decide +kernel
theorem dX8_cut_0 : decode cX8_cut 0 = .ok (.aload_n 0, 1) := by decide +kernel
theorem dX8_cut_1 : decode cX8_cut 1 = .ok (.getfield 57, 3) := by decide +kernel
theorem dX8_cut_4 : decode cX8_cut 4 = .ok (.iload_n 1, 1) := by decide +kernel
theorem dX8_cut_5 : decode cX8_cut 5 = .ok (.invokevirtual 120, 3) := by decide +kernel
theorem dX8_cut_8 : decode cX8_cut 8 = .ok (.ifCond .ne 6, 3) := by decide +kernel
theorem dX8_cut_11 : decode cX8_cut 11 = .ok (.ldc 124, 2) := by decide +kernel
theorem dX8_cut_13 : decode cX8_cut 13 = .ok (.ireturn, 1) := by decide +kernel
theorem dX8_cut_14 : decode cX8_cut 14 = .ok (.aload_n 0, 1) := by decide +kernel
theorem dX8_cut_15 : decode cX8_cut 15 = .ok (.getfield 57, 3) := by decide +kernel
theorem dX8_cut_18 : decode cX8_cut 18 = .ok (.iload_n 1, 1) := by decide +kernel
theorem dX8_cut_19 : decode cX8_cut 19 = .ok (.invokevirtual 133, 3) := by decide +kernel
theorem dX8_cut_22 : decode cX8_cut 22 = .ok (.ifCond .eq 6, 3) := by decide +kernel
theorem dX8_cut_25 : decode cX8_cut 25 = .ok (.ldc 171, 2) := by decide +kernel
theorem dX8_cut_27 : decode cX8_cut 27 = .ok (.ireturn, 1) := by decide +kernel
theorem dX8_cut_28 : decode cX8_cut 28 = .ok (.aload_n 0, 1) := by decide +kernel
theorem dX8_cut_29 : decode cX8_cut 29 = .ok (.getfield 57, 3) := by decide +kernel
theorem dX8_cut_32 : decode cX8_cut 32 = .ok (.dup, 1) := by decide +kernel
theorem dX8_cut_33 : decode cX8_cut 33 = .ok (.getfield 108, 3) := by decide +kernel
theorem dX8_cut_36 : decode cX8_cut 36 = .ok (.iconst 1, 1) := by decide +kernel
theorem dX8_cut_37 : decode cX8_cut 37 = .ok (.iload_n 1, 1) := by decide +kernel
theorem dX8_cut_38 : decode cX8_cut 38 = .ok (.ishl, 1) := by decide +kernel
theorem dX8_cut_39 : decode cX8_cut 39 = .ok (.ior, 1) := by decide +kernel
theorem dX8_cut_40 : decode cX8_cut 40 = .ok (.putfield 108, 3) := by decide +kernel
theorem dX8_cut_43 : decode cX8_cut 43 = .ok (.iconst 1, 1) := by decide +kernel
theorem dX8_cut_44 : decode cX8_cut 44 = .ok (.ireturn, 1) := by decide +kernel
theorem dX8_frost_0 : decode cX8_frost 0 = .ok (.iload_n 1, 1) := by decide +kernel
theorem dX8_frost_1 : decode cX8_frost 1 = .ok (.ifCond .lt 9, 3) := by decide +kernel
theorem dX8_frost_4 : decode cX8_frost 4 = .ok (.iload_n 1, 1) := by decide +kernel
theorem dX8_frost_5 : decode cX8_frost 5 = .ok (.bipush 99, 2) := by decide +kernel
theorem dX8_frost_7 : decode cX8_frost 7 = .ok (.if_icmp .le 6, 3) := by decide +kernel
theorem dX8_frost_10 : decode cX8_frost 10 = .ok (.ldc 72, 2) := by decide +kernel
theorem dX8_frost_12 : decode cX8_frost 12 = .ok (.ireturn, 1) := by decide +kernel
theorem dX8_frost_13 : decode cX8_frost 13 = .ok (.aload_n 0, 1) := by decide +kernel
theorem dX8_frost_14 : decode cX8_frost 14 = .ok (.getfield 57, 3) := by decide +kernel
theorem dX8_frost_17 : decode cX8_frost 17 = .ok (.getfield 105, 3) := by decide +kernel
theorem dX8_frost_20 : decode cX8_frost 20 = .ok (.istore_n 2, 1) := by decide +kernel
theorem dX8_frost_21 : decode cX8_frost 21 = .ok (.aload_n 0, 1) := by decide +kernel
theorem dX8_frost_22 : decode cX8_frost 22 = .ok (.getfield 57, 3) := by decide +kernel
theorem dX8_frost_25 : decode cX8_frost 25 = .ok (.iload_n 1, 1) := by decide +kernel
theorem dX8_frost_26 : decode cX8_frost 26 = .ok (.putfield 105, 3) := by decide +kernel
theorem dX8_frost_29 : decode cX8_frost 29 = .ok (.iload_n 2, 1) := by decide +kernel
theorem dX8_frost_30 : decode cX8_frost 30 = .ok (.ireturn, 1) := by decide +kernel
theorem dX8_worn_0 : decode cX8_worn 0 = .ok (.iload_n 2, 1) := by decide +kernel
theorem dX8_worn_1 : decode cX8_worn 1 = .ok (.iconst (-1), 1) := by decide +kernel
theorem dX8_worn_2 : decode cX8_worn 2 = .ok (.if_icmp .eq 17, 3) := by decide +kernel
theorem dX8_worn_5 : decode cX8_worn 5 = .ok (.aload_n 0, 1) := by decide +kernel
theorem dX8_worn_6 : decode cX8_worn 6 = .ok (.getfield 57, 3) := by decide +kernel
theorem dX8_worn_9 : decode cX8_worn 9 = .ok (.iload_n 2, 1) := by decide +kernel
theorem dX8_worn_10 : decode cX8_worn 10 = .ok (.invokevirtual 120, 3) := by decide +kernel
theorem dX8_worn_13 : decode cX8_worn 13 = .ok (.ifCond .ne 6, 3) := by decide +kernel
theorem dX8_worn_16 : decode cX8_worn 16 = .ok (.ldc 124, 2) := by decide +kernel
theorem dX8_worn_18 : decode cX8_worn 18 = .ok (.ireturn, 1) := by decide +kernel
theorem dX8_worn_19 : decode cX8_worn 19 = .ok (.iload_n 1, 1) := by decide +kernel
theorem dX8_worn_20 : decode cX8_worn 20 = .ok (.invokestatic 142, 3) := by decide +kernel
theorem dX8_worn_23 : decode cX8_worn 23 = .ok (.ifCond .ne 6, 3) := by decide +kernel
theorem dX8_worn_26 : decode cX8_worn 26 = .ok (.ldc 72, 2) := by decide +kernel
theorem dX8_worn_28 : decode cX8_worn 28 = .ok (.ireturn, 1) := by decide +kernel
theorem dX8_worn_29 : decode cX8_worn 29 = .ok (.iload_n 2, 1) := by decide +kernel
theorem dX8_worn_30 : decode cX8_worn 30 = .ok (.iconst (-1), 1) := by decide +kernel
theorem dX8_worn_31 : decode cX8_worn 31 = .ok (.if_icmp .ne 16, 3) := by decide +kernel
theorem dX8_worn_34 : decode cX8_worn 34 = .ok (.aload_n 0, 1) := by decide +kernel
theorem dX8_worn_35 : decode cX8_worn 35 = .ok (.getfield 19, 3) := by decide +kernel
theorem dX8_worn_38 : decode cX8_worn 38 = .ok (.aload_n 0, 1) := by decide +kernel
theorem dX8_worn_39 : decode cX8_worn 39 = .ok (.getfield 57, 3) := by decide +kernel
theorem dX8_worn_42 : decode cX8_worn 42 = .ok (.iload_n 1, 1) := by decide +kernel
theorem dX8_worn_43 : decode cX8_worn 43 = .ok (.invokevirtual 172, 3) := by decide +kernel
theorem dX8_worn_46 : decode cX8_worn 46 = .ok (.ireturn, 1) := by decide +kernel
theorem dX8_worn_47 : decode cX8_worn 47 = .ok (.aload_n 0, 1) := by decide +kernel
theorem dX8_worn_48 : decode cX8_worn 48 = .ok (.getfield 19, 3) := by decide +kernel
theorem dX8_worn_51 : decode cX8_worn 51 = .ok (.aload_n 0, 1) := by decide +kernel
theorem dX8_worn_52 : decode cX8_worn 52 = .ok (.getfield 57, 3) := by decide +kernel
theorem dX8_worn_55 : decode cX8_worn 55 = .ok (.iload_n 1, 1) := by decide +kernel
theorem dX8_worn_56 : decode cX8_worn 56 = .ok (.invokevirtual 176, 3) := by decide +kernel
theorem dX8_worn_59 : decode cX8_worn 59 = .ok (.aload_n 0, 1) := by decide +kernel
theorem dX8_worn_60 : decode cX8_worn 60 = .ok (.getfield 19, 3) := by decide +kernel
theorem dX8_worn_63 : decode cX8_worn 63 = .ok (.getfield 179, 3) := by decide +kernel
theorem dX8_worn_66 : decode cX8_worn 66 = .ok (.iload_n 2, 1) := by decide +kernel
theorem dX8_worn_67 : decode cX8_worn 67 = .ok (.iaload, 1) := by decide +kernel
theorem dX8_worn_68 : decode cX8_worn 68 = .ok (.ireturn, 1) := by decide +kernel
theorem dX8_chill_0 : decode cX8_chill 0 = .ok (.aload_n 0, 1) := by decide +kernel
theorem dX8_chill_1 : decode cX8_chill 1 = .ok (.getfield 57, 3) := by decide +kernel
theorem dX8_chill_4 : decode cX8_chill 4 = .ok (.iload_n 1, 1) := by decide +kernel
theorem dX8_chill_5 : decode cX8_chill 5 = .ok (.invokevirtual 139, 3) := by decide +kernel
theorem dX8_chill_8 : decode cX8_chill 8 = .ok (.ifCond .ne 6, 3) := by decide +kernel
theorem dX8_chill_11 : decode cX8_chill 11 = .ok (.ldc 124, 2) := by decide +kernel
theorem dX8_chill_13 : decode cX8_chill 13 = .ok (.ireturn, 1) := by decide +kernel
theorem dX8_chill_14 : decode cX8_chill 14 = .ok (.iload_n 2, 1) := by decide +kernel
theorem dX8_chill_15 : decode cX8_chill 15 = .ok (.invokestatic 142, 3) := by decide +kernel
theorem dX8_chill_18 : decode cX8_chill 18 = .ok (.ifCond .ne 6, 3) := by decide +kernel
theorem dX8_chill_21 : decode cX8_chill 21 = .ok (.ldc 72, 2) := by decide +kernel
theorem dX8_chill_23 : decode cX8_chill 23 = .ok (.ireturn, 1) := by decide +kernel
theorem dX8_chill_24 : decode cX8_chill 24 = .ok (.aload_n 0, 1) := by decide +kernel
theorem dX8_chill_25 : decode cX8_chill 25 = .ok (.getfield 57, 3) := by decide +kernel
theorem dX8_chill_28 : decode cX8_chill 28 = .ok (.getfield 145, 3) := by decide +kernel
theorem dX8_chill_31 : decode cX8_chill 31 = .ok (.iload_n 1, 1) := by decide +kernel
theorem dX8_chill_32 : decode cX8_chill 32 = .ok (.aaload, 1) := by decide +kernel
theorem dX8_chill_33 : decode cX8_chill 33 = .ok (.iload_n 2, 1) := by decide +kernel
theorem dX8_chill_34 : decode cX8_chill 34 = .ok (.iaload, 1) := by decide +kernel
theorem dX8_chill_35 : decode cX8_chill 35 = .ok (.iconst (-1), 1) := by decide +kernel
theorem dX8_chill_36 : decode cX8_chill 36 = .ok (.if_icmp .ne 5, 3) := by decide +kernel
theorem dX8_chill_39 : decode cX8_chill 39 = .ok (.iconst 0, 1) := by decide +kernel
theorem dX8_chill_40 : decode cX8_chill 40 = .ok (.ireturn, 1) := by decide +kernel
theorem dX8_chill_41 : decode cX8_chill 41 = .ok (.aload_n 0, 1) := by decide +kernel
theorem dX8_chill_42 : decode cX8_chill 42 = .ok (.getfield 19, 3) := by decide +kernel
theorem dX8_chill_45 : decode cX8_chill 45 = .ok (.aload_n 0, 1) := by decide +kernel
theorem dX8_chill_46 : decode cX8_chill 46 = .ok (.getfield 57, 3) := by decide +kernel
theorem dX8_chill_49 : decode cX8_chill 49 = .ok (.iload_n 2, 1) := by decide +kernel
theorem dX8_chill_50 : decode cX8_chill 50 = .ok (.invokevirtual 176, 3) := by decide +kernel
theorem dX8_chill_53 : decode cX8_chill 53 = .ok (.iconst 0, 1) := by decide +kernel
theorem dX8_chill_54 : decode cX8_chill 54 = .ok (.aload_n 0, 1) := by decide +kernel
theorem dX8_chill_55 : decode cX8_chill 55 = .ok (.getfield 57, 3) := by decide +kernel
theorem dX8_chill_58 : decode cX8_chill 58 = .ok (.getfield 105, 3) := by decide +kernel
theorem dX8_chill_61 : decode cX8_chill 61 = .ok (.aload_n 0, 1) := by decide +kernel
theorem dX8_chill_62 : decode cX8_chill 62 = .ok (.getfield 19, 3) := by decide +kernel
theorem dX8_chill_65 : decode cX8_chill 65 = .ok (.aload_n 0, 1) := by decide +kernel
theorem dX8_chill_66 : decode cX8_chill 66 = .ok (.getfield 57, 3) := by decide +kernel
theorem dX8_chill_69 : decode cX8_chill 69 = .ok (.iload_n 1, 1) := by decide +kernel
theorem dX8_chill_70 : decode cX8_chill 70 = .ok (.invokevirtual 182, 3) := by decide +kernel
theorem dX8_chill_73 : decode cX8_chill 73 = .ok (.isub, 1) := by decide +kernel
theorem dX8_chill_74 : decode cX8_chill 74 = .ok (.invokestatic 185, 3) := by decide +kernel
theorem dX8_chill_77 : decode cX8_chill 77 = .ok (.ireturn, 1) := by decide +kernel
theorem dX8_fair_0 : decode cX8_fair 0 = .ok (.aload_n 0, 1) := by decide +kernel
theorem dX8_fair_1 : decode cX8_fair 1 = .ok (.getfield 57, 3) := by decide +kernel
theorem dX8_fair_4 : decode cX8_fair 4 = .ok (.iload_n 1, 1) := by decide +kernel
theorem dX8_fair_5 : decode cX8_fair 5 = .ok (.invokevirtual 120, 3) := by decide +kernel
theorem dX8_fair_8 : decode cX8_fair 8 = .ok (.ifCond .ne 6, 3) := by decide +kernel
theorem dX8_fair_11 : decode cX8_fair 11 = .ok (.ldc 124, 2) := by decide +kernel
theorem dX8_fair_13 : decode cX8_fair 13 = .ok (.ireturn, 1) := by decide +kernel
theorem dX8_fair_14 : decode cX8_fair 14 = .ok (.iload_n 2, 1) := by decide +kernel
theorem dX8_fair_15 : decode cX8_fair 15 = .ok (.ifCond .lt 8, 3) := by decide +kernel
theorem dX8_fair_18 : decode cX8_fair 18 = .ok (.iload_n 2, 1) := by decide +kernel
theorem dX8_fair_19 : decode cX8_fair 19 = .ok (.iconst 1, 1) := by decide +kernel
theorem dX8_fair_20 : decode cX8_fair 20 = .ok (.if_icmp .le 6, 3) := by decide +kernel
theorem dX8_fair_23 : decode cX8_fair 23 = .ok (.ldc 72, 2) := by decide +kernel
theorem dX8_fair_25 : decode cX8_fair 25 = .ok (.ireturn, 1) := by decide +kernel
theorem dX8_fair_26 : decode cX8_fair 26 = .ok (.aload_n 0, 1) := by decide +kernel
theorem dX8_fair_27 : decode cX8_fair 27 = .ok (.getfield 57, 3) := by decide +kernel
theorem dX8_fair_30 : decode cX8_fair 30 = .ok (.iload_n 1, 1) := by decide +kernel
theorem dX8_fair_31 : decode cX8_fair 31 = .ok (.invokevirtual 133, 3) := by decide +kernel
theorem dX8_fair_34 : decode cX8_fair 34 = .ok (.ifCond .eq 6, 3) := by decide +kernel
theorem dX8_fair_37 : decode cX8_fair 37 = .ok (.ldc 171, 2) := by decide +kernel
theorem dX8_fair_39 : decode cX8_fair 39 = .ok (.ireturn, 1) := by decide +kernel
theorem dX8_fair_40 : decode cX8_fair 40 = .ok (.aload_n 0, 1) := by decide +kernel
theorem dX8_fair_41 : decode cX8_fair 41 = .ok (.getfield 57, 3) := by decide +kernel
theorem dX8_fair_44 : decode cX8_fair 44 = .ok (.iload_n 1, 1) := by decide +kernel
theorem dX8_fair_45 : decode cX8_fair 45 = .ok (.invokevirtual 191, 3) := by decide +kernel
theorem dX8_fair_48 : decode cX8_fair 48 = .ok (.istore_n 3, 1) := by decide +kernel
theorem dX8_fair_49 : decode cX8_fair 49 = .ok (.iload_n 3, 1) := by decide +kernel
theorem dX8_fair_50 : decode cX8_fair 50 = .ok (.invokestatic 195, 3) := by decide +kernel
theorem dX8_fair_53 : decode cX8_fair 53 = .ok (.istore 4, 2) := by decide +kernel
theorem dX8_fair_55 : decode cX8_fair 55 = .ok (.aload_n 0, 1) := by decide +kernel
theorem dX8_fair_56 : decode cX8_fair 56 = .ok (.getfield 57, 3) := by decide +kernel
theorem dX8_fair_59 : decode cX8_fair 59 = .ok (.getfield 105, 3) := by decide +kernel
theorem dX8_fair_62 : decode cX8_fair 62 = .ok (.aload_n 0, 1) := by decide +kernel
theorem dX8_fair_63 : decode cX8_fair 63 = .ok (.getfield 57, 3) := by decide +kernel
theorem dX8_fair_66 : decode cX8_fair 66 = .ok (.getfield 129, 3) := by decide +kernel
theorem dX8_fair_69 : decode cX8_fair 69 = .ok (.iload_n 1, 1) := by decide +kernel
theorem dX8_fair_70 : decode cX8_fair 70 = .ok (.iaload, 1) := by decide +kernel
theorem dX8_fair_71 : decode cX8_fair 71 = .ok (.invokestatic 200, 3) := by decide +kernel
theorem dX8_fair_74 : decode cX8_fair 74 = .ok (.istore 5, 2) := by decide +kernel
theorem dX8_fair_76 : decode cX8_fair 76 = .ok (.iload_n 2, 1) := by decide +kernel
theorem dX8_fair_77 : decode cX8_fair 77 = .ok (.ifCond .ne 11, 3) := by decide +kernel
theorem dX8_fair_80 : decode cX8_fair 80 = .ok (.iload 4, 2) := by decide +kernel
theorem dX8_fair_82 : decode cX8_fair 82 = .ok (.iconst 2, 1) := by decide +kernel
theorem dX8_fair_83 : decode cX8_fair 83 = .ok (.irem, 1) := by decide +kernel
theorem dX8_fair_84 : decode cX8_fair 84 = .ok (.iload 5, 2) := by decide +kernel
theorem dX8_fair_86 : decode cX8_fair 86 = .ok (.imul, 1) := by decide +kernel
theorem dX8_fair_87 : decode cX8_fair 87 = .ok (.ireturn, 1) := by decide +kernel
theorem dX8_fair_88 : decode cX8_fair 88 = .ok (.iload 5, 2) := by decide +kernel
theorem dX8_fair_90 : decode cX8_fair 90 = .ok (.ifCond .ne 7, 3) := by decide +kernel
theorem dX8_fair_93 : decode cX8_fair 93 = .ok (.iconst 0, 1) := by decide +kernel
theorem dX8_fair_94 : decode cX8_fair 94 = .ok (.goto 11, 3) := by decide +kernel
theorem dX8_fair_97 : decode cX8_fair 97 = .ok (.iload_n 3, 1) := by decide +kernel
theorem dX8_fair_98 : decode cX8_fair 98 = .ok (.iload 4, 2) := by decide +kernel
theorem dX8_fair_100 : decode cX8_fair 100 = .ok (.iconst 2, 1) := by decide +kernel
theorem dX8_fair_101 : decode cX8_fair 101 = .ok (.idiv, 1) := by decide +kernel
theorem dX8_fair_102 : decode cX8_fair 102 = .ok (.invokestatic 203, 3) := by decide +kernel
theorem dX8_fair_105 : decode cX8_fair 105 = .ok (.ireturn, 1) := by decide +kernel
theorem dX8_wish_0 : decode cX8_wish 0 = .ok (.aload_n 0, 1) := by decide +kernel
theorem dX8_wish_1 : decode cX8_wish 1 = .ok (.getfield 57, 3) := by decide +kernel
theorem dX8_wish_4 : decode cX8_wish 4 = .ok (.iload_n 1, 1) := by decide +kernel
theorem dX8_wish_5 : decode cX8_wish 5 = .ok (.invokevirtual 139, 3) := by decide +kernel
theorem dX8_wish_8 : decode cX8_wish 8 = .ok (.ifCond .eq 14, 3) := by decide +kernel
theorem dX8_wish_11 : decode cX8_wish 11 = .ok (.aload_n 0, 1) := by decide +kernel
theorem dX8_wish_12 : decode cX8_wish 12 = .ok (.getfield 57, 3) := by decide +kernel
theorem dX8_wish_15 : decode cX8_wish 15 = .ok (.iload_n 1, 1) := by decide +kernel
theorem dX8_wish_16 : decode cX8_wish 16 = .ok (.invokestatic 206, 3) := by decide +kernel
theorem dX8_wish_19 : decode cX8_wish 19 = .ok (.goto 5, 3) := by decide +kernel
theorem dX8_wish_22 : decode cX8_wish 22 = .ok (.ldc 124, 2) := by decide +kernel
theorem dX8_wish_24 : decode cX8_wish 24 = .ok (.ireturn, 1) := by decide +kernel
theorem dX8_swap_0 : decode cX8_swap 0 = .ok (.iconst 0, 1) := by decide +kernel
theorem dX8_swap_1 : decode cX8_swap 1 = .ok (.istore_n 1, 1) := by decide +kernel
theorem dX8_swap_2 : decode cX8_swap 2 = .ok (.iload_n 1, 1) := by decide +kernel
theorem dX8_swap_3 : decode cX8_swap 3 = .ok (.bipush 50, 2) := by decide +kernel
theorem dX8_swap_5 : decode cX8_swap 5 = .ok (.if_icmp .ge 19, 3) := by decide +kernel
theorem dX8_swap_8 : decode cX8_swap 8 = .ok (.aload_n 0, 1) := by decide +kernel
theorem dX8_swap_9 : decode cX8_swap 9 = .ok (.getfield 57, 3) := by decide +kernel
theorem dX8_swap_12 : decode cX8_swap 12 = .ok (.invokestatic 211, 3) := by decide +kernel
theorem dX8_swap_15 : decode cX8_swap 15 = .ok (.ifCond .eq 9, 3) := by decide +kernel
theorem dX8_swap_18 : decode cX8_swap 18 = .ok (.iinc 1 1, 3) := by decide +kernel
theorem dX8_swap_21 : decode cX8_swap 21 = .ok (.goto (-19), 3) := by decide +kernel
theorem dX8_swap_24 : decode cX8_swap 24 = .ok (.iload_n 1, 1) := by decide +kernel
theorem dX8_swap_25 : decode cX8_swap 25 = .ok (.ireturn, 1) := by decide +kernel
theorem dX8_most_0 : decode cX8_most 0 = .ok (.aload_n 0, 1) := by decide +kernel
theorem dX8_most_1 : decode cX8_most 1 = .ok (.getfield 26, 3) := by decide +kernel
theorem dX8_most_4 : decode cX8_most 4 = .ok (.aload_n 0, 1) := by decide +kernel
theorem dX8_most_5 : decode cX8_most 5 = .ok (.getfield 57, 3) := by decide +kernel
theorem dX8_most_8 : decode cX8_most 8 = .ok (.invokevirtual 215, 3) := by decide +kernel
theorem dX8_most_11 : decode cX8_most 11 = .ok (.ireturn, 1) := by decide +kernel
theorem dX8_gain_0 : decode cX8_gain 0 = .ok (.aload_n 0, 1) := by decide +kernel
theorem dX8_gain_1 : decode cX8_gain 1 = .ok (.getfield 57, 3) := by decide +kernel
theorem dX8_gain_4 : decode cX8_gain 4 = .ok (.iload_n 1, 1) := by decide +kernel
theorem dX8_gain_5 : decode cX8_gain 5 = .ok (.invokevirtual 120, 3) := by decide +kernel
theorem dX8_gain_8 : decode cX8_gain 8 = .ok (.ifCond .ne 6, 3) := by decide +kernel
theorem dX8_gain_11 : decode cX8_gain 11 = .ok (.ldc 124, 2) := by decide +kernel
theorem dX8_gain_13 : decode cX8_gain 13 = .ok (.ireturn, 1) := by decide +kernel
theorem dX8_gain_14 : decode cX8_gain 14 = .ok (.aload_n 0, 1) := by decide +kernel
theorem dX8_gain_15 : decode cX8_gain 15 = .ok (.getfield 57, 3) := by decide +kernel
theorem dX8_gain_18 : decode cX8_gain 18 = .ok (.iload_n 1, 1) := by decide +kernel
theorem dX8_gain_19 : decode cX8_gain 19 = .ok (.invokevirtual 133, 3) := by decide +kernel
theorem dX8_gain_22 : decode cX8_gain 22 = .ok (.ifCond .eq 6, 3) := by decide +kernel
theorem dX8_gain_25 : decode cX8_gain 25 = .ok (.ldc 171, 2) := by decide +kernel
theorem dX8_gain_27 : decode cX8_gain 27 = .ok (.ireturn, 1) := by decide +kernel
theorem dX8_gain_28 : decode cX8_gain 28 = .ok (.aload_n 0, 1) := by decide +kernel
theorem dX8_gain_29 : decode cX8_gain 29 = .ok (.getfield 19, 3) := by decide +kernel
theorem dX8_gain_32 : decode cX8_gain 32 = .ok (.aload_n 0, 1) := by decide +kernel
theorem dX8_gain_33 : decode cX8_gain 33 = .ok (.getfield 57, 3) := by decide +kernel
theorem dX8_gain_36 : decode cX8_gain 36 = .ok (.invokevirtual 114, 3) := by decide +kernel
theorem dX8_gain_39 : decode cX8_gain 39 = .ok (.aload_n 0, 1) := by decide +kernel
theorem dX8_gain_40 : decode cX8_gain 40 = .ok (.iload_n 1, 1) := by decide +kernel
theorem dX8_gain_41 : decode cX8_gain 41 = .ok (.invokevirtual 218, 3) := by decide +kernel
theorem dX8_gain_44 : decode cX8_gain 44 = .ok (.isub, 1) := by decide +kernel
theorem dX8_gain_45 : decode cX8_gain 45 = .ok (.ireturn, 1) := by decide +kernel
theorem dX8_best_0 : decode cX8_best 0 = .ok (.iconst (-1), 1) := by decide +kernel
theorem dX8_best_1 : decode cX8_best 1 = .ok (.istore_n 1, 1) := by decide +kernel
theorem dX8_best_2 : decode cX8_best 2 = .ok (.iconst 0, 1) := by decide +kernel
theorem dX8_best_3 : decode cX8_best 3 = .ok (.istore_n 2, 1) := by decide +kernel
theorem dX8_best_4 : decode cX8_best 4 = .ok (.iconst 0, 1) := by decide +kernel
theorem dX8_best_5 : decode cX8_best 5 = .ok (.istore_n 3, 1) := by decide +kernel
theorem dX8_best_6 : decode cX8_best 6 = .ok (.iload_n 3, 1) := by decide +kernel
theorem dX8_best_7 : decode cX8_best 7 = .ok (.aload_n 0, 1) := by decide +kernel
theorem dX8_best_8 : decode cX8_best 8 = .ok (.getfield 57, 3) := by decide +kernel
theorem dX8_best_11 : decode cX8_best 11 = .ok (.getfield 93, 3) := by decide +kernel
theorem dX8_best_14 : decode cX8_best 14 = .ok (.if_icmp .ge 43, 3) := by decide +kernel
theorem dX8_best_17 : decode cX8_best 17 = .ok (.aload_n 0, 1) := by decide +kernel
theorem dX8_best_18 : decode cX8_best 18 = .ok (.getfield 57, 3) := by decide +kernel
theorem dX8_best_21 : decode cX8_best 21 = .ok (.iload_n 3, 1) := by decide +kernel
theorem dX8_best_22 : decode cX8_best 22 = .ok (.invokevirtual 133, 3) := by decide +kernel
theorem dX8_best_25 : decode cX8_best 25 = .ok (.ifCond .ne 26, 3) := by decide +kernel
theorem dX8_best_28 : decode cX8_best 28 = .ok (.aload_n 0, 1) := by decide +kernel
theorem dX8_best_29 : decode cX8_best 29 = .ok (.iload_n 3, 1) := by decide +kernel
theorem dX8_best_30 : decode cX8_best 30 = .ok (.invokevirtual 218, 3) := by decide +kernel
theorem dX8_best_33 : decode cX8_best 33 = .ok (.istore 4, 2) := by decide +kernel
theorem dX8_best_35 : decode cX8_best 35 = .ok (.iload_n 1, 1) := by decide +kernel
theorem dX8_best_36 : decode cX8_best 36 = .ok (.iconst (-1), 1) := by decide +kernel
theorem dX8_best_37 : decode cX8_best 37 = .ok (.if_icmp .eq 9, 3) := by decide +kernel
theorem dX8_best_40 : decode cX8_best 40 = .ok (.iload 4, 2) := by decide +kernel
theorem dX8_best_42 : decode cX8_best 42 = .ok (.iload_n 2, 1) := by decide +kernel
theorem dX8_best_43 : decode cX8_best 43 = .ok (.if_icmp .ge 8, 3) := by decide +kernel
theorem dX8_best_46 : decode cX8_best 46 = .ok (.iload_n 3, 1) := by decide +kernel
theorem dX8_best_47 : decode cX8_best 47 = .ok (.istore_n 1, 1) := by decide +kernel
theorem dX8_best_48 : decode cX8_best 48 = .ok (.iload 4, 2) := by decide +kernel
theorem dX8_best_50 : decode cX8_best 50 = .ok (.istore_n 2, 1) := by decide +kernel
theorem dX8_best_51 : decode cX8_best 51 = .ok (.iinc 3 1, 3) := by decide +kernel
theorem dX8_best_54 : decode cX8_best 54 = .ok (.goto (-48), 3) := by decide +kernel
theorem dX8_best_57 : decode cX8_best 57 = .ok (.iload_n 1, 1) := by decide +kernel
theorem dX8_best_58 : decode cX8_best 58 = .ok (.ireturn, 1) := by decide +kernel
theorem dX8_see_0 : decode cX8_see 0 = .ok (.aload_n 0, 1) := by decide +kernel
theorem dX8_see_1 : decode cX8_see 1 = .ok (.getfield 57, 3) := by decide +kernel
theorem dX8_see_4 : decode cX8_see 4 = .ok (.iload_n 1, 1) := by decide +kernel
theorem dX8_see_5 : decode cX8_see 5 = .ok (.invokevirtual 120, 3) := by decide +kernel
theorem dX8_see_8 : decode cX8_see 8 = .ok (.ifCond .ne 6, 3) := by decide +kernel
theorem dX8_see_11 : decode cX8_see 11 = .ok (.ldc 124, 2) := by decide +kernel
theorem dX8_see_13 : decode cX8_see 13 = .ok (.ireturn, 1) := by decide +kernel
theorem dX8_see_14 : decode cX8_see 14 = .ok (.iload_n 2, 1) := by decide +kernel
theorem dX8_see_15 : decode cX8_see 15 = .ok (.ifCond .lt 16, 3) := by decide +kernel
theorem dX8_see_18 : decode cX8_see 18 = .ok (.iload_n 2, 1) := by decide +kernel
theorem dX8_see_19 : decode cX8_see 19 = .ok (.bipush 6, 2) := by decide +kernel
theorem dX8_see_21 : decode cX8_see 21 = .ok (.if_icmp .ge 10, 3) := by decide +kernel
theorem dX8_see_24 : decode cX8_see 24 = .ok (.iload_n 3, 1) := by decide +kernel
theorem dX8_see_25 : decode cX8_see 25 = .ok (.invokestatic 142, 3) := by decide +kernel
theorem dX8_see_28 : decode cX8_see 28 = .ok (.ifCond .ne 6, 3) := by decide +kernel
theorem dX8_see_31 : decode cX8_see 31 = .ok (.ldc 72, 2) := by decide +kernel
theorem dX8_see_33 : decode cX8_see 33 = .ok (.ireturn, 1) := by decide +kernel
theorem dX8_see_34 : decode cX8_see 34 = .ok (.aload_n 0, 1) := by decide +kernel
theorem dX8_see_35 : decode cX8_see 35 = .ok (.getfield 40, 3) := by decide +kernel
theorem dX8_see_38 : decode cX8_see 38 = .ok (.iload_n 3, 1) := by decide +kernel
theorem dX8_see_39 : decode cX8_see 39 = .ok (.iload_n 1, 1) := by decide +kernel
theorem dX8_see_40 : decode cX8_see 40 = .ok (.iload_n 2, 1) := by decide +kernel
theorem dX8_see_41 : decode cX8_see 41 = .ok (.invokevirtual 221, 3) := by decide +kernel
theorem dX8_see_44 : decode cX8_see 44 = .ok (.ireturn, 1) := by decide +kernel
theorem dX8_wore_0 : decode cX8_wore 0 = .ok (.iload_n 1, 1) := by decide +kernel
theorem dX8_wore_1 : decode cX8_wore 1 = .ok (.ifCond .lt 14, 3) := by decide +kernel
theorem dX8_wore_4 : decode cX8_wore 4 = .ok (.iload_n 1, 1) := by decide +kernel
theorem dX8_wore_5 : decode cX8_wore 5 = .ok (.aload_n 0, 1) := by decide +kernel
theorem dX8_wore_6 : decode cX8_wore 6 = .ok (.getfield 40, 3) := by decide +kernel
theorem dX8_wore_9 : decode cX8_wore 9 = .ok (.getfield 111, 3) := by decide +kernel
theorem dX8_wore_12 : decode cX8_wore 12 = .ok (.if_icmp .lt 8, 3) := by decide +kernel
theorem dX8_wore_15 : decode cX8_wore 15 = .ok (.ldc 124, 2) := by decide +kernel
theorem dX8_wore_17 : decode cX8_wore 17 = .ok (.goto 8, 3) := by decide +kernel
theorem dX8_wore_20 : decode cX8_wore 20 = .ok (.aload_n 0, 1) := by decide +kernel
theorem dX8_wore_21 : decode cX8_wore 21 = .ok (.iload_n 1, 1) := by decide +kernel
theorem dX8_wore_22 : decode cX8_wore 22 = .ok (.invokevirtual 224, 3) := by decide +kernel
theorem dX8_wore_25 : decode cX8_wore 25 = .ok (.ireturn, 1) := by decide +kernel
theorem dX8_theft_0 : decode cX8_theft 0 = .ok (.iconst 0, 1) := by decide +kernel
theorem dX8_theft_1 : decode cX8_theft 1 = .ok (.istore_n 1, 1) := by decide +kernel
theorem dX8_theft_2 : decode cX8_theft 2 = .ok (.iload_n 1, 1) := by decide +kernel
theorem dX8_theft_3 : decode cX8_theft 3 = .ok (.aload_n 0, 1) := by decide +kernel
theorem dX8_theft_4 : decode cX8_theft 4 = .ok (.getfield 40, 3) := by decide +kernel
theorem dX8_theft_7 : decode cX8_theft 7 = .ok (.getfield 111, 3) := by decide +kernel
theorem dX8_theft_10 : decode cX8_theft 10 = .ok (.if_icmp .ge 27, 3) := by decide +kernel
theorem dX8_theft_13 : decode cX8_theft 13 = .ok (.aload_n 0, 1) := by decide +kernel
theorem dX8_theft_14 : decode cX8_theft 14 = .ok (.iload_n 1, 1) := by decide +kernel
theorem dX8_theft_15 : decode cX8_theft 15 = .ok (.invokevirtual 224, 3) := by decide +kernel
theorem dX8_theft_18 : decode cX8_theft 18 = .ok (.ifCond .eq 11, 3) := by decide +kernel
theorem dX8_theft_21 : decode cX8_theft 21 = .ok (.aload_n 0, 1) := by decide +kernel
theorem dX8_theft_22 : decode cX8_theft 22 = .ok (.iload_n 1, 1) := by decide +kernel
theorem dX8_theft_23 : decode cX8_theft 23 = .ok (.invokevirtual 227, 3) := by decide +kernel
theorem dX8_theft_26 : decode cX8_theft 26 = .ok (.ifCond .eq 5, 3) := by decide +kernel
theorem dX8_theft_29 : decode cX8_theft 29 = .ok (.iload_n 1, 1) := by decide +kernel
theorem dX8_theft_30 : decode cX8_theft 30 = .ok (.ireturn, 1) := by decide +kernel
theorem dX8_theft_31 : decode cX8_theft 31 = .ok (.iinc 1 1, 3) := by decide +kernel
theorem dX8_theft_34 : decode cX8_theft 34 = .ok (.goto (-32), 3) := by decide +kernel
theorem dX8_theft_37 : decode cX8_theft 37 = .ok (.iconst (-1), 1) := by decide +kernel
theorem dX8_theft_38 : decode cX8_theft 38 = .ok (.ireturn, 1) := by decide +kernel
theorem dX8_write_0 : decode cX8_write 0 = .ok (.aload_n 0, 1) := by decide +kernel
theorem dX8_write_1 : decode cX8_write 1 = .ok (.getfield 57, 3) := by decide +kernel
theorem dX8_write_4 : decode cX8_write 4 = .ok (.iload_n 2, 1) := by decide +kernel
theorem dX8_write_5 : decode cX8_write 5 = .ok (.invokevirtual 120, 3) := by decide +kernel
theorem dX8_write_8 : decode cX8_write 8 = .ok (.ifCond .ne 6, 3) := by decide +kernel
theorem dX8_write_11 : decode cX8_write 11 = .ok (.ldc 124, 2) := by decide +kernel
theorem dX8_write_13 : decode cX8_write 13 = .ok (.ireturn, 1) := by decide +kernel
theorem dX8_write_14 : decode cX8_write 14 = .ok (.iload_n 1, 1) := by decide +kernel
theorem dX8_write_15 : decode cX8_write 15 = .ok (.invokestatic 142, 3) := by decide +kernel
theorem dX8_write_18 : decode cX8_write 18 = .ok (.ifCond .eq 12, 3) := by decide +kernel
theorem dX8_write_21 : decode cX8_write 21 = .ok (.iload_n 3, 1) := by decide +kernel
theorem dX8_write_22 : decode cX8_write 22 = .ok (.ifCond .lt 8, 3) := by decide +kernel
theorem dX8_write_25 : decode cX8_write 25 = .ok (.iload_n 3, 1) := by decide +kernel
theorem dX8_write_26 : decode cX8_write 26 = .ok (.iconst 4, 1) := by decide +kernel
theorem dX8_write_27 : decode cX8_write 27 = .ok (.if_icmp .lt 6, 3) := by decide +kernel
theorem dX8_write_30 : decode cX8_write 30 = .ok (.ldc 72, 2) := by decide +kernel
theorem dX8_write_32 : decode cX8_write 32 = .ok (.ireturn, 1) := by decide +kernel
theorem dX8_write_33 : decode cX8_write 33 = .ok (.aload_n 0, 1) := by decide +kernel
theorem dX8_write_34 : decode cX8_write 34 = .ok (.getfield 44, 3) := by decide +kernel
theorem dX8_write_37 : decode cX8_write 37 = .ok (.iload_n 1, 1) := by decide +kernel
theorem dX8_write_38 : decode cX8_write 38 = .ok (.iload_n 2, 1) := by decide +kernel
theorem dX8_write_39 : decode cX8_write 39 = .ok (.iload_n 3, 1) := by decide +kernel
theorem dX8_write_40 : decode cX8_write 40 = .ok (.invokevirtual 221, 3) := by decide +kernel
theorem dX8_write_43 : decode cX8_write 43 = .ok (.ireturn, 1) := by decide +kernel
theorem dX8_tear_0 : decode cX8_tear 0 = .ok (.aload_n 0, 1) := by decide +kernel
theorem dX8_tear_1 : decode cX8_tear 1 = .ok (.getfield 40, 3) := by decide +kernel
theorem dX8_tear_4 : decode cX8_tear 4 = .ok (.getfield 111, 3) := by decide +kernel
theorem dX8_tear_7 : decode cX8_tear 7 = .ok (.aload_n 0, 1) := by decide +kernel
theorem dX8_tear_8 : decode cX8_tear 8 = .ok (.getfield 44, 3) := by decide +kernel
theorem dX8_tear_11 : decode cX8_tear 11 = .ok (.getfield 111, 3) := by decide +kernel
theorem dX8_tear_14 : decode cX8_tear 14 = .ok (.iadd, 1) := by decide +kernel
theorem dX8_tear_15 : decode cX8_tear 15 = .ok (.istore_n 1, 1) := by decide +kernel
theorem dX8_tear_16 : decode cX8_tear 16 = .ok (.aload_n 0, 1) := by decide +kernel
theorem dX8_tear_17 : decode cX8_tear 17 = .ok (.getfield 40, 3) := by decide +kernel
theorem dX8_tear_20 : decode cX8_tear 20 = .ok (.invokevirtual 88, 3) := by decide +kernel
theorem dX8_tear_23 : decode cX8_tear 23 = .ok (.aload_n 0, 1) := by decide +kernel
theorem dX8_tear_24 : decode cX8_tear 24 = .ok (.getfield 44, 3) := by decide +kernel
theorem dX8_tear_27 : decode cX8_tear 27 = .ok (.invokevirtual 88, 3) := by decide +kernel
theorem dX8_tear_30 : decode cX8_tear 30 = .ok (.iload_n 1, 1) := by decide +kernel
theorem dX8_tear_31 : decode cX8_tear 31 = .ok (.ireturn, 1) := by decide +kernel
theorem dX8_judge_0 : decode cX8_judge 0 = .ok (.iconst 0, 1) := by decide +kernel
theorem dX8_judge_1 : decode cX8_judge 1 = .ok (.istore_n 1, 1) := by decide +kernel
theorem dX8_judge_2 : decode cX8_judge 2 = .ok (.iload_n 1, 1) := by decide +kernel
theorem dX8_judge_3 : decode cX8_judge 3 = .ok (.aload_n 0, 1) := by decide +kernel
theorem dX8_judge_4 : decode cX8_judge 4 = .ok (.getfield 44, 3) := by decide +kernel
theorem dX8_judge_7 : decode cX8_judge 7 = .ok (.getfield 111, 3) := by decide +kernel
theorem dX8_judge_10 : decode cX8_judge 10 = .ok (.if_icmp .ge 19, 3) := by decide +kernel
theorem dX8_judge_13 : decode cX8_judge 13 = .ok (.aload_n 0, 1) := by decide +kernel
theorem dX8_judge_14 : decode cX8_judge 14 = .ok (.iload_n 1, 1) := by decide +kernel
theorem dX8_judge_15 : decode cX8_judge 15 = .ok (.invokevirtual 230, 3) := by decide +kernel
theorem dX8_judge_18 : decode cX8_judge 18 = .ok (.ifCond .eq 5, 3) := by decide +kernel
theorem dX8_judge_21 : decode cX8_judge 21 = .ok (.iload_n 1, 1) := by decide +kernel
theorem dX8_judge_22 : decode cX8_judge 22 = .ok (.ireturn, 1) := by decide +kernel
theorem dX8_judge_23 : decode cX8_judge 23 = .ok (.iinc 1 1, 3) := by decide +kernel
theorem dX8_judge_26 : decode cX8_judge 26 = .ok (.goto (-24), 3) := by decide +kernel
theorem dX8_judge_29 : decode cX8_judge 29 = .ok (.iconst (-1), 1) := by decide +kernel
theorem dX8_judge_30 : decode cX8_judge 30 = .ok (.ireturn, 1) := by decide +kernel
theorem dX8_winter_0 : decode cX8_winter 0 = .ok (.iload_n 1, 1) := by decide +kernel
theorem dX8_winter_1 : decode cX8_winter 1 = .ok (.iconst 1, 1) := by decide +kernel
theorem dX8_winter_2 : decode cX8_winter 2 = .ok (.if_icmp .lt 9, 3) := by decide +kernel
theorem dX8_winter_5 : decode cX8_winter 5 = .ok (.iload_n 1, 1) := by decide +kernel
theorem dX8_winter_6 : decode cX8_winter 6 = .ok (.bipush 99, 2) := by decide +kernel
theorem dX8_winter_8 : decode cX8_winter 8 = .ok (.if_icmp .le 6, 3) := by decide +kernel
theorem dX8_winter_11 : decode cX8_winter 11 = .ok (.ldc 72, 2) := by decide +kernel
theorem dX8_winter_13 : decode cX8_winter 13 = .ok (.ireturn, 1) := by decide +kernel
theorem dX8_winter_14 : decode cX8_winter 14 = .ok (.aload_n 0, 1) := by decide +kernel
theorem dX8_winter_15 : decode cX8_winter 15 = .ok (.getfield 57, 3) := by decide +kernel
theorem dX8_winter_18 : decode cX8_winter 18 = .ok (.getfield 93, 3) := by decide +kernel
theorem dX8_winter_21 : decode cX8_winter 21 = .ok (.ifCond .ne 6, 3) := by decide +kernel
theorem dX8_winter_24 : decode cX8_winter 24 = .ok (.ldc 171, 2) := by decide +kernel
theorem dX8_winter_26 : decode cX8_winter 26 = .ok (.ireturn, 1) := by decide +kernel
theorem dX8_winter_27 : decode cX8_winter 27 = .ok (.iconst 0, 1) := by decide +kernel
theorem dX8_winter_28 : decode cX8_winter 28 = .ok (.istore_n 2, 1) := by decide +kernel
theorem dX8_winter_29 : decode cX8_winter 29 = .ok (.iconst 0, 1) := by decide +kernel
theorem dX8_winter_30 : decode cX8_winter 30 = .ok (.istore_n 3, 1) := by decide +kernel
theorem dX8_winter_31 : decode cX8_winter 31 = .ok (.iload_n 3, 1) := by decide +kernel
theorem dX8_winter_32 : decode cX8_winter 32 = .ok (.iload_n 1, 1) := by decide +kernel
theorem dX8_winter_33 : decode cX8_winter 33 = .ok (.if_icmp .ge 40, 3) := by decide +kernel
theorem dX8_winter_36 : decode cX8_winter 36 = .ok (.aload_n 0, 1) := by decide +kernel
theorem dX8_winter_37 : decode cX8_winter 37 = .ok (.getfield 57, 3) := by decide +kernel
theorem dX8_winter_40 : decode cX8_winter 40 = .ok (.aload_n 0, 1) := by decide +kernel
theorem dX8_winter_41 : decode cX8_winter 41 = .ok (.bipush 40, 2) := by decide +kernel
theorem dX8_winter_43 : decode cX8_winter 43 = .ok (.invokevirtual 233, 3) := by decide +kernel
theorem dX8_winter_46 : decode cX8_winter 46 = .ok (.putfield 105, 3) := by decide +kernel
theorem dX8_winter_49 : decode cX8_winter 49 = .ok (.iload_n 2, 1) := by decide +kernel
theorem dX8_winter_50 : decode cX8_winter 50 = .ok (.aload_n 0, 1) := by decide +kernel
theorem dX8_winter_51 : decode cX8_winter 51 = .ok (.getfield 19, 3) := by decide +kernel
theorem dX8_winter_54 : decode cX8_winter 54 = .ok (.aload_n 0, 1) := by decide +kernel
theorem dX8_winter_55 : decode cX8_winter 55 = .ok (.getfield 57, 3) := by decide +kernel
theorem dX8_winter_58 : decode cX8_winter 58 = .ok (.invokevirtual 114, 3) := by decide +kernel
theorem dX8_winter_61 : decode cX8_winter 61 = .ok (.iadd, 1) := by decide +kernel
theorem dX8_winter_62 : decode cX8_winter 62 = .ok (.istore_n 2, 1) := by decide +kernel
theorem dX8_winter_63 : decode cX8_winter 63 = .ok (.aload_n 0, 1) := by decide +kernel
theorem dX8_winter_64 : decode cX8_winter 64 = .ok (.invokevirtual 236, 3) := by decide +kernel
theorem dX8_winter_67 : decode cX8_winter 67 = .ok (.iinc 3 1, 3) := by decide +kernel
theorem dX8_winter_70 : decode cX8_winter 70 = .ok (.goto (-39), 3) := by decide +kernel
theorem dX8_winter_73 : decode cX8_winter 73 = .ok (.iload_n 2, 1) := by decide +kernel
theorem dX8_winter_74 : decode cX8_winter 74 = .ok (.ireturn, 1) := by decide +kernel
theorem dX8_seed_0 : decode cX8_seed 0 = .ok (.iload_n 1, 1) := by decide +kernel
theorem dX8_seed_1 : decode cX8_seed 1 = .ok (.ifCond .ge 6, 3) := by decide +kernel
theorem dX8_seed_4 : decode cX8_seed 4 = .ok (.ldc 72, 2) := by decide +kernel
theorem dX8_seed_6 : decode cX8_seed 6 = .ok (.ireturn, 1) := by decide +kernel
theorem dX8_seed_7 : decode cX8_seed 7 = .ok (.aload_n 0, 1) := by decide +kernel
theorem dX8_seed_8 : decode cX8_seed 8 = .ok (.getfield 64, 3) := by decide +kernel
theorem dX8_seed_11 : decode cX8_seed 11 = .ok (.l2i, 1) := by decide +kernel
theorem dX8_seed_12 : decode cX8_seed 12 = .ok (.istore_n 2, 1) := by decide +kernel
theorem dX8_seed_13 : decode cX8_seed 13 = .ok (.aload_n 0, 1) := by decide +kernel
theorem dX8_seed_14 : decode cX8_seed 14 = .ok (.iload_n 1, 1) := by decide +kernel
theorem dX8_seed_15 : decode cX8_seed 15 = .ok (.i2l, 1) := by decide +kernel
theorem dX8_seed_16 : decode cX8_seed 16 = .ok (.putfield 64, 3) := by decide +kernel
theorem dX8_seed_19 : decode cX8_seed 19 = .ok (.iload_n 2, 1) := by decide +kernel
theorem dX8_seed_20 : decode cX8_seed 20 = .ok (.ireturn, 1) := by decide +kernel
theorem dX8_keep_0 : decode cX8_keep 0 = .ok (.iload_n 1, 1) := by decide +kernel
theorem dX8_keep_1 : decode cX8_keep 1 = .ok (.ifCond .lt 8, 3) := by decide +kernel
theorem dX8_keep_4 : decode cX8_keep 4 = .ok (.iload_n 1, 1) := by decide +kernel
theorem dX8_keep_5 : decode cX8_keep 5 = .ok (.iconst 2, 1) := by decide +kernel
theorem dX8_keep_6 : decode cX8_keep 6 = .ok (.if_icmp .lt 6, 3) := by decide +kernel
theorem dX8_keep_9 : decode cX8_keep 9 = .ok (.ldc 124, 2) := by decide +kernel
theorem dX8_keep_11 : decode cX8_keep 11 = .ok (.ireturn, 1) := by decide +kernel
theorem dX8_keep_12 : decode cX8_keep 12 = .ok (.aload_n 0, 1) := by decide +kernel
theorem dX8_keep_13 : decode cX8_keep 13 = .ok (.getfield 49, 3) := by decide +kernel
theorem dX8_keep_16 : decode cX8_keep 16 = .ok (.iload_n 1, 1) := by decide +kernel
theorem dX8_keep_17 : decode cX8_keep 17 = .ok (.aaload, 1) := by decide +kernel
theorem dX8_keep_18 : decode cX8_keep 18 = .ok (.aload_n 0, 1) := by decide +kernel
theorem dX8_keep_19 : decode cX8_keep 19 = .ok (.getfield 57, 3) := by decide +kernel
theorem dX8_keep_22 : decode cX8_keep 22 = .ok (.aload_n 0, 1) := by decide +kernel
theorem dX8_keep_23 : decode cX8_keep 23 = .ok (.getfield 64, 3) := by decide +kernel
theorem dX8_keep_26 : decode cX8_keep 26 = .ok (.invokevirtual 239, 3) := by decide +kernel
theorem dX8_keep_29 : decode cX8_keep 29 = .ok (.iconst 1, 1) := by decide +kernel
theorem dX8_keep_30 : decode cX8_keep 30 = .ok (.ireturn, 1) := by decide +kernel
theorem dX8_goBack_0 : decode cX8_goBack 0 = .ok (.iload_n 1, 1) := by decide +kernel
theorem dX8_goBack_1 : decode cX8_goBack 1 = .ok (.ifCond .lt 8, 3) := by decide +kernel
theorem dX8_goBack_4 : decode cX8_goBack 4 = .ok (.iload_n 1, 1) := by decide +kernel
theorem dX8_goBack_5 : decode cX8_goBack 5 = .ok (.iconst 2, 1) := by decide +kernel
theorem dX8_goBack_6 : decode cX8_goBack 6 = .ok (.if_icmp .lt 6, 3) := by decide +kernel
theorem dX8_goBack_9 : decode cX8_goBack 9 = .ok (.ldc 124, 2) := by decide +kernel
theorem dX8_goBack_11 : decode cX8_goBack 11 = .ok (.ireturn, 1) := by decide +kernel
theorem dX8_goBack_12 : decode cX8_goBack 12 = .ok (.aload_n 0, 1) := by decide +kernel
theorem dX8_goBack_13 : decode cX8_goBack 13 = .ok (.getfield 49, 3) := by decide +kernel
theorem dX8_goBack_16 : decode cX8_goBack 16 = .ok (.iload_n 1, 1) := by decide +kernel
theorem dX8_goBack_17 : decode cX8_goBack 17 = .ok (.aaload, 1) := by decide +kernel
theorem dX8_goBack_18 : decode cX8_goBack 18 = .ok (.getfield 89, 3) := by decide +kernel
theorem dX8_goBack_21 : decode cX8_goBack 21 = .ok (.ifCond .ne 6, 3) := by decide +kernel
theorem dX8_goBack_24 : decode cX8_goBack 24 = .ok (.ldc 171, 2) := by decide +kernel
theorem dX8_goBack_26 : decode cX8_goBack 26 = .ok (.ireturn, 1) := by decide +kernel
theorem dX8_goBack_27 : decode cX8_goBack 27 = .ok (.aload_n 0, 1) := by decide +kernel
theorem dX8_goBack_28 : decode cX8_goBack 28 = .ok (.getfield 49, 3) := by decide +kernel
theorem dX8_goBack_31 : decode cX8_goBack 31 = .ok (.iload_n 1, 1) := by decide +kernel
theorem dX8_goBack_32 : decode cX8_goBack 32 = .ok (.aaload, 1) := by decide +kernel
theorem dX8_goBack_33 : decode cX8_goBack 33 = .ok (.aload_n 0, 1) := by decide +kernel
theorem dX8_goBack_34 : decode cX8_goBack 34 = .ok (.getfield 57, 3) := by decide +kernel
theorem dX8_goBack_37 : decode cX8_goBack 37 = .ok (.invokevirtual 243, 3) := by decide +kernel
theorem dX8_goBack_40 : decode cX8_goBack 40 = .ok (.aload_n 0, 1) := by decide +kernel
theorem dX8_goBack_41 : decode cX8_goBack 41 = .ok (.aload_n 0, 1) := by decide +kernel
theorem dX8_goBack_42 : decode cX8_goBack 42 = .ok (.getfield 49, 3) := by decide +kernel
theorem dX8_goBack_45 : decode cX8_goBack 45 = .ok (.iload_n 1, 1) := by decide +kernel
theorem dX8_goBack_46 : decode cX8_goBack 46 = .ok (.aaload, 1) := by decide +kernel
theorem dX8_goBack_47 : decode cX8_goBack 47 = .ok (.getfield 247, 3) := by decide +kernel
theorem dX8_goBack_50 : decode cX8_goBack 50 = .ok (.putfield 64, 3) := by decide +kernel
theorem dX8_goBack_53 : decode cX8_goBack 53 = .ok (.iconst 1, 1) := by decide +kernel
theorem dX8_goBack_54 : decode cX8_goBack 54 = .ok (.ireturn, 1) := by decide +kernel
theorem dX8_isHour_0 : decode cX8_isHour 0 = .ok (.iload_n 0, 1) := by decide +kernel
theorem dX8_isHour_1 : decode cX8_isHour 1 = .ok (.ifCond .lt 13, 3) := by decide +kernel
theorem dX8_isHour_4 : decode cX8_isHour 4 = .ok (.iload_n 0, 1) := by decide +kernel
theorem dX8_isHour_5 : decode cX8_isHour 5 = .ok (.bipush 24, 2) := by decide +kernel
theorem dX8_isHour_7 : decode cX8_isHour 7 = .ok (.if_icmp .ge 7, 3) := by decide +kernel
theorem dX8_isHour_10 : decode cX8_isHour 10 = .ok (.iconst 1, 1) := by decide +kernel
theorem dX8_isHour_11 : decode cX8_isHour 11 = .ok (.goto 4, 3) := by decide +kernel
theorem dX8_isHour_14 : decode cX8_isHour 14 = .ok (.iconst 0, 1) := by decide +kernel
theorem dX8_isHour_15 : decode cX8_isHour 15 = .ok (.ireturn, 1) := by decide +kernel
theorem dX8_lowestBits_0 : decode cX8_lowestBits 0 = .ok (.iconst 0, 1) := by decide +kernel
theorem dX8_lowestBits_1 : decode cX8_lowestBits 1 = .ok (.istore_n 2, 1) := by decide +kernel
theorem dX8_lowestBits_2 : decode cX8_lowestBits 2 = .ok (.iload_n 1, 1) := by decide +kernel
theorem dX8_lowestBits_3 : decode cX8_lowestBits 3 = .ok (.istore_n 3, 1) := by decide +kernel
theorem dX8_lowestBits_4 : decode cX8_lowestBits 4 = .ok (.iconst 0, 1) := by decide +kernel
theorem dX8_lowestBits_5 : decode cX8_lowestBits 5 = .ok (.istore 4, 2) := by decide +kernel
theorem dX8_lowestBits_7 : decode cX8_lowestBits 7 = .ok (.iload 4, 2) := by decide +kernel
theorem dX8_lowestBits_9 : decode cX8_lowestBits 9 = .ok (.bipush 24, 2) := by decide +kernel
theorem dX8_lowestBits_11 : decode cX8_lowestBits 11 = .ok (.if_icmp .ge 32, 3) := by decide +kernel
theorem dX8_lowestBits_14 : decode cX8_lowestBits 14 = .ok (.iload_n 3, 1) := by decide +kernel
theorem dX8_lowestBits_15 : decode cX8_lowestBits 15 = .ok (.ifCond .le 28, 3) := by decide +kernel
theorem dX8_lowestBits_18 : decode cX8_lowestBits 18 = .ok (.iload_n 0, 1) := by decide +kernel
theorem dX8_lowestBits_19 : decode cX8_lowestBits 19 = .ok (.iload 4, 2) := by decide +kernel
theorem dX8_lowestBits_21 : decode cX8_lowestBits 21 = .ok (.ishr, 1) := by decide +kernel
theorem dX8_lowestBits_22 : decode cX8_lowestBits 22 = .ok (.iconst 1, 1) := by decide +kernel
theorem dX8_lowestBits_23 : decode cX8_lowestBits 23 = .ok (.iand, 1) := by decide +kernel
theorem dX8_lowestBits_24 : decode cX8_lowestBits 24 = .ok (.ifCond .eq 13, 3) := by decide +kernel
theorem dX8_lowestBits_27 : decode cX8_lowestBits 27 = .ok (.iload_n 2, 1) := by decide +kernel
theorem dX8_lowestBits_28 : decode cX8_lowestBits 28 = .ok (.iconst 1, 1) := by decide +kernel
theorem dX8_lowestBits_29 : decode cX8_lowestBits 29 = .ok (.iload 4, 2) := by decide +kernel
theorem dX8_lowestBits_31 : decode cX8_lowestBits 31 = .ok (.ishl, 1) := by decide +kernel
theorem dX8_lowestBits_32 : decode cX8_lowestBits 32 = .ok (.ior, 1) := by decide +kernel
theorem dX8_lowestBits_33 : decode cX8_lowestBits 33 = .ok (.istore_n 2, 1) := by decide +kernel
theorem dX8_lowestBits_34 : decode cX8_lowestBits 34 = .ok (.iinc 3 (-1), 3) := by decide +kernel
theorem dX8_lowestBits_37 : decode cX8_lowestBits 37 = .ok (.iinc 4 1, 3) := by decide +kernel
theorem dX8_lowestBits_40 : decode cX8_lowestBits 40 = .ok (.goto (-33), 3) := by decide +kernel
theorem dX8_lowestBits_43 : decode cX8_lowestBits 43 = .ok (.iload_n 2, 1) := by decide +kernel
theorem dX8_lowestBits_44 : decode cX8_lowestBits 44 = .ok (.ireturn, 1) := by decide +kernel
theorem dX8_chillIfCut_0 : decode cX8_chillIfCut 0 = .ok (.aload_n 0, 1) := by decide +kernel
theorem dX8_chillIfCut_1 : decode cX8_chillIfCut 1 = .ok (.getfield 57, 3) := by decide +kernel
theorem dX8_chillIfCut_4 : decode cX8_chillIfCut 4 = .ok (.getfield 108, 3) := by decide +kernel
theorem dX8_chillIfCut_7 : decode cX8_chillIfCut 7 = .ok (.istore_n 2, 1) := by decide +kernel
theorem dX8_chillIfCut_8 : decode cX8_chillIfCut 8 = .ok (.aload_n 0, 1) := by decide +kernel
theorem dX8_chillIfCut_9 : decode cX8_chillIfCut 9 = .ok (.getfield 57, 3) := by decide +kernel
theorem dX8_chillIfCut_12 : decode cX8_chillIfCut 12 = .ok (.iload_n 2, 1) := by decide +kernel
theorem dX8_chillIfCut_13 : decode cX8_chillIfCut 13 = .ok (.iconst 1, 1) := by decide +kernel
theorem dX8_chillIfCut_14 : decode cX8_chillIfCut 14 = .ok (.iload_n 1, 1) := by decide +kernel
theorem dX8_chillIfCut_15 : decode cX8_chillIfCut 15 = .ok (.ishl, 1) := by decide +kernel
theorem dX8_chillIfCut_16 : decode cX8_chillIfCut 16 = .ok (.ior, 1) := by decide +kernel
theorem dX8_chillIfCut_17 : decode cX8_chillIfCut 17 = .ok (.putfield 108, 3) := by decide +kernel
theorem dX8_chillIfCut_20 : decode cX8_chillIfCut 20 = .ok (.aload_n 0, 1) := by decide +kernel
theorem dX8_chillIfCut_21 : decode cX8_chillIfCut 21 = .ok (.getfield 19, 3) := by decide +kernel
theorem dX8_chillIfCut_24 : decode cX8_chillIfCut 24 = .ok (.aload_n 0, 1) := by decide +kernel
theorem dX8_chillIfCut_25 : decode cX8_chillIfCut 25 = .ok (.getfield 57, 3) := by decide +kernel
theorem dX8_chillIfCut_28 : decode cX8_chillIfCut 28 = .ok (.invokevirtual 114, 3) := by decide +kernel
theorem dX8_chillIfCut_31 : decode cX8_chillIfCut 31 = .ok (.istore_n 3, 1) := by decide +kernel
theorem dX8_chillIfCut_32 : decode cX8_chillIfCut 32 = .ok (.aload_n 0, 1) := by decide +kernel
theorem dX8_chillIfCut_33 : decode cX8_chillIfCut 33 = .ok (.getfield 57, 3) := by decide +kernel
theorem dX8_chillIfCut_36 : decode cX8_chillIfCut 36 = .ok (.iload_n 2, 1) := by decide +kernel
theorem dX8_chillIfCut_37 : decode cX8_chillIfCut 37 = .ok (.putfield 108, 3) := by decide +kernel
theorem dX8_chillIfCut_40 : decode cX8_chillIfCut 40 = .ok (.iload_n 3, 1) := by decide +kernel
theorem dX8_chillIfCut_41 : decode cX8_chillIfCut 41 = .ok (.ireturn, 1) := by decide +kernel
theorem dX8_ownersThere_0 : decode cX8_ownersThere 0 = .ok (.aload_n 0, 1) := by decide +kernel
theorem dX8_ownersThere_1 : decode cX8_ownersThere 1 = .ok (.getfield 40, 3) := by decide +kernel
theorem dX8_ownersThere_4 : decode cX8_ownersThere 4 = .ok (.getfield 250, 3) := by decide +kernel
theorem dX8_ownersThere_7 : decode cX8_ownersThere 7 = .ok (.iload_n 1, 1) := by decide +kernel
theorem dX8_ownersThere_8 : decode cX8_ownersThere 8 = .ok (.aaload, 1) := by decide +kernel
theorem dX8_ownersThere_9 : decode cX8_ownersThere 9 = .ok (.astore_n 2, 1) := by decide +kernel
theorem dX8_ownersThere_10 : decode cX8_ownersThere 10 = .ok (.iconst 0, 1) := by decide +kernel
theorem dX8_ownersThere_11 : decode cX8_ownersThere 11 = .ok (.istore_n 3, 1) := by decide +kernel
theorem dX8_ownersThere_12 : decode cX8_ownersThere 12 = .ok (.iconst 0, 1) := by decide +kernel
theorem dX8_ownersThere_13 : decode cX8_ownersThere 13 = .ok (.istore 4, 2) := by decide +kernel
theorem dX8_ownersThere_15 : decode cX8_ownersThere 15 = .ok (.iload 4, 2) := by decide +kernel
theorem dX8_ownersThere_17 : decode cX8_ownersThere 17 = .ok (.iconst 2, 1) := by decide +kernel
theorem dX8_ownersThere_18 : decode cX8_ownersThere 18 = .ok (.if_icmp .ge 52, 3) := by decide +kernel
theorem dX8_ownersThere_21 : decode cX8_ownersThere 21 = .ok (.aload_n 0, 1) := by decide +kernel
theorem dX8_ownersThere_22 : decode cX8_ownersThere 22 = .ok (.getfield 57, 3) := by decide +kernel
theorem dX8_ownersThere_25 : decode cX8_ownersThere 25 = .ok (.getfield 125, 3) := by decide +kernel
theorem dX8_ownersThere_28 : decode cX8_ownersThere 28 = .ok (.aload_n 2, 1) := by decide +kernel
theorem dX8_ownersThere_29 : decode cX8_ownersThere 29 = .ok (.iconst 1, 1) := by decide +kernel
theorem dX8_ownersThere_30 : decode cX8_ownersThere 30 = .ok (.iaload, 1) := by decide +kernel
theorem dX8_ownersThere_31 : decode cX8_ownersThere 31 = .ok (.aaload, 1) := by decide +kernel
theorem dX8_ownersThere_32 : decode cX8_ownersThere 32 = .ok (.iload 4, 2) := by decide +kernel
theorem dX8_ownersThere_34 : decode cX8_ownersThere 34 = .ok (.iaload, 1) := by decide +kernel
theorem dX8_ownersThere_35 : decode cX8_ownersThere 35 = .ok (.istore 5, 2) := by decide +kernel
theorem dX8_ownersThere_37 : decode cX8_ownersThere 37 = .ok (.aload_n 0, 1) := by decide +kernel
theorem dX8_ownersThere_38 : decode cX8_ownersThere 38 = .ok (.getfield 57, 3) := by decide +kernel
theorem dX8_ownersThere_41 : decode cX8_ownersThere 41 = .ok (.getfield 145, 3) := by decide +kernel
theorem dX8_ownersThere_44 : decode cX8_ownersThere 44 = .ok (.iload 5, 2) := by decide +kernel
theorem dX8_ownersThere_46 : decode cX8_ownersThere 46 = .ok (.aaload, 1) := by decide +kernel
theorem dX8_ownersThere_47 : decode cX8_ownersThere 47 = .ok (.aload_n 2, 1) := by decide +kernel
theorem dX8_ownersThere_48 : decode cX8_ownersThere 48 = .ok (.iconst 0, 1) := by decide +kernel
theorem dX8_ownersThere_49 : decode cX8_ownersThere 49 = .ok (.iaload, 1) := by decide +kernel
theorem dX8_ownersThere_50 : decode cX8_ownersThere 50 = .ok (.iaload, 1) := by decide +kernel
theorem dX8_ownersThere_51 : decode cX8_ownersThere 51 = .ok (.aload_n 2, 1) := by decide +kernel
theorem dX8_ownersThere_52 : decode cX8_ownersThere 52 = .ok (.iconst 2, 1) := by decide +kernel
theorem dX8_ownersThere_53 : decode cX8_ownersThere 53 = .ok (.iaload, 1) := by decide +kernel
theorem dX8_ownersThere_54 : decode cX8_ownersThere 54 = .ok (.if_icmp .ne 10, 3) := by decide +kernel
theorem dX8_ownersThere_57 : decode cX8_ownersThere 57 = .ok (.iload_n 3, 1) := by decide +kernel
theorem dX8_ownersThere_58 : decode cX8_ownersThere 58 = .ok (.iconst 1, 1) := by decide +kernel
theorem dX8_ownersThere_59 : decode cX8_ownersThere 59 = .ok (.iload 5, 2) := by decide +kernel
theorem dX8_ownersThere_61 : decode cX8_ownersThere 61 = .ok (.ishl, 1) := by decide +kernel
theorem dX8_ownersThere_62 : decode cX8_ownersThere 62 = .ok (.ior, 1) := by decide +kernel
theorem dX8_ownersThere_63 : decode cX8_ownersThere 63 = .ok (.istore_n 3, 1) := by decide +kernel
theorem dX8_ownersThere_64 : decode cX8_ownersThere 64 = .ok (.iinc 4 1, 3) := by decide +kernel
theorem dX8_ownersThere_67 : decode cX8_ownersThere 67 = .ok (.goto (-52), 3) := by decide +kernel
theorem dX8_ownersThere_70 : decode cX8_ownersThere 70 = .ok (.iload_n 3, 1) := by decide +kernel
theorem dX8_ownersThere_71 : decode cX8_ownersThere 71 = .ok (.ireturn, 1) := by decide +kernel
theorem dX8_wasSeenElsewhere_0 : decode cX8_wasSeenElsewhere 0 = .ok (.iconst 0, 1) := by decide +kernel
theorem dX8_wasSeenElsewhere_1 : decode cX8_wasSeenElsewhere 1 = .ok (.istore_n 2, 1) := by decide +kernel
theorem dX8_wasSeenElsewhere_2 : decode cX8_wasSeenElsewhere 2 = .ok (.iload_n 2, 1) := by decide +kernel
theorem dX8_wasSeenElsewhere_3 : decode cX8_wasSeenElsewhere 3 = .ok (.iload_n 1, 1) := by decide +kernel
theorem dX8_wasSeenElsewhere_4 : decode cX8_wasSeenElsewhere 4 = .ok (.if_icmp .ge 48, 3) := by decide +kernel
theorem dX8_wasSeenElsewhere_7 : decode cX8_wasSeenElsewhere 7 = .ok (.aload_n 0, 1) := by decide +kernel
theorem dX8_wasSeenElsewhere_8 : decode cX8_wasSeenElsewhere 8 = .ok (.getfield 40, 3) := by decide +kernel
theorem dX8_wasSeenElsewhere_11 : decode cX8_wasSeenElsewhere 11 = .ok (.iload_n 1, 1) := by decide +kernel
theorem dX8_wasSeenElsewhere_12 : decode cX8_wasSeenElsewhere 12 = .ok (.iload_n 2, 1) := by decide +kernel
theorem dX8_wasSeenElsewhere_13 : decode cX8_wasSeenElsewhere 13 = .ok (.invokevirtual 253, 3) := by decide +kernel
theorem dX8_wasSeenElsewhere_16 : decode cX8_wasSeenElsewhere 16 = .ok (.ifCond .eq 30, 3) := by decide +kernel
theorem dX8_wasSeenElsewhere_19 : decode cX8_wasSeenElsewhere 19 = .ok (.aload_n 0, 1) := by decide +kernel
theorem dX8_wasSeenElsewhere_20 : decode cX8_wasSeenElsewhere 20 = .ok (.getfield 40, 3) := by decide +kernel
theorem dX8_wasSeenElsewhere_23 : decode cX8_wasSeenElsewhere 23 = .ok (.getfield 250, 3) := by decide +kernel
theorem dX8_wasSeenElsewhere_26 : decode cX8_wasSeenElsewhere 26 = .ok (.iload_n 2, 1) := by decide +kernel
theorem dX8_wasSeenElsewhere_27 : decode cX8_wasSeenElsewhere 27 = .ok (.aaload, 1) := by decide +kernel
theorem dX8_wasSeenElsewhere_28 : decode cX8_wasSeenElsewhere 28 = .ok (.iconst 2, 1) := by decide +kernel
theorem dX8_wasSeenElsewhere_29 : decode cX8_wasSeenElsewhere 29 = .ok (.iaload, 1) := by decide +kernel
theorem dX8_wasSeenElsewhere_30 : decode cX8_wasSeenElsewhere 30 = .ok (.aload_n 0, 1) := by decide +kernel
theorem dX8_wasSeenElsewhere_31 : decode cX8_wasSeenElsewhere 31 = .ok (.getfield 40, 3) := by decide +kernel
theorem dX8_wasSeenElsewhere_34 : decode cX8_wasSeenElsewhere 34 = .ok (.getfield 250, 3) := by decide +kernel
theorem dX8_wasSeenElsewhere_37 : decode cX8_wasSeenElsewhere 37 = .ok (.iload_n 1, 1) := by decide +kernel
theorem dX8_wasSeenElsewhere_38 : decode cX8_wasSeenElsewhere 38 = .ok (.aaload, 1) := by decide +kernel
theorem dX8_wasSeenElsewhere_39 : decode cX8_wasSeenElsewhere 39 = .ok (.iconst 2, 1) := by decide +kernel
theorem dX8_wasSeenElsewhere_40 : decode cX8_wasSeenElsewhere 40 = .ok (.iaload, 1) := by decide +kernel
theorem dX8_wasSeenElsewhere_41 : decode cX8_wasSeenElsewhere 41 = .ok (.if_icmp .eq 5, 3) := by decide +kernel
theorem dX8_wasSeenElsewhere_44 : decode cX8_wasSeenElsewhere 44 = .ok (.iconst 1, 1) := by decide +kernel
theorem dX8_wasSeenElsewhere_45 : decode cX8_wasSeenElsewhere 45 = .ok (.ireturn, 1) := by decide +kernel
theorem dX8_wasSeenElsewhere_46 : decode cX8_wasSeenElsewhere 46 = .ok (.iinc 2 1, 3) := by decide +kernel
theorem dX8_wasSeenElsewhere_49 : decode cX8_wasSeenElsewhere 49 = .ok (.goto (-47), 3) := by decide +kernel
theorem dX8_wasSeenElsewhere_52 : decode cX8_wasSeenElsewhere 52 = .ok (.iconst 0, 1) := by decide +kernel
theorem dX8_wasSeenElsewhere_53 : decode cX8_wasSeenElsewhere 53 = .ok (.ireturn, 1) := by decide +kernel
theorem dX8_isWrong_0 : decode cX8_isWrong 0 = .ok (.aload_n 0, 1) := by decide +kernel
theorem dX8_isWrong_1 : decode cX8_isWrong 1 = .ok (.getfield 44, 3) := by decide +kernel
theorem dX8_isWrong_4 : decode cX8_isWrong 4 = .ok (.getfield 250, 3) := by decide +kernel
theorem dX8_isWrong_7 : decode cX8_isWrong 7 = .ok (.iload_n 1, 1) := by decide +kernel
theorem dX8_isWrong_8 : decode cX8_isWrong 8 = .ok (.aaload, 1) := by decide +kernel
theorem dX8_isWrong_9 : decode cX8_isWrong 9 = .ok (.iconst 0, 1) := by decide +kernel
theorem dX8_isWrong_10 : decode cX8_isWrong 10 = .ok (.iaload, 1) := by decide +kernel
theorem dX8_isWrong_11 : decode cX8_isWrong 11 = .ok (.istore_n 2, 1) := by decide +kernel
theorem dX8_isWrong_12 : decode cX8_isWrong 12 = .ok (.iconst 0, 1) := by decide +kernel
theorem dX8_isWrong_13 : decode cX8_isWrong 13 = .ok (.istore_n 3, 1) := by decide +kernel
theorem dX8_isWrong_14 : decode cX8_isWrong 14 = .ok (.iconst 0, 1) := by decide +kernel
theorem dX8_isWrong_15 : decode cX8_isWrong 15 = .ok (.istore 4, 2) := by decide +kernel
theorem dX8_isWrong_17 : decode cX8_isWrong 17 = .ok (.iload 4, 2) := by decide +kernel
theorem dX8_isWrong_19 : decode cX8_isWrong 19 = .ok (.iload_n 1, 1) := by decide +kernel
theorem dX8_isWrong_20 : decode cX8_isWrong 20 = .ok (.if_icmp .ge 75, 3) := by decide +kernel
theorem dX8_isWrong_23 : decode cX8_isWrong 23 = .ok (.aload_n 0, 1) := by decide +kernel
theorem dX8_isWrong_24 : decode cX8_isWrong 24 = .ok (.getfield 44, 3) := by decide +kernel
theorem dX8_isWrong_27 : decode cX8_isWrong 27 = .ok (.iload_n 1, 1) := by decide +kernel
theorem dX8_isWrong_28 : decode cX8_isWrong 28 = .ok (.iload 4, 2) := by decide +kernel
theorem dX8_isWrong_30 : decode cX8_isWrong 30 = .ok (.invokevirtual 253, 3) := by decide +kernel
theorem dX8_isWrong_33 : decode cX8_isWrong 33 = .ok (.ifCond .eq 5, 3) := by decide +kernel
theorem dX8_isWrong_36 : decode cX8_isWrong 36 = .ok (.iconst 1, 1) := by decide +kernel
theorem dX8_isWrong_37 : decode cX8_isWrong 37 = .ok (.ireturn, 1) := by decide +kernel
theorem dX8_isWrong_38 : decode cX8_isWrong 38 = .ok (.aload_n 0, 1) := by decide +kernel
theorem dX8_isWrong_39 : decode cX8_isWrong 39 = .ok (.getfield 44, 3) := by decide +kernel
theorem dX8_isWrong_42 : decode cX8_isWrong 42 = .ok (.getfield 250, 3) := by decide +kernel
theorem dX8_isWrong_45 : decode cX8_isWrong 45 = .ok (.iload 4, 2) := by decide +kernel
theorem dX8_isWrong_47 : decode cX8_isWrong 47 = .ok (.aaload, 1) := by decide +kernel
theorem dX8_isWrong_48 : decode cX8_isWrong 48 = .ok (.iconst 0, 1) := by decide +kernel
theorem dX8_isWrong_49 : decode cX8_isWrong 49 = .ok (.iaload, 1) := by decide +kernel
theorem dX8_isWrong_50 : decode cX8_isWrong 50 = .ok (.iload_n 2, 1) := by decide +kernel
theorem dX8_isWrong_51 : decode cX8_isWrong 51 = .ok (.if_icmp .ne 38, 3) := by decide +kernel
theorem dX8_isWrong_54 : decode cX8_isWrong 54 = .ok (.iload_n 3, 1) := by decide +kernel
theorem dX8_isWrong_55 : decode cX8_isWrong 55 = .ok (.aload_n 0, 1) := by decide +kernel
theorem dX8_isWrong_56 : decode cX8_isWrong 56 = .ok (.getfield 57, 3) := by decide +kernel
theorem dX8_isWrong_59 : decode cX8_isWrong 59 = .ok (.aload_n 0, 1) := by decide +kernel
theorem dX8_isWrong_60 : decode cX8_isWrong 60 = .ok (.getfield 44, 3) := by decide +kernel
theorem dX8_isWrong_63 : decode cX8_isWrong 63 = .ok (.getfield 250, 3) := by decide +kernel
theorem dX8_isWrong_66 : decode cX8_isWrong 66 = .ok (.iload 4, 2) := by decide +kernel
theorem dX8_isWrong_68 : decode cX8_isWrong 68 = .ok (.aaload, 1) := by decide +kernel
theorem dX8_isWrong_69 : decode cX8_isWrong 69 = .ok (.iconst 1, 1) := by decide +kernel
theorem dX8_isWrong_70 : decode cX8_isWrong 70 = .ok (.iaload, 1) := by decide +kernel
theorem dX8_isWrong_71 : decode cX8_isWrong 71 = .ok (.aload_n 0, 1) := by decide +kernel
theorem dX8_isWrong_72 : decode cX8_isWrong 72 = .ok (.getfield 44, 3) := by decide +kernel
theorem dX8_isWrong_75 : decode cX8_isWrong 75 = .ok (.getfield 250, 3) := by decide +kernel
theorem dX8_isWrong_78 : decode cX8_isWrong 78 = .ok (.iload 4, 2) := by decide +kernel
theorem dX8_isWrong_80 : decode cX8_isWrong 80 = .ok (.aaload, 1) := by decide +kernel
theorem dX8_isWrong_81 : decode cX8_isWrong 81 = .ok (.iconst 2, 1) := by decide +kernel
theorem dX8_isWrong_82 : decode cX8_isWrong 82 = .ok (.iaload, 1) := by decide +kernel
theorem dX8_isWrong_83 : decode cX8_isWrong 83 = .ok (.iload_n 2, 1) := by decide +kernel
theorem dX8_isWrong_84 : decode cX8_isWrong 84 = .ok (.invokevirtual 257, 3) := by decide +kernel
theorem dX8_isWrong_87 : decode cX8_isWrong 87 = .ok (.ior, 1) := by decide +kernel
theorem dX8_isWrong_88 : decode cX8_isWrong 88 = .ok (.istore_n 3, 1) := by decide +kernel
theorem dX8_isWrong_89 : decode cX8_isWrong 89 = .ok (.iinc 4 1, 3) := by decide +kernel
theorem dX8_isWrong_92 : decode cX8_isWrong 92 = .ok (.goto (-75), 3) := by decide +kernel
theorem dX8_isWrong_95 : decode cX8_isWrong 95 = .ok (.aload_n 0, 1) := by decide +kernel
theorem dX8_isWrong_96 : decode cX8_isWrong 96 = .ok (.getfield 57, 3) := by decide +kernel
theorem dX8_isWrong_99 : decode cX8_isWrong 99 = .ok (.aload_n 0, 1) := by decide +kernel
theorem dX8_isWrong_100 : decode cX8_isWrong 100 = .ok (.getfield 44, 3) := by decide +kernel
theorem dX8_isWrong_103 : decode cX8_isWrong 103 = .ok (.getfield 250, 3) := by decide +kernel
theorem dX8_isWrong_106 : decode cX8_isWrong 106 = .ok (.iload_n 1, 1) := by decide +kernel
theorem dX8_isWrong_107 : decode cX8_isWrong 107 = .ok (.aaload, 1) := by decide +kernel
theorem dX8_isWrong_108 : decode cX8_isWrong 108 = .ok (.iconst 1, 1) := by decide +kernel
theorem dX8_isWrong_109 : decode cX8_isWrong 109 = .ok (.iaload, 1) := by decide +kernel
theorem dX8_isWrong_110 : decode cX8_isWrong 110 = .ok (.aload_n 0, 1) := by decide +kernel
theorem dX8_isWrong_111 : decode cX8_isWrong 111 = .ok (.getfield 44, 3) := by decide +kernel
theorem dX8_isWrong_114 : decode cX8_isWrong 114 = .ok (.getfield 250, 3) := by decide +kernel
theorem dX8_isWrong_117 : decode cX8_isWrong 117 = .ok (.iload_n 1, 1) := by decide +kernel
theorem dX8_isWrong_118 : decode cX8_isWrong 118 = .ok (.aaload, 1) := by decide +kernel
theorem dX8_isWrong_119 : decode cX8_isWrong 119 = .ok (.iconst 2, 1) := by decide +kernel
theorem dX8_isWrong_120 : decode cX8_isWrong 120 = .ok (.iaload, 1) := by decide +kernel
theorem dX8_isWrong_121 : decode cX8_isWrong 121 = .ok (.iload_n 2, 1) := by decide +kernel
theorem dX8_isWrong_122 : decode cX8_isWrong 122 = .ok (.invokevirtual 257, 3) := by decide +kernel
theorem dX8_isWrong_125 : decode cX8_isWrong 125 = .ok (.istore 4, 2) := by decide +kernel
theorem dX8_isWrong_127 : decode cX8_isWrong 127 = .ok (.iload 4, 2) := by decide +kernel
theorem dX8_isWrong_129 : decode cX8_isWrong 129 = .ok (.iconst (-1), 1) := by decide +kernel
theorem dX8_isWrong_130 : decode cX8_isWrong 130 = .ok (.if_icmp .eq 10, 3) := by decide +kernel
theorem dX8_isWrong_133 : decode cX8_isWrong 133 = .ok (.iload 4, 2) := by decide +kernel
theorem dX8_isWrong_135 : decode cX8_isWrong 135 = .ok (.iload_n 3, 1) := by decide +kernel
theorem dX8_isWrong_136 : decode cX8_isWrong 136 = .ok (.iand, 1) := by decide +kernel
theorem dX8_isWrong_137 : decode cX8_isWrong 137 = .ok (.ifCond .eq 7, 3) := by decide +kernel
theorem dX8_isWrong_140 : decode cX8_isWrong 140 = .ok (.iconst 1, 1) := by decide +kernel
theorem dX8_isWrong_141 : decode cX8_isWrong 141 = .ok (.goto 4, 3) := by decide +kernel
theorem dX8_isWrong_144 : decode cX8_isWrong 144 = .ok (.iconst 0, 1) := by decide +kernel
theorem dX8_isWrong_145 : decode cX8_isWrong 145 = .ok (.ireturn, 1) := by decide +kernel
theorem dX8_draw_0 : decode cX8_draw 0 = .ok (.aload_n 0, 1) := by decide +kernel
theorem dX8_draw_1 : decode cX8_draw 1 = .ok (.aload_n 0, 1) := by decide +kernel
theorem dX8_draw_2 : decode cX8_draw 2 = .ok (.getfield 64, 3) := by decide +kernel
theorem dX8_draw_5 : decode cX8_draw 5 = .ok (.ldc2_w 260, 3) := by decide +kernel
theorem dX8_draw_8 : decode cX8_draw 8 = .ok (.lmul, 1) := by decide +kernel
theorem dX8_draw_9 : decode cX8_draw 9 = .ok (.ldc2_w 262, 3) := by decide +kernel
theorem dX8_draw_12 : decode cX8_draw 12 = .ok (.ladd, 1) := by decide +kernel
theorem dX8_draw_13 : decode cX8_draw 13 = .ok (.ldc2_w 264, 3) := by decide +kernel
theorem dX8_draw_16 : decode cX8_draw 16 = .ok (.land, 1) := by decide +kernel
theorem dX8_draw_17 : decode cX8_draw 17 = .ok (.putfield 64, 3) := by decide +kernel
theorem dX8_draw_20 : decode cX8_draw 20 = .ok (.iload_n 1, 1) := by decide +kernel
theorem dX8_draw_21 : decode cX8_draw 21 = .ok (.ifCond .le 18, 3) := by decide +kernel
theorem dX8_draw_24 : decode cX8_draw 24 = .ok (.aload_n 0, 1) := by decide +kernel
theorem dX8_draw_25 : decode cX8_draw 25 = .ok (.getfield 64, 3) := by decide +kernel
theorem dX8_draw_28 : decode cX8_draw 28 = .ok (.ldc2_w 266, 3) := by decide +kernel
theorem dX8_draw_31 : decode cX8_draw 31 = .ok (.ldiv, 1) := by decide +kernel
theorem dX8_draw_32 : decode cX8_draw 32 = .ok (.iload_n 1, 1) := by decide +kernel
theorem dX8_draw_33 : decode cX8_draw 33 = .ok (.i2l, 1) := by decide +kernel
theorem dX8_draw_34 : decode cX8_draw 34 = .ok (.lrem, 1) := by decide +kernel
theorem dX8_draw_35 : decode cX8_draw 35 = .ok (.l2i, 1) := by decide +kernel
theorem dX8_draw_36 : decode cX8_draw 36 = .ok (.goto 4, 3) := by decide +kernel
theorem dX8_draw_39 : decode cX8_draw 39 = .ok (.iconst 0, 1) := by decide +kernel
theorem dX8_draw_40 : decode cX8_draw 40 = .ok (.ireturn, 1) := by decide +kernel
theorem dX8_sellByDraws_0 : decode cX8_sellByDraws 0 = .ok (.aload_n 0, 1) := by decide +kernel
theorem dX8_sellByDraws_1 : decode cX8_sellByDraws 1 = .ok (.aload_n 0, 1) := by decide +kernel
theorem dX8_sellByDraws_2 : decode cX8_sellByDraws 2 = .ok (.getfield 57, 3) := by decide +kernel
theorem dX8_sellByDraws_5 : decode cX8_sellByDraws 5 = .ok (.getfield 93, 3) := by decide +kernel
theorem dX8_sellByDraws_8 : decode cX8_sellByDraws 8 = .ok (.invokevirtual 233, 3) := by decide +kernel
theorem dX8_sellByDraws_11 : decode cX8_sellByDraws 11 = .ok (.istore_n 1, 1) := by decide +kernel
theorem dX8_sellByDraws_12 : decode cX8_sellByDraws 12 = .ok (.aload_n 0, 1) := by decide +kernel
theorem dX8_sellByDraws_13 : decode cX8_sellByDraws 13 = .ok (.iconst 2, 1) := by decide +kernel
theorem dX8_sellByDraws_14 : decode cX8_sellByDraws 14 = .ok (.invokevirtual 233, 3) := by decide +kernel
theorem dX8_sellByDraws_17 : decode cX8_sellByDraws 17 = .ok (.istore_n 2, 1) := by decide +kernel
theorem dX8_sellByDraws_18 : decode cX8_sellByDraws 18 = .ok (.aload_n 0, 1) := by decide +kernel
theorem dX8_sellByDraws_19 : decode cX8_sellByDraws 19 = .ok (.aload_n 0, 1) := by decide +kernel
theorem dX8_sellByDraws_20 : decode cX8_sellByDraws 20 = .ok (.getfield 57, 3) := by decide +kernel
theorem dX8_sellByDraws_23 : decode cX8_sellByDraws 23 = .ok (.getfield 96, 3) := by decide +kernel
theorem dX8_sellByDraws_26 : decode cX8_sellByDraws 26 = .ok (.invokevirtual 233, 3) := by decide +kernel
theorem dX8_sellByDraws_29 : decode cX8_sellByDraws 29 = .ok (.istore_n 3, 1) := by decide +kernel
theorem dX8_sellByDraws_30 : decode cX8_sellByDraws 30 = .ok (.aload_n 0, 1) := by decide +kernel
theorem dX8_sellByDraws_31 : decode cX8_sellByDraws 31 = .ok (.getfield 57, 3) := by decide +kernel
theorem dX8_sellByDraws_34 : decode cX8_sellByDraws 34 = .ok (.iload_n 1, 1) := by decide +kernel
theorem dX8_sellByDraws_35 : decode cX8_sellByDraws 35 = .ok (.iload_n 2, 1) := by decide +kernel
theorem dX8_sellByDraws_36 : decode cX8_sellByDraws 36 = .ok (.iload_n 3, 1) := by decide +kernel
theorem dX8_sellByDraws_37 : decode cX8_sellByDraws 37 = .ok (.invokevirtual 167, 3) := by decide +kernel
theorem dX8_sellByDraws_40 : decode cX8_sellByDraws 40 = .ok (.ifCond .eq 15, 3) := by decide +kernel
theorem dX8_sellByDraws_43 : decode cX8_sellByDraws 43 = .ok (.aload_n 0, 1) := by decide +kernel
theorem dX8_sellByDraws_44 : decode cX8_sellByDraws 44 = .ok (.getfield 57, 3) := by decide +kernel
theorem dX8_sellByDraws_47 : decode cX8_sellByDraws 47 = .ok (.getfield 125, 3) := by decide +kernel
theorem dX8_sellByDraws_50 : decode cX8_sellByDraws 50 = .ok (.iload_n 1, 1) := by decide +kernel
theorem dX8_sellByDraws_51 : decode cX8_sellByDraws 51 = .ok (.aaload, 1) := by decide +kernel
theorem dX8_sellByDraws_52 : decode cX8_sellByDraws 52 = .ok (.iload_n 2, 1) := by decide +kernel
theorem dX8_sellByDraws_53 : decode cX8_sellByDraws 53 = .ok (.iload_n 3, 1) := by decide +kernel
theorem dX8_sellByDraws_54 : decode cX8_sellByDraws 54 = .ok (.iastore, 1) := by decide +kernel
theorem dX8_sellByDraws_55 : decode cX8_sellByDraws 55 = .ok (.return_, 1) := by decide +kernel
theorem dL_law_0 : decode cL_law 0 = .ok (.new 7, 3) := by decide +kernel
theorem dL_law_3 : decode cL_law 3 = .ok (.dup, 1) := by decide +kernel
theorem dL_law_4 : decode cL_law 4 = .ok (.invokespecial 9, 3) := by decide +kernel
theorem dL_law_7 : decode cL_law 7 = .ok (.astore_n 1, 1) := by decide +kernel
theorem dL_law_8 : decode cL_law 8 = .ok (.new 10, 3) := by decide +kernel
theorem dL_law_11 : decode cL_law 11 = .ok (.dup, 1) := by decide +kernel
theorem dL_law_12 : decode cL_law 12 = .ok (.invokespecial 12, 3) := by decide +kernel
theorem dL_law_15 : decode cL_law 15 = .ok (.astore_n 2, 1) := by decide +kernel
theorem dL_law_16 : decode cL_law 16 = .ok (.iconst 0, 1) := by decide +kernel
theorem dL_law_17 : decode cL_law 17 = .ok (.istore_n 3, 1) := by decide +kernel
theorem dL_law_18 : decode cL_law 18 = .ok (.iload_n 3, 1) := by decide +kernel
theorem dL_law_19 : decode cL_law 19 = .ok (.aload_n 0, 1) := by decide +kernel
theorem dL_law_20 : decode cL_law 20 = .ok (.arraylength, 1) := by decide +kernel
theorem dL_law_21 : decode cL_law 21 = .ok (.iconst 4, 1) := by decide +kernel
theorem dL_law_22 : decode cL_law 22 = .ok (.isub, 1) := by decide +kernel
theorem dL_law_23 : decode cL_law 23 = .ok (.if_icmp .gt 941, 3) := by decide +kernel
theorem dL_law_26 : decode cL_law 26 = .ok (.aload_n 0, 1) := by decide +kernel
theorem dL_law_27 : decode cL_law 27 = .ok (.iload_n 3, 1) := by decide +kernel
theorem dL_law_28 : decode cL_law 28 = .ok (.iaload, 1) := by decide +kernel
theorem dL_law_29 : decode cL_law 29 = .ok (.bipush 31, 2) := by decide +kernel
theorem dL_law_31 : decode cL_law 31 = .ok (.iand, 1) := by decide +kernel
theorem dL_law_32 : decode cL_law 32 = .ok (.tableswitch 926 0 29 #[136, 199, 212, 225, 248, 281, 314, 347, 380, 413, 456, 479, 502, 535, 568, 601, 624, 637, 650, 673, 686, 729, 752, 765, 808, 821, 834, 857, 880, 903], 136) := by decide +kernel
theorem dL_law_168 : decode cL_law 168 = .ok (.aload_n 1, 1) := by decide +kernel
theorem dL_law_169 : decode cL_law 169 = .ok (.aload_n 0, 1) := by decide +kernel
theorem dL_law_170 : decode cL_law 170 = .ok (.iload_n 3, 1) := by decide +kernel
theorem dL_law_171 : decode cL_law 171 = .ok (.iconst 1, 1) := by decide +kernel
theorem dL_law_172 : decode cL_law 172 = .ok (.iadd, 1) := by decide +kernel
theorem dL_law_173 : decode cL_law 173 = .ok (.iaload, 1) := by decide +kernel
theorem dL_law_174 : decode cL_law 174 = .ok (.aload_n 0, 1) := by decide +kernel
theorem dL_law_175 : decode cL_law 175 = .ok (.iload_n 3, 1) := by decide +kernel
theorem dL_law_176 : decode cL_law 176 = .ok (.iconst 2, 1) := by decide +kernel
theorem dL_law_177 : decode cL_law 177 = .ok (.iadd, 1) := by decide +kernel
theorem dL_law_178 : decode cL_law 178 = .ok (.iaload, 1) := by decide +kernel
theorem dL_law_179 : decode cL_law 179 = .ok (.i2l, 1) := by decide +kernel
theorem dL_law_180 : decode cL_law 180 = .ok (.bipush 32, 2) := by decide +kernel
theorem dL_law_182 : decode cL_law 182 = .ok (.lshl, 1) := by decide +kernel
theorem dL_law_183 : decode cL_law 183 = .ok (.aload_n 0, 1) := by decide +kernel
theorem dL_law_184 : decode cL_law 184 = .ok (.iload_n 3, 1) := by decide +kernel
theorem dL_law_185 : decode cL_law 185 = .ok (.iconst 3, 1) := by decide +kernel
theorem dL_law_186 : decode cL_law 186 = .ok (.iadd, 1) := by decide +kernel
theorem dL_law_187 : decode cL_law 187 = .ok (.iaload, 1) := by decide +kernel
theorem dL_law_188 : decode cL_law 188 = .ok (.i2l, 1) := by decide +kernel
theorem dL_law_189 : decode cL_law 189 = .ok (.ldc2_w 13, 3) := by decide +kernel
theorem dL_law_192 : decode cL_law 192 = .ok (.land, 1) := by decide +kernel
theorem dL_law_193 : decode cL_law 193 = .ok (.lor, 1) := by decide +kernel
theorem dL_law_194 : decode cL_law 194 = .ok (.invokevirtual 15, 3) := by decide +kernel
theorem dL_law_197 : decode cL_law 197 = .ok (.aload_n 2, 1) := by decide +kernel
theorem dL_law_198 : decode cL_law 198 = .ok (.aload_n 0, 1) := by decide +kernel
theorem dL_law_199 : decode cL_law 199 = .ok (.iload_n 3, 1) := by decide +kernel
theorem dL_law_200 : decode cL_law 200 = .ok (.iconst 1, 1) := by decide +kernel
theorem dL_law_201 : decode cL_law 201 = .ok (.iadd, 1) := by decide +kernel
theorem dL_law_202 : decode cL_law 202 = .ok (.iaload, 1) := by decide +kernel
theorem dL_law_203 : decode cL_law 203 = .ok (.aload_n 0, 1) := by decide +kernel
theorem dL_law_204 : decode cL_law 204 = .ok (.iload_n 3, 1) := by decide +kernel
theorem dL_law_205 : decode cL_law 205 = .ok (.iconst 2, 1) := by decide +kernel
theorem dL_law_206 : decode cL_law 206 = .ok (.iadd, 1) := by decide +kernel
theorem dL_law_207 : decode cL_law 207 = .ok (.iaload, 1) := by decide +kernel
theorem dL_law_208 : decode cL_law 208 = .ok (.i2l, 1) := by decide +kernel
theorem dL_law_209 : decode cL_law 209 = .ok (.bipush 32, 2) := by decide +kernel
theorem dL_law_211 : decode cL_law 211 = .ok (.lshl, 1) := by decide +kernel
theorem dL_law_212 : decode cL_law 212 = .ok (.aload_n 0, 1) := by decide +kernel
theorem dL_law_213 : decode cL_law 213 = .ok (.iload_n 3, 1) := by decide +kernel
theorem dL_law_214 : decode cL_law 214 = .ok (.iconst 3, 1) := by decide +kernel
theorem dL_law_215 : decode cL_law 215 = .ok (.iadd, 1) := by decide +kernel
theorem dL_law_216 : decode cL_law 216 = .ok (.iaload, 1) := by decide +kernel
theorem dL_law_217 : decode cL_law 217 = .ok (.i2l, 1) := by decide +kernel
theorem dL_law_218 : decode cL_law 218 = .ok (.ldc2_w 13, 3) := by decide +kernel
theorem dL_law_221 : decode cL_law 221 = .ok (.land, 1) := by decide +kernel
theorem dL_law_222 : decode cL_law 222 = .ok (.lor, 1) := by decide +kernel
theorem dL_law_223 : decode cL_law 223 = .ok (.invokevirtual 19, 3) := by decide +kernel
theorem dL_law_226 : decode cL_law 226 = .ok (.if_icmp .eq 732, 3) := by decide +kernel
theorem dL_law_229 : decode cL_law 229 = .ok (.iconst 0, 1) := by decide +kernel
theorem dL_law_230 : decode cL_law 230 = .ok (.ireturn, 1) := by decide +kernel
theorem dL_law_231 : decode cL_law 231 = .ok (.aload_n 1, 1) := by decide +kernel
theorem dL_law_232 : decode cL_law 232 = .ok (.invokevirtual 20, 3) := by decide +kernel
theorem dL_law_235 : decode cL_law 235 = .ok (.aload_n 2, 1) := by decide +kernel
theorem dL_law_236 : decode cL_law 236 = .ok (.invokevirtual 24, 3) := by decide +kernel
theorem dL_law_239 : decode cL_law 239 = .ok (.if_icmp .eq 719, 3) := by decide +kernel
theorem dL_law_242 : decode cL_law 242 = .ok (.iconst 0, 1) := by decide +kernel
theorem dL_law_243 : decode cL_law 243 = .ok (.ireturn, 1) := by decide +kernel
theorem dL_law_244 : decode cL_law 244 = .ok (.aload_n 1, 1) := by decide +kernel
theorem dL_law_245 : decode cL_law 245 = .ok (.invokevirtual 25, 3) := by decide +kernel
theorem dL_law_248 : decode cL_law 248 = .ok (.aload_n 2, 1) := by decide +kernel
theorem dL_law_249 : decode cL_law 249 = .ok (.invokevirtual 28, 3) := by decide +kernel
theorem dL_law_252 : decode cL_law 252 = .ok (.if_icmp .eq 706, 3) := by decide +kernel
theorem dL_law_255 : decode cL_law 255 = .ok (.iconst 0, 1) := by decide +kernel
theorem dL_law_256 : decode cL_law 256 = .ok (.ireturn, 1) := by decide +kernel
theorem dL_law_257 : decode cL_law 257 = .ok (.aload_n 1, 1) := by decide +kernel
theorem dL_law_258 : decode cL_law 258 = .ok (.aload_n 0, 1) := by decide +kernel
theorem dL_law_259 : decode cL_law 259 = .ok (.iload_n 3, 1) := by decide +kernel
theorem dL_law_260 : decode cL_law 260 = .ok (.iconst 1, 1) := by decide +kernel
theorem dL_law_261 : decode cL_law 261 = .ok (.iadd, 1) := by decide +kernel
theorem dL_law_262 : decode cL_law 262 = .ok (.iaload, 1) := by decide +kernel
theorem dL_law_263 : decode cL_law 263 = .ok (.invokevirtual 29, 3) := by decide +kernel
theorem dL_law_266 : decode cL_law 266 = .ok (.aload_n 2, 1) := by decide +kernel
theorem dL_law_267 : decode cL_law 267 = .ok (.aload_n 0, 1) := by decide +kernel
theorem dL_law_268 : decode cL_law 268 = .ok (.iload_n 3, 1) := by decide +kernel
theorem dL_law_269 : decode cL_law 269 = .ok (.iconst 1, 1) := by decide +kernel
theorem dL_law_270 : decode cL_law 270 = .ok (.iadd, 1) := by decide +kernel
theorem dL_law_271 : decode cL_law 271 = .ok (.iaload, 1) := by decide +kernel
theorem dL_law_272 : decode cL_law 272 = .ok (.invokevirtual 33, 3) := by decide +kernel
theorem dL_law_275 : decode cL_law 275 = .ok (.if_icmp .eq 683, 3) := by decide +kernel
theorem dL_law_278 : decode cL_law 278 = .ok (.iconst 0, 1) := by decide +kernel
theorem dL_law_279 : decode cL_law 279 = .ok (.ireturn, 1) := by decide +kernel
theorem dL_law_280 : decode cL_law 280 = .ok (.aload_n 1, 1) := by decide +kernel
theorem dL_law_281 : decode cL_law 281 = .ok (.aload_n 0, 1) := by decide +kernel
theorem dL_law_282 : decode cL_law 282 = .ok (.iload_n 3, 1) := by decide +kernel
theorem dL_law_283 : decode cL_law 283 = .ok (.iconst 1, 1) := by decide +kernel
theorem dL_law_284 : decode cL_law 284 = .ok (.iadd, 1) := by decide +kernel
theorem dL_law_285 : decode cL_law 285 = .ok (.iaload, 1) := by decide +kernel
theorem dL_law_286 : decode cL_law 286 = .ok (.aload_n 0, 1) := by decide +kernel
theorem dL_law_287 : decode cL_law 287 = .ok (.iload_n 3, 1) := by decide +kernel
theorem dL_law_288 : decode cL_law 288 = .ok (.iconst 2, 1) := by decide +kernel
theorem dL_law_289 : decode cL_law 289 = .ok (.iadd, 1) := by decide +kernel
theorem dL_law_290 : decode cL_law 290 = .ok (.iaload, 1) := by decide +kernel
theorem dL_law_291 : decode cL_law 291 = .ok (.invokevirtual 34, 3) := by decide +kernel
theorem dL_law_294 : decode cL_law 294 = .ok (.aload_n 2, 1) := by decide +kernel
theorem dL_law_295 : decode cL_law 295 = .ok (.aload_n 0, 1) := by decide +kernel
theorem dL_law_296 : decode cL_law 296 = .ok (.iload_n 3, 1) := by decide +kernel
theorem dL_law_297 : decode cL_law 297 = .ok (.iconst 1, 1) := by decide +kernel
theorem dL_law_298 : decode cL_law 298 = .ok (.iadd, 1) := by decide +kernel
theorem dL_law_299 : decode cL_law 299 = .ok (.iaload, 1) := by decide +kernel
theorem dL_law_300 : decode cL_law 300 = .ok (.aload_n 0, 1) := by decide +kernel
theorem dL_law_301 : decode cL_law 301 = .ok (.iload_n 3, 1) := by decide +kernel
theorem dL_law_302 : decode cL_law 302 = .ok (.iconst 2, 1) := by decide +kernel
theorem dL_law_303 : decode cL_law 303 = .ok (.iadd, 1) := by decide +kernel
theorem dL_law_304 : decode cL_law 304 = .ok (.iaload, 1) := by decide +kernel
theorem dL_law_305 : decode cL_law 305 = .ok (.invokevirtual 38, 3) := by decide +kernel
theorem dL_law_308 : decode cL_law 308 = .ok (.if_icmp .eq 650, 3) := by decide +kernel
theorem dL_law_311 : decode cL_law 311 = .ok (.iconst 0, 1) := by decide +kernel
theorem dL_law_312 : decode cL_law 312 = .ok (.ireturn, 1) := by decide +kernel
theorem dL_law_313 : decode cL_law 313 = .ok (.aload_n 1, 1) := by decide +kernel
theorem dL_law_314 : decode cL_law 314 = .ok (.aload_n 0, 1) := by decide +kernel
theorem dL_law_315 : decode cL_law 315 = .ok (.iload_n 3, 1) := by decide +kernel
theorem dL_law_316 : decode cL_law 316 = .ok (.iconst 1, 1) := by decide +kernel
theorem dL_law_317 : decode cL_law 317 = .ok (.iadd, 1) := by decide +kernel
theorem dL_law_318 : decode cL_law 318 = .ok (.iaload, 1) := by decide +kernel
theorem dL_law_319 : decode cL_law 319 = .ok (.aload_n 0, 1) := by decide +kernel
theorem dL_law_320 : decode cL_law 320 = .ok (.iload_n 3, 1) := by decide +kernel
theorem dL_law_321 : decode cL_law 321 = .ok (.iconst 2, 1) := by decide +kernel
theorem dL_law_322 : decode cL_law 322 = .ok (.iadd, 1) := by decide +kernel
theorem dL_law_323 : decode cL_law 323 = .ok (.iaload, 1) := by decide +kernel
theorem dL_law_324 : decode cL_law 324 = .ok (.invokevirtual 39, 3) := by decide +kernel
theorem dL_law_327 : decode cL_law 327 = .ok (.aload_n 2, 1) := by decide +kernel
theorem dL_law_328 : decode cL_law 328 = .ok (.aload_n 0, 1) := by decide +kernel
theorem dL_law_329 : decode cL_law 329 = .ok (.iload_n 3, 1) := by decide +kernel
theorem dL_law_330 : decode cL_law 330 = .ok (.iconst 1, 1) := by decide +kernel
theorem dL_law_331 : decode cL_law 331 = .ok (.iadd, 1) := by decide +kernel
theorem dL_law_332 : decode cL_law 332 = .ok (.iaload, 1) := by decide +kernel
theorem dL_law_333 : decode cL_law 333 = .ok (.aload_n 0, 1) := by decide +kernel
theorem dL_law_334 : decode cL_law 334 = .ok (.iload_n 3, 1) := by decide +kernel
theorem dL_law_335 : decode cL_law 335 = .ok (.iconst 2, 1) := by decide +kernel
theorem dL_law_336 : decode cL_law 336 = .ok (.iadd, 1) := by decide +kernel
theorem dL_law_337 : decode cL_law 337 = .ok (.iaload, 1) := by decide +kernel
theorem dL_law_338 : decode cL_law 338 = .ok (.invokevirtual 42, 3) := by decide +kernel
theorem dL_law_341 : decode cL_law 341 = .ok (.if_icmp .eq 617, 3) := by decide +kernel
theorem dL_law_344 : decode cL_law 344 = .ok (.iconst 0, 1) := by decide +kernel
theorem dL_law_345 : decode cL_law 345 = .ok (.ireturn, 1) := by decide +kernel
theorem dL_law_346 : decode cL_law 346 = .ok (.aload_n 1, 1) := by decide +kernel
theorem dL_law_347 : decode cL_law 347 = .ok (.aload_n 0, 1) := by decide +kernel
theorem dL_law_348 : decode cL_law 348 = .ok (.iload_n 3, 1) := by decide +kernel
theorem dL_law_349 : decode cL_law 349 = .ok (.iconst 1, 1) := by decide +kernel
theorem dL_law_350 : decode cL_law 350 = .ok (.iadd, 1) := by decide +kernel
theorem dL_law_351 : decode cL_law 351 = .ok (.iaload, 1) := by decide +kernel
theorem dL_law_352 : decode cL_law 352 = .ok (.aload_n 0, 1) := by decide +kernel
theorem dL_law_353 : decode cL_law 353 = .ok (.iload_n 3, 1) := by decide +kernel
theorem dL_law_354 : decode cL_law 354 = .ok (.iconst 2, 1) := by decide +kernel
theorem dL_law_355 : decode cL_law 355 = .ok (.iadd, 1) := by decide +kernel
theorem dL_law_356 : decode cL_law 356 = .ok (.iaload, 1) := by decide +kernel
theorem dL_law_357 : decode cL_law 357 = .ok (.invokevirtual 43, 3) := by decide +kernel
theorem dL_law_360 : decode cL_law 360 = .ok (.aload_n 2, 1) := by decide +kernel
theorem dL_law_361 : decode cL_law 361 = .ok (.aload_n 0, 1) := by decide +kernel
theorem dL_law_362 : decode cL_law 362 = .ok (.iload_n 3, 1) := by decide +kernel
theorem dL_law_363 : decode cL_law 363 = .ok (.iconst 1, 1) := by decide +kernel
theorem dL_law_364 : decode cL_law 364 = .ok (.iadd, 1) := by decide +kernel
theorem dL_law_365 : decode cL_law 365 = .ok (.iaload, 1) := by decide +kernel
theorem dL_law_366 : decode cL_law 366 = .ok (.aload_n 0, 1) := by decide +kernel
theorem dL_law_367 : decode cL_law 367 = .ok (.iload_n 3, 1) := by decide +kernel
theorem dL_law_368 : decode cL_law 368 = .ok (.iconst 2, 1) := by decide +kernel
theorem dL_law_369 : decode cL_law 369 = .ok (.iadd, 1) := by decide +kernel
theorem dL_law_370 : decode cL_law 370 = .ok (.iaload, 1) := by decide +kernel
theorem dL_law_371 : decode cL_law 371 = .ok (.invokevirtual 46, 3) := by decide +kernel
theorem dL_law_374 : decode cL_law 374 = .ok (.if_icmp .eq 584, 3) := by decide +kernel
theorem dL_law_377 : decode cL_law 377 = .ok (.iconst 0, 1) := by decide +kernel
theorem dL_law_378 : decode cL_law 378 = .ok (.ireturn, 1) := by decide +kernel
theorem dL_law_379 : decode cL_law 379 = .ok (.aload_n 1, 1) := by decide +kernel
theorem dL_law_380 : decode cL_law 380 = .ok (.aload_n 0, 1) := by decide +kernel
theorem dL_law_381 : decode cL_law 381 = .ok (.iload_n 3, 1) := by decide +kernel
theorem dL_law_382 : decode cL_law 382 = .ok (.iconst 1, 1) := by decide +kernel
theorem dL_law_383 : decode cL_law 383 = .ok (.iadd, 1) := by decide +kernel
theorem dL_law_384 : decode cL_law 384 = .ok (.iaload, 1) := by decide +kernel
theorem dL_law_385 : decode cL_law 385 = .ok (.aload_n 0, 1) := by decide +kernel
theorem dL_law_386 : decode cL_law 386 = .ok (.iload_n 3, 1) := by decide +kernel
theorem dL_law_387 : decode cL_law 387 = .ok (.iconst 2, 1) := by decide +kernel
theorem dL_law_388 : decode cL_law 388 = .ok (.iadd, 1) := by decide +kernel
theorem dL_law_389 : decode cL_law 389 = .ok (.iaload, 1) := by decide +kernel
theorem dL_law_390 : decode cL_law 390 = .ok (.invokevirtual 47, 3) := by decide +kernel
theorem dL_law_393 : decode cL_law 393 = .ok (.aload_n 2, 1) := by decide +kernel
theorem dL_law_394 : decode cL_law 394 = .ok (.aload_n 0, 1) := by decide +kernel
theorem dL_law_395 : decode cL_law 395 = .ok (.iload_n 3, 1) := by decide +kernel
theorem dL_law_396 : decode cL_law 396 = .ok (.iconst 1, 1) := by decide +kernel
theorem dL_law_397 : decode cL_law 397 = .ok (.iadd, 1) := by decide +kernel
theorem dL_law_398 : decode cL_law 398 = .ok (.iaload, 1) := by decide +kernel
theorem dL_law_399 : decode cL_law 399 = .ok (.aload_n 0, 1) := by decide +kernel
theorem dL_law_400 : decode cL_law 400 = .ok (.iload_n 3, 1) := by decide +kernel
theorem dL_law_401 : decode cL_law 401 = .ok (.iconst 2, 1) := by decide +kernel
theorem dL_law_402 : decode cL_law 402 = .ok (.iadd, 1) := by decide +kernel
theorem dL_law_403 : decode cL_law 403 = .ok (.iaload, 1) := by decide +kernel
theorem dL_law_404 : decode cL_law 404 = .ok (.invokevirtual 50, 3) := by decide +kernel
theorem dL_law_407 : decode cL_law 407 = .ok (.if_icmp .eq 551, 3) := by decide +kernel
theorem dL_law_410 : decode cL_law 410 = .ok (.iconst 0, 1) := by decide +kernel
theorem dL_law_411 : decode cL_law 411 = .ok (.ireturn, 1) := by decide +kernel
theorem dL_law_412 : decode cL_law 412 = .ok (.aload_n 1, 1) := by decide +kernel
theorem dL_law_413 : decode cL_law 413 = .ok (.aload_n 0, 1) := by decide +kernel
theorem dL_law_414 : decode cL_law 414 = .ok (.iload_n 3, 1) := by decide +kernel
theorem dL_law_415 : decode cL_law 415 = .ok (.iconst 1, 1) := by decide +kernel
theorem dL_law_416 : decode cL_law 416 = .ok (.iadd, 1) := by decide +kernel
theorem dL_law_417 : decode cL_law 417 = .ok (.iaload, 1) := by decide +kernel
theorem dL_law_418 : decode cL_law 418 = .ok (.aload_n 0, 1) := by decide +kernel
theorem dL_law_419 : decode cL_law 419 = .ok (.iload_n 3, 1) := by decide +kernel
theorem dL_law_420 : decode cL_law 420 = .ok (.iconst 2, 1) := by decide +kernel
theorem dL_law_421 : decode cL_law 421 = .ok (.iadd, 1) := by decide +kernel
theorem dL_law_422 : decode cL_law 422 = .ok (.iaload, 1) := by decide +kernel
theorem dL_law_423 : decode cL_law 423 = .ok (.invokevirtual 51, 3) := by decide +kernel
theorem dL_law_426 : decode cL_law 426 = .ok (.aload_n 2, 1) := by decide +kernel
theorem dL_law_427 : decode cL_law 427 = .ok (.aload_n 0, 1) := by decide +kernel
theorem dL_law_428 : decode cL_law 428 = .ok (.iload_n 3, 1) := by decide +kernel
theorem dL_law_429 : decode cL_law 429 = .ok (.iconst 1, 1) := by decide +kernel
theorem dL_law_430 : decode cL_law 430 = .ok (.iadd, 1) := by decide +kernel
theorem dL_law_431 : decode cL_law 431 = .ok (.iaload, 1) := by decide +kernel
theorem dL_law_432 : decode cL_law 432 = .ok (.aload_n 0, 1) := by decide +kernel
theorem dL_law_433 : decode cL_law 433 = .ok (.iload_n 3, 1) := by decide +kernel
theorem dL_law_434 : decode cL_law 434 = .ok (.iconst 2, 1) := by decide +kernel
theorem dL_law_435 : decode cL_law 435 = .ok (.iadd, 1) := by decide +kernel
theorem dL_law_436 : decode cL_law 436 = .ok (.iaload, 1) := by decide +kernel
theorem dL_law_437 : decode cL_law 437 = .ok (.invokevirtual 54, 3) := by decide +kernel
theorem dL_law_440 : decode cL_law 440 = .ok (.if_icmp .eq 518, 3) := by decide +kernel
theorem dL_law_443 : decode cL_law 443 = .ok (.iconst 0, 1) := by decide +kernel
theorem dL_law_444 : decode cL_law 444 = .ok (.ireturn, 1) := by decide +kernel
theorem dL_law_445 : decode cL_law 445 = .ok (.aload_n 1, 1) := by decide +kernel
theorem dL_law_446 : decode cL_law 446 = .ok (.aload_n 0, 1) := by decide +kernel
theorem dL_law_447 : decode cL_law 447 = .ok (.iload_n 3, 1) := by decide +kernel
theorem dL_law_448 : decode cL_law 448 = .ok (.iconst 1, 1) := by decide +kernel
theorem dL_law_449 : decode cL_law 449 = .ok (.iadd, 1) := by decide +kernel
theorem dL_law_450 : decode cL_law 450 = .ok (.iaload, 1) := by decide +kernel
theorem dL_law_451 : decode cL_law 451 = .ok (.aload_n 0, 1) := by decide +kernel
theorem dL_law_452 : decode cL_law 452 = .ok (.iload_n 3, 1) := by decide +kernel
theorem dL_law_453 : decode cL_law 453 = .ok (.iconst 2, 1) := by decide +kernel
theorem dL_law_454 : decode cL_law 454 = .ok (.iadd, 1) := by decide +kernel
theorem dL_law_455 : decode cL_law 455 = .ok (.iaload, 1) := by decide +kernel
theorem dL_law_456 : decode cL_law 456 = .ok (.aload_n 0, 1) := by decide +kernel
theorem dL_law_457 : decode cL_law 457 = .ok (.iload_n 3, 1) := by decide +kernel
theorem dL_law_458 : decode cL_law 458 = .ok (.iconst 3, 1) := by decide +kernel
theorem dL_law_459 : decode cL_law 459 = .ok (.iadd, 1) := by decide +kernel
theorem dL_law_460 : decode cL_law 460 = .ok (.iaload, 1) := by decide +kernel
theorem dL_law_461 : decode cL_law 461 = .ok (.invokevirtual 55, 3) := by decide +kernel
theorem dL_law_464 : decode cL_law 464 = .ok (.aload_n 2, 1) := by decide +kernel
theorem dL_law_465 : decode cL_law 465 = .ok (.aload_n 0, 1) := by decide +kernel
theorem dL_law_466 : decode cL_law 466 = .ok (.iload_n 3, 1) := by decide +kernel
theorem dL_law_467 : decode cL_law 467 = .ok (.iconst 1, 1) := by decide +kernel
theorem dL_law_468 : decode cL_law 468 = .ok (.iadd, 1) := by decide +kernel
theorem dL_law_469 : decode cL_law 469 = .ok (.iaload, 1) := by decide +kernel
theorem dL_law_470 : decode cL_law 470 = .ok (.aload_n 0, 1) := by decide +kernel
theorem dL_law_471 : decode cL_law 471 = .ok (.iload_n 3, 1) := by decide +kernel
theorem dL_law_472 : decode cL_law 472 = .ok (.iconst 2, 1) := by decide +kernel
theorem dL_law_473 : decode cL_law 473 = .ok (.iadd, 1) := by decide +kernel
theorem dL_law_474 : decode cL_law 474 = .ok (.iaload, 1) := by decide +kernel
theorem dL_law_475 : decode cL_law 475 = .ok (.aload_n 0, 1) := by decide +kernel
theorem dL_law_476 : decode cL_law 476 = .ok (.iload_n 3, 1) := by decide +kernel
theorem dL_law_477 : decode cL_law 477 = .ok (.iconst 3, 1) := by decide +kernel
theorem dL_law_478 : decode cL_law 478 = .ok (.iadd, 1) := by decide +kernel
theorem dL_law_479 : decode cL_law 479 = .ok (.iaload, 1) := by decide +kernel
theorem dL_law_480 : decode cL_law 480 = .ok (.invokevirtual 59, 3) := by decide +kernel
theorem dL_law_483 : decode cL_law 483 = .ok (.if_icmp .eq 475, 3) := by decide +kernel
theorem dL_law_486 : decode cL_law 486 = .ok (.iconst 0, 1) := by decide +kernel
theorem dL_law_487 : decode cL_law 487 = .ok (.ireturn, 1) := by decide +kernel
theorem dL_law_488 : decode cL_law 488 = .ok (.aload_n 1, 1) := by decide +kernel
theorem dL_law_489 : decode cL_law 489 = .ok (.aload_n 0, 1) := by decide +kernel
theorem dL_law_490 : decode cL_law 490 = .ok (.iload_n 3, 1) := by decide +kernel
theorem dL_law_491 : decode cL_law 491 = .ok (.iconst 1, 1) := by decide +kernel
theorem dL_law_492 : decode cL_law 492 = .ok (.iadd, 1) := by decide +kernel
theorem dL_law_493 : decode cL_law 493 = .ok (.iaload, 1) := by decide +kernel
theorem dL_law_494 : decode cL_law 494 = .ok (.invokevirtual 60, 3) := by decide +kernel
theorem dL_law_497 : decode cL_law 497 = .ok (.aload_n 2, 1) := by decide +kernel
theorem dL_law_498 : decode cL_law 498 = .ok (.aload_n 0, 1) := by decide +kernel
theorem dL_law_499 : decode cL_law 499 = .ok (.iload_n 3, 1) := by decide +kernel
theorem dL_law_500 : decode cL_law 500 = .ok (.iconst 1, 1) := by decide +kernel
theorem dL_law_501 : decode cL_law 501 = .ok (.iadd, 1) := by decide +kernel
theorem dL_law_502 : decode cL_law 502 = .ok (.iaload, 1) := by decide +kernel
theorem dL_law_503 : decode cL_law 503 = .ok (.invokevirtual 63, 3) := by decide +kernel
theorem dL_law_506 : decode cL_law 506 = .ok (.if_icmp .eq 452, 3) := by decide +kernel
theorem dL_law_509 : decode cL_law 509 = .ok (.iconst 0, 1) := by decide +kernel
theorem dL_law_510 : decode cL_law 510 = .ok (.ireturn, 1) := by decide +kernel
theorem dL_law_511 : decode cL_law 511 = .ok (.aload_n 1, 1) := by decide +kernel
theorem dL_law_512 : decode cL_law 512 = .ok (.aload_n 0, 1) := by decide +kernel
theorem dL_law_513 : decode cL_law 513 = .ok (.iload_n 3, 1) := by decide +kernel
theorem dL_law_514 : decode cL_law 514 = .ok (.iconst 1, 1) := by decide +kernel
theorem dL_law_515 : decode cL_law 515 = .ok (.iadd, 1) := by decide +kernel
theorem dL_law_516 : decode cL_law 516 = .ok (.iaload, 1) := by decide +kernel
theorem dL_law_517 : decode cL_law 517 = .ok (.invokevirtual 64, 3) := by decide +kernel
theorem dL_law_520 : decode cL_law 520 = .ok (.aload_n 2, 1) := by decide +kernel
theorem dL_law_521 : decode cL_law 521 = .ok (.aload_n 0, 1) := by decide +kernel
theorem dL_law_522 : decode cL_law 522 = .ok (.iload_n 3, 1) := by decide +kernel
theorem dL_law_523 : decode cL_law 523 = .ok (.iconst 1, 1) := by decide +kernel
theorem dL_law_524 : decode cL_law 524 = .ok (.iadd, 1) := by decide +kernel
theorem dL_law_525 : decode cL_law 525 = .ok (.iaload, 1) := by decide +kernel
theorem dL_law_526 : decode cL_law 526 = .ok (.invokevirtual 67, 3) := by decide +kernel
theorem dL_law_529 : decode cL_law 529 = .ok (.if_icmp .eq 429, 3) := by decide +kernel
theorem dL_law_532 : decode cL_law 532 = .ok (.iconst 0, 1) := by decide +kernel
theorem dL_law_533 : decode cL_law 533 = .ok (.ireturn, 1) := by decide +kernel
theorem dL_law_534 : decode cL_law 534 = .ok (.aload_n 1, 1) := by decide +kernel
theorem dL_law_535 : decode cL_law 535 = .ok (.aload_n 0, 1) := by decide +kernel
theorem dL_law_536 : decode cL_law 536 = .ok (.iload_n 3, 1) := by decide +kernel
theorem dL_law_537 : decode cL_law 537 = .ok (.iconst 1, 1) := by decide +kernel
theorem dL_law_538 : decode cL_law 538 = .ok (.iadd, 1) := by decide +kernel
theorem dL_law_539 : decode cL_law 539 = .ok (.iaload, 1) := by decide +kernel
theorem dL_law_540 : decode cL_law 540 = .ok (.aload_n 0, 1) := by decide +kernel
theorem dL_law_541 : decode cL_law 541 = .ok (.iload_n 3, 1) := by decide +kernel
theorem dL_law_542 : decode cL_law 542 = .ok (.iconst 2, 1) := by decide +kernel
theorem dL_law_543 : decode cL_law 543 = .ok (.iadd, 1) := by decide +kernel
theorem dL_law_544 : decode cL_law 544 = .ok (.iaload, 1) := by decide +kernel
theorem dL_law_545 : decode cL_law 545 = .ok (.invokevirtual 68, 3) := by decide +kernel
theorem dL_law_548 : decode cL_law 548 = .ok (.aload_n 2, 1) := by decide +kernel
theorem dL_law_549 : decode cL_law 549 = .ok (.aload_n 0, 1) := by decide +kernel
theorem dL_law_550 : decode cL_law 550 = .ok (.iload_n 3, 1) := by decide +kernel
theorem dL_law_551 : decode cL_law 551 = .ok (.iconst 1, 1) := by decide +kernel
theorem dL_law_552 : decode cL_law 552 = .ok (.iadd, 1) := by decide +kernel
theorem dL_law_553 : decode cL_law 553 = .ok (.iaload, 1) := by decide +kernel
theorem dL_law_554 : decode cL_law 554 = .ok (.aload_n 0, 1) := by decide +kernel
theorem dL_law_555 : decode cL_law 555 = .ok (.iload_n 3, 1) := by decide +kernel
theorem dL_law_556 : decode cL_law 556 = .ok (.iconst 2, 1) := by decide +kernel
theorem dL_law_557 : decode cL_law 557 = .ok (.iadd, 1) := by decide +kernel
theorem dL_law_558 : decode cL_law 558 = .ok (.iaload, 1) := by decide +kernel
theorem dL_law_559 : decode cL_law 559 = .ok (.invokevirtual 71, 3) := by decide +kernel
theorem dL_law_562 : decode cL_law 562 = .ok (.if_icmp .eq 396, 3) := by decide +kernel
theorem dL_law_565 : decode cL_law 565 = .ok (.iconst 0, 1) := by decide +kernel
theorem dL_law_566 : decode cL_law 566 = .ok (.ireturn, 1) := by decide +kernel
theorem dL_law_567 : decode cL_law 567 = .ok (.aload_n 1, 1) := by decide +kernel
theorem dL_law_568 : decode cL_law 568 = .ok (.aload_n 0, 1) := by decide +kernel
theorem dL_law_569 : decode cL_law 569 = .ok (.iload_n 3, 1) := by decide +kernel
theorem dL_law_570 : decode cL_law 570 = .ok (.iconst 1, 1) := by decide +kernel
theorem dL_law_571 : decode cL_law 571 = .ok (.iadd, 1) := by decide +kernel
theorem dL_law_572 : decode cL_law 572 = .ok (.iaload, 1) := by decide +kernel
theorem dL_law_573 : decode cL_law 573 = .ok (.aload_n 0, 1) := by decide +kernel
theorem dL_law_574 : decode cL_law 574 = .ok (.iload_n 3, 1) := by decide +kernel
theorem dL_law_575 : decode cL_law 575 = .ok (.iconst 2, 1) := by decide +kernel
theorem dL_law_576 : decode cL_law 576 = .ok (.iadd, 1) := by decide +kernel
theorem dL_law_577 : decode cL_law 577 = .ok (.iaload, 1) := by decide +kernel
theorem dL_law_578 : decode cL_law 578 = .ok (.invokevirtual 72, 3) := by decide +kernel
theorem dL_law_581 : decode cL_law 581 = .ok (.aload_n 2, 1) := by decide +kernel
theorem dL_law_582 : decode cL_law 582 = .ok (.aload_n 0, 1) := by decide +kernel
theorem dL_law_583 : decode cL_law 583 = .ok (.iload_n 3, 1) := by decide +kernel
theorem dL_law_584 : decode cL_law 584 = .ok (.iconst 1, 1) := by decide +kernel
theorem dL_law_585 : decode cL_law 585 = .ok (.iadd, 1) := by decide +kernel
theorem dL_law_586 : decode cL_law 586 = .ok (.iaload, 1) := by decide +kernel
theorem dL_law_587 : decode cL_law 587 = .ok (.aload_n 0, 1) := by decide +kernel
theorem dL_law_588 : decode cL_law 588 = .ok (.iload_n 3, 1) := by decide +kernel
theorem dL_law_589 : decode cL_law 589 = .ok (.iconst 2, 1) := by decide +kernel
theorem dL_law_590 : decode cL_law 590 = .ok (.iadd, 1) := by decide +kernel
theorem dL_law_591 : decode cL_law 591 = .ok (.iaload, 1) := by decide +kernel
theorem dL_law_592 : decode cL_law 592 = .ok (.invokevirtual 75, 3) := by decide +kernel
theorem dL_law_595 : decode cL_law 595 = .ok (.if_icmp .eq 363, 3) := by decide +kernel
theorem dL_law_598 : decode cL_law 598 = .ok (.iconst 0, 1) := by decide +kernel
theorem dL_law_599 : decode cL_law 599 = .ok (.ireturn, 1) := by decide +kernel
theorem dL_law_600 : decode cL_law 600 = .ok (.aload_n 1, 1) := by decide +kernel
theorem dL_law_601 : decode cL_law 601 = .ok (.aload_n 0, 1) := by decide +kernel
theorem dL_law_602 : decode cL_law 602 = .ok (.iload_n 3, 1) := by decide +kernel
theorem dL_law_603 : decode cL_law 603 = .ok (.iconst 1, 1) := by decide +kernel
theorem dL_law_604 : decode cL_law 604 = .ok (.iadd, 1) := by decide +kernel
theorem dL_law_605 : decode cL_law 605 = .ok (.iaload, 1) := by decide +kernel
theorem dL_law_606 : decode cL_law 606 = .ok (.aload_n 0, 1) := by decide +kernel
theorem dL_law_607 : decode cL_law 607 = .ok (.iload_n 3, 1) := by decide +kernel
theorem dL_law_608 : decode cL_law 608 = .ok (.iconst 2, 1) := by decide +kernel
theorem dL_law_609 : decode cL_law 609 = .ok (.iadd, 1) := by decide +kernel
theorem dL_law_610 : decode cL_law 610 = .ok (.iaload, 1) := by decide +kernel
theorem dL_law_611 : decode cL_law 611 = .ok (.invokevirtual 76, 3) := by decide +kernel
theorem dL_law_614 : decode cL_law 614 = .ok (.aload_n 2, 1) := by decide +kernel
theorem dL_law_615 : decode cL_law 615 = .ok (.aload_n 0, 1) := by decide +kernel
theorem dL_law_616 : decode cL_law 616 = .ok (.iload_n 3, 1) := by decide +kernel
theorem dL_law_617 : decode cL_law 617 = .ok (.iconst 1, 1) := by decide +kernel
theorem dL_law_618 : decode cL_law 618 = .ok (.iadd, 1) := by decide +kernel
theorem dL_law_619 : decode cL_law 619 = .ok (.iaload, 1) := by decide +kernel
theorem dL_law_620 : decode cL_law 620 = .ok (.aload_n 0, 1) := by decide +kernel
theorem dL_law_621 : decode cL_law 621 = .ok (.iload_n 3, 1) := by decide +kernel
theorem dL_law_622 : decode cL_law 622 = .ok (.iconst 2, 1) := by decide +kernel
theorem dL_law_623 : decode cL_law 623 = .ok (.iadd, 1) := by decide +kernel
theorem dL_law_624 : decode cL_law 624 = .ok (.iaload, 1) := by decide +kernel
theorem dL_law_625 : decode cL_law 625 = .ok (.invokevirtual 79, 3) := by decide +kernel
theorem dL_law_628 : decode cL_law 628 = .ok (.if_icmp .eq 330, 3) := by decide +kernel
theorem dL_law_631 : decode cL_law 631 = .ok (.iconst 0, 1) := by decide +kernel
theorem dL_law_632 : decode cL_law 632 = .ok (.ireturn, 1) := by decide +kernel
theorem dL_law_633 : decode cL_law 633 = .ok (.aload_n 1, 1) := by decide +kernel
theorem dL_law_634 : decode cL_law 634 = .ok (.aload_n 0, 1) := by decide +kernel
theorem dL_law_635 : decode cL_law 635 = .ok (.iload_n 3, 1) := by decide +kernel
theorem dL_law_636 : decode cL_law 636 = .ok (.iconst 1, 1) := by decide +kernel
theorem dL_law_637 : decode cL_law 637 = .ok (.iadd, 1) := by decide +kernel
theorem dL_law_638 : decode cL_law 638 = .ok (.iaload, 1) := by decide +kernel
theorem dL_law_639 : decode cL_law 639 = .ok (.invokevirtual 80, 3) := by decide +kernel
theorem dL_law_642 : decode cL_law 642 = .ok (.aload_n 2, 1) := by decide +kernel
theorem dL_law_643 : decode cL_law 643 = .ok (.aload_n 0, 1) := by decide +kernel
theorem dL_law_644 : decode cL_law 644 = .ok (.iload_n 3, 1) := by decide +kernel
theorem dL_law_645 : decode cL_law 645 = .ok (.iconst 1, 1) := by decide +kernel
theorem dL_law_646 : decode cL_law 646 = .ok (.iadd, 1) := by decide +kernel
theorem dL_law_647 : decode cL_law 647 = .ok (.iaload, 1) := by decide +kernel
theorem dL_law_648 : decode cL_law 648 = .ok (.invokevirtual 83, 3) := by decide +kernel
theorem dL_law_651 : decode cL_law 651 = .ok (.if_icmp .eq 307, 3) := by decide +kernel
theorem dL_law_654 : decode cL_law 654 = .ok (.iconst 0, 1) := by decide +kernel
theorem dL_law_655 : decode cL_law 655 = .ok (.ireturn, 1) := by decide +kernel
theorem dL_law_656 : decode cL_law 656 = .ok (.aload_n 1, 1) := by decide +kernel
theorem dL_law_657 : decode cL_law 657 = .ok (.invokevirtual 84, 3) := by decide +kernel
theorem dL_law_660 : decode cL_law 660 = .ok (.aload_n 2, 1) := by decide +kernel
theorem dL_law_661 : decode cL_law 661 = .ok (.invokevirtual 87, 3) := by decide +kernel
theorem dL_law_664 : decode cL_law 664 = .ok (.if_icmp .eq 294, 3) := by decide +kernel
theorem dL_law_667 : decode cL_law 667 = .ok (.iconst 0, 1) := by decide +kernel
theorem dL_law_668 : decode cL_law 668 = .ok (.ireturn, 1) := by decide +kernel
theorem dL_law_669 : decode cL_law 669 = .ok (.aload_n 1, 1) := by decide +kernel
theorem dL_law_670 : decode cL_law 670 = .ok (.invokevirtual 88, 3) := by decide +kernel
theorem dL_law_673 : decode cL_law 673 = .ok (.aload_n 2, 1) := by decide +kernel
theorem dL_law_674 : decode cL_law 674 = .ok (.invokevirtual 91, 3) := by decide +kernel
theorem dL_law_677 : decode cL_law 677 = .ok (.if_icmp .eq 281, 3) := by decide +kernel
theorem dL_law_680 : decode cL_law 680 = .ok (.iconst 0, 1) := by decide +kernel
theorem dL_law_681 : decode cL_law 681 = .ok (.ireturn, 1) := by decide +kernel
theorem dL_law_682 : decode cL_law 682 = .ok (.aload_n 1, 1) := by decide +kernel
theorem dL_law_683 : decode cL_law 683 = .ok (.aload_n 0, 1) := by decide +kernel
theorem dL_law_684 : decode cL_law 684 = .ok (.iload_n 3, 1) := by decide +kernel
theorem dL_law_685 : decode cL_law 685 = .ok (.iconst 1, 1) := by decide +kernel
theorem dL_law_686 : decode cL_law 686 = .ok (.iadd, 1) := by decide +kernel
theorem dL_law_687 : decode cL_law 687 = .ok (.iaload, 1) := by decide +kernel
theorem dL_law_688 : decode cL_law 688 = .ok (.invokevirtual 92, 3) := by decide +kernel
theorem dL_law_691 : decode cL_law 691 = .ok (.aload_n 2, 1) := by decide +kernel
theorem dL_law_692 : decode cL_law 692 = .ok (.aload_n 0, 1) := by decide +kernel
theorem dL_law_693 : decode cL_law 693 = .ok (.iload_n 3, 1) := by decide +kernel
theorem dL_law_694 : decode cL_law 694 = .ok (.iconst 1, 1) := by decide +kernel
theorem dL_law_695 : decode cL_law 695 = .ok (.iadd, 1) := by decide +kernel
theorem dL_law_696 : decode cL_law 696 = .ok (.iaload, 1) := by decide +kernel
theorem dL_law_697 : decode cL_law 697 = .ok (.invokevirtual 95, 3) := by decide +kernel
theorem dL_law_700 : decode cL_law 700 = .ok (.if_icmp .eq 258, 3) := by decide +kernel
theorem dL_law_703 : decode cL_law 703 = .ok (.iconst 0, 1) := by decide +kernel
theorem dL_law_704 : decode cL_law 704 = .ok (.ireturn, 1) := by decide +kernel
theorem dL_law_705 : decode cL_law 705 = .ok (.aload_n 1, 1) := by decide +kernel
theorem dL_law_706 : decode cL_law 706 = .ok (.invokevirtual 96, 3) := by decide +kernel
theorem dL_law_709 : decode cL_law 709 = .ok (.aload_n 2, 1) := by decide +kernel
theorem dL_law_710 : decode cL_law 710 = .ok (.invokevirtual 99, 3) := by decide +kernel
theorem dL_law_713 : decode cL_law 713 = .ok (.if_icmp .eq 245, 3) := by decide +kernel
theorem dL_law_716 : decode cL_law 716 = .ok (.iconst 0, 1) := by decide +kernel
theorem dL_law_717 : decode cL_law 717 = .ok (.ireturn, 1) := by decide +kernel
theorem dL_law_718 : decode cL_law 718 = .ok (.aload_n 1, 1) := by decide +kernel
theorem dL_law_719 : decode cL_law 719 = .ok (.aload_n 0, 1) := by decide +kernel
theorem dL_law_720 : decode cL_law 720 = .ok (.iload_n 3, 1) := by decide +kernel
theorem dL_law_721 : decode cL_law 721 = .ok (.iconst 1, 1) := by decide +kernel
theorem dL_law_722 : decode cL_law 722 = .ok (.iadd, 1) := by decide +kernel
theorem dL_law_723 : decode cL_law 723 = .ok (.iaload, 1) := by decide +kernel
theorem dL_law_724 : decode cL_law 724 = .ok (.aload_n 0, 1) := by decide +kernel
theorem dL_law_725 : decode cL_law 725 = .ok (.iload_n 3, 1) := by decide +kernel
theorem dL_law_726 : decode cL_law 726 = .ok (.iconst 2, 1) := by decide +kernel
theorem dL_law_727 : decode cL_law 727 = .ok (.iadd, 1) := by decide +kernel
theorem dL_law_728 : decode cL_law 728 = .ok (.iaload, 1) := by decide +kernel
theorem dL_law_729 : decode cL_law 729 = .ok (.aload_n 0, 1) := by decide +kernel
theorem dL_law_730 : decode cL_law 730 = .ok (.iload_n 3, 1) := by decide +kernel
theorem dL_law_731 : decode cL_law 731 = .ok (.iconst 3, 1) := by decide +kernel
theorem dL_law_732 : decode cL_law 732 = .ok (.iadd, 1) := by decide +kernel
theorem dL_law_733 : decode cL_law 733 = .ok (.iaload, 1) := by decide +kernel
theorem dL_law_734 : decode cL_law 734 = .ok (.invokevirtual 100, 3) := by decide +kernel
theorem dL_law_737 : decode cL_law 737 = .ok (.aload_n 2, 1) := by decide +kernel
theorem dL_law_738 : decode cL_law 738 = .ok (.aload_n 0, 1) := by decide +kernel
theorem dL_law_739 : decode cL_law 739 = .ok (.iload_n 3, 1) := by decide +kernel
theorem dL_law_740 : decode cL_law 740 = .ok (.iconst 1, 1) := by decide +kernel
theorem dL_law_741 : decode cL_law 741 = .ok (.iadd, 1) := by decide +kernel
theorem dL_law_742 : decode cL_law 742 = .ok (.iaload, 1) := by decide +kernel
theorem dL_law_743 : decode cL_law 743 = .ok (.aload_n 0, 1) := by decide +kernel
theorem dL_law_744 : decode cL_law 744 = .ok (.iload_n 3, 1) := by decide +kernel
theorem dL_law_745 : decode cL_law 745 = .ok (.iconst 2, 1) := by decide +kernel
theorem dL_law_746 : decode cL_law 746 = .ok (.iadd, 1) := by decide +kernel
theorem dL_law_747 : decode cL_law 747 = .ok (.iaload, 1) := by decide +kernel
theorem dL_law_748 : decode cL_law 748 = .ok (.aload_n 0, 1) := by decide +kernel
theorem dL_law_749 : decode cL_law 749 = .ok (.iload_n 3, 1) := by decide +kernel
theorem dL_law_750 : decode cL_law 750 = .ok (.iconst 3, 1) := by decide +kernel
theorem dL_law_751 : decode cL_law 751 = .ok (.iadd, 1) := by decide +kernel
theorem dL_law_752 : decode cL_law 752 = .ok (.iaload, 1) := by decide +kernel
theorem dL_law_753 : decode cL_law 753 = .ok (.invokevirtual 103, 3) := by decide +kernel
theorem dL_law_756 : decode cL_law 756 = .ok (.if_icmp .eq 202, 3) := by decide +kernel
theorem dL_law_759 : decode cL_law 759 = .ok (.iconst 0, 1) := by decide +kernel
theorem dL_law_760 : decode cL_law 760 = .ok (.ireturn, 1) := by decide +kernel
theorem dL_law_761 : decode cL_law 761 = .ok (.aload_n 1, 1) := by decide +kernel
theorem dL_law_762 : decode cL_law 762 = .ok (.aload_n 0, 1) := by decide +kernel
theorem dL_law_763 : decode cL_law 763 = .ok (.iload_n 3, 1) := by decide +kernel
theorem dL_law_764 : decode cL_law 764 = .ok (.iconst 1, 1) := by decide +kernel
theorem dL_law_765 : decode cL_law 765 = .ok (.iadd, 1) := by decide +kernel
theorem dL_law_766 : decode cL_law 766 = .ok (.iaload, 1) := by decide +kernel
theorem dL_law_767 : decode cL_law 767 = .ok (.invokevirtual 104, 3) := by decide +kernel
theorem dL_law_770 : decode cL_law 770 = .ok (.aload_n 2, 1) := by decide +kernel
theorem dL_law_771 : decode cL_law 771 = .ok (.aload_n 0, 1) := by decide +kernel
theorem dL_law_772 : decode cL_law 772 = .ok (.iload_n 3, 1) := by decide +kernel
theorem dL_law_773 : decode cL_law 773 = .ok (.iconst 1, 1) := by decide +kernel
theorem dL_law_774 : decode cL_law 774 = .ok (.iadd, 1) := by decide +kernel
theorem dL_law_775 : decode cL_law 775 = .ok (.iaload, 1) := by decide +kernel
theorem dL_law_776 : decode cL_law 776 = .ok (.invokevirtual 107, 3) := by decide +kernel
theorem dL_law_779 : decode cL_law 779 = .ok (.if_icmp .eq 179, 3) := by decide +kernel
theorem dL_law_782 : decode cL_law 782 = .ok (.iconst 0, 1) := by decide +kernel
theorem dL_law_783 : decode cL_law 783 = .ok (.ireturn, 1) := by decide +kernel
theorem dL_law_784 : decode cL_law 784 = .ok (.aload_n 1, 1) := by decide +kernel
theorem dL_law_785 : decode cL_law 785 = .ok (.invokevirtual 108, 3) := by decide +kernel
theorem dL_law_788 : decode cL_law 788 = .ok (.aload_n 2, 1) := by decide +kernel
theorem dL_law_789 : decode cL_law 789 = .ok (.invokevirtual 111, 3) := by decide +kernel
theorem dL_law_792 : decode cL_law 792 = .ok (.if_icmp .eq 166, 3) := by decide +kernel
theorem dL_law_795 : decode cL_law 795 = .ok (.iconst 0, 1) := by decide +kernel
theorem dL_law_796 : decode cL_law 796 = .ok (.ireturn, 1) := by decide +kernel
theorem dL_law_797 : decode cL_law 797 = .ok (.aload_n 1, 1) := by decide +kernel
theorem dL_law_798 : decode cL_law 798 = .ok (.aload_n 0, 1) := by decide +kernel
theorem dL_law_799 : decode cL_law 799 = .ok (.iload_n 3, 1) := by decide +kernel
theorem dL_law_800 : decode cL_law 800 = .ok (.iconst 1, 1) := by decide +kernel
theorem dL_law_801 : decode cL_law 801 = .ok (.iadd, 1) := by decide +kernel
theorem dL_law_802 : decode cL_law 802 = .ok (.iaload, 1) := by decide +kernel
theorem dL_law_803 : decode cL_law 803 = .ok (.aload_n 0, 1) := by decide +kernel
theorem dL_law_804 : decode cL_law 804 = .ok (.iload_n 3, 1) := by decide +kernel
theorem dL_law_805 : decode cL_law 805 = .ok (.iconst 2, 1) := by decide +kernel
theorem dL_law_806 : decode cL_law 806 = .ok (.iadd, 1) := by decide +kernel
theorem dL_law_807 : decode cL_law 807 = .ok (.iaload, 1) := by decide +kernel
theorem dL_law_808 : decode cL_law 808 = .ok (.aload_n 0, 1) := by decide +kernel
theorem dL_law_809 : decode cL_law 809 = .ok (.iload_n 3, 1) := by decide +kernel
theorem dL_law_810 : decode cL_law 810 = .ok (.iconst 3, 1) := by decide +kernel
theorem dL_law_811 : decode cL_law 811 = .ok (.iadd, 1) := by decide +kernel
theorem dL_law_812 : decode cL_law 812 = .ok (.iaload, 1) := by decide +kernel
theorem dL_law_813 : decode cL_law 813 = .ok (.invokevirtual 112, 3) := by decide +kernel
theorem dL_law_816 : decode cL_law 816 = .ok (.aload_n 2, 1) := by decide +kernel
theorem dL_law_817 : decode cL_law 817 = .ok (.aload_n 0, 1) := by decide +kernel
theorem dL_law_818 : decode cL_law 818 = .ok (.iload_n 3, 1) := by decide +kernel
theorem dL_law_819 : decode cL_law 819 = .ok (.iconst 1, 1) := by decide +kernel
theorem dL_law_820 : decode cL_law 820 = .ok (.iadd, 1) := by decide +kernel
theorem dL_law_821 : decode cL_law 821 = .ok (.iaload, 1) := by decide +kernel
theorem dL_law_822 : decode cL_law 822 = .ok (.aload_n 0, 1) := by decide +kernel
theorem dL_law_823 : decode cL_law 823 = .ok (.iload_n 3, 1) := by decide +kernel
theorem dL_law_824 : decode cL_law 824 = .ok (.iconst 2, 1) := by decide +kernel
theorem dL_law_825 : decode cL_law 825 = .ok (.iadd, 1) := by decide +kernel
theorem dL_law_826 : decode cL_law 826 = .ok (.iaload, 1) := by decide +kernel
theorem dL_law_827 : decode cL_law 827 = .ok (.aload_n 0, 1) := by decide +kernel
theorem dL_law_828 : decode cL_law 828 = .ok (.iload_n 3, 1) := by decide +kernel
theorem dL_law_829 : decode cL_law 829 = .ok (.iconst 3, 1) := by decide +kernel
theorem dL_law_830 : decode cL_law 830 = .ok (.iadd, 1) := by decide +kernel
theorem dL_law_831 : decode cL_law 831 = .ok (.iaload, 1) := by decide +kernel
theorem dL_law_832 : decode cL_law 832 = .ok (.invokevirtual 115, 3) := by decide +kernel
theorem dL_law_835 : decode cL_law 835 = .ok (.if_icmp .eq 123, 3) := by decide +kernel
theorem dL_law_838 : decode cL_law 838 = .ok (.iconst 0, 1) := by decide +kernel
theorem dL_law_839 : decode cL_law 839 = .ok (.ireturn, 1) := by decide +kernel
theorem dL_law_840 : decode cL_law 840 = .ok (.aload_n 1, 1) := by decide +kernel
theorem dL_law_841 : decode cL_law 841 = .ok (.invokevirtual 116, 3) := by decide +kernel
theorem dL_law_844 : decode cL_law 844 = .ok (.aload_n 2, 1) := by decide +kernel
theorem dL_law_845 : decode cL_law 845 = .ok (.invokevirtual 119, 3) := by decide +kernel
theorem dL_law_848 : decode cL_law 848 = .ok (.if_icmp .eq 110, 3) := by decide +kernel
theorem dL_law_851 : decode cL_law 851 = .ok (.iconst 0, 1) := by decide +kernel
theorem dL_law_852 : decode cL_law 852 = .ok (.ireturn, 1) := by decide +kernel
theorem dL_law_853 : decode cL_law 853 = .ok (.aload_n 1, 1) := by decide +kernel
theorem dL_law_854 : decode cL_law 854 = .ok (.invokevirtual 120, 3) := by decide +kernel
theorem dL_law_857 : decode cL_law 857 = .ok (.aload_n 2, 1) := by decide +kernel
theorem dL_law_858 : decode cL_law 858 = .ok (.invokevirtual 123, 3) := by decide +kernel
theorem dL_law_861 : decode cL_law 861 = .ok (.if_icmp .eq 97, 3) := by decide +kernel
theorem dL_law_864 : decode cL_law 864 = .ok (.iconst 0, 1) := by decide +kernel
theorem dL_law_865 : decode cL_law 865 = .ok (.ireturn, 1) := by decide +kernel
theorem dL_law_866 : decode cL_law 866 = .ok (.aload_n 1, 1) := by decide +kernel
theorem dL_law_867 : decode cL_law 867 = .ok (.aload_n 0, 1) := by decide +kernel
theorem dL_law_868 : decode cL_law 868 = .ok (.iload_n 3, 1) := by decide +kernel
theorem dL_law_869 : decode cL_law 869 = .ok (.iconst 1, 1) := by decide +kernel
theorem dL_law_870 : decode cL_law 870 = .ok (.iadd, 1) := by decide +kernel
theorem dL_law_871 : decode cL_law 871 = .ok (.iaload, 1) := by decide +kernel
theorem dL_law_872 : decode cL_law 872 = .ok (.invokevirtual 124, 3) := by decide +kernel
theorem dL_law_875 : decode cL_law 875 = .ok (.aload_n 2, 1) := by decide +kernel
theorem dL_law_876 : decode cL_law 876 = .ok (.aload_n 0, 1) := by decide +kernel
theorem dL_law_877 : decode cL_law 877 = .ok (.iload_n 3, 1) := by decide +kernel
theorem dL_law_878 : decode cL_law 878 = .ok (.iconst 1, 1) := by decide +kernel
theorem dL_law_879 : decode cL_law 879 = .ok (.iadd, 1) := by decide +kernel
theorem dL_law_880 : decode cL_law 880 = .ok (.iaload, 1) := by decide +kernel
theorem dL_law_881 : decode cL_law 881 = .ok (.invokevirtual 127, 3) := by decide +kernel
theorem dL_law_884 : decode cL_law 884 = .ok (.if_icmp .eq 74, 3) := by decide +kernel
theorem dL_law_887 : decode cL_law 887 = .ok (.iconst 0, 1) := by decide +kernel
theorem dL_law_888 : decode cL_law 888 = .ok (.ireturn, 1) := by decide +kernel
theorem dL_law_889 : decode cL_law 889 = .ok (.aload_n 1, 1) := by decide +kernel
theorem dL_law_890 : decode cL_law 890 = .ok (.aload_n 0, 1) := by decide +kernel
theorem dL_law_891 : decode cL_law 891 = .ok (.iload_n 3, 1) := by decide +kernel
theorem dL_law_892 : decode cL_law 892 = .ok (.iconst 1, 1) := by decide +kernel
theorem dL_law_893 : decode cL_law 893 = .ok (.iadd, 1) := by decide +kernel
theorem dL_law_894 : decode cL_law 894 = .ok (.iaload, 1) := by decide +kernel
theorem dL_law_895 : decode cL_law 895 = .ok (.invokevirtual 128, 3) := by decide +kernel
theorem dL_law_898 : decode cL_law 898 = .ok (.aload_n 2, 1) := by decide +kernel
theorem dL_law_899 : decode cL_law 899 = .ok (.aload_n 0, 1) := by decide +kernel
theorem dL_law_900 : decode cL_law 900 = .ok (.iload_n 3, 1) := by decide +kernel
theorem dL_law_901 : decode cL_law 901 = .ok (.iconst 1, 1) := by decide +kernel
theorem dL_law_902 : decode cL_law 902 = .ok (.iadd, 1) := by decide +kernel
theorem dL_law_903 : decode cL_law 903 = .ok (.iaload, 1) := by decide +kernel
theorem dL_law_904 : decode cL_law 904 = .ok (.invokevirtual 131, 3) := by decide +kernel
theorem dL_law_907 : decode cL_law 907 = .ok (.if_icmp .eq 51, 3) := by decide +kernel
theorem dL_law_910 : decode cL_law 910 = .ok (.iconst 0, 1) := by decide +kernel
theorem dL_law_911 : decode cL_law 911 = .ok (.ireturn, 1) := by decide +kernel
theorem dL_law_912 : decode cL_law 912 = .ok (.aload_n 1, 1) := by decide +kernel
theorem dL_law_913 : decode cL_law 913 = .ok (.aload_n 0, 1) := by decide +kernel
theorem dL_law_914 : decode cL_law 914 = .ok (.iload_n 3, 1) := by decide +kernel
theorem dL_law_915 : decode cL_law 915 = .ok (.iconst 1, 1) := by decide +kernel
theorem dL_law_916 : decode cL_law 916 = .ok (.iadd, 1) := by decide +kernel
theorem dL_law_917 : decode cL_law 917 = .ok (.iaload, 1) := by decide +kernel
theorem dL_law_918 : decode cL_law 918 = .ok (.invokevirtual 132, 3) := by decide +kernel
theorem dL_law_921 : decode cL_law 921 = .ok (.aload_n 2, 1) := by decide +kernel
theorem dL_law_922 : decode cL_law 922 = .ok (.aload_n 0, 1) := by decide +kernel
theorem dL_law_923 : decode cL_law 923 = .ok (.iload_n 3, 1) := by decide +kernel
theorem dL_law_924 : decode cL_law 924 = .ok (.iconst 1, 1) := by decide +kernel
theorem dL_law_925 : decode cL_law 925 = .ok (.iadd, 1) := by decide +kernel
theorem dL_law_926 : decode cL_law 926 = .ok (.iaload, 1) := by decide +kernel
theorem dL_law_927 : decode cL_law 927 = .ok (.invokevirtual 135, 3) := by decide +kernel
theorem dL_law_930 : decode cL_law 930 = .ok (.if_icmp .eq 28, 3) := by decide +kernel
theorem dL_law_933 : decode cL_law 933 = .ok (.iconst 0, 1) := by decide +kernel
theorem dL_law_934 : decode cL_law 934 = .ok (.ireturn, 1) := by decide +kernel
theorem dL_law_935 : decode cL_law 935 = .ok (.aload_n 1, 1) := by decide +kernel
theorem dL_law_936 : decode cL_law 936 = .ok (.aload_n 0, 1) := by decide +kernel
theorem dL_law_937 : decode cL_law 937 = .ok (.iload_n 3, 1) := by decide +kernel
theorem dL_law_938 : decode cL_law 938 = .ok (.iconst 1, 1) := by decide +kernel
theorem dL_law_939 : decode cL_law 939 = .ok (.iadd, 1) := by decide +kernel
theorem dL_law_940 : decode cL_law 940 = .ok (.iaload, 1) := by decide +kernel
theorem dL_law_941 : decode cL_law 941 = .ok (.invokevirtual 136, 3) := by decide +kernel
theorem dL_law_944 : decode cL_law 944 = .ok (.aload_n 2, 1) := by decide +kernel
theorem dL_law_945 : decode cL_law 945 = .ok (.aload_n 0, 1) := by decide +kernel
theorem dL_law_946 : decode cL_law 946 = .ok (.iload_n 3, 1) := by decide +kernel
theorem dL_law_947 : decode cL_law 947 = .ok (.iconst 1, 1) := by decide +kernel
theorem dL_law_948 : decode cL_law 948 = .ok (.iadd, 1) := by decide +kernel
theorem dL_law_949 : decode cL_law 949 = .ok (.iaload, 1) := by decide +kernel
theorem dL_law_950 : decode cL_law 950 = .ok (.invokevirtual 139, 3) := by decide +kernel
theorem dL_law_953 : decode cL_law 953 = .ok (.if_icmp .eq 5, 3) := by decide +kernel
theorem dL_law_956 : decode cL_law 956 = .ok (.iconst 0, 1) := by decide +kernel
theorem dL_law_957 : decode cL_law 957 = .ok (.ireturn, 1) := by decide +kernel
theorem dL_law_958 : decode cL_law 958 = .ok (.iinc 3 4, 3) := by decide +kernel
theorem dL_law_961 : decode cL_law 961 = .ok (.goto (-943), 3) := by decide +kernel
theorem dL_law_964 : decode cL_law 964 = .ok (.iconst 1, 1) := by decide +kernel
theorem dL_law_965 : decode cL_law 965 = .ok (.ireturn, 1) := by decide +kernel
