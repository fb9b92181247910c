theorem dX0_init_0 : decode cX0_init 0 = .ok (.aload_n 0, 1) := by decide +kernel
theorem dX0_init_1 : decode cX0_init 1 = .ok (.iload_n 1, 1) := by decide +kernel
theorem dX0_init_2 : decode cX0_init 2 = .ok (.iload_n 2, 1) := by decide +kernel
theorem dX0_init_3 : decode cX0_init 3 = .ok (.aload_n 3, 1) := by decide +kernel
theorem dX0_init_4 : decode cX0_init 4 = .ok (.invokespecial 1, 3) := by decide +kernel
theorem dX0_init_7 : decode cX0_init 7 = .ok (.return_, 1) := by decide +kernel
theorem dX0_shares_0 : decode cX0_shares 0 = .ok (.aload_n 0, 1) := by decide +kernel
theorem dX0_shares_1 : decode cX0_shares 1 = .ok (.getfield 7, 3) := by decide +kernel
theorem dX0_shares_4 : decode cX0_shares 4 = .ok (.bipush 50, 2) := by decide +kernel
theorem dX0_shares_6 : decode cX0_shares 6 = .ok (.invokevirtual 13, 3) := by decide +kernel
theorem dX0_shares_9 : decode cX0_shares 9 = .ok (.aload_n 0, 1) := by decide +kernel
theorem dX0_shares_10 : decode cX0_shares 10 = .ok (.iload_n 1, 1) := by decide +kernel
theorem dX0_shares_11 : decode cX0_shares 11 = .ok (.iconst 2, 1) := by decide +kernel
theorem dX0_shares_12 : decode cX0_shares 12 = .ok (.iadd, 1) := by decide +kernel
theorem dX0_shares_13 : decode cX0_shares 13 = .ok (.invokespecial 19, 3) := by decide +kernel
theorem dX0_shares_16 : decode cX0_shares 16 = .ok (.iconst 1, 1) := by decide +kernel
theorem dX0_shares_17 : decode cX0_shares 17 = .ok (.ixor, 1) := by decide +kernel
theorem dX0_shares_18 : decode cX0_shares 18 = .ok (.ireturn, 1) := by decide +kernel
theorem dX0_leads_0 : decode cX0_leads 0 = .ok (.aload_n 0, 1) := by decide +kernel
theorem dX0_leads_1 : decode cX0_leads 1 = .ok (.getfield 7, 3) := by decide +kernel
theorem dX0_leads_4 : decode cX0_leads 4 = .ok (.bipush 51, 2) := by decide +kernel
theorem dX0_leads_6 : decode cX0_leads 6 = .ok (.invokevirtual 13, 3) := by decide +kernel
theorem dX0_leads_9 : decode cX0_leads 9 = .ok (.aload_n 0, 1) := by decide +kernel
theorem dX0_leads_10 : decode cX0_leads 10 = .ok (.iload_n 1, 1) := by decide +kernel
theorem dX0_leads_11 : decode cX0_leads 11 = .ok (.invokespecial 23, 3) := by decide +kernel
theorem dX0_leads_14 : decode cX0_leads 14 = .ok (.aload_n 0, 1) := by decide +kernel
theorem dX0_leads_15 : decode cX0_leads 15 = .ok (.getfield 26, 3) := by decide +kernel
theorem dX0_leads_18 : decode cX0_leads 18 = .ok (.isub, 1) := by decide +kernel
theorem dX0_leads_19 : decode cX0_leads 19 = .ok (.ireturn, 1) := by decide +kernel
theorem dX1_init_0 : decode cX1_init 0 = .ok (.aload_n 0, 1) := by decide +kernel
theorem dX1_init_1 : decode cX1_init 1 = .ok (.invokespecial 3, 3) := by decide +kernel
theorem dX1_init_4 : decode cX1_init 4 = .ok (.aload_n 0, 1) := by decide +kernel
theorem dX1_init_5 : decode cX1_init 5 = .ok (.sipush 256, 3) := by decide +kernel
theorem dX1_init_8 : decode cX1_init 8 = .ok (.newarray .long, 2) := by decide +kernel
theorem dX1_init_10 : decode cX1_init 10 = .ok (.putfield 9, 3) := by decide +kernel
theorem dX1_init_13 : decode cX1_init 13 = .ok (.aload_n 0, 1) := by decide +kernel
theorem dX1_init_14 : decode cX1_init 14 = .ok (.sipush 256, 3) := by decide +kernel
theorem dX1_init_17 : decode cX1_init 17 = .ok (.newarray .long, 2) := by decide +kernel
theorem dX1_init_19 : decode cX1_init 19 = .ok (.putfield 15, 3) := by decide +kernel
theorem dX1_init_22 : decode cX1_init 22 = .ok (.aload_n 0, 1) := by decide +kernel
theorem dX1_init_23 : decode cX1_init 23 = .ok (.sipush 2048, 3) := by decide +kernel
theorem dX1_init_26 : decode cX1_init 26 = .ok (.newarray .long, 2) := by decide +kernel
theorem dX1_init_28 : decode cX1_init 28 = .ok (.putfield 18, 3) := by decide +kernel
theorem dX1_init_31 : decode cX1_init 31 = .ok (.return_, 1) := by decide +kernel
theorem dX1_joinAll_0 : decode cX1_joinAll 0 = .ok (.aload_n 0, 1) := by decide +kernel
theorem dX1_joinAll_1 : decode cX1_joinAll 1 = .ok (.iconst 1, 1) := by decide +kernel
theorem dX1_joinAll_2 : decode cX1_joinAll 2 = .ok (.aload_n 1, 1) := by decide +kernel
theorem dX1_joinAll_3 : decode cX1_joinAll 3 = .ok (.getfield 21, 3) := by decide +kernel
theorem dX1_joinAll_6 : decode cX1_joinAll 6 = .ok (.ishl, 1) := by decide +kernel
theorem dX1_joinAll_7 : decode cX1_joinAll 7 = .ok (.putfield 27, 3) := by decide +kernel
theorem dX1_joinAll_10 : decode cX1_joinAll 10 = .ok (.aload_n 0, 1) := by decide +kernel
theorem dX1_joinAll_11 : decode cX1_joinAll 11 = .ok (.lconst 1, 1) := by decide +kernel
theorem dX1_joinAll_12 : decode cX1_joinAll 12 = .ok (.iconst 3, 1) := by decide +kernel
theorem dX1_joinAll_13 : decode cX1_joinAll 13 = .ok (.aload_n 1, 1) := by decide +kernel
theorem dX1_joinAll_14 : decode cX1_joinAll 14 = .ok (.getfield 21, 3) := by decide +kernel
theorem dX1_joinAll_17 : decode cX1_joinAll 17 = .ok (.imul, 1) := by decide +kernel
theorem dX1_joinAll_18 : decode cX1_joinAll 18 = .ok (.lshl, 1) := by decide +kernel
theorem dX1_joinAll_19 : decode cX1_joinAll 19 = .ok (.putfield 30, 3) := by decide +kernel
theorem dX1_joinAll_22 : decode cX1_joinAll 22 = .ok (.aload_n 0, 1) := by decide +kernel
theorem dX1_joinAll_23 : decode cX1_joinAll 23 = .ok (.getfield 9, 3) := by decide +kernel
theorem dX1_joinAll_26 : decode cX1_joinAll 26 = .ok (.iconst 0, 1) := by decide +kernel
theorem dX1_joinAll_27 : decode cX1_joinAll 27 = .ok (.ldc2_w 34, 3) := by decide +kernel
theorem dX1_joinAll_30 : decode cX1_joinAll 30 = .ok (.lastore, 1) := by decide +kernel
theorem dX1_joinAll_31 : decode cX1_joinAll 31 = .ok (.iconst 0, 1) := by decide +kernel
theorem dX1_joinAll_32 : decode cX1_joinAll 32 = .ok (.istore_n 2, 1) := by decide +kernel
theorem dX1_joinAll_33 : decode cX1_joinAll 33 = .ok (.iload_n 2, 1) := by decide +kernel
theorem dX1_joinAll_34 : decode cX1_joinAll 34 = .ok (.aload_n 1, 1) := by decide +kernel
theorem dX1_joinAll_35 : decode cX1_joinAll 35 = .ok (.getfield 21, 3) := by decide +kernel
theorem dX1_joinAll_38 : decode cX1_joinAll 38 = .ok (.if_icmp .ge 59, 3) := by decide +kernel
theorem dX1_joinAll_41 : decode cX1_joinAll 41 = .ok (.iconst 1, 1) := by decide +kernel
theorem dX1_joinAll_42 : decode cX1_joinAll 42 = .ok (.iload_n 2, 1) := by decide +kernel
theorem dX1_joinAll_43 : decode cX1_joinAll 43 = .ok (.ishl, 1) := by decide +kernel
theorem dX1_joinAll_44 : decode cX1_joinAll 44 = .ok (.istore_n 3, 1) := by decide +kernel
theorem dX1_joinAll_45 : decode cX1_joinAll 45 = .ok (.iconst 0, 1) := by decide +kernel
theorem dX1_joinAll_46 : decode cX1_joinAll 46 = .ok (.istore 4, 2) := by decide +kernel
theorem dX1_joinAll_48 : decode cX1_joinAll 48 = .ok (.iload 4, 2) := by decide +kernel
theorem dX1_joinAll_50 : decode cX1_joinAll 50 = .ok (.iload_n 3, 1) := by decide +kernel
theorem dX1_joinAll_51 : decode cX1_joinAll 51 = .ok (.if_icmp .ge 40, 3) := by decide +kernel
theorem dX1_joinAll_54 : decode cX1_joinAll 54 = .ok (.aload_n 0, 1) := by decide +kernel
theorem dX1_joinAll_55 : decode cX1_joinAll 55 = .ok (.getfield 9, 3) := by decide +kernel
theorem dX1_joinAll_58 : decode cX1_joinAll 58 = .ok (.iload 4, 2) := by decide +kernel
theorem dX1_joinAll_60 : decode cX1_joinAll 60 = .ok (.iload_n 3, 1) := by decide +kernel
theorem dX1_joinAll_61 : decode cX1_joinAll 61 = .ok (.ior, 1) := by decide +kernel
theorem dX1_joinAll_62 : decode cX1_joinAll 62 = .ok (.aload_n 0, 1) := by decide +kernel
theorem dX1_joinAll_63 : decode cX1_joinAll 63 = .ok (.getfield 9, 3) := by decide +kernel
theorem dX1_joinAll_66 : decode cX1_joinAll 66 = .ok (.iload 4, 2) := by decide +kernel
theorem dX1_joinAll_68 : decode cX1_joinAll 68 = .ok (.laload, 1) := by decide +kernel
theorem dX1_joinAll_69 : decode cX1_joinAll 69 = .ok (.aload_n 1, 1) := by decide +kernel
theorem dX1_joinAll_70 : decode cX1_joinAll 70 = .ok (.getfield 36, 3) := by decide +kernel
theorem dX1_joinAll_73 : decode cX1_joinAll 73 = .ok (.iload_n 2, 1) := by decide +kernel
theorem dX1_joinAll_74 : decode cX1_joinAll 74 = .ok (.iaload, 1) := by decide +kernel
theorem dX1_joinAll_75 : decode cX1_joinAll 75 = .ok (.aload_n 1, 1) := by decide +kernel
theorem dX1_joinAll_76 : decode cX1_joinAll 76 = .ok (.getfield 40, 3) := by decide +kernel
theorem dX1_joinAll_79 : decode cX1_joinAll 79 = .ok (.iload_n 2, 1) := by decide +kernel
theorem dX1_joinAll_80 : decode cX1_joinAll 80 = .ok (.iaload, 1) := by decide +kernel
theorem dX1_joinAll_81 : decode cX1_joinAll 81 = .ok (.invokestatic 43, 3) := by decide +kernel
theorem dX1_joinAll_84 : decode cX1_joinAll 84 = .ok (.lastore, 1) := by decide +kernel
theorem dX1_joinAll_85 : decode cX1_joinAll 85 = .ok (.iinc 4 1, 3) := by decide +kernel
theorem dX1_joinAll_88 : decode cX1_joinAll 88 = .ok (.goto (-40), 3) := by decide +kernel
theorem dX1_joinAll_91 : decode cX1_joinAll 91 = .ok (.iinc 2 1, 3) := by decide +kernel
theorem dX1_joinAll_94 : decode cX1_joinAll 94 = .ok (.goto (-61), 3) := by decide +kernel
theorem dX1_joinAll_97 : decode cX1_joinAll 97 = .ok (.return_, 1) := by decide +kernel
theorem dX1_joinedToo_0 : decode cX1_joinedToo 0 = .ok (.lload_n 0, 1) := by decide +kernel
theorem dX1_joinedToo_1 : decode cX1_joinedToo 1 = .ok (.bipush 8, 2) := by decide +kernel
theorem dX1_joinedToo_3 : decode cX1_joinedToo 3 = .ok (.iload_n 2, 1) := by decide +kernel
theorem dX1_joinedToo_4 : decode cX1_joinedToo 4 = .ok (.imul, 1) := by decide +kernel
theorem dX1_joinedToo_5 : decode cX1_joinedToo 5 = .ok (.lushr, 1) := by decide +kernel
theorem dX1_joinedToo_6 : decode cX1_joinedToo 6 = .ok (.lload_n 0, 1) := by decide +kernel
theorem dX1_joinedToo_7 : decode cX1_joinedToo 7 = .ok (.bipush 8, 2) := by decide +kernel
theorem dX1_joinedToo_9 : decode cX1_joinedToo 9 = .ok (.iload_n 3, 1) := by decide +kernel
theorem dX1_joinedToo_10 : decode cX1_joinedToo 10 = .ok (.imul, 1) := by decide +kernel
theorem dX1_joinedToo_11 : decode cX1_joinedToo 11 = .ok (.lushr, 1) := by decide +kernel
theorem dX1_joinedToo_12 : decode cX1_joinedToo 12 = .ok (.lor, 1) := by decide +kernel
theorem dX1_joinedToo_13 : decode cX1_joinedToo 13 = .ok (.ldc2_w 47, 3) := by decide +kernel
theorem dX1_joinedToo_16 : decode cX1_joinedToo 16 = .ok (.land, 1) := by decide +kernel
theorem dX1_joinedToo_17 : decode cX1_joinedToo 17 = .ok (.lstore 4, 2) := by decide +kernel
theorem dX1_joinedToo_19 : decode cX1_joinedToo 19 = .ok (.lload_n 0, 1) := by decide +kernel
theorem dX1_joinedToo_20 : decode cX1_joinedToo 20 = .ok (.lstore 6, 2) := by decide +kernel
theorem dX1_joinedToo_22 : decode cX1_joinedToo 22 = .ok (.iconst 0, 1) := by decide +kernel
theorem dX1_joinedToo_23 : decode cX1_joinedToo 23 = .ok (.istore 8, 2) := by decide +kernel
theorem dX1_joinedToo_25 : decode cX1_joinedToo 25 = .ok (.iload 8, 2) := by decide +kernel
theorem dX1_joinedToo_27 : decode cX1_joinedToo 27 = .ok (.bipush 8, 2) := by decide +kernel
theorem dX1_joinedToo_29 : decode cX1_joinedToo 29 = .ok (.if_icmp .ge 34, 3) := by decide +kernel
theorem dX1_joinedToo_32 : decode cX1_joinedToo 32 = .ok (.lload 4, 2) := by decide +kernel
theorem dX1_joinedToo_34 : decode cX1_joinedToo 34 = .ok (.iload 8, 2) := by decide +kernel
theorem dX1_joinedToo_36 : decode cX1_joinedToo 36 = .ok (.lushr, 1) := by decide +kernel
theorem dX1_joinedToo_37 : decode cX1_joinedToo 37 = .ok (.lconst 1, 1) := by decide +kernel
theorem dX1_joinedToo_38 : decode cX1_joinedToo 38 = .ok (.land, 1) := by decide +kernel
theorem dX1_joinedToo_39 : decode cX1_joinedToo 39 = .ok (.lconst 0, 1) := by decide +kernel
theorem dX1_joinedToo_40 : decode cX1_joinedToo 40 = .ok (.lcmp, 1) := by decide +kernel
theorem dX1_joinedToo_41 : decode cX1_joinedToo 41 = .ok (.ifCond .eq 16, 3) := by decide +kernel
theorem dX1_joinedToo_44 : decode cX1_joinedToo 44 = .ok (.lload 6, 2) := by decide +kernel
theorem dX1_joinedToo_46 : decode cX1_joinedToo 46 = .ok (.lload 4, 2) := by decide +kernel
theorem dX1_joinedToo_48 : decode cX1_joinedToo 48 = .ok (.bipush 8, 2) := by decide +kernel
theorem dX1_joinedToo_50 : decode cX1_joinedToo 50 = .ok (.iload 8, 2) := by decide +kernel
theorem dX1_joinedToo_52 : decode cX1_joinedToo 52 = .ok (.imul, 1) := by decide +kernel
theorem dX1_joinedToo_53 : decode cX1_joinedToo 53 = .ok (.lshl, 1) := by decide +kernel
theorem dX1_joinedToo_54 : decode cX1_joinedToo 54 = .ok (.lor, 1) := by decide +kernel
theorem dX1_joinedToo_55 : decode cX1_joinedToo 55 = .ok (.lstore 6, 2) := by decide +kernel
theorem dX1_joinedToo_57 : decode cX1_joinedToo 57 = .ok (.iinc 8 1, 3) := by decide +kernel
theorem dX1_joinedToo_60 : decode cX1_joinedToo 60 = .ok (.goto (-35), 3) := by decide +kernel
theorem dX1_joinedToo_63 : decode cX1_joinedToo 63 = .ok (.lload 6, 2) := by decide +kernel
theorem dX1_joinedToo_65 : decode cX1_joinedToo 65 = .ok (.lreturn, 1) := by decide +kernel
theorem dX1_joins_0 : decode cX1_joins 0 = .ok (.aload_n 0, 1) := by decide +kernel
theorem dX1_joins_1 : decode cX1_joins 1 = .ok (.getfield 9, 3) := by decide +kernel
theorem dX1_joins_4 : decode cX1_joins 4 = .ok (.iload_n 1, 1) := by decide +kernel
theorem dX1_joins_5 : decode cX1_joins 5 = .ok (.laload, 1) := by decide +kernel
theorem dX1_joins_6 : decode cX1_joins 6 = .ok (.bipush 8, 2) := by decide +kernel
theorem dX1_joins_8 : decode cX1_joins 8 = .ok (.iload_n 2, 1) := by decide +kernel
theorem dX1_joins_9 : decode cX1_joins 9 = .ok (.imul, 1) := by decide +kernel
theorem dX1_joins_10 : decode cX1_joins 10 = .ok (.iload_n 3, 1) := by decide +kernel
theorem dX1_joins_11 : decode cX1_joins 11 = .ok (.iadd, 1) := by decide +kernel
theorem dX1_joins_12 : decode cX1_joins 12 = .ok (.lushr, 1) := by decide +kernel
theorem dX1_joins_13 : decode cX1_joins 13 = .ok (.lconst 1, 1) := by decide +kernel
theorem dX1_joins_14 : decode cX1_joins 14 = .ok (.land, 1) := by decide +kernel
theorem dX1_joins_15 : decode cX1_joins 15 = .ok (.lconst 0, 1) := by decide +kernel
theorem dX1_joins_16 : decode cX1_joins 16 = .ok (.lcmp, 1) := by decide +kernel
theorem dX1_joins_17 : decode cX1_joins 17 = .ok (.ifCond .eq 7, 3) := by decide +kernel
theorem dX1_joins_20 : decode cX1_joins 20 = .ok (.iconst 1, 1) := by decide +kernel
theorem dX1_joins_21 : decode cX1_joins 21 = .ok (.goto 4, 3) := by decide +kernel
theorem dX1_joins_24 : decode cX1_joins 24 = .ok (.iconst 0, 1) := by decide +kernel
theorem dX1_joins_25 : decode cX1_joins 25 = .ok (.ireturn, 1) := by decide +kernel
theorem dX1_lookAhead_0 : decode cX1_lookAhead 0 = .ok (.aload_n 0, 1) := by decide +kernel
theorem dX1_lookAhead_1 : decode cX1_lookAhead 1 = .ok (.aload_n 1, 1) := by decide +kernel
theorem dX1_lookAhead_2 : decode cX1_lookAhead 2 = .ok (.invokevirtual 49, 3) := by decide +kernel
theorem dX1_lookAhead_5 : decode cX1_lookAhead 5 = .ok (.aload_n 0, 1) := by decide +kernel
theorem dX1_lookAhead_6 : decode cX1_lookAhead 6 = .ok (.getfield 15, 3) := by decide +kernel
theorem dX1_lookAhead_9 : decode cX1_lookAhead 9 = .ok (.iconst 0, 1) := by decide +kernel
theorem dX1_lookAhead_10 : decode cX1_lookAhead 10 = .ok (.lconst 1, 1) := by decide +kernel
theorem dX1_lookAhead_11 : decode cX1_lookAhead 11 = .ok (.lastore, 1) := by decide +kernel
theorem dX1_lookAhead_12 : decode cX1_lookAhead 12 = .ok (.iconst 0, 1) := by decide +kernel
theorem dX1_lookAhead_13 : decode cX1_lookAhead 13 = .ok (.istore_n 2, 1) := by decide +kernel
theorem dX1_lookAhead_14 : decode cX1_lookAhead 14 = .ok (.iload_n 2, 1) := by decide +kernel
theorem dX1_lookAhead_15 : decode cX1_lookAhead 15 = .ok (.aload_n 1, 1) := by decide +kernel
theorem dX1_lookAhead_16 : decode cX1_lookAhead 16 = .ok (.getfield 21, 3) := by decide +kernel
theorem dX1_lookAhead_19 : decode cX1_lookAhead 19 = .ok (.if_icmp .ge 76, 3) := by decide +kernel
theorem dX1_lookAhead_22 : decode cX1_lookAhead 22 = .ok (.iconst 1, 1) := by decide +kernel
theorem dX1_lookAhead_23 : decode cX1_lookAhead 23 = .ok (.iload_n 2, 1) := by decide +kernel
theorem dX1_lookAhead_24 : decode cX1_lookAhead 24 = .ok (.ishl, 1) := by decide +kernel
theorem dX1_lookAhead_25 : decode cX1_lookAhead 25 = .ok (.istore_n 3, 1) := by decide +kernel
theorem dX1_lookAhead_26 : decode cX1_lookAhead 26 = .ok (.aload_n 1, 1) := by decide +kernel
theorem dX1_lookAhead_27 : decode cX1_lookAhead 27 = .ok (.iload_n 2, 1) := by decide +kernel
theorem dX1_lookAhead_28 : decode cX1_lookAhead 28 = .ok (.aload_n 1, 1) := by decide +kernel
theorem dX1_lookAhead_29 : decode cX1_lookAhead 29 = .ok (.iload_n 2, 1) := by decide +kernel
theorem dX1_lookAhead_30 : decode cX1_lookAhead 30 = .ok (.invokevirtual 53, 3) := by decide +kernel
theorem dX1_lookAhead_33 : decode cX1_lookAhead 33 = .ok (.invokevirtual 57, 3) := by decide +kernel
theorem dX1_lookAhead_36 : decode cX1_lookAhead 36 = .ok (.istore 4, 2) := by decide +kernel
theorem dX1_lookAhead_38 : decode cX1_lookAhead 38 = .ok (.iconst 0, 1) := by decide +kernel
theorem dX1_lookAhead_39 : decode cX1_lookAhead 39 = .ok (.istore 5, 2) := by decide +kernel
theorem dX1_lookAhead_41 : decode cX1_lookAhead 41 = .ok (.iload 5, 2) := by decide +kernel
theorem dX1_lookAhead_43 : decode cX1_lookAhead 43 = .ok (.iload_n 3, 1) := by decide +kernel
theorem dX1_lookAhead_44 : decode cX1_lookAhead 44 = .ok (.if_icmp .ge 45, 3) := by decide +kernel
theorem dX1_lookAhead_47 : decode cX1_lookAhead 47 = .ok (.aload_n 0, 1) := by decide +kernel
theorem dX1_lookAhead_48 : decode cX1_lookAhead 48 = .ok (.getfield 15, 3) := by decide +kernel
theorem dX1_lookAhead_51 : decode cX1_lookAhead 51 = .ok (.iload 5, 2) := by decide +kernel
theorem dX1_lookAhead_53 : decode cX1_lookAhead 53 = .ok (.iload_n 3, 1) := by decide +kernel
theorem dX1_lookAhead_54 : decode cX1_lookAhead 54 = .ok (.ior, 1) := by decide +kernel
theorem dX1_lookAhead_55 : decode cX1_lookAhead 55 = .ok (.aload_n 0, 1) := by decide +kernel
theorem dX1_lookAhead_56 : decode cX1_lookAhead 56 = .ok (.getfield 15, 3) := by decide +kernel
theorem dX1_lookAhead_59 : decode cX1_lookAhead 59 = .ok (.iload 5, 2) := by decide +kernel
theorem dX1_lookAhead_61 : decode cX1_lookAhead 61 = .ok (.laload, 1) := by decide +kernel
theorem dX1_lookAhead_62 : decode cX1_lookAhead 62 = .ok (.iload 4, 2) := by decide +kernel
theorem dX1_lookAhead_64 : decode cX1_lookAhead 64 = .ok (.i2l, 1) := by decide +kernel
theorem dX1_lookAhead_65 : decode cX1_lookAhead 65 = .ok (.lmul, 1) := by decide +kernel
theorem dX1_lookAhead_66 : decode cX1_lookAhead 66 = .ok (.lastore, 1) := by decide +kernel
theorem dX1_lookAhead_67 : decode cX1_lookAhead 67 = .ok (.aload_n 0, 1) := by decide +kernel
theorem dX1_lookAhead_68 : decode cX1_lookAhead 68 = .ok (.getfield 15, 3) := by decide +kernel
theorem dX1_lookAhead_71 : decode cX1_lookAhead 71 = .ok (.iload 5, 2) := by decide +kernel
theorem dX1_lookAhead_73 : decode cX1_lookAhead 73 = .ok (.dup2, 1) := by decide +kernel
theorem dX1_lookAhead_74 : decode cX1_lookAhead 74 = .ok (.laload, 1) := by decide +kernel
theorem dX1_lookAhead_75 : decode cX1_lookAhead 75 = .ok (.bipush 8, 2) := by decide +kernel
theorem dX1_lookAhead_77 : decode cX1_lookAhead 77 = .ok (.iload 4, 2) := by decide +kernel
theorem dX1_lookAhead_79 : decode cX1_lookAhead 79 = .ok (.isub, 1) := by decide +kernel
theorem dX1_lookAhead_80 : decode cX1_lookAhead 80 = .ok (.i2l, 1) := by decide +kernel
theorem dX1_lookAhead_81 : decode cX1_lookAhead 81 = .ok (.lmul, 1) := by decide +kernel
theorem dX1_lookAhead_82 : decode cX1_lookAhead 82 = .ok (.lastore, 1) := by decide +kernel
theorem dX1_lookAhead_83 : decode cX1_lookAhead 83 = .ok (.iinc 5 1, 3) := by decide +kernel
theorem dX1_lookAhead_86 : decode cX1_lookAhead 86 = .ok (.goto (-45), 3) := by decide +kernel
theorem dX1_lookAhead_89 : decode cX1_lookAhead 89 = .ok (.iinc 2 1, 3) := by decide +kernel
theorem dX1_lookAhead_92 : decode cX1_lookAhead 92 = .ok (.goto (-78), 3) := by decide +kernel
theorem dX1_lookAhead_95 : decode cX1_lookAhead 95 = .ok (.return_, 1) := by decide +kernel
theorem dX1_oddsOf_0 : decode cX1_oddsOf 0 = .ok (.lconst 0, 1) := by decide +kernel
theorem dX1_oddsOf_1 : decode cX1_oddsOf 1 = .ok (.lstore_n 3, 1) := by decide +kernel
theorem dX1_oddsOf_2 : decode cX1_oddsOf 2 = .ok (.iconst 0, 1) := by decide +kernel
theorem dX1_oddsOf_3 : decode cX1_oddsOf 3 = .ok (.istore 5, 2) := by decide +kernel
theorem dX1_oddsOf_5 : decode cX1_oddsOf 5 = .ok (.iload 5, 2) := by decide +kernel
theorem dX1_oddsOf_7 : decode cX1_oddsOf 7 = .ok (.aload_n 0, 1) := by decide +kernel
theorem dX1_oddsOf_8 : decode cX1_oddsOf 8 = .ok (.getfield 27, 3) := by decide +kernel
theorem dX1_oddsOf_11 : decode cX1_oddsOf 11 = .ok (.if_icmp .ge 30, 3) := by decide +kernel
theorem dX1_oddsOf_14 : decode cX1_oddsOf 14 = .ok (.aload_n 0, 1) := by decide +kernel
theorem dX1_oddsOf_15 : decode cX1_oddsOf 15 = .ok (.iload 5, 2) := by decide +kernel
theorem dX1_oddsOf_17 : decode cX1_oddsOf 17 = .ok (.iload_n 1, 1) := by decide +kernel
theorem dX1_oddsOf_18 : decode cX1_oddsOf 18 = .ok (.iload_n 2, 1) := by decide +kernel
theorem dX1_oddsOf_19 : decode cX1_oddsOf 19 = .ok (.invokevirtual 61, 3) := by decide +kernel
theorem dX1_oddsOf_22 : decode cX1_oddsOf 22 = .ok (.ifCond .eq 13, 3) := by decide +kernel
theorem dX1_oddsOf_25 : decode cX1_oddsOf 25 = .ok (.lload_n 3, 1) := by decide +kernel
theorem dX1_oddsOf_26 : decode cX1_oddsOf 26 = .ok (.aload_n 0, 1) := by decide +kernel
theorem dX1_oddsOf_27 : decode cX1_oddsOf 27 = .ok (.getfield 15, 3) := by decide +kernel
theorem dX1_oddsOf_30 : decode cX1_oddsOf 30 = .ok (.iload 5, 2) := by decide +kernel
theorem dX1_oddsOf_32 : decode cX1_oddsOf 32 = .ok (.laload, 1) := by decide +kernel
theorem dX1_oddsOf_33 : decode cX1_oddsOf 33 = .ok (.ladd, 1) := by decide +kernel
theorem dX1_oddsOf_34 : decode cX1_oddsOf 34 = .ok (.lstore_n 3, 1) := by decide +kernel
theorem dX1_oddsOf_35 : decode cX1_oddsOf 35 = .ok (.iinc 5 1, 3) := by decide +kernel
theorem dX1_oddsOf_38 : decode cX1_oddsOf 38 = .ok (.goto (-33), 3) := by decide +kernel
theorem dX1_oddsOf_41 : decode cX1_oddsOf 41 = .ok (.lload_n 3, 1) := by decide +kernel
theorem dX1_oddsOf_42 : decode cX1_oddsOf 42 = .ok (.lreturn, 1) := by decide +kernel
theorem dX1_oddsReach_0 : decode cX1_oddsReach 0 = .ok (.aload_n 0, 1) := by decide +kernel
theorem dX1_oddsReach_1 : decode cX1_oddsReach 1 = .ok (.iload_n 1, 1) := by decide +kernel
theorem dX1_oddsReach_2 : decode cX1_oddsReach 2 = .ok (.iload_n 2, 1) := by decide +kernel
theorem dX1_oddsReach_3 : decode cX1_oddsReach 3 = .ok (.invokevirtual 65, 3) := by decide +kernel
theorem dX1_oddsReach_6 : decode cX1_oddsReach 6 = .ok (.ldc2_w 69, 3) := by decide +kernel
theorem dX1_oddsReach_9 : decode cX1_oddsReach 9 = .ok (.lmul, 1) := by decide +kernel
theorem dX1_oddsReach_10 : decode cX1_oddsReach 10 = .ok (.iload_n 3, 1) := by decide +kernel
theorem dX1_oddsReach_11 : decode cX1_oddsReach 11 = .ok (.i2l, 1) := by decide +kernel
theorem dX1_oddsReach_12 : decode cX1_oddsReach 12 = .ok (.aload_n 0, 1) := by decide +kernel
theorem dX1_oddsReach_13 : decode cX1_oddsReach 13 = .ok (.getfield 30, 3) := by decide +kernel
theorem dX1_oddsReach_16 : decode cX1_oddsReach 16 = .ok (.lmul, 1) := by decide +kernel
theorem dX1_oddsReach_17 : decode cX1_oddsReach 17 = .ok (.lcmp, 1) := by decide +kernel
theorem dX1_oddsReach_18 : decode cX1_oddsReach 18 = .ok (.ifCond .lt 7, 3) := by decide +kernel
theorem dX1_oddsReach_21 : decode cX1_oddsReach 21 = .ok (.iconst 1, 1) := by decide +kernel
theorem dX1_oddsReach_22 : decode cX1_oddsReach 22 = .ok (.goto 4, 3) := by decide +kernel
theorem dX1_oddsReach_25 : decode cX1_oddsReach 25 = .ok (.iconst 0, 1) := by decide +kernel
theorem dX1_oddsReach_26 : decode cX1_oddsReach 26 = .ok (.ireturn, 1) := by decide +kernel
theorem dX1_mix_0 : decode cX1_mix 0 = .ok (.iconst 1, 1) := by decide +kernel
theorem dX1_mix_1 : decode cX1_mix 1 = .ok (.iload_n 2, 1) := by decide +kernel
theorem dX1_mix_2 : decode cX1_mix 2 = .ok (.ishl, 1) := by decide +kernel
theorem dX1_mix_3 : decode cX1_mix 3 = .ok (.istore 5, 2) := by decide +kernel
theorem dX1_mix_5 : decode cX1_mix 5 = .ok (.iconst 0, 1) := by decide +kernel
theorem dX1_mix_6 : decode cX1_mix 6 = .ok (.istore 6, 2) := by decide +kernel
theorem dX1_mix_8 : decode cX1_mix 8 = .ok (.iload 6, 2) := by decide +kernel
theorem dX1_mix_10 : decode cX1_mix 10 = .ok (.aload_n 0, 1) := by decide +kernel
theorem dX1_mix_11 : decode cX1_mix 11 = .ok (.getfield 27, 3) := by decide +kernel
theorem dX1_mix_14 : decode cX1_mix 14 = .ok (.if_icmp .ge 93, 3) := by decide +kernel
theorem dX1_mix_17 : decode cX1_mix 17 = .ok (.iload 6, 2) := by decide +kernel
theorem dX1_mix_19 : decode cX1_mix 19 = .ok (.iload 5, 2) := by decide +kernel
theorem dX1_mix_21 : decode cX1_mix 21 = .ok (.iand, 1) := by decide +kernel
theorem dX1_mix_22 : decode cX1_mix 22 = .ok (.ifCond .ne 79, 3) := by decide +kernel
theorem dX1_mix_25 : decode cX1_mix 25 = .ok (.aload_n 0, 1) := by decide +kernel
theorem dX1_mix_26 : decode cX1_mix 26 = .ok (.getfield 18, 3) := by decide +kernel
theorem dX1_mix_29 : decode cX1_mix 29 = .ok (.iload_n 1, 1) := by decide +kernel
theorem dX1_mix_30 : decode cX1_mix 30 = .ok (.iload 6, 2) := by decide +kernel
theorem dX1_mix_32 : decode cX1_mix 32 = .ok (.iadd, 1) := by decide +kernel
theorem dX1_mix_33 : decode cX1_mix 33 = .ok (.laload, 1) := by decide +kernel
theorem dX1_mix_34 : decode cX1_mix 34 = .ok (.lstore 7, 2) := by decide +kernel
theorem dX1_mix_36 : decode cX1_mix 36 = .ok (.aload_n 0, 1) := by decide +kernel
theorem dX1_mix_37 : decode cX1_mix 37 = .ok (.getfield 18, 3) := by decide +kernel
theorem dX1_mix_40 : decode cX1_mix 40 = .ok (.iload_n 1, 1) := by decide +kernel
theorem dX1_mix_41 : decode cX1_mix 41 = .ok (.iload 6, 2) := by decide +kernel
theorem dX1_mix_43 : decode cX1_mix 43 = .ok (.iload 5, 2) := by decide +kernel
theorem dX1_mix_45 : decode cX1_mix 45 = .ok (.ior, 1) := by decide +kernel
theorem dX1_mix_46 : decode cX1_mix 46 = .ok (.iadd, 1) := by decide +kernel
theorem dX1_mix_47 : decode cX1_mix 47 = .ok (.laload, 1) := by decide +kernel
theorem dX1_mix_48 : decode cX1_mix 48 = .ok (.lstore 9, 2) := by decide +kernel
theorem dX1_mix_50 : decode cX1_mix 50 = .ok (.aload_n 0, 1) := by decide +kernel
theorem dX1_mix_51 : decode cX1_mix 51 = .ok (.getfield 18, 3) := by decide +kernel
theorem dX1_mix_54 : decode cX1_mix 54 = .ok (.iload_n 1, 1) := by decide +kernel
theorem dX1_mix_55 : decode cX1_mix 55 = .ok (.iload 6, 2) := by decide +kernel
theorem dX1_mix_57 : decode cX1_mix 57 = .ok (.iadd, 1) := by decide +kernel
theorem dX1_mix_58 : decode cX1_mix 58 = .ok (.bipush 8, 2) := by decide +kernel
theorem dX1_mix_60 : decode cX1_mix 60 = .ok (.iload_n 3, 1) := by decide +kernel
theorem dX1_mix_61 : decode cX1_mix 61 = .ok (.isub, 1) := by decide +kernel
theorem dX1_mix_62 : decode cX1_mix 62 = .ok (.i2l, 1) := by decide +kernel
theorem dX1_mix_63 : decode cX1_mix 63 = .ok (.lload 7, 2) := by decide +kernel
theorem dX1_mix_65 : decode cX1_mix 65 = .ok (.lmul, 1) := by decide +kernel
theorem dX1_mix_66 : decode cX1_mix 66 = .ok (.iload_n 3, 1) := by decide +kernel
theorem dX1_mix_67 : decode cX1_mix 67 = .ok (.i2l, 1) := by decide +kernel
theorem dX1_mix_68 : decode cX1_mix 68 = .ok (.lload 9, 2) := by decide +kernel
theorem dX1_mix_70 : decode cX1_mix 70 = .ok (.lmul, 1) := by decide +kernel
theorem dX1_mix_71 : decode cX1_mix 71 = .ok (.ladd, 1) := by decide +kernel
theorem dX1_mix_72 : decode cX1_mix 72 = .ok (.lastore, 1) := by decide +kernel
theorem dX1_mix_73 : decode cX1_mix 73 = .ok (.aload_n 0, 1) := by decide +kernel
theorem dX1_mix_74 : decode cX1_mix 74 = .ok (.getfield 18, 3) := by decide +kernel
theorem dX1_mix_77 : decode cX1_mix 77 = .ok (.iload_n 1, 1) := by decide +kernel
theorem dX1_mix_78 : decode cX1_mix 78 = .ok (.iload 6, 2) := by decide +kernel
theorem dX1_mix_80 : decode cX1_mix 80 = .ok (.iload 5, 2) := by decide +kernel
theorem dX1_mix_82 : decode cX1_mix 82 = .ok (.ior, 1) := by decide +kernel
theorem dX1_mix_83 : decode cX1_mix 83 = .ok (.iadd, 1) := by decide +kernel
theorem dX1_mix_84 : decode cX1_mix 84 = .ok (.bipush 8, 2) := by decide +kernel
theorem dX1_mix_86 : decode cX1_mix 86 = .ok (.iload 4, 2) := by decide +kernel
theorem dX1_mix_88 : decode cX1_mix 88 = .ok (.isub, 1) := by decide +kernel
theorem dX1_mix_89 : decode cX1_mix 89 = .ok (.i2l, 1) := by decide +kernel
theorem dX1_mix_90 : decode cX1_mix 90 = .ok (.lload 7, 2) := by decide +kernel
theorem dX1_mix_92 : decode cX1_mix 92 = .ok (.lmul, 1) := by decide +kernel
theorem dX1_mix_93 : decode cX1_mix 93 = .ok (.iload 4, 2) := by decide +kernel
theorem dX1_mix_95 : decode cX1_mix 95 = .ok (.i2l, 1) := by decide +kernel
theorem dX1_mix_96 : decode cX1_mix 96 = .ok (.lload 9, 2) := by decide +kernel
theorem dX1_mix_98 : decode cX1_mix 98 = .ok (.lmul, 1) := by decide +kernel
theorem dX1_mix_99 : decode cX1_mix 99 = .ok (.ladd, 1) := by decide +kernel
theorem dX1_mix_100 : decode cX1_mix 100 = .ok (.lastore, 1) := by decide +kernel
theorem dX1_mix_101 : decode cX1_mix 101 = .ok (.iinc 6 1, 3) := by decide +kernel
theorem dX1_mix_104 : decode cX1_mix 104 = .ok (.goto (-96), 3) := by decide +kernel
theorem dX1_mix_107 : decode cX1_mix 107 = .ok (.return_, 1) := by decide +kernel
theorem dX1_valueWhereJoined_0 : decode cX1_valueWhereJoined 0 = .ok (.iconst 0, 1) := by decide +kernel
theorem dX1_valueWhereJoined_1 : decode cX1_valueWhereJoined 1 = .ok (.istore 4, 2) := by decide +kernel
theorem dX1_valueWhereJoined_3 : decode cX1_valueWhereJoined 3 = .ok (.iload 4, 2) := by decide +kernel
theorem dX1_valueWhereJoined_5 : decode cX1_valueWhereJoined 5 = .ok (.aload_n 0, 1) := by decide +kernel
theorem dX1_valueWhereJoined_6 : decode cX1_valueWhereJoined 6 = .ok (.getfield 27, 3) := by decide +kernel
theorem dX1_valueWhereJoined_9 : decode cX1_valueWhereJoined 9 = .ok (.if_icmp .ge 34, 3) := by decide +kernel
theorem dX1_valueWhereJoined_12 : decode cX1_valueWhereJoined 12 = .ok (.aload_n 0, 1) := by decide +kernel
theorem dX1_valueWhereJoined_13 : decode cX1_valueWhereJoined 13 = .ok (.getfield 18, 3) := by decide +kernel
theorem dX1_valueWhereJoined_16 : decode cX1_valueWhereJoined 16 = .ok (.iload_n 1, 1) := by decide +kernel
theorem dX1_valueWhereJoined_17 : decode cX1_valueWhereJoined 17 = .ok (.iload 4, 2) := by decide +kernel
theorem dX1_valueWhereJoined_19 : decode cX1_valueWhereJoined 19 = .ok (.iadd, 1) := by decide +kernel
theorem dX1_valueWhereJoined_20 : decode cX1_valueWhereJoined 20 = .ok (.aload_n 0, 1) := by decide +kernel
theorem dX1_valueWhereJoined_21 : decode cX1_valueWhereJoined 21 = .ok (.iload 4, 2) := by decide +kernel
theorem dX1_valueWhereJoined_23 : decode cX1_valueWhereJoined 23 = .ok (.iload_n 2, 1) := by decide +kernel
theorem dX1_valueWhereJoined_24 : decode cX1_valueWhereJoined 24 = .ok (.iload_n 3, 1) := by decide +kernel
theorem dX1_valueWhereJoined_25 : decode cX1_valueWhereJoined 25 = .ok (.invokevirtual 61, 3) := by decide +kernel
theorem dX1_valueWhereJoined_28 : decode cX1_valueWhereJoined 28 = .ok (.ifCond .eq 7, 3) := by decide +kernel
theorem dX1_valueWhereJoined_31 : decode cX1_valueWhereJoined 31 = .ok (.lconst 1, 1) := by decide +kernel
theorem dX1_valueWhereJoined_32 : decode cX1_valueWhereJoined 32 = .ok (.goto 4, 3) := by decide +kernel
theorem dX1_valueWhereJoined_35 : decode cX1_valueWhereJoined 35 = .ok (.lconst 0, 1) := by decide +kernel
theorem dX1_valueWhereJoined_36 : decode cX1_valueWhereJoined 36 = .ok (.lastore, 1) := by decide +kernel
theorem dX1_valueWhereJoined_37 : decode cX1_valueWhereJoined 37 = .ok (.iinc 4 1, 3) := by decide +kernel
theorem dX1_valueWhereJoined_40 : decode cX1_valueWhereJoined 40 = .ok (.goto (-37), 3) := by decide +kernel
theorem dX1_valueWhereJoined_43 : decode cX1_valueWhereJoined 43 = .ok (.return_, 1) := by decide +kernel
theorem dX1_bestHeld_0 : decode cX1_bestHeld 0 = .ok (.aload_n 0, 1) := by decide +kernel
theorem dX1_bestHeld_1 : decode cX1_bestHeld 1 = .ok (.aload_n 1, 1) := by decide +kernel
theorem dX1_bestHeld_2 : decode cX1_bestHeld 2 = .ok (.invokevirtual 49, 3) := by decide +kernel
theorem dX1_bestHeld_5 : decode cX1_bestHeld 5 = .ok (.aload_n 0, 1) := by decide +kernel
theorem dX1_bestHeld_6 : decode cX1_bestHeld 6 = .ok (.iconst 0, 1) := by decide +kernel
theorem dX1_bestHeld_7 : decode cX1_bestHeld 7 = .ok (.iload_n 2, 1) := by decide +kernel
theorem dX1_bestHeld_8 : decode cX1_bestHeld 8 = .ok (.iload_n 3, 1) := by decide +kernel
theorem dX1_bestHeld_9 : decode cX1_bestHeld 9 = .ok (.invokevirtual 71, 3) := by decide +kernel
theorem dX1_bestHeld_12 : decode cX1_bestHeld 12 = .ok (.iconst 0, 1) := by decide +kernel
theorem dX1_bestHeld_13 : decode cX1_bestHeld 13 = .ok (.istore 5, 2) := by decide +kernel
theorem dX1_bestHeld_15 : decode cX1_bestHeld 15 = .ok (.iload 5, 2) := by decide +kernel
theorem dX1_bestHeld_17 : decode cX1_bestHeld 17 = .ok (.aload_n 1, 1) := by decide +kernel
theorem dX1_bestHeld_18 : decode cX1_bestHeld 18 = .ok (.getfield 21, 3) := by decide +kernel
theorem dX1_bestHeld_21 : decode cX1_bestHeld 21 = .ok (.if_icmp .ge 30, 3) := by decide +kernel
theorem dX1_bestHeld_24 : decode cX1_bestHeld 24 = .ok (.aload_n 0, 1) := by decide +kernel
theorem dX1_bestHeld_25 : decode cX1_bestHeld 25 = .ok (.iconst 0, 1) := by decide +kernel
theorem dX1_bestHeld_26 : decode cX1_bestHeld 26 = .ok (.iload 5, 2) := by decide +kernel
theorem dX1_bestHeld_28 : decode cX1_bestHeld 28 = .ok (.aload_n 1, 1) := by decide +kernel
theorem dX1_bestHeld_29 : decode cX1_bestHeld 29 = .ok (.iload 5, 2) := by decide +kernel
theorem dX1_bestHeld_31 : decode cX1_bestHeld 31 = .ok (.aload_n 1, 1) := by decide +kernel
theorem dX1_bestHeld_32 : decode cX1_bestHeld 32 = .ok (.iload 5, 2) := by decide +kernel
theorem dX1_bestHeld_34 : decode cX1_bestHeld 34 = .ok (.invokevirtual 53, 3) := by decide +kernel
theorem dX1_bestHeld_37 : decode cX1_bestHeld 37 = .ok (.invokevirtual 57, 3) := by decide +kernel
theorem dX1_bestHeld_40 : decode cX1_bestHeld 40 = .ok (.bipush 8, 2) := by decide +kernel
theorem dX1_bestHeld_42 : decode cX1_bestHeld 42 = .ok (.invokevirtual 75, 3) := by decide +kernel
theorem dX1_bestHeld_45 : decode cX1_bestHeld 45 = .ok (.iinc 5 1, 3) := by decide +kernel
theorem dX1_bestHeld_48 : decode cX1_bestHeld 48 = .ok (.goto (-33), 3) := by decide +kernel
theorem dX1_bestHeld_51 : decode cX1_bestHeld 51 = .ok (.iconst 0, 1) := by decide +kernel
theorem dX1_bestHeld_52 : decode cX1_bestHeld 52 = .ok (.istore 5, 2) := by decide +kernel
theorem dX1_bestHeld_54 : decode cX1_bestHeld 54 = .ok (.iconst 1, 1) := by decide +kernel
theorem dX1_bestHeld_55 : decode cX1_bestHeld 55 = .ok (.istore 6, 2) := by decide +kernel
theorem dX1_bestHeld_57 : decode cX1_bestHeld 57 = .ok (.iload 6, 2) := by decide +kernel
theorem dX1_bestHeld_59 : decode cX1_bestHeld 59 = .ok (.aload_n 0, 1) := by decide +kernel
theorem dX1_bestHeld_60 : decode cX1_bestHeld 60 = .ok (.getfield 27, 3) := by decide +kernel
theorem dX1_bestHeld_63 : decode cX1_bestHeld 63 = .ok (.if_icmp .ge 58, 3) := by decide +kernel
theorem dX1_bestHeld_66 : decode cX1_bestHeld 66 = .ok (.iload 6, 2) := by decide +kernel
theorem dX1_bestHeld_68 : decode cX1_bestHeld 68 = .ok (.aload_n 1, 1) := by decide +kernel
theorem dX1_bestHeld_69 : decode cX1_bestHeld 69 = .ok (.getfield 79, 3) := by decide +kernel
theorem dX1_bestHeld_72 : decode cX1_bestHeld 72 = .ok (.iconst (-1), 1) := by decide +kernel
theorem dX1_bestHeld_73 : decode cX1_bestHeld 73 = .ok (.ixor, 1) := by decide +kernel
theorem dX1_bestHeld_74 : decode cX1_bestHeld 74 = .ok (.iand, 1) := by decide +kernel
theorem dX1_bestHeld_75 : decode cX1_bestHeld 75 = .ok (.ifCond .ne 17, 3) := by decide +kernel
theorem dX1_bestHeld_78 : decode cX1_bestHeld 78 = .ok (.iload 6, 2) := by decide +kernel
theorem dX1_bestHeld_80 : decode cX1_bestHeld 80 = .ok (.invokestatic 82, 3) := by decide +kernel
theorem dX1_bestHeld_83 : decode cX1_bestHeld 83 = .ok (.iload 4, 2) := by decide +kernel
theorem dX1_bestHeld_85 : decode cX1_bestHeld 85 = .ok (.if_icmp .gt 7, 3) := by decide +kernel
theorem dX1_bestHeld_88 : decode cX1_bestHeld 88 = .ok (.iconst 1, 1) := by decide +kernel
theorem dX1_bestHeld_89 : decode cX1_bestHeld 89 = .ok (.goto 4, 3) := by decide +kernel
theorem dX1_bestHeld_92 : decode cX1_bestHeld 92 = .ok (.iconst 0, 1) := by decide +kernel
theorem dX1_bestHeld_93 : decode cX1_bestHeld 93 = .ok (.istore 7, 2) := by decide +kernel
theorem dX1_bestHeld_95 : decode cX1_bestHeld 95 = .ok (.iload 7, 2) := by decide +kernel
theorem dX1_bestHeld_97 : decode cX1_bestHeld 97 = .ok (.ifCond .eq 18, 3) := by decide +kernel
theorem dX1_bestHeld_100 : decode cX1_bestHeld 100 = .ok (.aload_n 0, 1) := by decide +kernel
theorem dX1_bestHeld_101 : decode cX1_bestHeld 101 = .ok (.iload 6, 2) := by decide +kernel
theorem dX1_bestHeld_103 : decode cX1_bestHeld 103 = .ok (.iload 5, 2) := by decide +kernel
theorem dX1_bestHeld_105 : decode cX1_bestHeld 105 = .ok (.invokevirtual 88, 3) := by decide +kernel
theorem dX1_bestHeld_108 : decode cX1_bestHeld 108 = .ok (.ifCond .eq 7, 3) := by decide +kernel
theorem dX1_bestHeld_111 : decode cX1_bestHeld 111 = .ok (.iload 6, 2) := by decide +kernel
theorem dX1_bestHeld_113 : decode cX1_bestHeld 113 = .ok (.istore 5, 2) := by decide +kernel
theorem dX1_bestHeld_115 : decode cX1_bestHeld 115 = .ok (.iinc 6 1, 3) := by decide +kernel
theorem dX1_bestHeld_118 : decode cX1_bestHeld 118 = .ok (.goto (-61), 3) := by decide +kernel
theorem dX1_bestHeld_121 : decode cX1_bestHeld 121 = .ok (.iload 5, 2) := by decide +kernel
theorem dX1_bestHeld_123 : decode cX1_bestHeld 123 = .ok (.ireturn, 1) := by decide +kernel
theorem dX1_isBetterHeld_0 : decode cX1_isBetterHeld 0 = .ok (.aload_n 0, 1) := by decide +kernel
theorem dX1_isBetterHeld_1 : decode cX1_isBetterHeld 1 = .ok (.getfield 18, 3) := by decide +kernel
theorem dX1_isBetterHeld_4 : decode cX1_isBetterHeld 4 = .ok (.iload_n 1, 1) := by decide +kernel
theorem dX1_isBetterHeld_5 : decode cX1_isBetterHeld 5 = .ok (.laload, 1) := by decide +kernel
theorem dX1_isBetterHeld_6 : decode cX1_isBetterHeld 6 = .ok (.aload_n 0, 1) := by decide +kernel
theorem dX1_isBetterHeld_7 : decode cX1_isBetterHeld 7 = .ok (.getfield 18, 3) := by decide +kernel
theorem dX1_isBetterHeld_10 : decode cX1_isBetterHeld 10 = .ok (.iload_n 2, 1) := by decide +kernel
theorem dX1_isBetterHeld_11 : decode cX1_isBetterHeld 11 = .ok (.laload, 1) := by decide +kernel
theorem dX1_isBetterHeld_12 : decode cX1_isBetterHeld 12 = .ok (.lcmp, 1) := by decide +kernel
theorem dX1_isBetterHeld_13 : decode cX1_isBetterHeld 13 = .ok (.ifCond .eq 25, 3) := by decide +kernel
theorem dX1_isBetterHeld_16 : decode cX1_isBetterHeld 16 = .ok (.aload_n 0, 1) := by decide +kernel
theorem dX1_isBetterHeld_17 : decode cX1_isBetterHeld 17 = .ok (.getfield 18, 3) := by decide +kernel
theorem dX1_isBetterHeld_20 : decode cX1_isBetterHeld 20 = .ok (.iload_n 1, 1) := by decide +kernel
theorem dX1_isBetterHeld_21 : decode cX1_isBetterHeld 21 = .ok (.laload, 1) := by decide +kernel
theorem dX1_isBetterHeld_22 : decode cX1_isBetterHeld 22 = .ok (.aload_n 0, 1) := by decide +kernel
theorem dX1_isBetterHeld_23 : decode cX1_isBetterHeld 23 = .ok (.getfield 18, 3) := by decide +kernel
theorem dX1_isBetterHeld_26 : decode cX1_isBetterHeld 26 = .ok (.iload_n 2, 1) := by decide +kernel
theorem dX1_isBetterHeld_27 : decode cX1_isBetterHeld 27 = .ok (.laload, 1) := by decide +kernel
theorem dX1_isBetterHeld_28 : decode cX1_isBetterHeld 28 = .ok (.lcmp, 1) := by decide +kernel
theorem dX1_isBetterHeld_29 : decode cX1_isBetterHeld 29 = .ok (.ifCond .le 7, 3) := by decide +kernel
theorem dX1_isBetterHeld_32 : decode cX1_isBetterHeld 32 = .ok (.iconst 1, 1) := by decide +kernel
theorem dX1_isBetterHeld_33 : decode cX1_isBetterHeld 33 = .ok (.goto 4, 3) := by decide +kernel
theorem dX1_isBetterHeld_36 : decode cX1_isBetterHeld 36 = .ok (.iconst 0, 1) := by decide +kernel
theorem dX1_isBetterHeld_37 : decode cX1_isBetterHeld 37 = .ok (.ireturn, 1) := by decide +kernel
theorem dX1_isBetterHeld_38 : decode cX1_isBetterHeld 38 = .ok (.iload_n 1, 1) := by decide +kernel
theorem dX1_isBetterHeld_39 : decode cX1_isBetterHeld 39 = .ok (.invokestatic 82, 3) := by decide +kernel
theorem dX1_isBetterHeld_42 : decode cX1_isBetterHeld 42 = .ok (.iload_n 2, 1) := by decide +kernel
theorem dX1_isBetterHeld_43 : decode cX1_isBetterHeld 43 = .ok (.invokestatic 82, 3) := by decide +kernel
theorem dX1_isBetterHeld_46 : decode cX1_isBetterHeld 46 = .ok (.if_icmp .ge 7, 3) := by decide +kernel
theorem dX1_isBetterHeld_49 : decode cX1_isBetterHeld 49 = .ok (.iconst 1, 1) := by decide +kernel
theorem dX1_isBetterHeld_50 : decode cX1_isBetterHeld 50 = .ok (.goto 4, 3) := by decide +kernel
theorem dX1_isBetterHeld_53 : decode cX1_isBetterHeld 53 = .ok (.iconst 0, 1) := by decide +kernel
theorem dX1_isBetterHeld_54 : decode cX1_isBetterHeld 54 = .ok (.ireturn, 1) := by decide +kernel
theorem dX1_fewestKept_0 : decode cX1_fewestKept 0 = .ok (.aload_n 0, 1) := by decide +kernel
theorem dX1_fewestKept_1 : decode cX1_fewestKept 1 = .ok (.aload_n 1, 1) := by decide +kernel
theorem dX1_fewestKept_2 : decode cX1_fewestKept 2 = .ok (.invokevirtual 49, 3) := by decide +kernel
theorem dX1_fewestKept_5 : decode cX1_fewestKept 5 = .ok (.aload_n 1, 1) := by decide +kernel
theorem dX1_fewestKept_6 : decode cX1_fewestKept 6 = .ok (.invokestatic 92, 3) := by decide +kernel
theorem dX1_fewestKept_9 : decode cX1_fewestKept 9 = .ok (.istore 4, 2) := by decide +kernel
theorem dX1_fewestKept_11 : decode cX1_fewestKept 11 = .ok (.bipush (-9), 2) := by decide +kernel
theorem dX1_fewestKept_13 : decode cX1_fewestKept 13 = .ok (.istore 5, 2) := by decide +kernel
theorem dX1_fewestKept_15 : decode cX1_fewestKept 15 = .ok (.bipush 9, 2) := by decide +kernel
theorem dX1_fewestKept_17 : decode cX1_fewestKept 17 = .ok (.istore 6, 2) := by decide +kernel
theorem dX1_fewestKept_19 : decode cX1_fewestKept 19 = .ok (.iconst 0, 1) := by decide +kernel
theorem dX1_fewestKept_20 : decode cX1_fewestKept 20 = .ok (.istore 7, 2) := by decide +kernel
theorem dX1_fewestKept_22 : decode cX1_fewestKept 22 = .ok (.iload 7, 2) := by decide +kernel
theorem dX1_fewestKept_24 : decode cX1_fewestKept 24 = .ok (.aload_n 0, 1) := by decide +kernel
theorem dX1_fewestKept_25 : decode cX1_fewestKept 25 = .ok (.getfield 27, 3) := by decide +kernel
theorem dX1_fewestKept_28 : decode cX1_fewestKept 28 = .ok (.if_icmp .ge 57, 3) := by decide +kernel
theorem dX1_fewestKept_31 : decode cX1_fewestKept 31 = .ok (.iload 7, 2) := by decide +kernel
theorem dX1_fewestKept_33 : decode cX1_fewestKept 33 = .ok (.invokestatic 82, 3) := by decide +kernel
theorem dX1_fewestKept_36 : decode cX1_fewestKept 36 = .ok (.istore 8, 2) := by decide +kernel
theorem dX1_fewestKept_38 : decode cX1_fewestKept 38 = .ok (.iload 7, 2) := by decide +kernel
theorem dX1_fewestKept_40 : decode cX1_fewestKept 40 = .ok (.aload_n 1, 1) := by decide +kernel
theorem dX1_fewestKept_41 : decode cX1_fewestKept 41 = .ok (.getfield 79, 3) := by decide +kernel
theorem dX1_fewestKept_44 : decode cX1_fewestKept 44 = .ok (.iconst (-1), 1) := by decide +kernel
theorem dX1_fewestKept_45 : decode cX1_fewestKept 45 = .ok (.ixor, 1) := by decide +kernel
theorem dX1_fewestKept_46 : decode cX1_fewestKept 46 = .ok (.iand, 1) := by decide +kernel
theorem dX1_fewestKept_47 : decode cX1_fewestKept 47 = .ok (.ifCond .ne 32, 3) := by decide +kernel
theorem dX1_fewestKept_50 : decode cX1_fewestKept 50 = .ok (.iload 8, 2) := by decide +kernel
theorem dX1_fewestKept_52 : decode cX1_fewestKept 52 = .ok (.iload 6, 2) := by decide +kernel
theorem dX1_fewestKept_54 : decode cX1_fewestKept 54 = .ok (.if_icmp .ge 25, 3) := by decide +kernel
theorem dX1_fewestKept_57 : decode cX1_fewestKept 57 = .ok (.aload_n 0, 1) := by decide +kernel
theorem dX1_fewestKept_58 : decode cX1_fewestKept 58 = .ok (.iload 7, 2) := by decide +kernel
theorem dX1_fewestKept_60 : decode cX1_fewestKept 60 = .ok (.iload 4, 2) := by decide +kernel
theorem dX1_fewestKept_62 : decode cX1_fewestKept 62 = .ok (.ior, 1) := by decide +kernel
theorem dX1_fewestKept_63 : decode cX1_fewestKept 63 = .ok (.iload_n 2, 1) := by decide +kernel
theorem dX1_fewestKept_64 : decode cX1_fewestKept 64 = .ok (.iload_n 3, 1) := by decide +kernel
theorem dX1_fewestKept_65 : decode cX1_fewestKept 65 = .ok (.invokevirtual 61, 3) := by decide +kernel
theorem dX1_fewestKept_68 : decode cX1_fewestKept 68 = .ok (.ifCond .eq 11, 3) := by decide +kernel
theorem dX1_fewestKept_71 : decode cX1_fewestKept 71 = .ok (.iload 7, 2) := by decide +kernel
theorem dX1_fewestKept_73 : decode cX1_fewestKept 73 = .ok (.istore 5, 2) := by decide +kernel
theorem dX1_fewestKept_75 : decode cX1_fewestKept 75 = .ok (.iload 8, 2) := by decide +kernel
theorem dX1_fewestKept_77 : decode cX1_fewestKept 77 = .ok (.istore 6, 2) := by decide +kernel
theorem dX1_fewestKept_79 : decode cX1_fewestKept 79 = .ok (.iinc 7 1, 3) := by decide +kernel
theorem dX1_fewestKept_82 : decode cX1_fewestKept 82 = .ok (.goto (-60), 3) := by decide +kernel
theorem dX1_fewestKept_85 : decode cX1_fewestKept 85 = .ok (.iload 5, 2) := by decide +kernel
theorem dX1_fewestKept_87 : decode cX1_fewestKept 87 = .ok (.ireturn, 1) := by decide +kernel
theorem dX1_surePaths_0 : decode cX1_surePaths 0 = .ok (.iconst 0, 1) := by decide +kernel
theorem dX1_surePaths_1 : decode cX1_surePaths 1 = .ok (.istore_n 1, 1) := by decide +kernel
theorem dX1_surePaths_2 : decode cX1_surePaths 2 = .ok (.iconst 0, 1) := by decide +kernel
theorem dX1_surePaths_3 : decode cX1_surePaths 3 = .ok (.istore_n 2, 1) := by decide +kernel
theorem dX1_surePaths_4 : decode cX1_surePaths 4 = .ok (.iload_n 2, 1) := by decide +kernel
theorem dX1_surePaths_5 : decode cX1_surePaths 5 = .ok (.aload_n 0, 1) := by decide +kernel
theorem dX1_surePaths_6 : decode cX1_surePaths 6 = .ok (.getfield 21, 3) := by decide +kernel
theorem dX1_surePaths_9 : decode cX1_surePaths 9 = .ok (.if_icmp .ge 34, 3) := by decide +kernel
theorem dX1_surePaths_12 : decode cX1_surePaths 12 = .ok (.aload_n 0, 1) := by decide +kernel
theorem dX1_surePaths_13 : decode cX1_surePaths 13 = .ok (.iload_n 2, 1) := by decide +kernel
theorem dX1_surePaths_14 : decode cX1_surePaths 14 = .ok (.invokevirtual 53, 3) := by decide +kernel
theorem dX1_surePaths_17 : decode cX1_surePaths 17 = .ok (.ifCond .eq 20, 3) := by decide +kernel
theorem dX1_surePaths_20 : decode cX1_surePaths 20 = .ok (.aload_n 0, 1) := by decide +kernel
theorem dX1_surePaths_21 : decode cX1_surePaths 21 = .ok (.iload_n 2, 1) := by decide +kernel
theorem dX1_surePaths_22 : decode cX1_surePaths 22 = .ok (.iconst 1, 1) := by decide +kernel
theorem dX1_surePaths_23 : decode cX1_surePaths 23 = .ok (.invokevirtual 57, 3) := by decide +kernel
theorem dX1_surePaths_26 : decode cX1_surePaths 26 = .ok (.bipush 8, 2) := by decide +kernel
theorem dX1_surePaths_28 : decode cX1_surePaths 28 = .ok (.if_icmp .ne 9, 3) := by decide +kernel
theorem dX1_surePaths_31 : decode cX1_surePaths 31 = .ok (.iload_n 1, 1) := by decide +kernel
theorem dX1_surePaths_32 : decode cX1_surePaths 32 = .ok (.iconst 1, 1) := by decide +kernel
theorem dX1_surePaths_33 : decode cX1_surePaths 33 = .ok (.iload_n 2, 1) := by decide +kernel
theorem dX1_surePaths_34 : decode cX1_surePaths 34 = .ok (.ishl, 1) := by decide +kernel
theorem dX1_surePaths_35 : decode cX1_surePaths 35 = .ok (.ior, 1) := by decide +kernel
theorem dX1_surePaths_36 : decode cX1_surePaths 36 = .ok (.istore_n 1, 1) := by decide +kernel
theorem dX1_surePaths_37 : decode cX1_surePaths 37 = .ok (.iinc 2 1, 3) := by decide +kernel
theorem dX1_surePaths_40 : decode cX1_surePaths 40 = .ok (.goto (-36), 3) := by decide +kernel
theorem dX1_surePaths_43 : decode cX1_surePaths 43 = .ok (.iload_n 1, 1) := by decide +kernel
theorem dX1_surePaths_44 : decode cX1_surePaths 44 = .ok (.ireturn, 1) := by decide +kernel
theorem dX1_bestWithin_0 : decode cX1_bestWithin 0 = .ok (.aload_n 0, 1) := by decide +kernel
theorem dX1_bestWithin_1 : decode cX1_bestWithin 1 = .ok (.aload_n 1, 1) := by decide +kernel
theorem dX1_bestWithin_2 : decode cX1_bestWithin 2 = .ok (.invokevirtual 96, 3) := by decide +kernel
theorem dX1_bestWithin_5 : decode cX1_bestWithin 5 = .ok (.iload 4, 2) := by decide +kernel
theorem dX1_bestWithin_7 : decode cX1_bestWithin 7 = .ok (.ifCond .ne 22, 3) := by decide +kernel
theorem dX1_bestWithin_10 : decode cX1_bestWithin 10 = .ok (.aload_n 0, 1) := by decide +kernel
theorem dX1_bestWithin_11 : decode cX1_bestWithin 11 = .ok (.aload_n 1, 1) := by decide +kernel
theorem dX1_bestWithin_12 : decode cX1_bestWithin 12 = .ok (.getfield 79, 3) := by decide +kernel
theorem dX1_bestWithin_15 : decode cX1_bestWithin 15 = .ok (.iload_n 2, 1) := by decide +kernel
theorem dX1_bestWithin_16 : decode cX1_bestWithin 16 = .ok (.iload_n 3, 1) := by decide +kernel
theorem dX1_bestWithin_17 : decode cX1_bestWithin 17 = .ok (.invokevirtual 61, 3) := by decide +kernel
theorem dX1_bestWithin_20 : decode cX1_bestWithin 20 = .ok (.ifCond .eq 7, 3) := by decide +kernel
theorem dX1_bestWithin_23 : decode cX1_bestWithin 23 = .ok (.lconst 1, 1) := by decide +kernel
theorem dX1_bestWithin_24 : decode cX1_bestWithin 24 = .ok (.goto 4, 3) := by decide +kernel
theorem dX1_bestWithin_27 : decode cX1_bestWithin 27 = .ok (.lconst 0, 1) := by decide +kernel
theorem dX1_bestWithin_28 : decode cX1_bestWithin 28 = .ok (.lreturn, 1) := by decide +kernel
theorem dX1_bestWithin_29 : decode cX1_bestWithin 29 = .ok (.iconst 0, 1) := by decide +kernel
theorem dX1_bestWithin_30 : decode cX1_bestWithin 30 = .ok (.istore 5, 2) := by decide +kernel
theorem dX1_bestWithin_32 : decode cX1_bestWithin 32 = .ok (.iload 5, 2) := by decide +kernel
theorem dX1_bestWithin_34 : decode cX1_bestWithin 34 = .ok (.bipush 8, 2) := by decide +kernel
theorem dX1_bestWithin_36 : decode cX1_bestWithin 36 = .ok (.if_icmp .ge 22, 3) := by decide +kernel
theorem dX1_bestWithin_39 : decode cX1_bestWithin 39 = .ok (.aload_n 0, 1) := by decide +kernel
theorem dX1_bestWithin_40 : decode cX1_bestWithin 40 = .ok (.iload 5, 2) := by decide +kernel
theorem dX1_bestWithin_42 : decode cX1_bestWithin 42 = .ok (.sipush 256, 3) := by decide +kernel
theorem dX1_bestWithin_45 : decode cX1_bestWithin 45 = .ok (.imul, 1) := by decide +kernel
theorem dX1_bestWithin_46 : decode cX1_bestWithin 46 = .ok (.iload 5, 2) := by decide +kernel
theorem dX1_bestWithin_48 : decode cX1_bestWithin 48 = .ok (.iload_n 3, 1) := by decide +kernel
theorem dX1_bestWithin_49 : decode cX1_bestWithin 49 = .ok (.invokevirtual 71, 3) := by decide +kernel
theorem dX1_bestWithin_52 : decode cX1_bestWithin 52 = .ok (.iinc 5 1, 3) := by decide +kernel
theorem dX1_bestWithin_55 : decode cX1_bestWithin 55 = .ok (.goto (-23), 3) := by decide +kernel
theorem dX1_bestWithin_58 : decode cX1_bestWithin 58 = .ok (.iconst 1, 1) := by decide +kernel
theorem dX1_bestWithin_59 : decode cX1_bestWithin 59 = .ok (.istore 5, 2) := by decide +kernel
theorem dX1_bestWithin_61 : decode cX1_bestWithin 61 = .ok (.iload 5, 2) := by decide +kernel
theorem dX1_bestWithin_63 : decode cX1_bestWithin 63 = .ok (.iload 4, 2) := by decide +kernel
theorem dX1_bestWithin_65 : decode cX1_bestWithin 65 = .ok (.if_icmp .ge 18, 3) := by decide +kernel
theorem dX1_bestWithin_68 : decode cX1_bestWithin 68 = .ok (.aload_n 0, 1) := by decide +kernel
theorem dX1_bestWithin_69 : decode cX1_bestWithin 69 = .ok (.aload_n 1, 1) := by decide +kernel
theorem dX1_bestWithin_70 : decode cX1_bestWithin 70 = .ok (.invokevirtual 99, 3) := by decide +kernel
theorem dX1_bestWithin_73 : decode cX1_bestWithin 73 = .ok (.aload_n 0, 1) := by decide +kernel
theorem dX1_bestWithin_74 : decode cX1_bestWithin 74 = .ok (.invokevirtual 102, 3) := by decide +kernel
theorem dX1_bestWithin_77 : decode cX1_bestWithin 77 = .ok (.iinc 5 1, 3) := by decide +kernel
theorem dX1_bestWithin_80 : decode cX1_bestWithin 80 = .ok (.goto (-19), 3) := by decide +kernel
theorem dX1_bestWithin_83 : decode cX1_bestWithin 83 = .ok (.aload_n 0, 1) := by decide +kernel
theorem dX1_bestWithin_84 : decode cX1_bestWithin 84 = .ok (.aload_n 1, 1) := by decide +kernel
theorem dX1_bestWithin_85 : decode cX1_bestWithin 85 = .ok (.getfield 79, 3) := by decide +kernel
theorem dX1_bestWithin_88 : decode cX1_bestWithin 88 = .ok (.iload_n 2, 1) := by decide +kernel
theorem dX1_bestWithin_89 : decode cX1_bestWithin 89 = .ok (.invokevirtual 105, 3) := by decide +kernel
theorem dX1_bestWithin_92 : decode cX1_bestWithin 92 = .ok (.lreturn, 1) := by decide +kernel
theorem dX1_bestWait_0 : decode cX1_bestWait 0 = .ok (.lconst 0, 1) := by decide +kernel
theorem dX1_bestWait_1 : decode cX1_bestWait 1 = .ok (.lstore_n 3, 1) := by decide +kernel
theorem dX1_bestWait_2 : decode cX1_bestWait 2 = .ok (.iconst 0, 1) := by decide +kernel
theorem dX1_bestWait_3 : decode cX1_bestWait 3 = .ok (.istore 5, 2) := by decide +kernel
theorem dX1_bestWait_5 : decode cX1_bestWait 5 = .ok (.iload 5, 2) := by decide +kernel
theorem dX1_bestWait_7 : decode cX1_bestWait 7 = .ok (.bipush 8, 2) := by decide +kernel
theorem dX1_bestWait_9 : decode cX1_bestWait 9 = .ok (.if_icmp .ge 31, 3) := by decide +kernel
theorem dX1_bestWait_12 : decode cX1_bestWait 12 = .ok (.aload_n 0, 1) := by decide +kernel
theorem dX1_bestWait_13 : decode cX1_bestWait 13 = .ok (.iload_n 1, 1) := by decide +kernel
theorem dX1_bestWait_14 : decode cX1_bestWait 14 = .ok (.iload_n 2, 1) := by decide +kernel
theorem dX1_bestWait_15 : decode cX1_bestWait 15 = .ok (.iload 5, 2) := by decide +kernel
theorem dX1_bestWait_17 : decode cX1_bestWait 17 = .ok (.invokevirtual 61, 3) := by decide +kernel
theorem dX1_bestWait_20 : decode cX1_bestWait 20 = .ok (.ifCond .eq 14, 3) := by decide +kernel
theorem dX1_bestWait_23 : decode cX1_bestWait 23 = .ok (.lload_n 3, 1) := by decide +kernel
theorem dX1_bestWait_24 : decode cX1_bestWait 24 = .ok (.aload_n 0, 1) := by decide +kernel
theorem dX1_bestWait_25 : decode cX1_bestWait 25 = .ok (.iload 5, 2) := by decide +kernel
theorem dX1_bestWait_27 : decode cX1_bestWait 27 = .ok (.invokevirtual 108, 3) := by decide +kernel
theorem dX1_bestWait_30 : decode cX1_bestWait 30 = .ok (.invokestatic 112, 3) := by decide +kernel
theorem dX1_bestWait_33 : decode cX1_bestWait 33 = .ok (.lstore_n 3, 1) := by decide +kernel
theorem dX1_bestWait_34 : decode cX1_bestWait 34 = .ok (.iinc 5 1, 3) := by decide +kernel
theorem dX1_bestWait_37 : decode cX1_bestWait 37 = .ok (.goto (-32), 3) := by decide +kernel
theorem dX1_bestWait_40 : decode cX1_bestWait 40 = .ok (.lload_n 3, 1) := by decide +kernel
theorem dX1_bestWait_41 : decode cX1_bestWait 41 = .ok (.lreturn, 1) := by decide +kernel
theorem dX1_valueOfWaiting_0 : decode cX1_valueOfWaiting 0 = .ok (.lconst 0, 1) := by decide +kernel
theorem dX1_valueOfWaiting_1 : decode cX1_valueOfWaiting 1 = .ok (.lstore_n 2, 1) := by decide +kernel
theorem dX1_valueOfWaiting_2 : decode cX1_valueOfWaiting 2 = .ok (.iconst 0, 1) := by decide +kernel
theorem dX1_valueOfWaiting_3 : decode cX1_valueOfWaiting 3 = .ok (.istore 4, 2) := by decide +kernel
theorem dX1_valueOfWaiting_5 : decode cX1_valueOfWaiting 5 = .ok (.iload 4, 2) := by decide +kernel
theorem dX1_valueOfWaiting_7 : decode cX1_valueOfWaiting 7 = .ok (.aload_n 0, 1) := by decide +kernel
theorem dX1_valueOfWaiting_8 : decode cX1_valueOfWaiting 8 = .ok (.getfield 27, 3) := by decide +kernel
theorem dX1_valueOfWaiting_11 : decode cX1_valueOfWaiting 11 = .ok (.if_icmp .ge 33, 3) := by decide +kernel
theorem dX1_valueOfWaiting_14 : decode cX1_valueOfWaiting 14 = .ok (.lload_n 2, 1) := by decide +kernel
theorem dX1_valueOfWaiting_15 : decode cX1_valueOfWaiting 15 = .ok (.aload_n 0, 1) := by decide +kernel
theorem dX1_valueOfWaiting_16 : decode cX1_valueOfWaiting 16 = .ok (.getfield 15, 3) := by decide +kernel
theorem dX1_valueOfWaiting_19 : decode cX1_valueOfWaiting 19 = .ok (.iload 4, 2) := by decide +kernel
theorem dX1_valueOfWaiting_21 : decode cX1_valueOfWaiting 21 = .ok (.laload, 1) := by decide +kernel
theorem dX1_valueOfWaiting_22 : decode cX1_valueOfWaiting 22 = .ok (.aload_n 0, 1) := by decide +kernel
theorem dX1_valueOfWaiting_23 : decode cX1_valueOfWaiting 23 = .ok (.getfield 18, 3) := by decide +kernel
theorem dX1_valueOfWaiting_26 : decode cX1_valueOfWaiting 26 = .ok (.iload_n 1, 1) := by decide +kernel
theorem dX1_valueOfWaiting_27 : decode cX1_valueOfWaiting 27 = .ok (.sipush 256, 3) := by decide +kernel
theorem dX1_valueOfWaiting_30 : decode cX1_valueOfWaiting 30 = .ok (.imul, 1) := by decide +kernel
theorem dX1_valueOfWaiting_31 : decode cX1_valueOfWaiting 31 = .ok (.iload 4, 2) := by decide +kernel
theorem dX1_valueOfWaiting_33 : decode cX1_valueOfWaiting 33 = .ok (.iadd, 1) := by decide +kernel
theorem dX1_valueOfWaiting_34 : decode cX1_valueOfWaiting 34 = .ok (.laload, 1) := by decide +kernel
theorem dX1_valueOfWaiting_35 : decode cX1_valueOfWaiting 35 = .ok (.lmul, 1) := by decide +kernel
theorem dX1_valueOfWaiting_36 : decode cX1_valueOfWaiting 36 = .ok (.ladd, 1) := by decide +kernel
theorem dX1_valueOfWaiting_37 : decode cX1_valueOfWaiting 37 = .ok (.lstore_n 2, 1) := by decide +kernel
theorem dX1_valueOfWaiting_38 : decode cX1_valueOfWaiting 38 = .ok (.iinc 4 1, 3) := by decide +kernel
theorem dX1_valueOfWaiting_41 : decode cX1_valueOfWaiting 41 = .ok (.goto (-36), 3) := by decide +kernel
theorem dX1_valueOfWaiting_44 : decode cX1_valueOfWaiting 44 = .ok (.lload_n 2, 1) := by decide +kernel
theorem dX1_valueOfWaiting_45 : decode cX1_valueOfWaiting 45 = .ok (.lreturn, 1) := by decide +kernel
theorem dX1_waitOneNight_0 : decode cX1_waitOneNight 0 = .ok (.iconst 0, 1) := by decide +kernel
theorem dX1_waitOneNight_1 : decode cX1_waitOneNight 1 = .ok (.istore_n 2, 1) := by decide +kernel
theorem dX1_waitOneNight_2 : decode cX1_waitOneNight 2 = .ok (.iload_n 2, 1) := by decide +kernel
theorem dX1_waitOneNight_3 : decode cX1_waitOneNight 3 = .ok (.aload_n 1, 1) := by decide +kernel
theorem dX1_waitOneNight_4 : decode cX1_waitOneNight 4 = .ok (.getfield 21, 3) := by decide +kernel
theorem dX1_waitOneNight_7 : decode cX1_waitOneNight 7 = .ok (.if_icmp .ge 54, 3) := by decide +kernel
theorem dX1_waitOneNight_10 : decode cX1_waitOneNight 10 = .ok (.aload_n 1, 1) := by decide +kernel
theorem dX1_waitOneNight_11 : decode cX1_waitOneNight 11 = .ok (.iload_n 2, 1) := by decide +kernel
theorem dX1_waitOneNight_12 : decode cX1_waitOneNight 12 = .ok (.iconst 0, 1) := by decide +kernel
theorem dX1_waitOneNight_13 : decode cX1_waitOneNight 13 = .ok (.invokevirtual 57, 3) := by decide +kernel
theorem dX1_waitOneNight_16 : decode cX1_waitOneNight 16 = .ok (.istore_n 3, 1) := by decide +kernel
theorem dX1_waitOneNight_17 : decode cX1_waitOneNight 17 = .ok (.aload_n 1, 1) := by decide +kernel
theorem dX1_waitOneNight_18 : decode cX1_waitOneNight 18 = .ok (.iload_n 2, 1) := by decide +kernel
theorem dX1_waitOneNight_19 : decode cX1_waitOneNight 19 = .ok (.iconst 1, 1) := by decide +kernel
theorem dX1_waitOneNight_20 : decode cX1_waitOneNight 20 = .ok (.invokevirtual 57, 3) := by decide +kernel
theorem dX1_waitOneNight_23 : decode cX1_waitOneNight 23 = .ok (.istore 4, 2) := by decide +kernel
theorem dX1_waitOneNight_25 : decode cX1_waitOneNight 25 = .ok (.iconst 0, 1) := by decide +kernel
theorem dX1_waitOneNight_26 : decode cX1_waitOneNight 26 = .ok (.istore 5, 2) := by decide +kernel
theorem dX1_waitOneNight_28 : decode cX1_waitOneNight 28 = .ok (.iload 5, 2) := by decide +kernel
theorem dX1_waitOneNight_30 : decode cX1_waitOneNight 30 = .ok (.bipush 8, 2) := by decide +kernel
theorem dX1_waitOneNight_32 : decode cX1_waitOneNight 32 = .ok (.if_icmp .ge 23, 3) := by decide +kernel
theorem dX1_waitOneNight_35 : decode cX1_waitOneNight 35 = .ok (.aload_n 0, 1) := by decide +kernel
theorem dX1_waitOneNight_36 : decode cX1_waitOneNight 36 = .ok (.iload 5, 2) := by decide +kernel
theorem dX1_waitOneNight_38 : decode cX1_waitOneNight 38 = .ok (.sipush 256, 3) := by decide +kernel
theorem dX1_waitOneNight_41 : decode cX1_waitOneNight 41 = .ok (.imul, 1) := by decide +kernel
theorem dX1_waitOneNight_42 : decode cX1_waitOneNight 42 = .ok (.iload_n 2, 1) := by decide +kernel
theorem dX1_waitOneNight_43 : decode cX1_waitOneNight 43 = .ok (.iload_n 3, 1) := by decide +kernel
theorem dX1_waitOneNight_44 : decode cX1_waitOneNight 44 = .ok (.iload 4, 2) := by decide +kernel
theorem dX1_waitOneNight_46 : decode cX1_waitOneNight 46 = .ok (.invokevirtual 75, 3) := by decide +kernel
theorem dX1_waitOneNight_49 : decode cX1_waitOneNight 49 = .ok (.iinc 5 1, 3) := by decide +kernel
theorem dX1_waitOneNight_52 : decode cX1_waitOneNight 52 = .ok (.goto (-24), 3) := by decide +kernel
theorem dX1_waitOneNight_55 : decode cX1_waitOneNight 55 = .ok (.iinc 2 1, 3) := by decide +kernel
theorem dX1_waitOneNight_58 : decode cX1_waitOneNight 58 = .ok (.goto (-56), 3) := by decide +kernel
theorem dX1_waitOneNight_61 : decode cX1_waitOneNight 61 = .ok (.return_, 1) := by decide +kernel
theorem dX1_goWhereBest_0 : decode cX1_goWhereBest 0 = .ok (.iconst 0, 1) := by decide +kernel
theorem dX1_goWhereBest_1 : decode cX1_goWhereBest 1 = .ok (.istore_n 1, 1) := by decide +kernel
theorem dX1_goWhereBest_2 : decode cX1_goWhereBest 2 = .ok (.iload_n 1, 1) := by decide +kernel
theorem dX1_goWhereBest_3 : decode cX1_goWhereBest 3 = .ok (.aload_n 0, 1) := by decide +kernel
theorem dX1_goWhereBest_4 : decode cX1_goWhereBest 4 = .ok (.getfield 27, 3) := by decide +kernel
theorem dX1_goWhereBest_7 : decode cX1_goWhereBest 7 = .ok (.if_icmp .ge 41, 3) := by decide +kernel
theorem dX1_goWhereBest_10 : decode cX1_goWhereBest 10 = .ok (.iconst 0, 1) := by decide +kernel
theorem dX1_goWhereBest_11 : decode cX1_goWhereBest 11 = .ok (.istore_n 2, 1) := by decide +kernel
theorem dX1_goWhereBest_12 : decode cX1_goWhereBest 12 = .ok (.iload_n 2, 1) := by decide +kernel
theorem dX1_goWhereBest_13 : decode cX1_goWhereBest 13 = .ok (.bipush 8, 2) := by decide +kernel
theorem dX1_goWhereBest_15 : decode cX1_goWhereBest 15 = .ok (.if_icmp .ge 27, 3) := by decide +kernel
theorem dX1_goWhereBest_18 : decode cX1_goWhereBest 18 = .ok (.aload_n 0, 1) := by decide +kernel
theorem dX1_goWhereBest_19 : decode cX1_goWhereBest 19 = .ok (.getfield 18, 3) := by decide +kernel
theorem dX1_goWhereBest_22 : decode cX1_goWhereBest 22 = .ok (.iload_n 2, 1) := by decide +kernel
theorem dX1_goWhereBest_23 : decode cX1_goWhereBest 23 = .ok (.sipush 256, 3) := by decide +kernel
theorem dX1_goWhereBest_26 : decode cX1_goWhereBest 26 = .ok (.imul, 1) := by decide +kernel
theorem dX1_goWhereBest_27 : decode cX1_goWhereBest 27 = .ok (.iload_n 1, 1) := by decide +kernel
theorem dX1_goWhereBest_28 : decode cX1_goWhereBest 28 = .ok (.iadd, 1) := by decide +kernel
theorem dX1_goWhereBest_29 : decode cX1_goWhereBest 29 = .ok (.aload_n 0, 1) := by decide +kernel
theorem dX1_goWhereBest_30 : decode cX1_goWhereBest 30 = .ok (.iload_n 1, 1) := by decide +kernel
theorem dX1_goWhereBest_31 : decode cX1_goWhereBest 31 = .ok (.iload_n 2, 1) := by decide +kernel
theorem dX1_goWhereBest_32 : decode cX1_goWhereBest 32 = .ok (.invokevirtual 118, 3) := by decide +kernel
theorem dX1_goWhereBest_35 : decode cX1_goWhereBest 35 = .ok (.lastore, 1) := by decide +kernel
theorem dX1_goWhereBest_36 : decode cX1_goWhereBest 36 = .ok (.iinc 2 1, 3) := by decide +kernel
theorem dX1_goWhereBest_39 : decode cX1_goWhereBest 39 = .ok (.goto (-27), 3) := by decide +kernel
theorem dX1_goWhereBest_42 : decode cX1_goWhereBest 42 = .ok (.iinc 1 1, 3) := by decide +kernel
theorem dX1_goWhereBest_45 : decode cX1_goWhereBest 45 = .ok (.goto (-43), 3) := by decide +kernel
theorem dX1_goWhereBest_48 : decode cX1_goWhereBest 48 = .ok (.return_, 1) := by decide +kernel
theorem dX1_bestReached_0 : decode cX1_bestReached 0 = .ok (.lconst 0, 1) := by decide +kernel
theorem dX1_bestReached_1 : decode cX1_bestReached 1 = .ok (.lstore_n 3, 1) := by decide +kernel
theorem dX1_bestReached_2 : decode cX1_bestReached 2 = .ok (.iconst 0, 1) := by decide +kernel
theorem dX1_bestReached_3 : decode cX1_bestReached 3 = .ok (.istore 5, 2) := by decide +kernel
theorem dX1_bestReached_5 : decode cX1_bestReached 5 = .ok (.iload 5, 2) := by decide +kernel
theorem dX1_bestReached_7 : decode cX1_bestReached 7 = .ok (.bipush 8, 2) := by decide +kernel
theorem dX1_bestReached_9 : decode cX1_bestReached 9 = .ok (.if_icmp .ge 46, 3) := by decide +kernel
theorem dX1_bestReached_12 : decode cX1_bestReached 12 = .ok (.aload_n 0, 1) := by decide +kernel
theorem dX1_bestReached_13 : decode cX1_bestReached 13 = .ok (.iload_n 1, 1) := by decide +kernel
theorem dX1_bestReached_14 : decode cX1_bestReached 14 = .ok (.iload_n 2, 1) := by decide +kernel
theorem dX1_bestReached_15 : decode cX1_bestReached 15 = .ok (.iload 5, 2) := by decide +kernel
theorem dX1_bestReached_17 : decode cX1_bestReached 17 = .ok (.invokevirtual 61, 3) := by decide +kernel
theorem dX1_bestReached_20 : decode cX1_bestReached 20 = .ok (.ifCond .eq 29, 3) := by decide +kernel
theorem dX1_bestReached_23 : decode cX1_bestReached 23 = .ok (.lload_n 3, 1) := by decide +kernel
theorem dX1_bestReached_24 : decode cX1_bestReached 24 = .ok (.aload_n 0, 1) := by decide +kernel
theorem dX1_bestReached_25 : decode cX1_bestReached 25 = .ok (.getfield 18, 3) := by decide +kernel
theorem dX1_bestReached_28 : decode cX1_bestReached 28 = .ok (.iload 5, 2) := by decide +kernel
theorem dX1_bestReached_30 : decode cX1_bestReached 30 = .ok (.sipush 256, 3) := by decide +kernel
theorem dX1_bestReached_33 : decode cX1_bestReached 33 = .ok (.imul, 1) := by decide +kernel
theorem dX1_bestReached_34 : decode cX1_bestReached 34 = .ok (.iload_n 1, 1) := by decide +kernel
theorem dX1_bestReached_35 : decode cX1_bestReached 35 = .ok (.iadd, 1) := by decide +kernel
theorem dX1_bestReached_36 : decode cX1_bestReached 36 = .ok (.laload, 1) := by decide +kernel
theorem dX1_bestReached_37 : decode cX1_bestReached 37 = .ok (.invokestatic 112, 3) := by decide +kernel
theorem dX1_bestReached_40 : decode cX1_bestReached 40 = .ok (.lstore_n 3, 1) := by decide +kernel
theorem dX1_bestReached_41 : decode cX1_bestReached 41 = .ok (.iload 5, 2) := by decide +kernel
theorem dX1_bestReached_43 : decode cX1_bestReached 43 = .ok (.iload_n 2, 1) := by decide +kernel
theorem dX1_bestReached_44 : decode cX1_bestReached 44 = .ok (.if_icmp .ge 5, 3) := by decide +kernel
theorem dX1_bestReached_47 : decode cX1_bestReached 47 = .ok (.lload_n 3, 1) := by decide +kernel
theorem dX1_bestReached_48 : decode cX1_bestReached 48 = .ok (.lreturn, 1) := by decide +kernel
theorem dX1_bestReached_49 : decode cX1_bestReached 49 = .ok (.iinc 5 1, 3) := by decide +kernel
theorem dX1_bestReached_52 : decode cX1_bestReached 52 = .ok (.goto (-47), 3) := by decide +kernel
theorem dX1_bestReached_55 : decode cX1_bestReached 55 = .ok (.lload_n 3, 1) := by decide +kernel
theorem dX1_bestReached_56 : decode cX1_bestReached 56 = .ok (.lreturn, 1) := by decide +kernel
theorem dX2_init_0 : decode cX2_init 0 = .ok (.aload_n 0, 1) := by decide +kernel
theorem dX2_init_1 : decode cX2_init 1 = .ok (.iload_n 1, 1) := by decide +kernel
theorem dX2_init_2 : decode cX2_init 2 = .ok (.iload_n 2, 1) := by decide +kernel
theorem dX2_init_3 : decode cX2_init 3 = .ok (.aload_n 3, 1) := by decide +kernel
theorem dX2_init_4 : decode cX2_init 4 = .ok (.invokespecial 1, 3) := by decide +kernel
theorem dX2_init_7 : decode cX2_init 7 = .ok (.return_, 1) := by decide +kernel
theorem dX2_leads_0 : decode cX2_leads 0 = .ok (.aload_n 0, 1) := by decide +kernel
theorem dX2_leads_1 : decode cX2_leads 1 = .ok (.getfield 7, 3) := by decide +kernel
theorem dX2_leads_4 : decode cX2_leads 4 = .ok (.bipush 40, 2) := by decide +kernel
theorem dX2_leads_6 : decode cX2_leads 6 = .ok (.invokevirtual 13, 3) := by decide +kernel
theorem dX2_leads_9 : decode cX2_leads 9 = .ok (.iconst 0, 1) := by decide +kernel
theorem dX2_leads_10 : decode cX2_leads 10 = .ok (.aload_n 0, 1) := by decide +kernel
theorem dX2_leads_11 : decode cX2_leads 11 = .ok (.iload_n 1, 1) := by decide +kernel
theorem dX2_leads_12 : decode cX2_leads 12 = .ok (.invokespecial 19, 3) := by decide +kernel
theorem dX2_leads_15 : decode cX2_leads 15 = .ok (.isub, 1) := by decide +kernel
theorem dX2_leads_16 : decode cX2_leads 16 = .ok (.ireturn, 1) := by decide +kernel
theorem dX2_stays_0 : decode cX2_stays 0 = .ok (.aload_n 0, 1) := by decide +kernel
theorem dX2_stays_1 : decode cX2_stays 1 = .ok (.getfield 7, 3) := by decide +kernel
theorem dX2_stays_4 : decode cX2_stays 4 = .ok (.bipush 41, 2) := by decide +kernel
theorem dX2_stays_6 : decode cX2_stays 6 = .ok (.invokevirtual 13, 3) := by decide +kernel
theorem dX2_stays_9 : decode cX2_stays 9 = .ok (.aload_n 0, 1) := by decide +kernel
theorem dX2_stays_10 : decode cX2_stays 10 = .ok (.iload_n 1, 1) := by decide +kernel
theorem dX2_stays_11 : decode cX2_stays 11 = .ok (.invokespecial 23, 3) := by decide +kernel
theorem dX2_stays_14 : decode cX2_stays 14 = .ok (.aload_n 0, 1) := by decide +kernel
theorem dX2_stays_15 : decode cX2_stays 15 = .ok (.aload_n 0, 1) := by decide +kernel
theorem dX2_stays_16 : decode cX2_stays 16 = .ok (.getfield 26, 3) := by decide +kernel
theorem dX2_stays_19 : decode cX2_stays 19 = .ok (.invokevirtual 30, 3) := by decide +kernel
theorem dX2_stays_22 : decode cX2_stays 22 = .ok (.iadd, 1) := by decide +kernel
theorem dX2_stays_23 : decode cX2_stays 23 = .ok (.ireturn, 1) := by decide +kernel
theorem dX3_init_0 : decode cX3_init 0 = .ok (.aload_n 0, 1) := by decide +kernel
theorem dX3_init_1 : decode cX3_init 1 = .ok (.invokespecial 1, 3) := by decide +kernel
theorem dX3_init_4 : decode cX3_init 4 = .ok (.aload_n 0, 1) := by decide +kernel
theorem dX3_init_5 : decode cX3_init 5 = .ok (.iload_n 1, 1) := by decide +kernel
theorem dX3_init_6 : decode cX3_init 6 = .ok (.putfield 7, 3) := by decide +kernel
theorem dX3_init_9 : decode cX3_init 9 = .ok (.aload_n 0, 1) := by decide +kernel
theorem dX3_init_10 : decode cX3_init 10 = .ok (.iload_n 2, 1) := by decide +kernel
theorem dX3_init_11 : decode cX3_init 11 = .ok (.putfield 13, 3) := by decide +kernel
theorem dX3_init_14 : decode cX3_init 14 = .ok (.aload_n 0, 1) := by decide +kernel
theorem dX3_init_15 : decode cX3_init 15 = .ok (.aload_n 3, 1) := by decide +kernel
theorem dX3_init_16 : decode cX3_init 16 = .ok (.putfield 16, 3) := by decide +kernel
theorem dX3_init_19 : decode cX3_init 19 = .ok (.return_, 1) := by decide +kernel
theorem dX3_leads_0 : decode cX3_leads 0 = .ok (.aload_n 0, 1) := by decide +kernel
theorem dX3_leads_1 : decode cX3_leads 1 = .ok (.getfield 16, 3) := by decide +kernel
theorem dX3_leads_4 : decode cX3_leads 4 = .ok (.bipush 10, 2) := by decide +kernel
theorem dX3_leads_6 : decode cX3_leads 6 = .ok (.invokevirtual 20, 3) := by decide +kernel
theorem dX3_leads_9 : decode cX3_leads 9 = .ok (.iload_n 1, 1) := by decide +kernel
theorem dX3_leads_10 : decode cX3_leads 10 = .ok (.aload_n 0, 1) := by decide +kernel
theorem dX3_leads_11 : decode cX3_leads 11 = .ok (.getfield 7, 3) := by decide +kernel
theorem dX3_leads_14 : decode cX3_leads 14 = .ok (.iadd, 1) := by decide +kernel
theorem dX3_leads_15 : decode cX3_leads 15 = .ok (.ireturn, 1) := by decide +kernel
theorem dX3_stays_0 : decode cX3_stays 0 = .ok (.aload_n 0, 1) := by decide +kernel
theorem dX3_stays_1 : decode cX3_stays 1 = .ok (.getfield 16, 3) := by decide +kernel
theorem dX3_stays_4 : decode cX3_stays 4 = .ok (.bipush 11, 2) := by decide +kernel
theorem dX3_stays_6 : decode cX3_stays 6 = .ok (.invokevirtual 20, 3) := by decide +kernel
theorem dX3_stays_9 : decode cX3_stays 9 = .ok (.aload_n 0, 1) := by decide +kernel
theorem dX3_stays_10 : decode cX3_stays 10 = .ok (.iload_n 1, 1) := by decide +kernel
theorem dX3_stays_11 : decode cX3_stays 11 = .ok (.invokevirtual 26, 3) := by decide +kernel
theorem dX3_stays_14 : decode cX3_stays 14 = .ok (.iconst 2, 1) := by decide +kernel
theorem dX3_stays_15 : decode cX3_stays 15 = .ok (.imul, 1) := by decide +kernel
theorem dX3_stays_16 : decode cX3_stays 16 = .ok (.ireturn, 1) := by decide +kernel
theorem dX3_shares_0 : decode cX3_shares 0 = .ok (.aload_n 0, 1) := by decide +kernel
theorem dX3_shares_1 : decode cX3_shares 1 = .ok (.getfield 16, 3) := by decide +kernel
theorem dX3_shares_4 : decode cX3_shares 4 = .ok (.bipush 12, 2) := by decide +kernel
theorem dX3_shares_6 : decode cX3_shares 6 = .ok (.invokevirtual 20, 3) := by decide +kernel
theorem dX3_shares_9 : decode cX3_shares 9 = .ok (.aload_n 0, 1) := by decide +kernel
theorem dX3_shares_10 : decode cX3_shares 10 = .ok (.getfield 13, 3) := by decide +kernel
theorem dX3_shares_13 : decode cX3_shares 13 = .ok (.aload_n 0, 1) := by decide +kernel
theorem dX3_shares_14 : decode cX3_shares 14 = .ok (.getfield 7, 3) := by decide +kernel
theorem dX3_shares_17 : decode cX3_shares 17 = .ok (.isub, 1) := by decide +kernel
theorem dX3_shares_18 : decode cX3_shares 18 = .ok (.istore_n 2, 1) := by decide +kernel
theorem dX3_shares_19 : decode cX3_shares 19 = .ok (.iload_n 2, 1) := by decide +kernel
theorem dX3_shares_20 : decode cX3_shares 20 = .ok (.ifCond .ne 13, 3) := by decide +kernel
theorem dX3_shares_23 : decode cX3_shares 23 = .ok (.aload_n 0, 1) := by decide +kernel
theorem dX3_shares_24 : decode cX3_shares 24 = .ok (.getfield 16, 3) := by decide +kernel
theorem dX3_shares_27 : decode cX3_shares 27 = .ok (.iconst 1, 1) := by decide +kernel
theorem dX3_shares_28 : decode cX3_shares 28 = .ok (.putfield 30, 3) := by decide +kernel
theorem dX3_shares_31 : decode cX3_shares 31 = .ok (.iconst 0, 1) := by decide +kernel
theorem dX3_shares_32 : decode cX3_shares 32 = .ok (.ireturn, 1) := by decide +kernel
theorem dX3_shares_33 : decode cX3_shares 33 = .ok (.iload_n 1, 1) := by decide +kernel
theorem dX3_shares_34 : decode cX3_shares 34 = .ok (.iload_n 2, 1) := by decide +kernel
theorem dX3_shares_35 : decode cX3_shares 35 = .ok (.idiv, 1) := by decide +kernel
theorem dX3_shares_36 : decode cX3_shares 36 = .ok (.ireturn, 1) := by decide +kernel
theorem dX3_tells_0 : decode cX3_tells 0 = .ok (.aload_n 0, 1) := by decide +kernel
theorem dX3_tells_1 : decode cX3_tells 1 = .ok (.getfield 16, 3) := by decide +kernel
theorem dX3_tells_4 : decode cX3_tells 4 = .ok (.bipush 13, 2) := by decide +kernel
theorem dX3_tells_6 : decode cX3_tells 6 = .ok (.invokevirtual 20, 3) := by decide +kernel
theorem dX3_tells_9 : decode cX3_tells 9 = .ok (.aload_n 0, 1) := by decide +kernel
theorem dX3_tells_10 : decode cX3_tells 10 = .ok (.iload_n 1, 1) := by decide +kernel
theorem dX3_tells_11 : decode cX3_tells 11 = .ok (.invokevirtual 34, 3) := by decide +kernel
theorem dX3_tells_14 : decode cX3_tells 14 = .ok (.aload_n 0, 1) := by decide +kernel
theorem dX3_tells_15 : decode cX3_tells 15 = .ok (.getfield 13, 3) := by decide +kernel
theorem dX3_tells_18 : decode cX3_tells 18 = .ok (.ixor, 1) := by decide +kernel
theorem dX3_tells_19 : decode cX3_tells 19 = .ok (.ireturn, 1) := by decide +kernel
theorem dX4_init_0 : decode cX4_init 0 = .ok (.aload_n 0, 1) := by decide +kernel
theorem dX4_init_1 : decode cX4_init 1 = .ok (.iload_n 1, 1) := by decide +kernel
theorem dX4_init_2 : decode cX4_init 2 = .ok (.iload_n 2, 1) := by decide +kernel
theorem dX4_init_3 : decode cX4_init 3 = .ok (.aload_n 3, 1) := by decide +kernel
theorem dX4_init_4 : decode cX4_init 4 = .ok (.invokespecial 1, 3) := by decide +kernel
theorem dX4_init_7 : decode cX4_init 7 = .ok (.return_, 1) := by decide +kernel
theorem dX4_tells_0 : decode cX4_tells 0 = .ok (.aload_n 0, 1) := by decide +kernel
theorem dX4_tells_1 : decode cX4_tells 1 = .ok (.getfield 7, 3) := by decide +kernel
theorem dX4_tells_4 : decode cX4_tells 4 = .ok (.bipush 60, 2) := by decide +kernel
theorem dX4_tells_6 : decode cX4_tells 6 = .ok (.invokevirtual 13, 3) := by decide +kernel
theorem dX4_tells_9 : decode cX4_tells 9 = .ok (.aload_n 0, 1) := by decide +kernel
theorem dX4_tells_10 : decode cX4_tells 10 = .ok (.iload_n 1, 1) := by decide +kernel
theorem dX4_tells_11 : decode cX4_tells 11 = .ok (.invokespecial 19, 3) := by decide +kernel
theorem dX4_tells_14 : decode cX4_tells 14 = .ok (.iconst 2, 1) := by decide +kernel
theorem dX4_tells_15 : decode cX4_tells 15 = .ok (.imul, 1) := by decide +kernel
theorem dX4_tells_16 : decode cX4_tells 16 = .ok (.ireturn, 1) := by decide +kernel
theorem dX4_shares_0 : decode cX4_shares 0 = .ok (.aload_n 0, 1) := by decide +kernel
theorem dX4_shares_1 : decode cX4_shares 1 = .ok (.getfield 7, 3) := by decide +kernel
theorem dX4_shares_4 : decode cX4_shares 4 = .ok (.bipush 61, 2) := by decide +kernel
theorem dX4_shares_6 : decode cX4_shares 6 = .ok (.invokevirtual 13, 3) := by decide +kernel
theorem dX4_shares_9 : decode cX4_shares 9 = .ok (.aload_n 0, 1) := by decide +kernel
theorem dX4_shares_10 : decode cX4_shares 10 = .ok (.iload_n 1, 1) := by decide +kernel
theorem dX4_shares_11 : decode cX4_shares 11 = .ok (.invokespecial 23, 3) := by decide +kernel
theorem dX4_shares_14 : decode cX4_shares 14 = .ok (.aload_n 0, 1) := by decide +kernel
theorem dX4_shares_15 : decode cX4_shares 15 = .ok (.aload_n 0, 1) := by decide +kernel
theorem dX4_shares_16 : decode cX4_shares 16 = .ok (.getfield 26, 3) := by decide +kernel
theorem dX4_shares_19 : decode cX4_shares 19 = .ok (.invokevirtual 30, 3) := by decide +kernel
theorem dX4_shares_22 : decode cX4_shares 22 = .ok (.iadd, 1) := by decide +kernel
theorem dX4_shares_23 : decode cX4_shares 23 = .ok (.ireturn, 1) := by decide +kernel
theorem dX5_init_0 : decode cX5_init 0 = .ok (.aload_n 0, 1) := by decide +kernel
theorem dX5_init_1 : decode cX5_init 1 = .ok (.invokespecial 3, 3) := by decide +kernel
theorem dX5_init_4 : decode cX5_init 4 = .ok (.aload_n 0, 1) := by decide +kernel
theorem dX5_init_5 : decode cX5_init 5 = .ok (.iload_n 1, 1) := by decide +kernel
theorem dX5_init_6 : decode cX5_init 6 = .ok (.putfield 9, 3) := by decide +kernel
theorem dX5_init_9 : decode cX5_init 9 = .ok (.aload_n 0, 1) := by decide +kernel
theorem dX5_init_10 : decode cX5_init 10 = .ok (.iload_n 2, 1) := by decide +kernel
theorem dX5_init_11 : decode cX5_init 11 = .ok (.newarray .long, 2) := by decide +kernel
theorem dX5_init_13 : decode cX5_init 13 = .ok (.putfield 15, 3) := by decide +kernel
theorem dX5_init_16 : decode cX5_init 16 = .ok (.return_, 1) := by decide +kernel
theorem dX5_narrowed_0 : decode cX5_narrowed 0 = .ok (.aload_n 0, 1) := by decide +kernel
theorem dX5_narrowed_1 : decode cX5_narrowed 1 = .ok (.getfield 9, 3) := by decide +kernel
theorem dX5_narrowed_4 : decode cX5_narrowed 4 = .ok (.lookupswitch 36 #[(0, 28), (1, 32)], 28) := by decide +kernel
theorem dX5_narrowed_32 : decode cX5_narrowed 32 = .ok (.iload_n 1, 1) := by decide +kernel
theorem dX5_narrowed_33 : decode cX5_narrowed 33 = .ok (.i2b, 1) := by decide +kernel
theorem dX5_narrowed_34 : decode cX5_narrowed 34 = .ok (.i2l, 1) := by decide +kernel
theorem dX5_narrowed_35 : decode cX5_narrowed 35 = .ok (.lreturn, 1) := by decide +kernel
theorem dX5_narrowed_36 : decode cX5_narrowed 36 = .ok (.iload_n 1, 1) := by decide +kernel
theorem dX5_narrowed_37 : decode cX5_narrowed 37 = .ok (.i2s, 1) := by decide +kernel
theorem dX5_narrowed_38 : decode cX5_narrowed 38 = .ok (.i2l, 1) := by decide +kernel
theorem dX5_narrowed_39 : decode cX5_narrowed 39 = .ok (.lreturn, 1) := by decide +kernel
theorem dX5_narrowed_40 : decode cX5_narrowed 40 = .ok (.iload_n 1, 1) := by decide +kernel
theorem dX5_narrowed_41 : decode cX5_narrowed 41 = .ok (.i2l, 1) := by decide +kernel
theorem dX5_narrowed_42 : decode cX5_narrowed 42 = .ok (.lreturn, 1) := by decide +kernel
theorem dX6_init_0 : decode cX6_init 0 = .ok (.aload_n 0, 1) := by decide +kernel
theorem dX6_init_1 : decode cX6_init 1 = .ok (.invokespecial 3, 3) := by decide +kernel
theorem dX6_init_4 : decode cX6_init 4 = .ok (.aload_n 0, 1) := by decide +kernel
theorem dX6_init_5 : decode cX6_init 5 = .ok (.sipush 240, 3) := by decide +kernel
theorem dX6_init_8 : decode cX6_init 8 = .ok (.newarray .byte, 2) := by decide +kernel
theorem dX6_init_10 : decode cX6_init 10 = .ok (.putfield 9, 3) := by decide +kernel
theorem dX6_init_13 : decode cX6_init 13 = .ok (.return_, 1) := by decide +kernel
theorem dX6_take_0 : decode cX6_take 0 = .ok (.aload_n 0, 1) := by decide +kernel
theorem dX6_take_1 : decode cX6_take 1 = .ok (.getfield 15, 3) := by decide +kernel
theorem dX6_take_4 : decode cX6_take 4 = .ok (.iload_n 3, 1) := by decide +kernel
theorem dX6_take_5 : decode cX6_take 5 = .ok (.iadd, 1) := by decide +kernel
theorem dX6_take_6 : decode cX6_take 6 = .ok (.sipush 240, 3) := by decide +kernel
theorem dX6_take_9 : decode cX6_take 9 = .ok (.if_icmp .le 6, 3) := by decide +kernel
theorem dX6_take_12 : decode cX6_take 12 = .ok (.bipush (-2), 2) := by decide +kernel
theorem dX6_take_14 : decode cX6_take 14 = .ok (.ireturn, 1) := by decide +kernel
theorem dX6_take_15 : decode cX6_take 15 = .ok (.iconst 0, 1) := by decide +kernel
theorem dX6_take_16 : decode cX6_take 16 = .ok (.istore 4, 2) := by decide +kernel
theorem dX6_take_18 : decode cX6_take 18 = .ok (.iload 4, 2) := by decide +kernel
theorem dX6_take_20 : decode cX6_take 20 = .ok (.iload_n 3, 1) := by decide +kernel
theorem dX6_take_21 : decode cX6_take 21 = .ok (.if_icmp .ge 37, 3) := by decide +kernel
theorem dX6_take_24 : decode cX6_take 24 = .ok (.aload_n 0, 1) := by decide +kernel
theorem dX6_take_25 : decode cX6_take 25 = .ok (.getfield 9, 3) := by decide +kernel
theorem dX6_take_28 : decode cX6_take 28 = .ok (.aload_n 0, 1) := by decide +kernel
theorem dX6_take_29 : decode cX6_take 29 = .ok (.getfield 15, 3) := by decide +kernel
theorem dX6_take_32 : decode cX6_take 32 = .ok (.lload_n 1, 1) := by decide +kernel
theorem dX6_take_33 : decode cX6_take 33 = .ok (.bipush 8, 2) := by decide +kernel
theorem dX6_take_35 : decode cX6_take 35 = .ok (.iload 4, 2) := by decide +kernel
theorem dX6_take_37 : decode cX6_take 37 = .ok (.imul, 1) := by decide +kernel
theorem dX6_take_38 : decode cX6_take 38 = .ok (.lushr, 1) := by decide +kernel
theorem dX6_take_39 : decode cX6_take 39 = .ok (.l2i, 1) := by decide +kernel
theorem dX6_take_40 : decode cX6_take 40 = .ok (.i2b, 1) := by decide +kernel
theorem dX6_take_41 : decode cX6_take 41 = .ok (.bastore, 1) := by decide +kernel
theorem dX6_take_42 : decode cX6_take 42 = .ok (.aload_n 0, 1) := by decide +kernel
theorem dX6_take_43 : decode cX6_take 43 = .ok (.dup, 1) := by decide +kernel
theorem dX6_take_44 : decode cX6_take 44 = .ok (.getfield 15, 3) := by decide +kernel
theorem dX6_take_47 : decode cX6_take 47 = .ok (.iconst 1, 1) := by decide +kernel
theorem dX6_take_48 : decode cX6_take 48 = .ok (.iadd, 1) := by decide +kernel
theorem dX6_take_49 : decode cX6_take 49 = .ok (.putfield 15, 3) := by decide +kernel
theorem dX6_take_52 : decode cX6_take 52 = .ok (.iinc 4 1, 3) := by decide +kernel
theorem dX6_take_55 : decode cX6_take 55 = .ok (.goto (-37), 3) := by decide +kernel
theorem dX6_take_58 : decode cX6_take 58 = .ok (.aload_n 0, 1) := by decide +kernel
theorem dX6_take_59 : decode cX6_take 59 = .ok (.getfield 15, 3) := by decide +kernel
theorem dX6_take_62 : decode cX6_take 62 = .ok (.ireturn, 1) := by decide +kernel
theorem dX6_tellTo_0 : decode cX6_tellTo 0 = .ok (.aload_n 0, 1) := by decide +kernel
theorem dX6_tellTo_1 : decode cX6_tellTo 1 = .ok (.iconst 0, 1) := by decide +kernel
theorem dX6_tellTo_2 : decode cX6_tellTo 2 = .ok (.putfield 19, 3) := by decide +kernel
theorem dX6_tellTo_5 : decode cX6_tellTo 5 = .ok (.aload_n 0, 1) := by decide +kernel
theorem dX6_tellTo_6 : decode cX6_tellTo 6 = .ok (.bipush (-9), 2) := by decide +kernel
theorem dX6_tellTo_8 : decode cX6_tellTo 8 = .ok (.putfield 22, 3) := by decide +kernel
theorem dX6_tellTo_11 : decode cX6_tellTo 11 = .ok (.aload_n 0, 1) := by decide +kernel
theorem dX6_tellTo_12 : decode cX6_tellTo 12 = .ok (.invokevirtual 25, 3) := by decide +kernel
theorem dX6_tellTo_15 : decode cX6_tellTo 15 = .ok (.iconst 0, 1) := by decide +kernel
theorem dX6_tellTo_16 : decode cX6_tellTo 16 = .ok (.istore_n 2, 1) := by decide +kernel
theorem dX6_tellTo_17 : decode cX6_tellTo 17 = .ok (.iload_n 2, 1) := by decide +kernel
theorem dX6_tellTo_18 : decode cX6_tellTo 18 = .ok (.sipush 240, 3) := by decide +kernel
theorem dX6_tellTo_21 : decode cX6_tellTo 21 = .ok (.if_icmp .ge 28, 3) := by decide +kernel
theorem dX6_tellTo_24 : decode cX6_tellTo 24 = .ok (.aload_n 0, 1) := by decide +kernel
theorem dX6_tellTo_25 : decode cX6_tellTo 25 = .ok (.getfield 22, 3) := by decide +kernel
theorem dX6_tellTo_28 : decode cX6_tellTo 28 = .ok (.ifCond .ge 21, 3) := by decide +kernel
theorem dX6_tellTo_31 : decode cX6_tellTo 31 = .ok (.aload_n 0, 1) := by decide +kernel
theorem dX6_tellTo_32 : decode cX6_tellTo 32 = .ok (.getfield 28, 3) := by decide +kernel
theorem dX6_tellTo_35 : decode cX6_tellTo 35 = .ok (.ifCond .eq 14, 3) := by decide +kernel
theorem dX6_tellTo_38 : decode cX6_tellTo 38 = .ok (.aload_n 0, 1) := by decide +kernel
theorem dX6_tellTo_39 : decode cX6_tellTo 39 = .ok (.aload_n 1, 1) := by decide +kernel
theorem dX6_tellTo_40 : decode cX6_tellTo 40 = .ok (.invokevirtual 31, 3) := by decide +kernel
theorem dX6_tellTo_43 : decode cX6_tellTo 43 = .ok (.iinc 2 1, 3) := by decide +kernel
theorem dX6_tellTo_46 : decode cX6_tellTo 46 = .ok (.goto (-29), 3) := by decide +kernel
theorem dX6_tellTo_49 : decode cX6_tellTo 49 = .ok (.aload_n 0, 1) := by decide +kernel
theorem dX6_tellTo_50 : decode cX6_tellTo 50 = .ok (.iconst 0, 1) := by decide +kernel
theorem dX6_tellTo_51 : decode cX6_tellTo 51 = .ok (.putfield 15, 3) := by decide +kernel
theorem dX6_tellTo_54 : decode cX6_tellTo 54 = .ok (.aload_n 0, 1) := by decide +kernel
theorem dX6_tellTo_55 : decode cX6_tellTo 55 = .ok (.getfield 22, 3) := by decide +kernel
theorem dX6_tellTo_58 : decode cX6_tellTo 58 = .ok (.ireturn, 1) := by decide +kernel
theorem dX6_tellThing_0 : decode cX6_tellThing 0 = .ok (.aload_n 0, 1) := by decide +kernel
theorem dX6_tellThing_1 : decode cX6_tellThing 1 = .ok (.invokevirtual 35, 3) := by decide +kernel
theorem dX6_tellThing_4 : decode cX6_tellThing 4 = .ok (.istore_n 2, 1) := by decide +kernel
theorem dX6_tellThing_5 : decode cX6_tellThing 5 = .ok (.iload_n 2, 1) := by decide +kernel
theorem dX6_tellThing_6 : decode cX6_tellThing 6 = .ok (.ifCond .lt 25, 3) := by decide +kernel
theorem dX6_tellThing_9 : decode cX6_tellThing 9 = .ok (.aload_n 1, 1) := by decide +kernel
theorem dX6_tellThing_10 : decode cX6_tellThing 10 = .ok (.getfield 39, 3) := by decide +kernel
theorem dX6_tellThing_13 : decode cX6_tellThing 13 = .ok (.bipush 8, 2) := by decide +kernel
theorem dX6_tellThing_15 : decode cX6_tellThing 15 = .ok (.if_icmp .ge 16, 3) := by decide +kernel
theorem dX6_tellThing_18 : decode cX6_tellThing 18 = .ok (.aload_n 0, 1) := by decide +kernel
theorem dX6_tellThing_19 : decode cX6_tellThing 19 = .ok (.invokevirtual 25, 3) := by decide +kernel
theorem dX6_tellThing_22 : decode cX6_tellThing 22 = .ok (.aload_n 0, 1) := by decide +kernel
theorem dX6_tellThing_23 : decode cX6_tellThing 23 = .ok (.aload_n 1, 1) := by decide +kernel
theorem dX6_tellThing_24 : decode cX6_tellThing 24 = .ok (.iload_n 2, 1) := by decide +kernel
theorem dX6_tellThing_25 : decode cX6_tellThing 25 = .ok (.invokevirtual 44, 3) := by decide +kernel
theorem dX6_tellThing_28 : decode cX6_tellThing 28 = .ok (.goto 74, 3) := by decide +kernel
theorem dX6_tellThing_31 : decode cX6_tellThing 31 = .ok (.aload_n 0, 1) := by decide +kernel
theorem dX6_tellThing_32 : decode cX6_tellThing 32 = .ok (.ldc 48, 2) := by decide +kernel
theorem dX6_tellThing_34 : decode cX6_tellThing 34 = .ok (.invokevirtual 50, 3) := by decide +kernel
theorem dX6_tellThing_37 : decode cX6_tellThing 37 = .ok (.ifCond .eq 23, 3) := by decide +kernel
theorem dX6_tellThing_40 : decode cX6_tellThing 40 = .ok (.aload_n 1, 1) := by decide +kernel
theorem dX6_tellThing_41 : decode cX6_tellThing 41 = .ok (.getfield 54, 3) := by decide +kernel
theorem dX6_tellThing_44 : decode cX6_tellThing 44 = .ok (.iconst 4, 1) := by decide +kernel
theorem dX6_tellThing_45 : decode cX6_tellThing 45 = .ok (.if_icmp .ge 15, 3) := by decide +kernel
theorem dX6_tellThing_48 : decode cX6_tellThing 48 = .ok (.aload_n 0, 1) := by decide +kernel
theorem dX6_tellThing_49 : decode cX6_tellThing 49 = .ok (.invokevirtual 25, 3) := by decide +kernel
theorem dX6_tellThing_52 : decode cX6_tellThing 52 = .ok (.aload_n 0, 1) := by decide +kernel
theorem dX6_tellThing_53 : decode cX6_tellThing 53 = .ok (.aload_n 1, 1) := by decide +kernel
theorem dX6_tellThing_54 : decode cX6_tellThing 54 = .ok (.invokevirtual 57, 3) := by decide +kernel
theorem dX6_tellThing_57 : decode cX6_tellThing 57 = .ok (.goto 45, 3) := by decide +kernel
theorem dX6_tellThing_60 : decode cX6_tellThing 60 = .ok (.aload_n 0, 1) := by decide +kernel
theorem dX6_tellThing_61 : decode cX6_tellThing 61 = .ok (.ldc 60, 2) := by decide +kernel
theorem dX6_tellThing_63 : decode cX6_tellThing 63 = .ok (.invokevirtual 62, 3) := by decide +kernel
theorem dX6_tellThing_66 : decode cX6_tellThing 66 = .ok (.ifCond .eq 11, 3) := by decide +kernel
theorem dX6_tellThing_69 : decode cX6_tellThing 69 = .ok (.aload_n 1, 1) := by decide +kernel
theorem dX6_tellThing_70 : decode cX6_tellThing 70 = .ok (.iconst 1, 1) := by decide +kernel
theorem dX6_tellThing_71 : decode cX6_tellThing 71 = .ok (.putfield 65, 3) := by decide +kernel
theorem dX6_tellThing_74 : decode cX6_tellThing 74 = .ok (.goto 28, 3) := by decide +kernel
theorem dX6_tellThing_77 : decode cX6_tellThing 77 = .ok (.aload_n 0, 1) := by decide +kernel
theorem dX6_tellThing_78 : decode cX6_tellThing 78 = .ok (.ldc 69, 2) := by decide +kernel
theorem dX6_tellThing_80 : decode cX6_tellThing 80 = .ok (.invokevirtual 62, 3) := by decide +kernel
theorem dX6_tellThing_83 : decode cX6_tellThing 83 = .ok (.ifCond .eq 11, 3) := by decide +kernel
theorem dX6_tellThing_86 : decode cX6_tellThing 86 = .ok (.aload_n 0, 1) := by decide +kernel
theorem dX6_tellThing_87 : decode cX6_tellThing 87 = .ok (.aload_n 1, 1) := by decide +kernel
theorem dX6_tellThing_88 : decode cX6_tellThing 88 = .ok (.invokevirtual 71, 3) := by decide +kernel
theorem dX6_tellThing_91 : decode cX6_tellThing 91 = .ok (.goto 11, 3) := by decide +kernel
theorem dX6_tellThing_94 : decode cX6_tellThing 94 = .ok (.aload_n 0, 1) := by decide +kernel
theorem dX6_tellThing_95 : decode cX6_tellThing 95 = .ok (.aload_n 0, 1) := by decide +kernel
theorem dX6_tellThing_96 : decode cX6_tellThing 96 = .ok (.getfield 74, 3) := by decide +kernel
theorem dX6_tellThing_99 : decode cX6_tellThing 99 = .ok (.putfield 22, 3) := by decide +kernel
theorem dX6_tellThing_102 : decode cX6_tellThing 102 = .ok (.aload_n 0, 1) := by decide +kernel
theorem dX6_tellThing_103 : decode cX6_tellThing 103 = .ok (.invokevirtual 77, 3) := by decide +kernel
theorem dX6_tellThing_106 : decode cX6_tellThing 106 = .ok (.return_, 1) := by decide +kernel
theorem dX6_kindTold_0 : decode cX6_kindTold 0 = .ok (.aload_n 0, 1) := by decide +kernel
theorem dX6_kindTold_1 : decode cX6_kindTold 1 = .ok (.ldc 80, 2) := by decide +kernel
theorem dX6_kindTold_3 : decode cX6_kindTold 3 = .ok (.invokevirtual 50, 3) := by decide +kernel
theorem dX6_kindTold_6 : decode cX6_kindTold 6 = .ok (.ifCond .eq 5, 3) := by decide +kernel
theorem dX6_kindTold_9 : decode cX6_kindTold 9 = .ok (.iconst 0, 1) := by decide +kernel
theorem dX6_kindTold_10 : decode cX6_kindTold 10 = .ok (.ireturn, 1) := by decide +kernel
theorem dX6_kindTold_11 : decode cX6_kindTold 11 = .ok (.aload_n 0, 1) := by decide +kernel
theorem dX6_kindTold_12 : decode cX6_kindTold 12 = .ok (.ldc 82, 2) := by decide +kernel
theorem dX6_kindTold_14 : decode cX6_kindTold 14 = .ok (.invokevirtual 50, 3) := by decide +kernel
theorem dX6_kindTold_17 : decode cX6_kindTold 17 = .ok (.ifCond .eq 5, 3) := by decide +kernel
theorem dX6_kindTold_20 : decode cX6_kindTold 20 = .ok (.iconst 1, 1) := by decide +kernel
theorem dX6_kindTold_21 : decode cX6_kindTold 21 = .ok (.ireturn, 1) := by decide +kernel
theorem dX6_kindTold_22 : decode cX6_kindTold 22 = .ok (.aload_n 0, 1) := by decide +kernel
theorem dX6_kindTold_23 : decode cX6_kindTold 23 = .ok (.ldc 84, 2) := by decide +kernel
theorem dX6_kindTold_25 : decode cX6_kindTold 25 = .ok (.invokevirtual 50, 3) := by decide +kernel
theorem dX6_kindTold_28 : decode cX6_kindTold 28 = .ok (.ifCond .eq 5, 3) := by decide +kernel
theorem dX6_kindTold_31 : decode cX6_kindTold 31 = .ok (.iconst 2, 1) := by decide +kernel
theorem dX6_kindTold_32 : decode cX6_kindTold 32 = .ok (.ireturn, 1) := by decide +kernel
theorem dX6_kindTold_33 : decode cX6_kindTold 33 = .ok (.aload_n 0, 1) := by decide +kernel
theorem dX6_kindTold_34 : decode cX6_kindTold 34 = .ok (.ldc 86, 2) := by decide +kernel
theorem dX6_kindTold_36 : decode cX6_kindTold 36 = .ok (.invokevirtual 50, 3) := by decide +kernel
theorem dX6_kindTold_39 : decode cX6_kindTold 39 = .ok (.ifCond .eq 5, 3) := by decide +kernel
theorem dX6_kindTold_42 : decode cX6_kindTold 42 = .ok (.iconst 3, 1) := by decide +kernel
theorem dX6_kindTold_43 : decode cX6_kindTold 43 = .ok (.ireturn, 1) := by decide +kernel
theorem dX6_kindTold_44 : decode cX6_kindTold 44 = .ok (.aload_n 0, 1) := by decide +kernel
theorem dX6_kindTold_45 : decode cX6_kindTold 45 = .ok (.ldc 88, 2) := by decide +kernel
theorem dX6_kindTold_47 : decode cX6_kindTold 47 = .ok (.invokevirtual 50, 3) := by decide +kernel
theorem dX6_kindTold_50 : decode cX6_kindTold 50 = .ok (.ifCond .eq 5, 3) := by decide +kernel
theorem dX6_kindTold_53 : decode cX6_kindTold 53 = .ok (.iconst 4, 1) := by decide +kernel
theorem dX6_kindTold_54 : decode cX6_kindTold 54 = .ok (.ireturn, 1) := by decide +kernel
theorem dX6_kindTold_55 : decode cX6_kindTold 55 = .ok (.aload_n 0, 1) := by decide +kernel
theorem dX6_kindTold_56 : decode cX6_kindTold 56 = .ok (.ldc 90, 2) := by decide +kernel
theorem dX6_kindTold_58 : decode cX6_kindTold 58 = .ok (.invokevirtual 50, 3) := by decide +kernel
theorem dX6_kindTold_61 : decode cX6_kindTold 61 = .ok (.ifCond .eq 7, 3) := by decide +kernel
theorem dX6_kindTold_64 : decode cX6_kindTold 64 = .ok (.iconst 5, 1) := by decide +kernel
theorem dX6_kindTold_65 : decode cX6_kindTold 65 = .ok (.goto 5, 3) := by decide +kernel
theorem dX6_kindTold_68 : decode cX6_kindTold 68 = .ok (.bipush (-9), 2) := by decide +kernel
theorem dX6_kindTold_70 : decode cX6_kindTold 70 = .ok (.ireturn, 1) := by decide +kernel
theorem dX6_tellPath_0 : decode cX6_tellPath 0 = .ok (.aload_n 0, 1) := by decide +kernel
theorem dX6_tellPath_1 : decode cX6_tellPath 1 = .ok (.bipush 7, 2) := by decide +kernel
theorem dX6_tellPath_3 : decode cX6_tellPath 3 = .ok (.bipush (-9), 2) := by decide +kernel
theorem dX6_tellPath_5 : decode cX6_tellPath 5 = .ok (.invokevirtual 92, 3) := by decide +kernel
theorem dX6_tellPath_8 : decode cX6_tellPath 8 = .ok (.istore_n 3, 1) := by decide +kernel
theorem dX6_tellPath_9 : decode cX6_tellPath 9 = .ok (.aload_n 0, 1) := by decide +kernel
theorem dX6_tellPath_10 : decode cX6_tellPath 10 = .ok (.bipush 7, 2) := by decide +kernel
theorem dX6_tellPath_12 : decode cX6_tellPath 12 = .ok (.iload_n 3, 1) := by decide +kernel
theorem dX6_tellPath_13 : decode cX6_tellPath 13 = .ok (.invokevirtual 92, 3) := by decide +kernel
theorem dX6_tellPath_16 : decode cX6_tellPath 16 = .ok (.istore 4, 2) := by decide +kernel
theorem dX6_tellPath_18 : decode cX6_tellPath 18 = .ok (.aload_n 0, 1) := by decide +kernel
theorem dX6_tellPath_19 : decode cX6_tellPath 19 = .ok (.ldc 96, 2) := by decide +kernel
theorem dX6_tellPath_21 : decode cX6_tellPath 21 = .ok (.invokevirtual 98, 3) := by decide +kernel
theorem dX6_tellPath_24 : decode cX6_tellPath 24 = .ok (.aload_n 0, 1) := by decide +kernel
theorem dX6_tellPath_25 : decode cX6_tellPath 25 = .ok (.bipush 8, 2) := by decide +kernel
theorem dX6_tellPath_27 : decode cX6_tellPath 27 = .ok (.bipush (-9), 2) := by decide +kernel
theorem dX6_tellPath_29 : decode cX6_tellPath 29 = .ok (.invokevirtual 92, 3) := by decide +kernel
theorem dX6_tellPath_32 : decode cX6_tellPath 32 = .ok (.istore 5, 2) := by decide +kernel
theorem dX6_tellPath_34 : decode cX6_tellPath 34 = .ok (.aload_n 0, 1) := by decide +kernel
theorem dX6_tellPath_35 : decode cX6_tellPath 35 = .ok (.ldc 102, 2) := by decide +kernel
theorem dX6_tellPath_37 : decode cX6_tellPath 37 = .ok (.invokevirtual 98, 3) := by decide +kernel
theorem dX6_tellPath_40 : decode cX6_tellPath 40 = .ok (.aload_n 0, 1) := by decide +kernel
theorem dX6_tellPath_41 : decode cX6_tellPath 41 = .ok (.bipush 8, 2) := by decide +kernel
theorem dX6_tellPath_43 : decode cX6_tellPath 43 = .ok (.bipush (-9), 2) := by decide +kernel
theorem dX6_tellPath_45 : decode cX6_tellPath 45 = .ok (.invokevirtual 92, 3) := by decide +kernel
theorem dX6_tellPath_48 : decode cX6_tellPath 48 = .ok (.istore 6, 2) := by decide +kernel
theorem dX6_tellPath_50 : decode cX6_tellPath 50 = .ok (.aload_n 0, 1) := by decide +kernel
theorem dX6_tellPath_51 : decode cX6_tellPath 51 = .ok (.getfield 22, 3) := by decide +kernel
theorem dX6_tellPath_54 : decode cX6_tellPath 54 = .ok (.ifCond .ge 37, 3) := by decide +kernel
theorem dX6_tellPath_57 : decode cX6_tellPath 57 = .ok (.aload_n 1, 1) := by decide +kernel
theorem dX6_tellPath_58 : decode cX6_tellPath 58 = .ok (.iload_n 2, 1) := by decide +kernel
theorem dX6_tellPath_59 : decode cX6_tellPath 59 = .ok (.iload_n 3, 1) := by decide +kernel
theorem dX6_tellPath_60 : decode cX6_tellPath 60 = .ok (.iload 4, 2) := by decide +kernel
theorem dX6_tellPath_62 : decode cX6_tellPath 62 = .ok (.iload 5, 2) := by decide +kernel
theorem dX6_tellPath_64 : decode cX6_tellPath 64 = .ok (.iload 6, 2) := by decide +kernel
theorem dX6_tellPath_66 : decode cX6_tellPath 66 = .ok (.invokevirtual 104, 3) := by decide +kernel
theorem dX6_tellPath_69 : decode cX6_tellPath 69 = .ok (.istore 7, 2) := by decide +kernel
theorem dX6_tellPath_71 : decode cX6_tellPath 71 = .ok (.aload_n 1, 1) := by decide +kernel
theorem dX6_tellPath_72 : decode cX6_tellPath 72 = .ok (.iload 7, 2) := by decide +kernel
theorem dX6_tellPath_74 : decode cX6_tellPath 74 = .ok (.aload_n 0, 1) := by decide +kernel
theorem dX6_tellPath_75 : decode cX6_tellPath 75 = .ok (.ldc 108, 2) := by decide +kernel
theorem dX6_tellPath_77 : decode cX6_tellPath 77 = .ok (.invokevirtual 62, 3) := by decide +kernel
theorem dX6_tellPath_80 : decode cX6_tellPath 80 = .ok (.ifCond .ne 7, 3) := by decide +kernel
theorem dX6_tellPath_83 : decode cX6_tellPath 83 = .ok (.iconst 1, 1) := by decide +kernel
theorem dX6_tellPath_84 : decode cX6_tellPath 84 = .ok (.goto 4, 3) := by decide +kernel
theorem dX6_tellPath_87 : decode cX6_tellPath 87 = .ok (.iconst 0, 1) := by decide +kernel
theorem dX6_tellPath_88 : decode cX6_tellPath 88 = .ok (.invokevirtual 110, 3) := by decide +kernel
theorem dX6_tellPath_91 : decode cX6_tellPath 91 = .ok (.return_, 1) := by decide +kernel
theorem dX6_tellWalker_0 : decode cX6_tellWalker 0 = .ok (.aload_n 0, 1) := by decide +kernel
theorem dX6_tellWalker_1 : decode cX6_tellWalker 1 = .ok (.bipush 7, 2) := by decide +kernel
theorem dX6_tellWalker_3 : decode cX6_tellWalker 3 = .ok (.bipush (-9), 2) := by decide +kernel
theorem dX6_tellWalker_5 : decode cX6_tellWalker 5 = .ok (.invokevirtual 92, 3) := by decide +kernel
theorem dX6_tellWalker_8 : decode cX6_tellWalker 8 = .ok (.istore_n 2, 1) := by decide +kernel
theorem dX6_tellWalker_9 : decode cX6_tellWalker 9 = .ok (.aload_n 0, 1) := by decide +kernel
theorem dX6_tellWalker_10 : decode cX6_tellWalker 10 = .ok (.ldc 114, 2) := by decide +kernel
theorem dX6_tellWalker_12 : decode cX6_tellWalker 12 = .ok (.invokevirtual 62, 3) := by decide +kernel
theorem dX6_tellWalker_15 : decode cX6_tellWalker 15 = .ok (.ifCond .eq 14, 3) := by decide +kernel
theorem dX6_tellWalker_18 : decode cX6_tellWalker 18 = .ok (.aload_n 0, 1) := by decide +kernel
theorem dX6_tellWalker_19 : decode cX6_tellWalker 19 = .ok (.bipush 99, 2) := by decide +kernel
theorem dX6_tellWalker_21 : decode cX6_tellWalker 21 = .ok (.bipush (-9), 2) := by decide +kernel
theorem dX6_tellWalker_23 : decode cX6_tellWalker 23 = .ok (.invokevirtual 92, 3) := by decide +kernel
theorem dX6_tellWalker_26 : decode cX6_tellWalker 26 = .ok (.goto 4, 3) := by decide +kernel
theorem dX6_tellWalker_29 : decode cX6_tellWalker 29 = .ok (.iconst 0, 1) := by decide +kernel
theorem dX6_tellWalker_30 : decode cX6_tellWalker 30 = .ok (.istore_n 3, 1) := by decide +kernel
theorem dX6_tellWalker_31 : decode cX6_tellWalker 31 = .ok (.aload_n 0, 1) := by decide +kernel
theorem dX6_tellWalker_32 : decode cX6_tellWalker 32 = .ok (.getfield 22, 3) := by decide +kernel
theorem dX6_tellWalker_35 : decode cX6_tellWalker 35 = .ok (.ifCond .ge 10, 3) := by decide +kernel
theorem dX6_tellWalker_38 : decode cX6_tellWalker 38 = .ok (.aload_n 1, 1) := by decide +kernel
theorem dX6_tellWalker_39 : decode cX6_tellWalker 39 = .ok (.iload_n 2, 1) := by decide +kernel
theorem dX6_tellWalker_40 : decode cX6_tellWalker 40 = .ok (.iload_n 3, 1) := by decide +kernel
theorem dX6_tellWalker_41 : decode cX6_tellWalker 41 = .ok (.invokevirtual 116, 3) := by decide +kernel
theorem dX6_tellWalker_44 : decode cX6_tellWalker 44 = .ok (.pop, 1) := by decide +kernel
theorem dX6_tellWalker_45 : decode cX6_tellWalker 45 = .ok (.return_, 1) := by decide +kernel
theorem dX6_tellWeight_0 : decode cX6_tellWeight 0 = .ok (.aload_n 0, 1) := by decide +kernel
theorem dX6_tellWeight_1 : decode cX6_tellWeight 1 = .ok (.bipush 7, 2) := by decide +kernel
theorem dX6_tellWeight_3 : decode cX6_tellWeight 3 = .ok (.bipush (-9), 2) := by decide +kernel
theorem dX6_tellWeight_5 : decode cX6_tellWeight 5 = .ok (.invokevirtual 92, 3) := by decide +kernel
theorem dX6_tellWeight_8 : decode cX6_tellWeight 8 = .ok (.istore_n 2, 1) := by decide +kernel
theorem dX6_tellWeight_9 : decode cX6_tellWeight 9 = .ok (.aload_n 0, 1) := by decide +kernel
theorem dX6_tellWeight_10 : decode cX6_tellWeight 10 = .ok (.bipush 9, 2) := by decide +kernel
theorem dX6_tellWeight_12 : decode cX6_tellWeight 12 = .ok (.bipush (-9), 2) := by decide +kernel
theorem dX6_tellWeight_14 : decode cX6_tellWeight 14 = .ok (.invokevirtual 92, 3) := by decide +kernel
theorem dX6_tellWeight_17 : decode cX6_tellWeight 17 = .ok (.istore_n 3, 1) := by decide +kernel
theorem dX6_tellWeight_18 : decode cX6_tellWeight 18 = .ok (.aload_n 0, 1) := by decide +kernel
theorem dX6_tellWeight_19 : decode cX6_tellWeight 19 = .ok (.getfield 22, 3) := by decide +kernel
theorem dX6_tellWeight_22 : decode cX6_tellWeight 22 = .ok (.ifCond .ge 10, 3) := by decide +kernel
theorem dX6_tellWeight_25 : decode cX6_tellWeight 25 = .ok (.aload_n 1, 1) := by decide +kernel
theorem dX6_tellWeight_26 : decode cX6_tellWeight 26 = .ok (.getfield 119, 3) := by decide +kernel
theorem dX6_tellWeight_29 : decode cX6_tellWeight 29 = .ok (.iload_n 2, 1) := by decide +kernel
theorem dX6_tellWeight_30 : decode cX6_tellWeight 30 = .ok (.iload_n 3, 1) := by decide +kernel
theorem dX6_tellWeight_31 : decode cX6_tellWeight 31 = .ok (.iastore, 1) := by decide +kernel
theorem dX6_tellWeight_32 : decode cX6_tellWeight 32 = .ok (.return_, 1) := by decide +kernel
theorem dX6_takesWordIfThere_0 : decode cX6_takesWordIfThere 0 = .ok (.aload_n 0, 1) := by decide +kernel
theorem dX6_takesWordIfThere_1 : decode cX6_takesWordIfThere 1 = .ok (.getfield 22, 3) := by decide +kernel
theorem dX6_takesWordIfThere_4 : decode cX6_takesWordIfThere 4 = .ok (.ifCond .ge 11, 3) := by decide +kernel
theorem dX6_takesWordIfThere_7 : decode cX6_takesWordIfThere 7 = .ok (.aload_n 0, 1) := by decide +kernel
theorem dX6_takesWordIfThere_8 : decode cX6_takesWordIfThere 8 = .ok (.aload_n 1, 1) := by decide +kernel
theorem dX6_takesWordIfThere_9 : decode cX6_takesWordIfThere 9 = .ok (.invokevirtual 50, 3) := by decide +kernel
theorem dX6_takesWordIfThere_12 : decode cX6_takesWordIfThere 12 = .ok (.ifCond .ne 5, 3) := by decide +kernel
theorem dX6_takesWordIfThere_15 : decode cX6_takesWordIfThere 15 = .ok (.iconst 0, 1) := by decide +kernel
theorem dX6_takesWordIfThere_16 : decode cX6_takesWordIfThere 16 = .ok (.ireturn, 1) := by decide +kernel
theorem dX6_takesWordIfThere_17 : decode cX6_takesWordIfThere 17 = .ok (.aload_n 0, 1) := by decide +kernel
theorem dX6_takesWordIfThere_18 : decode cX6_takesWordIfThere 18 = .ok (.invokevirtual 25, 3) := by decide +kernel
theorem dX6_takesWordIfThere_21 : decode cX6_takesWordIfThere 21 = .ok (.iconst 1, 1) := by decide +kernel
theorem dX6_takesWordIfThere_22 : decode cX6_takesWordIfThere 22 = .ok (.ireturn, 1) := by decide +kernel
theorem dX6_takesWord_0 : decode cX6_takesWord 0 = .ok (.aload_n 0, 1) := by decide +kernel
theorem dX6_takesWord_1 : decode cX6_takesWord 1 = .ok (.getfield 22, 3) := by decide +kernel
theorem dX6_takesWord_4 : decode cX6_takesWord 4 = .ok (.ifCond .lt 4, 3) := by decide +kernel
theorem dX6_takesWord_7 : decode cX6_takesWord 7 = .ok (.return_, 1) := by decide +kernel
theorem dX6_takesWord_8 : decode cX6_takesWord 8 = .ok (.aload_n 0, 1) := by decide +kernel
theorem dX6_takesWord_9 : decode cX6_takesWord 9 = .ok (.aload_n 1, 1) := by decide +kernel
theorem dX6_takesWord_10 : decode cX6_takesWord 10 = .ok (.invokevirtual 50, 3) := by decide +kernel
theorem dX6_takesWord_13 : decode cX6_takesWord 13 = .ok (.ifCond .ne 12, 3) := by decide +kernel
theorem dX6_takesWord_16 : decode cX6_takesWord 16 = .ok (.aload_n 0, 1) := by decide +kernel
theorem dX6_takesWord_17 : decode cX6_takesWord 17 = .ok (.aload_n 0, 1) := by decide +kernel
theorem dX6_takesWord_18 : decode cX6_takesWord 18 = .ok (.getfield 74, 3) := by decide +kernel
theorem dX6_takesWord_21 : decode cX6_takesWord 21 = .ok (.putfield 22, 3) := by decide +kernel
theorem dX6_takesWord_24 : decode cX6_takesWord 24 = .ok (.return_, 1) := by decide +kernel
theorem dX6_takesWord_25 : decode cX6_takesWord 25 = .ok (.aload_n 0, 1) := by decide +kernel
theorem dX6_takesWord_26 : decode cX6_takesWord 26 = .ok (.invokevirtual 25, 3) := by decide +kernel
theorem dX6_takesWord_29 : decode cX6_takesWord 29 = .ok (.return_, 1) := by decide +kernel
theorem dX6_takesNumber_0 : decode cX6_takesNumber 0 = .ok (.aload_n 0, 1) := by decide +kernel
theorem dX6_takesNumber_1 : decode cX6_takesNumber 1 = .ok (.getfield 22, 3) := by decide +kernel
theorem dX6_takesNumber_4 : decode cX6_takesNumber 4 = .ok (.ifCond .lt 5, 3) := by decide +kernel
theorem dX6_takesNumber_7 : decode cX6_takesNumber 7 = .ok (.iconst 0, 1) := by decide +kernel
theorem dX6_takesNumber_8 : decode cX6_takesNumber 8 = .ok (.ireturn, 1) := by decide +kernel
theorem dX6_takesNumber_9 : decode cX6_takesNumber 9 = .ok (.aload_n 0, 1) := by decide +kernel
theorem dX6_takesNumber_10 : decode cX6_takesNumber 10 = .ok (.getfield 28, 3) := by decide +kernel
theorem dX6_takesNumber_13 : decode cX6_takesNumber 13 = .ok (.iconst 2, 1) := by decide +kernel
theorem dX6_takesNumber_14 : decode cX6_takesNumber 14 = .ok (.if_icmp .ne 32, 3) := by decide +kernel
theorem dX6_takesNumber_17 : decode cX6_takesNumber 17 = .ok (.aload_n 0, 1) := by decide +kernel
theorem dX6_takesNumber_18 : decode cX6_takesNumber 18 = .ok (.getfield 19, 3) := by decide +kernel
theorem dX6_takesNumber_21 : decode cX6_takesNumber 21 = .ok (.aload_n 0, 1) := by decide +kernel
theorem dX6_takesNumber_22 : decode cX6_takesNumber 22 = .ok (.getfield 74, 3) := by decide +kernel
theorem dX6_takesNumber_25 : decode cX6_takesNumber 25 = .ok (.isub, 1) := by decide +kernel
theorem dX6_takesNumber_26 : decode cX6_takesNumber 26 = .ok (.iconst 2, 1) := by decide +kernel
theorem dX6_takesNumber_27 : decode cX6_takesNumber 27 = .ok (.if_icmp .gt 19, 3) := by decide +kernel
theorem dX6_takesNumber_30 : decode cX6_takesNumber 30 = .ok (.aload_n 0, 1) := by decide +kernel
theorem dX6_takesNumber_31 : decode cX6_takesNumber 31 = .ok (.getfield 122, 3) := by decide +kernel
theorem dX6_takesNumber_34 : decode cX6_takesNumber 34 = .ok (.iload_n 1, 1) := by decide +kernel
theorem dX6_takesNumber_35 : decode cX6_takesNumber 35 = .ok (.if_icmp .gt 11, 3) := by decide +kernel
theorem dX6_takesNumber_38 : decode cX6_takesNumber 38 = .ok (.aload_n 0, 1) := by decide +kernel
theorem dX6_takesNumber_39 : decode cX6_takesNumber 39 = .ok (.getfield 122, 3) := by decide +kernel
theorem dX6_takesNumber_42 : decode cX6_takesNumber 42 = .ok (.iload_n 2, 1) := by decide +kernel
theorem dX6_takesNumber_43 : decode cX6_takesNumber 43 = .ok (.if_icmp .ne 13, 3) := by decide +kernel
theorem dX6_takesNumber_46 : decode cX6_takesNumber 46 = .ok (.aload_n 0, 1) := by decide +kernel
theorem dX6_takesNumber_47 : decode cX6_takesNumber 47 = .ok (.aload_n 0, 1) := by decide +kernel
theorem dX6_takesNumber_48 : decode cX6_takesNumber 48 = .ok (.getfield 74, 3) := by decide +kernel
theorem dX6_takesNumber_51 : decode cX6_takesNumber 51 = .ok (.putfield 22, 3) := by decide +kernel
theorem dX6_takesNumber_54 : decode cX6_takesNumber 54 = .ok (.iconst 0, 1) := by decide +kernel
theorem dX6_takesNumber_55 : decode cX6_takesNumber 55 = .ok (.ireturn, 1) := by decide +kernel
theorem dX6_takesNumber_56 : decode cX6_takesNumber 56 = .ok (.aload_n 0, 1) := by decide +kernel
theorem dX6_takesNumber_57 : decode cX6_takesNumber 57 = .ok (.getfield 122, 3) := by decide +kernel
theorem dX6_takesNumber_60 : decode cX6_takesNumber 60 = .ok (.istore_n 3, 1) := by decide +kernel
theorem dX6_takesNumber_61 : decode cX6_takesNumber 61 = .ok (.aload_n 0, 1) := by decide +kernel
theorem dX6_takesNumber_62 : decode cX6_takesNumber 62 = .ok (.invokevirtual 25, 3) := by decide +kernel
theorem dX6_takesNumber_65 : decode cX6_takesNumber 65 = .ok (.iload_n 3, 1) := by decide +kernel
theorem dX6_takesNumber_66 : decode cX6_takesNumber 66 = .ok (.ireturn, 1) := by decide +kernel
theorem dX6_takesEnd_0 : decode cX6_takesEnd 0 = .ok (.aload_n 0, 1) := by decide +kernel
theorem dX6_takesEnd_1 : decode cX6_takesEnd 1 = .ok (.getfield 22, 3) := by decide +kernel
theorem dX6_takesEnd_4 : decode cX6_takesEnd 4 = .ok (.ifCond .lt 4, 3) := by decide +kernel
theorem dX6_takesEnd_7 : decode cX6_takesEnd 7 = .ok (.return_, 1) := by decide +kernel
theorem dX6_takesEnd_8 : decode cX6_takesEnd 8 = .ok (.aload_n 0, 1) := by decide +kernel
theorem dX6_takesEnd_9 : decode cX6_takesEnd 9 = .ok (.getfield 28, 3) := by decide +kernel
theorem dX6_takesEnd_12 : decode cX6_takesEnd 12 = .ok (.iconst 3, 1) := by decide +kernel
theorem dX6_takesEnd_13 : decode cX6_takesEnd 13 = .ok (.if_icmp .ne 16, 3) := by decide +kernel
theorem dX6_takesEnd_16 : decode cX6_takesEnd 16 = .ok (.aload_n 0, 1) := by decide +kernel
theorem dX6_takesEnd_17 : decode cX6_takesEnd 17 = .ok (.aload_n 0, 1) := by decide +kernel
theorem dX6_takesEnd_18 : decode cX6_takesEnd 18 = .ok (.getfield 74, 3) := by decide +kernel
theorem dX6_takesEnd_21 : decode cX6_takesEnd 21 = .ok (.invokevirtual 125, 3) := by decide +kernel
theorem dX6_takesEnd_24 : decode cX6_takesEnd 24 = .ok (.bipush 59, 2) := by decide +kernel
theorem dX6_takesEnd_26 : decode cX6_takesEnd 26 = .ok (.if_icmp .eq 12, 3) := by decide +kernel
theorem dX6_takesEnd_29 : decode cX6_takesEnd 29 = .ok (.aload_n 0, 1) := by decide +kernel
theorem dX6_takesEnd_30 : decode cX6_takesEnd 30 = .ok (.aload_n 0, 1) := by decide +kernel
theorem dX6_takesEnd_31 : decode cX6_takesEnd 31 = .ok (.getfield 74, 3) := by decide +kernel
theorem dX6_takesEnd_34 : decode cX6_takesEnd 34 = .ok (.putfield 22, 3) := by decide +kernel
theorem dX6_takesEnd_37 : decode cX6_takesEnd 37 = .ok (.return_, 1) := by decide +kernel
theorem dX6_takesEnd_38 : decode cX6_takesEnd 38 = .ok (.aload_n 0, 1) := by decide +kernel
theorem dX6_takesEnd_39 : decode cX6_takesEnd 39 = .ok (.invokevirtual 25, 3) := by decide +kernel
theorem dX6_takesEnd_42 : decode cX6_takesEnd 42 = .ok (.return_, 1) := by decide +kernel
theorem dX6_isWord_0 : decode cX6_isWord 0 = .ok (.aload_n 0, 1) := by decide +kernel
theorem dX6_isWord_1 : decode cX6_isWord 1 = .ok (.getfield 28, 3) := by decide +kernel
theorem dX6_isWord_4 : decode cX6_isWord 4 = .ok (.iconst 1, 1) := by decide +kernel
theorem dX6_isWord_5 : decode cX6_isWord 5 = .ok (.if_icmp .ne 19, 3) := by decide +kernel
theorem dX6_isWord_8 : decode cX6_isWord 8 = .ok (.aload_n 0, 1) := by decide +kernel
theorem dX6_isWord_9 : decode cX6_isWord 9 = .ok (.getfield 19, 3) := by decide +kernel
theorem dX6_isWord_12 : decode cX6_isWord 12 = .ok (.aload_n 0, 1) := by decide +kernel
theorem dX6_isWord_13 : decode cX6_isWord 13 = .ok (.getfield 74, 3) := by decide +kernel
theorem dX6_isWord_16 : decode cX6_isWord 16 = .ok (.isub, 1) := by decide +kernel
theorem dX6_isWord_17 : decode cX6_isWord 17 = .ok (.aload_n 1, 1) := by decide +kernel
theorem dX6_isWord_18 : decode cX6_isWord 18 = .ok (.invokevirtual 129, 3) := by decide +kernel
theorem dX6_isWord_21 : decode cX6_isWord 21 = .ok (.if_icmp .eq 5, 3) := by decide +kernel
theorem dX6_isWord_24 : decode cX6_isWord 24 = .ok (.iconst 0, 1) := by decide +kernel
theorem dX6_isWord_25 : decode cX6_isWord 25 = .ok (.ireturn, 1) := by decide +kernel
theorem dX6_isWord_26 : decode cX6_isWord 26 = .ok (.iconst 0, 1) := by decide +kernel
theorem dX6_isWord_27 : decode cX6_isWord 27 = .ok (.istore_n 2, 1) := by decide +kernel
theorem dX6_isWord_28 : decode cX6_isWord 28 = .ok (.iload_n 2, 1) := by decide +kernel
theorem dX6_isWord_29 : decode cX6_isWord 29 = .ok (.aload_n 1, 1) := by decide +kernel
theorem dX6_isWord_30 : decode cX6_isWord 30 = .ok (.invokevirtual 129, 3) := by decide +kernel
theorem dX6_isWord_33 : decode cX6_isWord 33 = .ok (.if_icmp .ge 29, 3) := by decide +kernel
theorem dX6_isWord_36 : decode cX6_isWord 36 = .ok (.aload_n 0, 1) := by decide +kernel
theorem dX6_isWord_37 : decode cX6_isWord 37 = .ok (.aload_n 0, 1) := by decide +kernel
theorem dX6_isWord_38 : decode cX6_isWord 38 = .ok (.getfield 74, 3) := by decide +kernel
theorem dX6_isWord_41 : decode cX6_isWord 41 = .ok (.iload_n 2, 1) := by decide +kernel
theorem dX6_isWord_42 : decode cX6_isWord 42 = .ok (.iadd, 1) := by decide +kernel
theorem dX6_isWord_43 : decode cX6_isWord 43 = .ok (.invokevirtual 125, 3) := by decide +kernel
theorem dX6_isWord_46 : decode cX6_isWord 46 = .ok (.aload_n 1, 1) := by decide +kernel
theorem dX6_isWord_47 : decode cX6_isWord 47 = .ok (.iload_n 2, 1) := by decide +kernel
theorem dX6_isWord_48 : decode cX6_isWord 48 = .ok (.invokevirtual 133, 3) := by decide +kernel
theorem dX6_isWord_51 : decode cX6_isWord 51 = .ok (.if_icmp .eq 5, 3) := by decide +kernel
theorem dX6_isWord_54 : decode cX6_isWord 54 = .ok (.iconst 0, 1) := by decide +kernel
theorem dX6_isWord_55 : decode cX6_isWord 55 = .ok (.ireturn, 1) := by decide +kernel
theorem dX6_isWord_56 : decode cX6_isWord 56 = .ok (.iinc 2 1, 3) := by decide +kernel
theorem dX6_isWord_59 : decode cX6_isWord 59 = .ok (.goto (-31), 3) := by decide +kernel
theorem dX6_isWord_62 : decode cX6_isWord 62 = .ok (.iconst 1, 1) := by decide +kernel
theorem dX6_isWord_63 : decode cX6_isWord 63 = .ok (.ireturn, 1) := by decide +kernel
theorem dX6_step_0 : decode cX6_step 0 = .ok (.aload_n 0, 1) := by decide +kernel
theorem dX6_step_1 : decode cX6_step 1 = .ok (.aload_n 0, 1) := by decide +kernel
theorem dX6_step_2 : decode cX6_step 2 = .ok (.getfield 19, 3) := by decide +kernel
theorem dX6_step_5 : decode cX6_step 5 = .ok (.putfield 74, 3) := by decide +kernel
theorem dX6_step_8 : decode cX6_step 8 = .ok (.iconst 0, 1) := by decide +kernel
theorem dX6_step_9 : decode cX6_step 9 = .ok (.istore_n 1, 1) := by decide +kernel
theorem dX6_step_10 : decode cX6_step 10 = .ok (.iload_n 1, 1) := by decide +kernel
theorem dX6_step_11 : decode cX6_step 11 = .ok (.sipush 240, 3) := by decide +kernel
theorem dX6_step_14 : decode cX6_step 14 = .ok (.if_icmp .ge 32, 3) := by decide +kernel
theorem dX6_step_17 : decode cX6_step 17 = .ok (.aload_n 0, 1) := by decide +kernel
theorem dX6_step_18 : decode cX6_step 18 = .ok (.aload_n 0, 1) := by decide +kernel
theorem dX6_step_19 : decode cX6_step 19 = .ok (.getfield 74, 3) := by decide +kernel
theorem dX6_step_22 : decode cX6_step 22 = .ok (.invokevirtual 125, 3) := by decide +kernel
theorem dX6_step_25 : decode cX6_step 25 = .ok (.bipush 32, 2) := by decide +kernel
theorem dX6_step_27 : decode cX6_step 27 = .ok (.if_icmp .ne 19, 3) := by decide +kernel
theorem dX6_step_30 : decode cX6_step 30 = .ok (.aload_n 0, 1) := by decide +kernel
theorem dX6_step_31 : decode cX6_step 31 = .ok (.dup, 1) := by decide +kernel
theorem dX6_step_32 : decode cX6_step 32 = .ok (.getfield 74, 3) := by decide +kernel
theorem dX6_step_35 : decode cX6_step 35 = .ok (.iconst 1, 1) := by decide +kernel
theorem dX6_step_36 : decode cX6_step 36 = .ok (.iadd, 1) := by decide +kernel
theorem dX6_step_37 : decode cX6_step 37 = .ok (.putfield 74, 3) := by decide +kernel
theorem dX6_step_40 : decode cX6_step 40 = .ok (.iinc 1 1, 3) := by decide +kernel
theorem dX6_step_43 : decode cX6_step 43 = .ok (.goto (-33), 3) := by decide +kernel
theorem dX6_step_46 : decode cX6_step 46 = .ok (.aload_n 0, 1) := by decide +kernel
theorem dX6_step_47 : decode cX6_step 47 = .ok (.aload_n 0, 1) := by decide +kernel
theorem dX6_step_48 : decode cX6_step 48 = .ok (.aload_n 0, 1) := by decide +kernel
theorem dX6_step_49 : decode cX6_step 49 = .ok (.getfield 74, 3) := by decide +kernel
theorem dX6_step_52 : decode cX6_step 52 = .ok (.invokevirtual 125, 3) := by decide +kernel
theorem dX6_step_55 : decode cX6_step 55 = .ok (.invokestatic 137, 3) := by decide +kernel
theorem dX6_step_58 : decode cX6_step 58 = .ok (.putfield 28, 3) := by decide +kernel
theorem dX6_step_61 : decode cX6_step 61 = .ok (.aload_n 0, 1) := by decide +kernel
theorem dX6_step_62 : decode cX6_step 62 = .ok (.aload_n 0, 1) := by decide +kernel
theorem dX6_step_63 : decode cX6_step 63 = .ok (.getfield 28, 3) := by decide +kernel
theorem dX6_step_66 : decode cX6_step 66 = .ok (.ifCond .ne 10, 3) := by decide +kernel
theorem dX6_step_69 : decode cX6_step 69 = .ok (.aload_n 0, 1) := by decide +kernel
theorem dX6_step_70 : decode cX6_step 70 = .ok (.getfield 74, 3) := by decide +kernel
theorem dX6_step_73 : decode cX6_step 73 = .ok (.goto 9, 3) := by decide +kernel
theorem dX6_step_76 : decode cX6_step 76 = .ok (.aload_n 0, 1) := by decide +kernel
theorem dX6_step_77 : decode cX6_step 77 = .ok (.getfield 74, 3) := by decide +kernel
theorem dX6_step_80 : decode cX6_step 80 = .ok (.iconst 1, 1) := by decide +kernel
theorem dX6_step_81 : decode cX6_step 81 = .ok (.iadd, 1) := by decide +kernel
theorem dX6_step_82 : decode cX6_step 82 = .ok (.putfield 19, 3) := by decide +kernel
theorem dX6_step_85 : decode cX6_step 85 = .ok (.aload_n 0, 1) := by decide +kernel
theorem dX6_step_86 : decode cX6_step 86 = .ok (.getfield 28, 3) := by decide +kernel
theorem dX6_step_89 : decode cX6_step 89 = .ok (.iconst 1, 1) := by decide +kernel
theorem dX6_step_90 : decode cX6_step 90 = .ok (.if_icmp .eq 11, 3) := by decide +kernel
theorem dX6_step_93 : decode cX6_step 93 = .ok (.aload_n 0, 1) := by decide +kernel
theorem dX6_step_94 : decode cX6_step 94 = .ok (.getfield 28, 3) := by decide +kernel
theorem dX6_step_97 : decode cX6_step 97 = .ok (.iconst 2, 1) := by decide +kernel
theorem dX6_step_98 : decode cX6_step 98 = .ok (.if_icmp .ne 46, 3) := by decide +kernel
theorem dX6_step_101 : decode cX6_step 101 = .ok (.iconst 0, 1) := by decide +kernel
theorem dX6_step_102 : decode cX6_step 102 = .ok (.istore_n 1, 1) := by decide +kernel
theorem dX6_step_103 : decode cX6_step 103 = .ok (.iload_n 1, 1) := by decide +kernel
theorem dX6_step_104 : decode cX6_step 104 = .ok (.sipush 240, 3) := by decide +kernel
theorem dX6_step_107 : decode cX6_step 107 = .ok (.if_icmp .ge 37, 3) := by decide +kernel
theorem dX6_step_110 : decode cX6_step 110 = .ok (.aload_n 0, 1) := by decide +kernel
theorem dX6_step_111 : decode cX6_step 111 = .ok (.aload_n 0, 1) := by decide +kernel
theorem dX6_step_112 : decode cX6_step 112 = .ok (.getfield 19, 3) := by decide +kernel
theorem dX6_step_115 : decode cX6_step 115 = .ok (.invokevirtual 125, 3) := by decide +kernel
theorem dX6_step_118 : decode cX6_step 118 = .ok (.invokestatic 137, 3) := by decide +kernel
theorem dX6_step_121 : decode cX6_step 121 = .ok (.aload_n 0, 1) := by decide +kernel
theorem dX6_step_122 : decode cX6_step 122 = .ok (.getfield 28, 3) := by decide +kernel
theorem dX6_step_125 : decode cX6_step 125 = .ok (.if_icmp .ne 19, 3) := by decide +kernel
theorem dX6_step_128 : decode cX6_step 128 = .ok (.aload_n 0, 1) := by decide +kernel
theorem dX6_step_129 : decode cX6_step 129 = .ok (.dup, 1) := by decide +kernel
theorem dX6_step_130 : decode cX6_step 130 = .ok (.getfield 19, 3) := by decide +kernel
theorem dX6_step_133 : decode cX6_step 133 = .ok (.iconst 1, 1) := by decide +kernel
theorem dX6_step_134 : decode cX6_step 134 = .ok (.iadd, 1) := by decide +kernel
theorem dX6_step_135 : decode cX6_step 135 = .ok (.putfield 19, 3) := by decide +kernel
theorem dX6_step_138 : decode cX6_step 138 = .ok (.iinc 1 1, 3) := by decide +kernel
theorem dX6_step_141 : decode cX6_step 141 = .ok (.goto (-38), 3) := by decide +kernel
theorem dX6_step_144 : decode cX6_step 144 = .ok (.aload_n 0, 1) := by decide +kernel
theorem dX6_step_145 : decode cX6_step 145 = .ok (.getfield 28, 3) := by decide +kernel
theorem dX6_step_148 : decode cX6_step 148 = .ok (.iconst 2, 1) := by decide +kernel
theorem dX6_step_149 : decode cX6_step 149 = .ok (.if_icmp .ne 56, 3) := by decide +kernel
theorem dX6_step_152 : decode cX6_step 152 = .ok (.aload_n 0, 1) := by decide +kernel
theorem dX6_step_153 : decode cX6_step 153 = .ok (.aload_n 0, 1) := by decide +kernel
theorem dX6_step_154 : decode cX6_step 154 = .ok (.aload_n 0, 1) := by decide +kernel
theorem dX6_step_155 : decode cX6_step 155 = .ok (.getfield 74, 3) := by decide +kernel
theorem dX6_step_158 : decode cX6_step 158 = .ok (.invokevirtual 125, 3) := by decide +kernel
theorem dX6_step_161 : decode cX6_step 161 = .ok (.bipush 48, 2) := by decide +kernel
theorem dX6_step_163 : decode cX6_step 163 = .ok (.isub, 1) := by decide +kernel
theorem dX6_step_164 : decode cX6_step 164 = .ok (.putfield 122, 3) := by decide +kernel
theorem dX6_step_167 : decode cX6_step 167 = .ok (.aload_n 0, 1) := by decide +kernel
theorem dX6_step_168 : decode cX6_step 168 = .ok (.getfield 19, 3) := by decide +kernel
theorem dX6_step_171 : decode cX6_step 171 = .ok (.aload_n 0, 1) := by decide +kernel
theorem dX6_step_172 : decode cX6_step 172 = .ok (.getfield 74, 3) := by decide +kernel
theorem dX6_step_175 : decode cX6_step 175 = .ok (.isub, 1) := by decide +kernel
theorem dX6_step_176 : decode cX6_step 176 = .ok (.iconst 2, 1) := by decide +kernel
theorem dX6_step_177 : decode cX6_step 177 = .ok (.if_icmp .ne 28, 3) := by decide +kernel
theorem dX6_step_180 : decode cX6_step 180 = .ok (.aload_n 0, 1) := by decide +kernel
theorem dX6_step_181 : decode cX6_step 181 = .ok (.aload_n 0, 1) := by decide +kernel
theorem dX6_step_182 : decode cX6_step 182 = .ok (.getfield 122, 3) := by decide +kernel
theorem dX6_step_185 : decode cX6_step 185 = .ok (.bipush 10, 2) := by decide +kernel
theorem dX6_step_187 : decode cX6_step 187 = .ok (.imul, 1) := by decide +kernel
theorem dX6_step_188 : decode cX6_step 188 = .ok (.aload_n 0, 1) := by decide +kernel
theorem dX6_step_189 : decode cX6_step 189 = .ok (.aload_n 0, 1) := by decide +kernel
theorem dX6_step_190 : decode cX6_step 190 = .ok (.getfield 74, 3) := by decide +kernel
theorem dX6_step_193 : decode cX6_step 193 = .ok (.iconst 1, 1) := by decide +kernel
theorem dX6_step_194 : decode cX6_step 194 = .ok (.iadd, 1) := by decide +kernel
theorem dX6_step_195 : decode cX6_step 195 = .ok (.invokevirtual 125, 3) := by decide +kernel
theorem dX6_step_198 : decode cX6_step 198 = .ok (.iadd, 1) := by decide +kernel
theorem dX6_step_199 : decode cX6_step 199 = .ok (.bipush 48, 2) := by decide +kernel
theorem dX6_step_201 : decode cX6_step 201 = .ok (.isub, 1) := by decide +kernel
theorem dX6_step_202 : decode cX6_step 202 = .ok (.putfield 122, 3) := by decide +kernel
theorem dX6_step_205 : decode cX6_step 205 = .ok (.return_, 1) := by decide +kernel
theorem dX6_sortOf_0 : decode cX6_sortOf 0 = .ok (.iload_n 0, 1) := by decide +kernel
theorem dX6_sortOf_1 : decode cX6_sortOf 1 = .ok (.ifCond .ge 5, 3) := by decide +kernel
theorem dX6_sortOf_4 : decode cX6_sortOf 4 = .ok (.iconst 0, 1) := by decide +kernel
theorem dX6_sortOf_5 : decode cX6_sortOf 5 = .ok (.ireturn, 1) := by decide +kernel
theorem dX6_sortOf_6 : decode cX6_sortOf 6 = .ok (.iload_n 0, 1) := by decide +kernel
theorem dX6_sortOf_7 : decode cX6_sortOf 7 = .ok (.bipush 97, 2) := by decide +kernel
theorem dX6_sortOf_9 : decode cX6_sortOf 9 = .ok (.if_icmp .lt 11, 3) := by decide +kernel
theorem dX6_sortOf_12 : decode cX6_sortOf 12 = .ok (.iload_n 0, 1) := by decide +kernel
theorem dX6_sortOf_13 : decode cX6_sortOf 13 = .ok (.bipush 122, 2) := by decide +kernel
theorem dX6_sortOf_15 : decode cX6_sortOf 15 = .ok (.if_icmp .gt 5, 3) := by decide +kernel
theorem dX6_sortOf_18 : decode cX6_sortOf 18 = .ok (.iconst 1, 1) := by decide +kernel
theorem dX6_sortOf_19 : decode cX6_sortOf 19 = .ok (.ireturn, 1) := by decide +kernel
theorem dX6_sortOf_20 : decode cX6_sortOf 20 = .ok (.iload_n 0, 1) := by decide +kernel
theorem dX6_sortOf_21 : decode cX6_sortOf 21 = .ok (.bipush 48, 2) := by decide +kernel
theorem dX6_sortOf_23 : decode cX6_sortOf 23 = .ok (.if_icmp .lt 13, 3) := by decide +kernel
theorem dX6_sortOf_26 : decode cX6_sortOf 26 = .ok (.iload_n 0, 1) := by decide +kernel
theorem dX6_sortOf_27 : decode cX6_sortOf 27 = .ok (.bipush 57, 2) := by decide +kernel
theorem dX6_sortOf_29 : decode cX6_sortOf 29 = .ok (.if_icmp .gt 7, 3) := by decide +kernel
theorem dX6_sortOf_32 : decode cX6_sortOf 32 = .ok (.iconst 2, 1) := by decide +kernel
theorem dX6_sortOf_33 : decode cX6_sortOf 33 = .ok (.goto 4, 3) := by decide +kernel
theorem dX6_sortOf_36 : decode cX6_sortOf 36 = .ok (.iconst 3, 1) := by decide +kernel
theorem dX6_sortOf_37 : decode cX6_sortOf 37 = .ok (.ireturn, 1) := by decide +kernel
theorem dX6_byteAt_0 : decode cX6_byteAt 0 = .ok (.iload_n 1, 1) := by decide +kernel
theorem dX6_byteAt_1 : decode cX6_byteAt 1 = .ok (.ifCond .lt 24, 3) := by decide +kernel
theorem dX6_byteAt_4 : decode cX6_byteAt 4 = .ok (.iload_n 1, 1) := by decide +kernel
theorem dX6_byteAt_5 : decode cX6_byteAt 5 = .ok (.aload_n 0, 1) := by decide +kernel
theorem dX6_byteAt_6 : decode cX6_byteAt 6 = .ok (.getfield 15, 3) := by decide +kernel
theorem dX6_byteAt_9 : decode cX6_byteAt 9 = .ok (.if_icmp .ge 16, 3) := by decide +kernel
theorem dX6_byteAt_12 : decode cX6_byteAt 12 = .ok (.aload_n 0, 1) := by decide +kernel
theorem dX6_byteAt_13 : decode cX6_byteAt 13 = .ok (.getfield 9, 3) := by decide +kernel
theorem dX6_byteAt_16 : decode cX6_byteAt 16 = .ok (.iload_n 1, 1) := by decide +kernel
theorem dX6_byteAt_17 : decode cX6_byteAt 17 = .ok (.baload, 1) := by decide +kernel
theorem dX6_byteAt_18 : decode cX6_byteAt 18 = .ok (.sipush 255, 3) := by decide +kernel
theorem dX6_byteAt_21 : decode cX6_byteAt 21 = .ok (.iand, 1) := by decide +kernel
theorem dX6_byteAt_22 : decode cX6_byteAt 22 = .ok (.goto 5, 3) := by decide +kernel
theorem dX6_byteAt_25 : decode cX6_byteAt 25 = .ok (.bipush (-9), 2) := by decide +kernel
theorem dX6_byteAt_27 : decode cX6_byteAt 27 = .ok (.ireturn, 1) := by decide +kernel
theorem dX7_init_0 : decode cX7_init 0 = .ok (.aload_n 0, 1) := by decide +kernel
theorem dX7_init_1 : decode cX7_init 1 = .ok (.invokespecial 3, 3) := by decide +kernel
theorem dX7_init_4 : decode cX7_init 4 = .ok (.aload_n 0, 1) := by decide +kernel
theorem dX7_init_5 : decode cX7_init 5 = .ok (.bipush 30, 2) := by decide +kernel
theorem dX7_init_7 : decode cX7_init 7 = .ok (.newarray .int, 2) := by decide +kernel
theorem dX7_init_9 : decode cX7_init 9 = .ok (.putfield 9, 3) := by decide +kernel
theorem dX7_init_12 : decode cX7_init 12 = .ok (.return_, 1) := by decide +kernel
theorem dX7_clear_0 : decode cX7_clear 0 = .ok (.aload_n 0, 1) := by decide +kernel
theorem dX7_clear_1 : decode cX7_clear 1 = .ok (.iconst 0, 1) := by decide +kernel
theorem dX7_clear_2 : decode cX7_clear 2 = .ok (.putfield 15, 3) := by decide +kernel
theorem dX7_clear_5 : decode cX7_clear 5 = .ok (.aload_n 0, 1) := by decide +kernel
theorem dX7_clear_6 : decode cX7_clear 6 = .ok (.iconst 0, 1) := by decide +kernel
theorem dX7_clear_7 : decode cX7_clear 7 = .ok (.putfield 19, 3) := by decide +kernel
theorem dX7_clear_10 : decode cX7_clear 10 = .ok (.return_, 1) := by decide +kernel
theorem dX7_begin_0 : decode cX7_begin 0 = .ok (.aload_n 0, 1) := by decide +kernel
theorem dX7_begin_1 : decode cX7_begin 1 = .ok (.getfield 19, 3) := by decide +kernel
theorem dX7_begin_4 : decode cX7_begin 4 = .ok (.ifCond .ne 32, 3) := by decide +kernel
theorem dX7_begin_7 : decode cX7_begin 7 = .ok (.aload_n 0, 1) := by decide +kernel
theorem dX7_begin_8 : decode cX7_begin 8 = .ok (.getfield 15, 3) := by decide +kernel
theorem dX7_begin_11 : decode cX7_begin 11 = .ok (.bipush 30, 2) := by decide +kernel
theorem dX7_begin_13 : decode cX7_begin 13 = .ok (.if_icmp .ge 23, 3) := by decide +kernel
theorem dX7_begin_16 : decode cX7_begin 16 = .ok (.aload_n 0, 1) := by decide +kernel
theorem dX7_begin_17 : decode cX7_begin 17 = .ok (.getfield 9, 3) := by decide +kernel
theorem dX7_begin_20 : decode cX7_begin 20 = .ok (.aload_n 0, 1) := by decide +kernel
theorem dX7_begin_21 : decode cX7_begin 21 = .ok (.getfield 15, 3) := by decide +kernel
theorem dX7_begin_24 : decode cX7_begin 24 = .ok (.iload_n 1, 1) := by decide +kernel
theorem dX7_begin_25 : decode cX7_begin 25 = .ok (.iastore, 1) := by decide +kernel
theorem dX7_begin_26 : decode cX7_begin 26 = .ok (.aload_n 0, 1) := by decide +kernel
theorem dX7_begin_27 : decode cX7_begin 27 = .ok (.dup, 1) := by decide +kernel
theorem dX7_begin_28 : decode cX7_begin 28 = .ok (.getfield 15, 3) := by decide +kernel
theorem dX7_begin_31 : decode cX7_begin 31 = .ok (.iconst 1, 1) := by decide +kernel
theorem dX7_begin_32 : decode cX7_begin 32 = .ok (.iadd, 1) := by decide +kernel
theorem dX7_begin_33 : decode cX7_begin 33 = .ok (.putfield 15, 3) := by decide +kernel
theorem dX7_begin_36 : decode cX7_begin 36 = .ok (.return_, 1) := by decide +kernel
theorem dX8_init_0 : decode cX8_init 0 = .ok (.aload_n 0, 1) := by decide +kernel
theorem dX8_init_1 : decode cX8_init 1 = .ok (.iload_n 1, 1) := by decide +kernel
theorem dX8_init_2 : decode cX8_init 2 = .ok (.iload_n 2, 1) := by decide +kernel
theorem dX8_init_3 : decode cX8_init 3 = .ok (.aload_n 3, 1) := by decide +kernel
theorem dX8_init_4 : decode cX8_init 4 = .ok (.invokespecial 1, 3) := by decide +kernel
theorem dX8_init_7 : decode cX8_init 7 = .ok (.return_, 1) := by decide +kernel
theorem dX8_stays_0 : decode cX8_stays 0 = .ok (.aload_n 0, 1) := by decide +kernel
theorem dX8_stays_1 : decode cX8_stays 1 = .ok (.getfield 7, 3) := by decide +kernel
theorem dX8_stays_4 : decode cX8_stays 4 = .ok (.bipush 20, 2) := by decide +kernel
theorem dX8_stays_6 : decode cX8_stays 6 = .ok (.invokevirtual 13, 3) := by decide +kernel
theorem dX8_stays_9 : decode cX8_stays 9 = .ok (.aload_n 0, 1) := by decide +kernel
theorem dX8_stays_10 : decode cX8_stays 10 = .ok (.iload_n 1, 1) := by decide +kernel
theorem dX8_stays_11 : decode cX8_stays 11 = .ok (.invokespecial 19, 3) := by decide +kernel
theorem dX8_stays_14 : decode cX8_stays 14 = .ok (.aload_n 0, 1) := by decide +kernel
theorem dX8_stays_15 : decode cX8_stays 15 = .ok (.getfield 23, 3) := by decide +kernel
theorem dX8_stays_18 : decode cX8_stays 18 = .ok (.isub, 1) := by decide +kernel
theorem dX8_stays_19 : decode cX8_stays 19 = .ok (.ireturn, 1) := by decide +kernel
theorem dX9_init_0 : decode cX9_init 0 = .ok (.aload_n 0, 1) := by decide +kernel
theorem dX9_init_1 : decode cX9_init 1 = .ok (.iload_n 1, 1) := by decide +kernel
theorem dX9_init_2 : decode cX9_init 2 = .ok (.iload_n 2, 1) := by decide +kernel
theorem dX9_init_3 : decode cX9_init 3 = .ok (.aload_n 3, 1) := by decide +kernel
theorem dX9_init_4 : decode cX9_init 4 = .ok (.invokespecial 1, 3) := by decide +kernel
theorem dX9_init_7 : decode cX9_init 7 = .ok (.return_, 1) := by decide +kernel
theorem dX9_leads_0 : decode cX9_leads 0 = .ok (.aload_n 0, 1) := by decide +kernel
theorem dX9_leads_1 : decode cX9_leads 1 = .ok (.getfield 7, 3) := by decide +kernel
theorem dX9_leads_4 : decode cX9_leads 4 = .ok (.bipush 30, 2) := by decide +kernel
theorem dX9_leads_6 : decode cX9_leads 6 = .ok (.invokevirtual 13, 3) := by decide +kernel
theorem dX9_leads_9 : decode cX9_leads 9 = .ok (.aload_n 0, 1) := by decide +kernel
theorem dX9_leads_10 : decode cX9_leads 10 = .ok (.iload_n 1, 1) := by decide +kernel
theorem dX9_leads_11 : decode cX9_leads 11 = .ok (.invokespecial 19, 3) := by decide +kernel
theorem dX9_leads_14 : decode cX9_leads 14 = .ok (.iconst 3, 1) := by decide +kernel
theorem dX9_leads_15 : decode cX9_leads 15 = .ok (.imul, 1) := by decide +kernel
theorem dX9_leads_16 : decode cX9_leads 16 = .ok (.ireturn, 1) := by decide +kernel
theorem dX9_tells_0 : decode cX9_tells 0 = .ok (.aload_n 0, 1) := by decide +kernel
theorem dX9_tells_1 : decode cX9_tells 1 = .ok (.getfield 7, 3) := by decide +kernel
theorem dX9_tells_4 : decode cX9_tells 4 = .ok (.bipush 31, 2) := by decide +kernel
theorem dX9_tells_6 : decode cX9_tells 6 = .ok (.invokevirtual 13, 3) := by decide +kernel
theorem dX9_tells_9 : decode cX9_tells 9 = .ok (.aload_n 0, 1) := by decide +kernel
theorem dX9_tells_10 : decode cX9_tells 10 = .ok (.iload_n 1, 1) := by decide +kernel
theorem dX9_tells_11 : decode cX9_tells 11 = .ok (.invokespecial 23, 3) := by decide +kernel
theorem dX9_tells_14 : decode cX9_tells 14 = .ok (.aload_n 0, 1) := by decide +kernel
theorem dX9_tells_15 : decode cX9_tells 15 = .ok (.aload_n 0, 1) := by decide +kernel
theorem dX9_tells_16 : decode cX9_tells 16 = .ok (.getfield 26, 3) := by decide +kernel
theorem dX9_tells_19 : decode cX9_tells 19 = .ok (.invokevirtual 30, 3) := by decide +kernel
theorem dX9_tells_22 : decode cX9_tells 22 = .ok (.iadd, 1) := by decide +kernel
theorem dX9_tells_23 : decode cX9_tells 23 = .ok (.ireturn, 1) := by decide +kernel
theorem dX10_init_0 : decode cX10_init 0 = .ok (.aload_n 0, 1) := by decide +kernel
theorem dX10_init_1 : decode cX10_init 1 = .ok (.invokespecial 3, 3) := by decide +kernel
theorem dX10_init_4 : decode cX10_init 4 = .ok (.aload_n 0, 1) := by decide +kernel
theorem dX10_init_5 : decode cX10_init 5 = .ok (.bipush 8, 2) := by decide +kernel
theorem dX10_init_7 : decode cX10_init 7 = .ok (.newarray .int, 2) := by decide +kernel
theorem dX10_init_9 : decode cX10_init 9 = .ok (.putfield 9, 3) := by decide +kernel
theorem dX10_init_12 : decode cX10_init 12 = .ok (.aload_n 0, 1) := by decide +kernel
theorem dX10_init_13 : decode cX10_init 13 = .ok (.bipush 8, 2) := by decide +kernel
theorem dX10_init_15 : decode cX10_init 15 = .ok (.newarray .int, 2) := by decide +kernel
theorem dX10_init_17 : decode cX10_init 17 = .ok (.putfield 15, 3) := by decide +kernel
theorem dX10_init_20 : decode cX10_init 20 = .ok (.aload_n 0, 1) := by decide +kernel
theorem dX10_init_21 : decode cX10_init 21 = .ok (.bipush 8, 2) := by decide +kernel
theorem dX10_init_23 : decode cX10_init 23 = .ok (.newarray .int, 2) := by decide +kernel
theorem dX10_init_25 : decode cX10_init 25 = .ok (.putfield 18, 3) := by decide +kernel
theorem dX10_init_28 : decode cX10_init 28 = .ok (.aload_n 0, 1) := by decide +kernel
theorem dX10_init_29 : decode cX10_init 29 = .ok (.bipush 8, 2) := by decide +kernel
theorem dX10_init_31 : decode cX10_init 31 = .ok (.newarray .int, 2) := by decide +kernel
theorem dX10_init_33 : decode cX10_init 33 = .ok (.putfield 21, 3) := by decide +kernel
theorem dX10_init_36 : decode cX10_init 36 = .ok (.aload_n 0, 1) := by decide +kernel
theorem dX10_init_37 : decode cX10_init 37 = .ok (.bipush 8, 2) := by decide +kernel
theorem dX10_init_39 : decode cX10_init 39 = .ok (.newarray .int, 2) := by decide +kernel
theorem dX10_init_41 : decode cX10_init 41 = .ok (.putfield 24, 3) := by decide +kernel
theorem dX10_init_44 : decode cX10_init 44 = .ok (.aload_n 0, 1) := by decide +kernel
theorem dX10_init_45 : decode cX10_init 45 = .ok (.iconst 4, 1) := by decide +kernel
theorem dX10_init_46 : decode cX10_init 46 = .ok (.newarray .int, 2) := by decide +kernel
theorem dX10_init_48 : decode cX10_init 48 = .ok (.putfield 27, 3) := by decide +kernel
theorem dX10_init_51 : decode cX10_init 51 = .ok (.aload_n 0, 1) := by decide +kernel
theorem dX10_init_52 : decode cX10_init 52 = .ok (.iconst 4, 1) := by decide +kernel
theorem dX10_init_53 : decode cX10_init 53 = .ok (.newarray .int, 2) := by decide +kernel
theorem dX10_init_55 : decode cX10_init 55 = .ok (.putfield 30, 3) := by decide +kernel
theorem dX10_init_58 : decode cX10_init 58 = .ok (.aload_n 0, 1) := by decide +kernel
theorem dX10_init_59 : decode cX10_init 59 = .ok (.iconst 4, 1) := by decide +kernel
theorem dX10_init_60 : decode cX10_init 60 = .ok (.newarray .int, 2) := by decide +kernel
theorem dX10_init_62 : decode cX10_init 62 = .ok (.putfield 33, 3) := by decide +kernel
theorem dX10_init_65 : decode cX10_init 65 = .ok (.aload_n 0, 1) := by decide +kernel
theorem dX10_init_66 : decode cX10_init 66 = .ok (.bipush 8, 2) := by decide +kernel
theorem dX10_init_68 : decode cX10_init 68 = .ok (.newarray .int, 2) := by decide +kernel
theorem dX10_init_70 : decode cX10_init 70 = .ok (.putfield 36, 3) := by decide +kernel
theorem dX10_init_73 : decode cX10_init 73 = .ok (.aload_n 0, 1) := by decide +kernel
theorem dX10_init_74 : decode cX10_init 74 = .ok (.iconst 1, 1) := by decide +kernel
theorem dX10_init_75 : decode cX10_init 75 = .ok (.putfield 39, 3) := by decide +kernel
theorem dX10_init_78 : decode cX10_init 78 = .ok (.aload_n 0, 1) := by decide +kernel
theorem dX10_init_79 : decode cX10_init 79 = .ok (.iconst 4, 1) := by decide +kernel
theorem dX10_init_80 : decode cX10_init 80 = .ok (.newarray .int, 2) := by decide +kernel
theorem dX10_init_82 : decode cX10_init 82 = .ok (.putfield 43, 3) := by decide +kernel
theorem dX10_init_85 : decode cX10_init 85 = .ok (.aload_n 0, 1) := by decide +kernel
theorem dX10_init_86 : decode cX10_init 86 = .ok (.iconst 4, 1) := by decide +kernel
theorem dX10_init_87 : decode cX10_init 87 = .ok (.newarray .int, 2) := by decide +kernel
theorem dX10_init_89 : decode cX10_init 89 = .ok (.putfield 46, 3) := by decide +kernel
theorem dX10_init_92 : decode cX10_init 92 = .ok (.aload_n 0, 1) := by decide +kernel
theorem dX10_init_93 : decode cX10_init 93 = .ok (.getfield 36, 3) := by decide +kernel
theorem dX10_init_96 : decode cX10_init 96 = .ok (.iconst 1, 1) := by decide +kernel
theorem dX10_init_97 : decode cX10_init 97 = .ok (.invokestatic 49, 3) := by decide +kernel
theorem dX10_init_100 : decode cX10_init 100 = .ok (.return_, 1) := by decide +kernel
theorem dX10_copyFrom_0 : decode cX10_copyFrom 0 = .ok (.aload_n 1, 1) := by decide +kernel
theorem dX10_copyFrom_1 : decode cX10_copyFrom 1 = .ok (.getfield 9, 3) := by decide +kernel
theorem dX10_copyFrom_4 : decode cX10_copyFrom 4 = .ok (.iconst 0, 1) := by decide +kernel
theorem dX10_copyFrom_5 : decode cX10_copyFrom 5 = .ok (.aload_n 0, 1) := by decide +kernel
theorem dX10_copyFrom_6 : decode cX10_copyFrom 6 = .ok (.getfield 9, 3) := by decide +kernel
theorem dX10_copyFrom_9 : decode cX10_copyFrom 9 = .ok (.iconst 0, 1) := by decide +kernel
theorem dX10_copyFrom_10 : decode cX10_copyFrom 10 = .ok (.bipush 8, 2) := by decide +kernel
theorem dX10_copyFrom_12 : decode cX10_copyFrom 12 = .ok (.invokestatic 55, 3) := by decide +kernel
theorem dX10_copyFrom_15 : decode cX10_copyFrom 15 = .ok (.aload_n 1, 1) := by decide +kernel
theorem dX10_copyFrom_16 : decode cX10_copyFrom 16 = .ok (.getfield 15, 3) := by decide +kernel
theorem dX10_copyFrom_19 : decode cX10_copyFrom 19 = .ok (.iconst 0, 1) := by decide +kernel
theorem dX10_copyFrom_20 : decode cX10_copyFrom 20 = .ok (.aload_n 0, 1) := by decide +kernel
theorem dX10_copyFrom_21 : decode cX10_copyFrom 21 = .ok (.getfield 15, 3) := by decide +kernel
theorem dX10_copyFrom_24 : decode cX10_copyFrom 24 = .ok (.iconst 0, 1) := by decide +kernel
theorem dX10_copyFrom_25 : decode cX10_copyFrom 25 = .ok (.bipush 8, 2) := by decide +kernel
theorem dX10_copyFrom_27 : decode cX10_copyFrom 27 = .ok (.invokestatic 55, 3) := by decide +kernel
theorem dX10_copyFrom_30 : decode cX10_copyFrom 30 = .ok (.aload_n 1, 1) := by decide +kernel
theorem dX10_copyFrom_31 : decode cX10_copyFrom 31 = .ok (.getfield 18, 3) := by decide +kernel
theorem dX10_copyFrom_34 : decode cX10_copyFrom 34 = .ok (.iconst 0, 1) := by decide +kernel
theorem dX10_copyFrom_35 : decode cX10_copyFrom 35 = .ok (.aload_n 0, 1) := by decide +kernel
theorem dX10_copyFrom_36 : decode cX10_copyFrom 36 = .ok (.getfield 18, 3) := by decide +kernel
theorem dX10_copyFrom_39 : decode cX10_copyFrom 39 = .ok (.iconst 0, 1) := by decide +kernel
theorem dX10_copyFrom_40 : decode cX10_copyFrom 40 = .ok (.bipush 8, 2) := by decide +kernel
theorem dX10_copyFrom_42 : decode cX10_copyFrom 42 = .ok (.invokestatic 55, 3) := by decide +kernel
theorem dX10_copyFrom_45 : decode cX10_copyFrom 45 = .ok (.aload_n 1, 1) := by decide +kernel
theorem dX10_copyFrom_46 : decode cX10_copyFrom 46 = .ok (.getfield 21, 3) := by decide +kernel
theorem dX10_copyFrom_49 : decode cX10_copyFrom 49 = .ok (.iconst 0, 1) := by decide +kernel
theorem dX10_copyFrom_50 : decode cX10_copyFrom 50 = .ok (.aload_n 0, 1) := by decide +kernel
theorem dX10_copyFrom_51 : decode cX10_copyFrom 51 = .ok (.getfield 21, 3) := by decide +kernel
theorem dX10_copyFrom_54 : decode cX10_copyFrom 54 = .ok (.iconst 0, 1) := by decide +kernel
theorem dX10_copyFrom_55 : decode cX10_copyFrom 55 = .ok (.bipush 8, 2) := by decide +kernel
theorem dX10_copyFrom_57 : decode cX10_copyFrom 57 = .ok (.invokestatic 55, 3) := by decide +kernel
theorem dX10_copyFrom_60 : decode cX10_copyFrom 60 = .ok (.aload_n 1, 1) := by decide +kernel
theorem dX10_copyFrom_61 : decode cX10_copyFrom 61 = .ok (.getfield 24, 3) := by decide +kernel
theorem dX10_copyFrom_64 : decode cX10_copyFrom 64 = .ok (.iconst 0, 1) := by decide +kernel
theorem dX10_copyFrom_65 : decode cX10_copyFrom 65 = .ok (.aload_n 0, 1) := by decide +kernel
theorem dX10_copyFrom_66 : decode cX10_copyFrom 66 = .ok (.getfield 24, 3) := by decide +kernel
theorem dX10_copyFrom_69 : decode cX10_copyFrom 69 = .ok (.iconst 0, 1) := by decide +kernel
theorem dX10_copyFrom_70 : decode cX10_copyFrom 70 = .ok (.bipush 8, 2) := by decide +kernel
theorem dX10_copyFrom_72 : decode cX10_copyFrom 72 = .ok (.invokestatic 55, 3) := by decide +kernel
theorem dX10_copyFrom_75 : decode cX10_copyFrom 75 = .ok (.aload_n 0, 1) := by decide +kernel
theorem dX10_copyFrom_76 : decode cX10_copyFrom 76 = .ok (.aload_n 1, 1) := by decide +kernel
theorem dX10_copyFrom_77 : decode cX10_copyFrom 77 = .ok (.getfield 61, 3) := by decide +kernel
theorem dX10_copyFrom_80 : decode cX10_copyFrom 80 = .ok (.putfield 61, 3) := by decide +kernel
theorem dX10_copyFrom_83 : decode cX10_copyFrom 83 = .ok (.aload_n 0, 1) := by decide +kernel
theorem dX10_copyFrom_84 : decode cX10_copyFrom 84 = .ok (.aload_n 1, 1) := by decide +kernel
theorem dX10_copyFrom_85 : decode cX10_copyFrom 85 = .ok (.getfield 64, 3) := by decide +kernel
theorem dX10_copyFrom_88 : decode cX10_copyFrom 88 = .ok (.putfield 64, 3) := by decide +kernel
theorem dX10_copyFrom_91 : decode cX10_copyFrom 91 = .ok (.aload_n 1, 1) := by decide +kernel
theorem dX10_copyFrom_92 : decode cX10_copyFrom 92 = .ok (.getfield 27, 3) := by decide +kernel
theorem dX10_copyFrom_95 : decode cX10_copyFrom 95 = .ok (.iconst 0, 1) := by decide +kernel
theorem dX10_copyFrom_96 : decode cX10_copyFrom 96 = .ok (.aload_n 0, 1) := by decide +kernel
theorem dX10_copyFrom_97 : decode cX10_copyFrom 97 = .ok (.getfield 27, 3) := by decide +kernel
theorem dX10_copyFrom_100 : decode cX10_copyFrom 100 = .ok (.iconst 0, 1) := by decide +kernel
theorem dX10_copyFrom_101 : decode cX10_copyFrom 101 = .ok (.iconst 4, 1) := by decide +kernel
theorem dX10_copyFrom_102 : decode cX10_copyFrom 102 = .ok (.invokestatic 55, 3) := by decide +kernel
theorem dX10_copyFrom_105 : decode cX10_copyFrom 105 = .ok (.aload_n 1, 1) := by decide +kernel
theorem dX10_copyFrom_106 : decode cX10_copyFrom 106 = .ok (.getfield 30, 3) := by decide +kernel
theorem dX10_copyFrom_109 : decode cX10_copyFrom 109 = .ok (.iconst 0, 1) := by decide +kernel
theorem dX10_copyFrom_110 : decode cX10_copyFrom 110 = .ok (.aload_n 0, 1) := by decide +kernel
theorem dX10_copyFrom_111 : decode cX10_copyFrom 111 = .ok (.getfield 30, 3) := by decide +kernel
theorem dX10_copyFrom_114 : decode cX10_copyFrom 114 = .ok (.iconst 0, 1) := by decide +kernel
theorem dX10_copyFrom_115 : decode cX10_copyFrom 115 = .ok (.iconst 4, 1) := by decide +kernel
theorem dX10_copyFrom_116 : decode cX10_copyFrom 116 = .ok (.invokestatic 55, 3) := by decide +kernel
theorem dX10_copyFrom_119 : decode cX10_copyFrom 119 = .ok (.aload_n 1, 1) := by decide +kernel
theorem dX10_copyFrom_120 : decode cX10_copyFrom 120 = .ok (.getfield 33, 3) := by decide +kernel
theorem dX10_copyFrom_123 : decode cX10_copyFrom 123 = .ok (.iconst 0, 1) := by decide +kernel
theorem dX10_copyFrom_124 : decode cX10_copyFrom 124 = .ok (.aload_n 0, 1) := by decide +kernel
theorem dX10_copyFrom_125 : decode cX10_copyFrom 125 = .ok (.getfield 33, 3) := by decide +kernel
theorem dX10_copyFrom_128 : decode cX10_copyFrom 128 = .ok (.iconst 0, 1) := by decide +kernel
theorem dX10_copyFrom_129 : decode cX10_copyFrom 129 = .ok (.iconst 4, 1) := by decide +kernel
theorem dX10_copyFrom_130 : decode cX10_copyFrom 130 = .ok (.invokestatic 55, 3) := by decide +kernel
theorem dX10_copyFrom_133 : decode cX10_copyFrom 133 = .ok (.aload_n 0, 1) := by decide +kernel
theorem dX10_copyFrom_134 : decode cX10_copyFrom 134 = .ok (.aload_n 1, 1) := by decide +kernel
theorem dX10_copyFrom_135 : decode cX10_copyFrom 135 = .ok (.getfield 67, 3) := by decide +kernel
theorem dX10_copyFrom_138 : decode cX10_copyFrom 138 = .ok (.putfield 67, 3) := by decide +kernel
theorem dX10_copyFrom_141 : decode cX10_copyFrom 141 = .ok (.aload_n 1, 1) := by decide +kernel
theorem dX10_copyFrom_142 : decode cX10_copyFrom 142 = .ok (.getfield 36, 3) := by decide +kernel
theorem dX10_copyFrom_145 : decode cX10_copyFrom 145 = .ok (.iconst 0, 1) := by decide +kernel
theorem dX10_copyFrom_146 : decode cX10_copyFrom 146 = .ok (.aload_n 0, 1) := by decide +kernel
theorem dX10_copyFrom_147 : decode cX10_copyFrom 147 = .ok (.getfield 36, 3) := by decide +kernel
theorem dX10_copyFrom_150 : decode cX10_copyFrom 150 = .ok (.iconst 0, 1) := by decide +kernel
theorem dX10_copyFrom_151 : decode cX10_copyFrom 151 = .ok (.bipush 8, 2) := by decide +kernel
theorem dX10_copyFrom_153 : decode cX10_copyFrom 153 = .ok (.invokestatic 55, 3) := by decide +kernel
theorem dX10_copyFrom_156 : decode cX10_copyFrom 156 = .ok (.aload_n 0, 1) := by decide +kernel
theorem dX10_copyFrom_157 : decode cX10_copyFrom 157 = .ok (.aload_n 1, 1) := by decide +kernel
theorem dX10_copyFrom_158 : decode cX10_copyFrom 158 = .ok (.getfield 70, 3) := by decide +kernel
theorem dX10_copyFrom_161 : decode cX10_copyFrom 161 = .ok (.putfield 70, 3) := by decide +kernel
theorem dX10_copyFrom_164 : decode cX10_copyFrom 164 = .ok (.aload_n 0, 1) := by decide +kernel
theorem dX10_copyFrom_165 : decode cX10_copyFrom 165 = .ok (.aload_n 1, 1) := by decide +kernel
theorem dX10_copyFrom_166 : decode cX10_copyFrom 166 = .ok (.getfield 74, 3) := by decide +kernel
theorem dX10_copyFrom_169 : decode cX10_copyFrom 169 = .ok (.putfield 74, 3) := by decide +kernel
theorem dX10_copyFrom_172 : decode cX10_copyFrom 172 = .ok (.aload_n 0, 1) := by decide +kernel
theorem dX10_copyFrom_173 : decode cX10_copyFrom 173 = .ok (.aload_n 1, 1) := by decide +kernel
theorem dX10_copyFrom_174 : decode cX10_copyFrom 174 = .ok (.getfield 39, 3) := by decide +kernel
theorem dX10_copyFrom_177 : decode cX10_copyFrom 177 = .ok (.putfield 39, 3) := by decide +kernel
theorem dX10_copyFrom_180 : decode cX10_copyFrom 180 = .ok (.aload_n 1, 1) := by decide +kernel
theorem dX10_copyFrom_181 : decode cX10_copyFrom 181 = .ok (.getfield 43, 3) := by decide +kernel
theorem dX10_copyFrom_184 : decode cX10_copyFrom 184 = .ok (.iconst 0, 1) := by decide +kernel
theorem dX10_copyFrom_185 : decode cX10_copyFrom 185 = .ok (.aload_n 0, 1) := by decide +kernel
theorem dX10_copyFrom_186 : decode cX10_copyFrom 186 = .ok (.getfield 43, 3) := by decide +kernel
theorem dX10_copyFrom_189 : decode cX10_copyFrom 189 = .ok (.iconst 0, 1) := by decide +kernel
theorem dX10_copyFrom_190 : decode cX10_copyFrom 190 = .ok (.iconst 4, 1) := by decide +kernel
theorem dX10_copyFrom_191 : decode cX10_copyFrom 191 = .ok (.invokestatic 55, 3) := by decide +kernel
theorem dX10_copyFrom_194 : decode cX10_copyFrom 194 = .ok (.aload_n 1, 1) := by decide +kernel
theorem dX10_copyFrom_195 : decode cX10_copyFrom 195 = .ok (.getfield 46, 3) := by decide +kernel
theorem dX10_copyFrom_198 : decode cX10_copyFrom 198 = .ok (.iconst 0, 1) := by decide +kernel
theorem dX10_copyFrom_199 : decode cX10_copyFrom 199 = .ok (.aload_n 0, 1) := by decide +kernel
theorem dX10_copyFrom_200 : decode cX10_copyFrom 200 = .ok (.getfield 46, 3) := by decide +kernel
theorem dX10_copyFrom_203 : decode cX10_copyFrom 203 = .ok (.iconst 0, 1) := by decide +kernel
theorem dX10_copyFrom_204 : decode cX10_copyFrom 204 = .ok (.iconst 4, 1) := by decide +kernel
theorem dX10_copyFrom_205 : decode cX10_copyFrom 205 = .ok (.invokestatic 55, 3) := by decide +kernel
theorem dX10_copyFrom_208 : decode cX10_copyFrom 208 = .ok (.aload_n 0, 1) := by decide +kernel
theorem dX10_copyFrom_209 : decode cX10_copyFrom 209 = .ok (.aload_n 1, 1) := by decide +kernel
theorem dX10_copyFrom_210 : decode cX10_copyFrom 210 = .ok (.getfield 77, 3) := by decide +kernel
theorem dX10_copyFrom_213 : decode cX10_copyFrom 213 = .ok (.putfield 77, 3) := by decide +kernel
theorem dX10_copyFrom_216 : decode cX10_copyFrom 216 = .ok (.return_, 1) := by decide +kernel
theorem dX10_clear_0 : decode cX10_clear 0 = .ok (.aload_n 0, 1) := by decide +kernel
theorem dX10_clear_1 : decode cX10_clear 1 = .ok (.iconst 0, 1) := by decide +kernel
theorem dX10_clear_2 : decode cX10_clear 2 = .ok (.putfield 61, 3) := by decide +kernel
theorem dX10_clear_5 : decode cX10_clear 5 = .ok (.aload_n 0, 1) := by decide +kernel
theorem dX10_clear_6 : decode cX10_clear 6 = .ok (.iconst 0, 1) := by decide +kernel
theorem dX10_clear_7 : decode cX10_clear 7 = .ok (.putfield 64, 3) := by decide +kernel
theorem dX10_clear_10 : decode cX10_clear 10 = .ok (.aload_n 0, 1) := by decide +kernel
theorem dX10_clear_11 : decode cX10_clear 11 = .ok (.iconst 0, 1) := by decide +kernel
theorem dX10_clear_12 : decode cX10_clear 12 = .ok (.putfield 67, 3) := by decide +kernel
theorem dX10_clear_15 : decode cX10_clear 15 = .ok (.aload_n 0, 1) := by decide +kernel
theorem dX10_clear_16 : decode cX10_clear 16 = .ok (.iconst 0, 1) := by decide +kernel
theorem dX10_clear_17 : decode cX10_clear 17 = .ok (.putfield 70, 3) := by decide +kernel
theorem dX10_clear_20 : decode cX10_clear 20 = .ok (.aload_n 0, 1) := by decide +kernel
theorem dX10_clear_21 : decode cX10_clear 21 = .ok (.iconst 0, 1) := by decide +kernel
theorem dX10_clear_22 : decode cX10_clear 22 = .ok (.putfield 74, 3) := by decide +kernel
theorem dX10_clear_25 : decode cX10_clear 25 = .ok (.aload_n 0, 1) := by decide +kernel
theorem dX10_clear_26 : decode cX10_clear 26 = .ok (.getfield 36, 3) := by decide +kernel
theorem dX10_clear_29 : decode cX10_clear 29 = .ok (.iconst 1, 1) := by decide +kernel
theorem dX10_clear_30 : decode cX10_clear 30 = .ok (.invokestatic 49, 3) := by decide +kernel
theorem dX10_clear_33 : decode cX10_clear 33 = .ok (.return_, 1) := by decide +kernel
theorem dX10_hasPath_0 : decode cX10_hasPath 0 = .ok (.iload_n 1, 1) := by decide +kernel
theorem dX10_hasPath_1 : decode cX10_hasPath 1 = .ok (.aload_n 0, 1) := by decide +kernel
theorem dX10_hasPath_2 : decode cX10_hasPath 2 = .ok (.getfield 61, 3) := by decide +kernel
theorem dX10_hasPath_5 : decode cX10_hasPath 5 = .ok (.invokestatic 80, 3) := by decide +kernel
theorem dX10_hasPath_8 : decode cX10_hasPath 8 = .ok (.ireturn, 1) := by decide +kernel
theorem dX10_hasWalker_0 : decode cX10_hasWalker 0 = .ok (.iload_n 1, 1) := by decide +kernel
theorem dX10_hasWalker_1 : decode cX10_hasWalker 1 = .ok (.aload_n 0, 1) := by decide +kernel
theorem dX10_hasWalker_2 : decode cX10_hasWalker 2 = .ok (.getfield 67, 3) := by decide +kernel
theorem dX10_hasWalker_5 : decode cX10_hasWalker 5 = .ok (.invokestatic 80, 3) := by decide +kernel
theorem dX10_hasWalker_8 : decode cX10_hasWalker 8 = .ok (.ireturn, 1) := by decide +kernel
theorem dX10_hasRule_0 : decode cX10_hasRule 0 = .ok (.iload_n 1, 1) := by decide +kernel
theorem dX10_hasRule_1 : decode cX10_hasRule 1 = .ok (.aload_n 0, 1) := by decide +kernel
theorem dX10_hasRule_2 : decode cX10_hasRule 2 = .ok (.getfield 77, 3) := by decide +kernel
theorem dX10_hasRule_5 : decode cX10_hasRule 5 = .ok (.invokestatic 80, 3) := by decide +kernel
theorem dX10_hasRule_8 : decode cX10_hasRule 8 = .ok (.ireturn, 1) := by decide +kernel
theorem dX10_addPath_0 : decode cX10_addPath 0 = .ok (.aload_n 0, 1) := by decide +kernel
theorem dX10_addPath_1 : decode cX10_addPath 1 = .ok (.getfield 61, 3) := by decide +kernel
theorem dX10_addPath_4 : decode cX10_addPath 4 = .ok (.istore 6, 2) := by decide +kernel
theorem dX10_addPath_6 : decode cX10_addPath 6 = .ok (.aload_n 0, 1) := by decide +kernel
theorem dX10_addPath_7 : decode cX10_addPath 7 = .ok (.getfield 9, 3) := by decide +kernel
theorem dX10_addPath_10 : decode cX10_addPath 10 = .ok (.iload 6, 2) := by decide +kernel
theorem dX10_addPath_12 : decode cX10_addPath 12 = .ok (.iload_n 1, 1) := by decide +kernel
theorem dX10_addPath_13 : decode cX10_addPath 13 = .ok (.iastore, 1) := by decide +kernel
theorem dX10_addPath_14 : decode cX10_addPath 14 = .ok (.aload_n 0, 1) := by decide +kernel
theorem dX10_addPath_15 : decode cX10_addPath 15 = .ok (.getfield 15, 3) := by decide +kernel
theorem dX10_addPath_18 : decode cX10_addPath 18 = .ok (.iload 6, 2) := by decide +kernel
theorem dX10_addPath_20 : decode cX10_addPath 20 = .ok (.iload_n 2, 1) := by decide +kernel
theorem dX10_addPath_21 : decode cX10_addPath 21 = .ok (.iastore, 1) := by decide +kernel
theorem dX10_addPath_22 : decode cX10_addPath 22 = .ok (.aload_n 0, 1) := by decide +kernel
theorem dX10_addPath_23 : decode cX10_addPath 23 = .ok (.getfield 18, 3) := by decide +kernel
theorem dX10_addPath_26 : decode cX10_addPath 26 = .ok (.iload 6, 2) := by decide +kernel
theorem dX10_addPath_28 : decode cX10_addPath 28 = .ok (.iload_n 3, 1) := by decide +kernel
theorem dX10_addPath_29 : decode cX10_addPath 29 = .ok (.iastore, 1) := by decide +kernel
theorem dX10_addPath_30 : decode cX10_addPath 30 = .ok (.aload_n 0, 1) := by decide +kernel
theorem dX10_addPath_31 : decode cX10_addPath 31 = .ok (.getfield 21, 3) := by decide +kernel
theorem dX10_addPath_34 : decode cX10_addPath 34 = .ok (.iload 6, 2) := by decide +kernel
theorem dX10_addPath_36 : decode cX10_addPath 36 = .ok (.iload 4, 2) := by decide +kernel
theorem dX10_addPath_38 : decode cX10_addPath 38 = .ok (.iastore, 1) := by decide +kernel
theorem dX10_addPath_39 : decode cX10_addPath 39 = .ok (.aload_n 0, 1) := by decide +kernel
theorem dX10_addPath_40 : decode cX10_addPath 40 = .ok (.getfield 24, 3) := by decide +kernel
theorem dX10_addPath_43 : decode cX10_addPath 43 = .ok (.iload 6, 2) := by decide +kernel
theorem dX10_addPath_45 : decode cX10_addPath 45 = .ok (.iload 5, 2) := by decide +kernel
theorem dX10_addPath_47 : decode cX10_addPath 47 = .ok (.iastore, 1) := by decide +kernel
theorem dX10_addPath_48 : decode cX10_addPath 48 = .ok (.aload_n 0, 1) := by decide +kernel
theorem dX10_addPath_49 : decode cX10_addPath 49 = .ok (.dup, 1) := by decide +kernel
theorem dX10_addPath_50 : decode cX10_addPath 50 = .ok (.getfield 61, 3) := by decide +kernel
theorem dX10_addPath_53 : decode cX10_addPath 53 = .ok (.iconst 1, 1) := by decide +kernel
theorem dX10_addPath_54 : decode cX10_addPath 54 = .ok (.iadd, 1) := by decide +kernel
theorem dX10_addPath_55 : decode cX10_addPath 55 = .ok (.putfield 61, 3) := by decide +kernel
theorem dX10_addPath_58 : decode cX10_addPath 58 = .ok (.aload_n 0, 1) := by decide +kernel
theorem dX10_addPath_59 : decode cX10_addPath 59 = .ok (.iload 6, 2) := by decide +kernel
theorem dX10_addPath_61 : decode cX10_addPath 61 = .ok (.iconst 1, 1) := by decide +kernel
theorem dX10_addPath_62 : decode cX10_addPath 62 = .ok (.invokevirtual 84, 3) := by decide +kernel
theorem dX10_addPath_65 : decode cX10_addPath 65 = .ok (.iload 6, 2) := by decide +kernel
theorem dX10_addPath_67 : decode cX10_addPath 67 = .ok (.ireturn, 1) := by decide +kernel
theorem dX10_addWalker_0 : decode cX10_addWalker 0 = .ok (.aload_n 0, 1) := by decide +kernel
theorem dX10_addWalker_1 : decode cX10_addWalker 1 = .ok (.getfield 67, 3) := by decide +kernel
theorem dX10_addWalker_4 : decode cX10_addWalker 4 = .ok (.istore_n 3, 1) := by decide +kernel
theorem dX10_addWalker_5 : decode cX10_addWalker 5 = .ok (.aload_n 0, 1) := by decide +kernel
theorem dX10_addWalker_6 : decode cX10_addWalker 6 = .ok (.getfield 33, 3) := by decide +kernel
theorem dX10_addWalker_9 : decode cX10_addWalker 9 = .ok (.iload_n 3, 1) := by decide +kernel
theorem dX10_addWalker_10 : decode cX10_addWalker 10 = .ok (.iload_n 2, 1) := by decide +kernel
theorem dX10_addWalker_11 : decode cX10_addWalker 11 = .ok (.iastore, 1) := by decide +kernel
theorem dX10_addWalker_12 : decode cX10_addWalker 12 = .ok (.aload_n 0, 1) := by decide +kernel
theorem dX10_addWalker_13 : decode cX10_addWalker 13 = .ok (.iload_n 3, 1) := by decide +kernel
theorem dX10_addWalker_14 : decode cX10_addWalker 14 = .ok (.iload_n 1, 1) := by decide +kernel
theorem dX10_addWalker_15 : decode cX10_addWalker 15 = .ok (.invokevirtual 88, 3) := by decide +kernel
theorem dX10_addWalker_18 : decode cX10_addWalker 18 = .ok (.aload_n 0, 1) := by decide +kernel
theorem dX10_addWalker_19 : decode cX10_addWalker 19 = .ok (.dup, 1) := by decide +kernel
theorem dX10_addWalker_20 : decode cX10_addWalker 20 = .ok (.getfield 67, 3) := by decide +kernel
theorem dX10_addWalker_23 : decode cX10_addWalker 23 = .ok (.iconst 1, 1) := by decide +kernel
theorem dX10_addWalker_24 : decode cX10_addWalker 24 = .ok (.iadd, 1) := by decide +kernel
theorem dX10_addWalker_25 : decode cX10_addWalker 25 = .ok (.putfield 67, 3) := by decide +kernel
theorem dX10_addWalker_28 : decode cX10_addWalker 28 = .ok (.iload_n 3, 1) := by decide +kernel
theorem dX10_addWalker_29 : decode cX10_addWalker 29 = .ok (.ireturn, 1) := by decide +kernel
theorem dX10_addRule_0 : decode cX10_addRule 0 = .ok (.aload_n 0, 1) := by decide +kernel
theorem dX10_addRule_1 : decode cX10_addRule 1 = .ok (.getfield 77, 3) := by decide +kernel
theorem dX10_addRule_4 : decode cX10_addRule 4 = .ok (.istore_n 3, 1) := by decide +kernel
theorem dX10_addRule_5 : decode cX10_addRule 5 = .ok (.aload_n 0, 1) := by decide +kernel
theorem dX10_addRule_6 : decode cX10_addRule 6 = .ok (.getfield 43, 3) := by decide +kernel
theorem dX10_addRule_9 : decode cX10_addRule 9 = .ok (.iload_n 3, 1) := by decide +kernel
theorem dX10_addRule_10 : decode cX10_addRule 10 = .ok (.iload_n 1, 1) := by decide +kernel
theorem dX10_addRule_11 : decode cX10_addRule 11 = .ok (.iastore, 1) := by decide +kernel
theorem dX10_addRule_12 : decode cX10_addRule 12 = .ok (.aload_n 0, 1) := by decide +kernel
theorem dX10_addRule_13 : decode cX10_addRule 13 = .ok (.getfield 46, 3) := by decide +kernel
theorem dX10_addRule_16 : decode cX10_addRule 16 = .ok (.iload_n 3, 1) := by decide +kernel
theorem dX10_addRule_17 : decode cX10_addRule 17 = .ok (.iload_n 2, 1) := by decide +kernel
theorem dX10_addRule_18 : decode cX10_addRule 18 = .ok (.iastore, 1) := by decide +kernel
theorem dX10_addRule_19 : decode cX10_addRule 19 = .ok (.aload_n 0, 1) := by decide +kernel
theorem dX10_addRule_20 : decode cX10_addRule 20 = .ok (.dup, 1) := by decide +kernel
theorem dX10_addRule_21 : decode cX10_addRule 21 = .ok (.getfield 77, 3) := by decide +kernel
theorem dX10_addRule_24 : decode cX10_addRule 24 = .ok (.iconst 1, 1) := by decide +kernel
theorem dX10_addRule_25 : decode cX10_addRule 25 = .ok (.iadd, 1) := by decide +kernel
theorem dX10_addRule_26 : decode cX10_addRule 26 = .ok (.putfield 77, 3) := by decide +kernel
theorem dX10_addRule_29 : decode cX10_addRule 29 = .ok (.iload_n 3, 1) := by decide +kernel
theorem dX10_addRule_30 : decode cX10_addRule 30 = .ok (.ireturn, 1) := by decide +kernel
theorem dX10_isThere_0 : decode cX10_isThere 0 = .ok (.iload_n 1, 1) := by decide +kernel
theorem dX10_isThere_1 : decode cX10_isThere 1 = .ok (.aload_n 0, 1) := by decide +kernel
theorem dX10_isThere_2 : decode cX10_isThere 2 = .ok (.getfield 64, 3) := by decide +kernel
theorem dX10_isThere_5 : decode cX10_isThere 5 = .ok (.invokestatic 92, 3) := by decide +kernel
theorem dX10_isThere_8 : decode cX10_isThere 8 = .ok (.ireturn, 1) := by decide +kernel
theorem dX10_setThere_0 : decode cX10_setThere 0 = .ok (.aload_n 0, 1) := by decide +kernel
theorem dX10_setThere_1 : decode cX10_setThere 1 = .ok (.iload_n 2, 1) := by decide +kernel
theorem dX10_setThere_2 : decode cX10_setThere 2 = .ok (.ifCond .eq 14, 3) := by decide +kernel
theorem dX10_setThere_5 : decode cX10_setThere 5 = .ok (.aload_n 0, 1) := by decide +kernel
theorem dX10_setThere_6 : decode cX10_setThere 6 = .ok (.getfield 64, 3) := by decide +kernel
theorem dX10_setThere_9 : decode cX10_setThere 9 = .ok (.iconst 1, 1) := by decide +kernel
theorem dX10_setThere_10 : decode cX10_setThere 10 = .ok (.iload_n 1, 1) := by decide +kernel
theorem dX10_setThere_11 : decode cX10_setThere 11 = .ok (.ishl, 1) := by decide +kernel
theorem dX10_setThere_12 : decode cX10_setThere 12 = .ok (.ior, 1) := by decide +kernel
theorem dX10_setThere_13 : decode cX10_setThere 13 = .ok (.goto 13, 3) := by decide +kernel
theorem dX10_setThere_16 : decode cX10_setThere 16 = .ok (.aload_n 0, 1) := by decide +kernel
theorem dX10_setThere_17 : decode cX10_setThere 17 = .ok (.getfield 64, 3) := by decide +kernel
theorem dX10_setThere_20 : decode cX10_setThere 20 = .ok (.iconst 1, 1) := by decide +kernel
theorem dX10_setThere_21 : decode cX10_setThere 21 = .ok (.iload_n 1, 1) := by decide +kernel
theorem dX10_setThere_22 : decode cX10_setThere 22 = .ok (.ishl, 1) := by decide +kernel
theorem dX10_setThere_23 : decode cX10_setThere 23 = .ok (.iconst (-1), 1) := by decide +kernel
theorem dX10_setThere_24 : decode cX10_setThere 24 = .ok (.ixor, 1) := by decide +kernel
theorem dX10_setThere_25 : decode cX10_setThere 25 = .ok (.iand, 1) := by decide +kernel
theorem dX10_setThere_26 : decode cX10_setThere 26 = .ok (.putfield 64, 3) := by decide +kernel
theorem dX10_setThere_29 : decode cX10_setThere 29 = .ok (.return_, 1) := by decide +kernel
theorem dX10_endsAt_0 : decode cX10_endsAt 0 = .ok (.aload_n 0, 1) := by decide +kernel
theorem dX10_endsAt_1 : decode cX10_endsAt 1 = .ok (.getfield 15, 3) := by decide +kernel
theorem dX10_endsAt_4 : decode cX10_endsAt 4 = .ok (.iload_n 1, 1) := by decide +kernel
theorem dX10_endsAt_5 : decode cX10_endsAt 5 = .ok (.iaload, 1) := by decide +kernel
theorem dX10_endsAt_6 : decode cX10_endsAt 6 = .ok (.iload_n 2, 1) := by decide +kernel
theorem dX10_endsAt_7 : decode cX10_endsAt 7 = .ok (.if_icmp .eq 13, 3) := by decide +kernel
theorem dX10_endsAt_10 : decode cX10_endsAt 10 = .ok (.aload_n 0, 1) := by decide +kernel
theorem dX10_endsAt_11 : decode cX10_endsAt 11 = .ok (.getfield 18, 3) := by decide +kernel
theorem dX10_endsAt_14 : decode cX10_endsAt 14 = .ok (.iload_n 1, 1) := by decide +kernel
theorem dX10_endsAt_15 : decode cX10_endsAt 15 = .ok (.iaload, 1) := by decide +kernel
theorem dX10_endsAt_16 : decode cX10_endsAt 16 = .ok (.iload_n 2, 1) := by decide +kernel
theorem dX10_endsAt_17 : decode cX10_endsAt 17 = .ok (.if_icmp .ne 7, 3) := by decide +kernel
theorem dX10_endsAt_20 : decode cX10_endsAt 20 = .ok (.iconst 1, 1) := by decide +kernel
theorem dX10_endsAt_21 : decode cX10_endsAt 21 = .ok (.goto 4, 3) := by decide +kernel
theorem dX10_endsAt_24 : decode cX10_endsAt 24 = .ok (.iconst 0, 1) := by decide +kernel
theorem dX10_endsAt_25 : decode cX10_endsAt 25 = .ok (.ireturn, 1) := by decide +kernel
theorem dX10_otherEnd_0 : decode cX10_otherEnd 0 = .ok (.aload_n 0, 1) := by decide +kernel
theorem dX10_otherEnd_1 : decode cX10_otherEnd 1 = .ok (.getfield 15, 3) := by decide +kernel
theorem dX10_otherEnd_4 : decode cX10_otherEnd 4 = .ok (.iload_n 1, 1) := by decide +kernel
theorem dX10_otherEnd_5 : decode cX10_otherEnd 5 = .ok (.iaload, 1) := by decide +kernel
theorem dX10_otherEnd_6 : decode cX10_otherEnd 6 = .ok (.iload_n 2, 1) := by decide +kernel
theorem dX10_otherEnd_7 : decode cX10_otherEnd 7 = .ok (.if_icmp .ne 12, 3) := by decide +kernel
theorem dX10_otherEnd_10 : decode cX10_otherEnd 10 = .ok (.aload_n 0, 1) := by decide +kernel
theorem dX10_otherEnd_11 : decode cX10_otherEnd 11 = .ok (.getfield 18, 3) := by decide +kernel
theorem dX10_otherEnd_14 : decode cX10_otherEnd 14 = .ok (.iload_n 1, 1) := by decide +kernel
theorem dX10_otherEnd_15 : decode cX10_otherEnd 15 = .ok (.iaload, 1) := by decide +kernel
theorem dX10_otherEnd_16 : decode cX10_otherEnd 16 = .ok (.goto 9, 3) := by decide +kernel
theorem dX10_otherEnd_19 : decode cX10_otherEnd 19 = .ok (.aload_n 0, 1) := by decide +kernel
theorem dX10_otherEnd_20 : decode cX10_otherEnd 20 = .ok (.getfield 15, 3) := by decide +kernel
theorem dX10_otherEnd_23 : decode cX10_otherEnd 23 = .ok (.iload_n 1, 1) := by decide +kernel
theorem dX10_otherEnd_24 : decode cX10_otherEnd 24 = .ok (.iaload, 1) := by decide +kernel
theorem dX10_otherEnd_25 : decode cX10_otherEnd 25 = .ok (.ireturn, 1) := by decide +kernel
theorem dX10_walkersOn_0 : decode cX10_walkersOn 0 = .ok (.iconst 0, 1) := by decide +kernel
theorem dX10_walkersOn_1 : decode cX10_walkersOn 1 = .ok (.istore_n 2, 1) := by decide +kernel
theorem dX10_walkersOn_2 : decode cX10_walkersOn 2 = .ok (.iconst 0, 1) := by decide +kernel
theorem dX10_walkersOn_3 : decode cX10_walkersOn 3 = .ok (.istore_n 3, 1) := by decide +kernel
theorem dX10_walkersOn_4 : decode cX10_walkersOn 4 = .ok (.iload_n 3, 1) := by decide +kernel
theorem dX10_walkersOn_5 : decode cX10_walkersOn 5 = .ok (.aload_n 0, 1) := by decide +kernel
theorem dX10_walkersOn_6 : decode cX10_walkersOn 6 = .ok (.getfield 67, 3) := by decide +kernel
theorem dX10_walkersOn_9 : decode cX10_walkersOn 9 = .ok (.if_icmp .ge 25, 3) := by decide +kernel
theorem dX10_walkersOn_12 : decode cX10_walkersOn 12 = .ok (.aload_n 0, 1) := by decide +kernel
theorem dX10_walkersOn_13 : decode cX10_walkersOn 13 = .ok (.getfield 30, 3) := by decide +kernel
theorem dX10_walkersOn_16 : decode cX10_walkersOn 16 = .ok (.iload_n 3, 1) := by decide +kernel
theorem dX10_walkersOn_17 : decode cX10_walkersOn 17 = .ok (.iaload, 1) := by decide +kernel
theorem dX10_walkersOn_18 : decode cX10_walkersOn 18 = .ok (.iload_n 1, 1) := by decide +kernel
theorem dX10_walkersOn_19 : decode cX10_walkersOn 19 = .ok (.if_icmp .ne 9, 3) := by decide +kernel
theorem dX10_walkersOn_22 : decode cX10_walkersOn 22 = .ok (.iload_n 2, 1) := by decide +kernel
theorem dX10_walkersOn_23 : decode cX10_walkersOn 23 = .ok (.iconst 1, 1) := by decide +kernel
theorem dX10_walkersOn_24 : decode cX10_walkersOn 24 = .ok (.iload_n 3, 1) := by decide +kernel
theorem dX10_walkersOn_25 : decode cX10_walkersOn 25 = .ok (.ishl, 1) := by decide +kernel
theorem dX10_walkersOn_26 : decode cX10_walkersOn 26 = .ok (.ior, 1) := by decide +kernel
theorem dX10_walkersOn_27 : decode cX10_walkersOn 27 = .ok (.istore_n 2, 1) := by decide +kernel
theorem dX10_walkersOn_28 : decode cX10_walkersOn 28 = .ok (.iinc 3 1, 3) := by decide +kernel
theorem dX10_walkersOn_31 : decode cX10_walkersOn 31 = .ok (.goto (-27), 3) := by decide +kernel
theorem dX10_walkersOn_34 : decode cX10_walkersOn 34 = .ok (.iload_n 2, 1) := by decide +kernel
theorem dX10_walkersOn_35 : decode cX10_walkersOn 35 = .ok (.ireturn, 1) := by decide +kernel
theorem dX10_pathsWalked_0 : decode cX10_pathsWalked 0 = .ok (.iconst 0, 1) := by decide +kernel
theorem dX10_pathsWalked_1 : decode cX10_pathsWalked 1 = .ok (.istore_n 1, 1) := by decide +kernel
theorem dX10_pathsWalked_2 : decode cX10_pathsWalked 2 = .ok (.iconst 0, 1) := by decide +kernel
theorem dX10_pathsWalked_3 : decode cX10_pathsWalked 3 = .ok (.istore_n 2, 1) := by decide +kernel
theorem dX10_pathsWalked_4 : decode cX10_pathsWalked 4 = .ok (.iload_n 2, 1) := by decide +kernel
theorem dX10_pathsWalked_5 : decode cX10_pathsWalked 5 = .ok (.aload_n 0, 1) := by decide +kernel
theorem dX10_pathsWalked_6 : decode cX10_pathsWalked 6 = .ok (.getfield 67, 3) := by decide +kernel
theorem dX10_pathsWalked_9 : decode cX10_pathsWalked 9 = .ok (.if_icmp .ge 33, 3) := by decide +kernel
theorem dX10_pathsWalked_12 : decode cX10_pathsWalked 12 = .ok (.aload_n 0, 1) := by decide +kernel
theorem dX10_pathsWalked_13 : decode cX10_pathsWalked 13 = .ok (.aload_n 0, 1) := by decide +kernel
theorem dX10_pathsWalked_14 : decode cX10_pathsWalked 14 = .ok (.getfield 30, 3) := by decide +kernel
theorem dX10_pathsWalked_17 : decode cX10_pathsWalked 17 = .ok (.iload_n 2, 1) := by decide +kernel
theorem dX10_pathsWalked_18 : decode cX10_pathsWalked 18 = .ok (.iaload, 1) := by decide +kernel
theorem dX10_pathsWalked_19 : decode cX10_pathsWalked 19 = .ok (.invokevirtual 95, 3) := by decide +kernel
theorem dX10_pathsWalked_22 : decode cX10_pathsWalked 22 = .ok (.ifCond .eq 14, 3) := by decide +kernel
theorem dX10_pathsWalked_25 : decode cX10_pathsWalked 25 = .ok (.iload_n 1, 1) := by decide +kernel
theorem dX10_pathsWalked_26 : decode cX10_pathsWalked 26 = .ok (.iconst 1, 1) := by decide +kernel
theorem dX10_pathsWalked_27 : decode cX10_pathsWalked 27 = .ok (.aload_n 0, 1) := by decide +kernel
theorem dX10_pathsWalked_28 : decode cX10_pathsWalked 28 = .ok (.getfield 30, 3) := by decide +kernel
theorem dX10_pathsWalked_31 : decode cX10_pathsWalked 31 = .ok (.iload_n 2, 1) := by decide +kernel
theorem dX10_pathsWalked_32 : decode cX10_pathsWalked 32 = .ok (.iaload, 1) := by decide +kernel
theorem dX10_pathsWalked_33 : decode cX10_pathsWalked 33 = .ok (.ishl, 1) := by decide +kernel
theorem dX10_pathsWalked_34 : decode cX10_pathsWalked 34 = .ok (.ior, 1) := by decide +kernel
theorem dX10_pathsWalked_35 : decode cX10_pathsWalked 35 = .ok (.istore_n 1, 1) := by decide +kernel
theorem dX10_pathsWalked_36 : decode cX10_pathsWalked 36 = .ok (.iinc 2 1, 3) := by decide +kernel
theorem dX10_pathsWalked_39 : decode cX10_pathsWalked 39 = .ok (.goto (-35), 3) := by decide +kernel
theorem dX10_pathsWalked_42 : decode cX10_pathsWalked 42 = .ok (.iload_n 1, 1) := by decide +kernel
theorem dX10_pathsWalked_43 : decode cX10_pathsWalked 43 = .ok (.ireturn, 1) := by decide +kernel
theorem dX10_payOf_0 : decode cX10_payOf 0 = .ok (.iconst 0, 1) := by decide +kernel
theorem dX10_payOf_1 : decode cX10_payOf 1 = .ok (.istore_n 2, 1) := by decide +kernel
theorem dX10_payOf_2 : decode cX10_payOf 2 = .ok (.iconst 0, 1) := by decide +kernel
theorem dX10_payOf_3 : decode cX10_payOf 3 = .ok (.istore_n 3, 1) := by decide +kernel
theorem dX10_payOf_4 : decode cX10_payOf 4 = .ok (.iload_n 3, 1) := by decide +kernel
theorem dX10_payOf_5 : decode cX10_payOf 5 = .ok (.aload_n 0, 1) := by decide +kernel
theorem dX10_payOf_6 : decode cX10_payOf 6 = .ok (.getfield 67, 3) := by decide +kernel
theorem dX10_payOf_9 : decode cX10_payOf 9 = .ok (.if_icmp .ge 35, 3) := by decide +kernel
theorem dX10_payOf_12 : decode cX10_payOf 12 = .ok (.iload_n 1, 1) := by decide +kernel
theorem dX10_payOf_13 : decode cX10_payOf 13 = .ok (.ifCond .eq 16, 3) := by decide +kernel
theorem dX10_payOf_16 : decode cX10_payOf 16 = .ok (.aload_n 0, 1) := by decide +kernel
theorem dX10_payOf_17 : decode cX10_payOf 17 = .ok (.aload_n 0, 1) := by decide +kernel
theorem dX10_payOf_18 : decode cX10_payOf 18 = .ok (.getfield 30, 3) := by decide +kernel
theorem dX10_payOf_21 : decode cX10_payOf 21 = .ok (.iload_n 3, 1) := by decide +kernel
theorem dX10_payOf_22 : decode cX10_payOf 22 = .ok (.iaload, 1) := by decide +kernel
theorem dX10_payOf_23 : decode cX10_payOf 23 = .ok (.invokevirtual 95, 3) := by decide +kernel
theorem dX10_payOf_26 : decode cX10_payOf 26 = .ok (.ifCond .eq 12, 3) := by decide +kernel
theorem dX10_payOf_29 : decode cX10_payOf 29 = .ok (.iload_n 2, 1) := by decide +kernel
theorem dX10_payOf_30 : decode cX10_payOf 30 = .ok (.aload_n 0, 1) := by decide +kernel
theorem dX10_payOf_31 : decode cX10_payOf 31 = .ok (.getfield 33, 3) := by decide +kernel
theorem dX10_payOf_34 : decode cX10_payOf 34 = .ok (.iload_n 3, 1) := by decide +kernel
theorem dX10_payOf_35 : decode cX10_payOf 35 = .ok (.iaload, 1) := by decide +kernel
theorem dX10_payOf_36 : decode cX10_payOf 36 = .ok (.iadd, 1) := by decide +kernel
theorem dX10_payOf_37 : decode cX10_payOf 37 = .ok (.istore_n 2, 1) := by decide +kernel
theorem dX10_payOf_38 : decode cX10_payOf 38 = .ok (.iinc 3 1, 3) := by decide +kernel
theorem dX10_payOf_41 : decode cX10_payOf 41 = .ok (.goto (-37), 3) := by decide +kernel
theorem dX10_payOf_44 : decode cX10_payOf 44 = .ok (.iload_n 2, 1) := by decide +kernel
theorem dX10_payOf_45 : decode cX10_payOf 45 = .ok (.ireturn, 1) := by decide +kernel
theorem dX10_mayStep_0 : decode cX10_mayStep 0 = .ok (.aload_n 0, 1) := by decide +kernel
theorem dX10_mayStep_1 : decode cX10_mayStep 1 = .ok (.iload_n 2, 1) := by decide +kernel
theorem dX10_mayStep_2 : decode cX10_mayStep 2 = .ok (.invokevirtual 99, 3) := by decide +kernel
theorem dX10_mayStep_5 : decode cX10_mayStep 5 = .ok (.ifCond .eq 21, 3) := by decide +kernel
theorem dX10_mayStep_8 : decode cX10_mayStep 8 = .ok (.aload_n 0, 1) := by decide +kernel
theorem dX10_mayStep_9 : decode cX10_mayStep 9 = .ok (.iload_n 2, 1) := by decide +kernel
theorem dX10_mayStep_10 : decode cX10_mayStep 10 = .ok (.aload_n 0, 1) := by decide +kernel
theorem dX10_mayStep_11 : decode cX10_mayStep 11 = .ok (.getfield 27, 3) := by decide +kernel
theorem dX10_mayStep_14 : decode cX10_mayStep 14 = .ok (.iload_n 1, 1) := by decide +kernel
theorem dX10_mayStep_15 : decode cX10_mayStep 15 = .ok (.iaload, 1) := by decide +kernel
theorem dX10_mayStep_16 : decode cX10_mayStep 16 = .ok (.invokevirtual 102, 3) := by decide +kernel
theorem dX10_mayStep_19 : decode cX10_mayStep 19 = .ok (.ifCond .eq 7, 3) := by decide +kernel
theorem dX10_mayStep_22 : decode cX10_mayStep 22 = .ok (.iconst 1, 1) := by decide +kernel
theorem dX10_mayStep_23 : decode cX10_mayStep 23 = .ok (.goto 4, 3) := by decide +kernel
theorem dX10_mayStep_26 : decode cX10_mayStep 26 = .ok (.iconst 0, 1) := by decide +kernel
theorem dX10_mayStep_27 : decode cX10_mayStep 27 = .ok (.ireturn, 1) := by decide +kernel
theorem dX10_goAlong_0 : decode cX10_goAlong 0 = .ok (.aload_n 0, 1) := by decide +kernel
theorem dX10_goAlong_1 : decode cX10_goAlong 1 = .ok (.iload_n 1, 1) := by decide +kernel
theorem dX10_goAlong_2 : decode cX10_goAlong 2 = .ok (.aload_n 0, 1) := by decide +kernel
theorem dX10_goAlong_3 : decode cX10_goAlong 3 = .ok (.iload_n 2, 1) := by decide +kernel
theorem dX10_goAlong_4 : decode cX10_goAlong 4 = .ok (.aload_n 0, 1) := by decide +kernel
theorem dX10_goAlong_5 : decode cX10_goAlong 5 = .ok (.getfield 27, 3) := by decide +kernel
theorem dX10_goAlong_8 : decode cX10_goAlong 8 = .ok (.iload_n 1, 1) := by decide +kernel
theorem dX10_goAlong_9 : decode cX10_goAlong 9 = .ok (.iaload, 1) := by decide +kernel
theorem dX10_goAlong_10 : decode cX10_goAlong 10 = .ok (.invokevirtual 105, 3) := by decide +kernel
theorem dX10_goAlong_13 : decode cX10_goAlong 13 = .ok (.invokevirtual 88, 3) := by decide +kernel
theorem dX10_goAlong_16 : decode cX10_goAlong 16 = .ok (.return_, 1) := by decide +kernel
theorem dX10_comeOn_0 : decode cX10_comeOn 0 = .ok (.aload_n 0, 1) := by decide +kernel
theorem dX10_comeOn_1 : decode cX10_comeOn 1 = .ok (.getfield 27, 3) := by decide +kernel
theorem dX10_comeOn_4 : decode cX10_comeOn 4 = .ok (.iload_n 1, 1) := by decide +kernel
theorem dX10_comeOn_5 : decode cX10_comeOn 5 = .ok (.bipush (-9), 2) := by decide +kernel
theorem dX10_comeOn_7 : decode cX10_comeOn 7 = .ok (.iastore, 1) := by decide +kernel
theorem dX10_comeOn_8 : decode cX10_comeOn 8 = .ok (.aload_n 0, 1) := by decide +kernel
theorem dX10_comeOn_9 : decode cX10_comeOn 9 = .ok (.getfield 30, 3) := by decide +kernel
theorem dX10_comeOn_12 : decode cX10_comeOn 12 = .ok (.iload_n 1, 1) := by decide +kernel
theorem dX10_comeOn_13 : decode cX10_comeOn 13 = .ok (.iload_n 2, 1) := by decide +kernel
theorem dX10_comeOn_14 : decode cX10_comeOn 14 = .ok (.iastore, 1) := by decide +kernel
theorem dX10_comeOn_15 : decode cX10_comeOn 15 = .ok (.return_, 1) := by decide +kernel
theorem dX10_setDown_0 : decode cX10_setDown 0 = .ok (.aload_n 0, 1) := by decide +kernel
theorem dX10_setDown_1 : decode cX10_setDown 1 = .ok (.getfield 27, 3) := by decide +kernel
theorem dX10_setDown_4 : decode cX10_setDown 4 = .ok (.iload_n 1, 1) := by decide +kernel
theorem dX10_setDown_5 : decode cX10_setDown 5 = .ok (.iload_n 2, 1) := by decide +kernel
theorem dX10_setDown_6 : decode cX10_setDown 6 = .ok (.iastore, 1) := by decide +kernel
theorem dX10_setDown_7 : decode cX10_setDown 7 = .ok (.aload_n 0, 1) := by decide +kernel
theorem dX10_setDown_8 : decode cX10_setDown 8 = .ok (.getfield 30, 3) := by decide +kernel
theorem dX10_setDown_11 : decode cX10_setDown 11 = .ok (.iload_n 1, 1) := by decide +kernel
theorem dX10_setDown_12 : decode cX10_setDown 12 = .ok (.bipush (-9), 2) := by decide +kernel
theorem dX10_setDown_14 : decode cX10_setDown 14 = .ok (.iastore, 1) := by decide +kernel
theorem dX10_setDown_15 : decode cX10_setDown 15 = .ok (.return_, 1) := by decide +kernel
theorem dX10_someoneAtEnd_0 : decode cX10_someoneAtEnd 0 = .ok (.iconst 0, 1) := by decide +kernel
theorem dX10_someoneAtEnd_1 : decode cX10_someoneAtEnd 1 = .ok (.istore_n 2, 1) := by decide +kernel
theorem dX10_someoneAtEnd_2 : decode cX10_someoneAtEnd 2 = .ok (.iload_n 2, 1) := by decide +kernel
theorem dX10_someoneAtEnd_3 : decode cX10_someoneAtEnd 3 = .ok (.aload_n 0, 1) := by decide +kernel
theorem dX10_someoneAtEnd_4 : decode cX10_someoneAtEnd 4 = .ok (.getfield 67, 3) := by decide +kernel
theorem dX10_someoneAtEnd_7 : decode cX10_someoneAtEnd 7 = .ok (.if_icmp .ge 41, 3) := by decide +kernel
theorem dX10_someoneAtEnd_10 : decode cX10_someoneAtEnd 10 = .ok (.aload_n 0, 1) := by decide +kernel
theorem dX10_someoneAtEnd_11 : decode cX10_someoneAtEnd 11 = .ok (.getfield 27, 3) := by decide +kernel
theorem dX10_someoneAtEnd_14 : decode cX10_someoneAtEnd 14 = .ok (.iload_n 2, 1) := by decide +kernel
theorem dX10_someoneAtEnd_15 : decode cX10_someoneAtEnd 15 = .ok (.iaload, 1) := by decide +kernel
theorem dX10_someoneAtEnd_16 : decode cX10_someoneAtEnd 16 = .ok (.aload_n 0, 1) := by decide +kernel
theorem dX10_someoneAtEnd_17 : decode cX10_someoneAtEnd 17 = .ok (.getfield 15, 3) := by decide +kernel
theorem dX10_someoneAtEnd_20 : decode cX10_someoneAtEnd 20 = .ok (.iload_n 1, 1) := by decide +kernel
theorem dX10_someoneAtEnd_21 : decode cX10_someoneAtEnd 21 = .ok (.iaload, 1) := by decide +kernel
theorem dX10_someoneAtEnd_22 : decode cX10_someoneAtEnd 22 = .ok (.if_icmp .eq 18, 3) := by decide +kernel
theorem dX10_someoneAtEnd_25 : decode cX10_someoneAtEnd 25 = .ok (.aload_n 0, 1) := by decide +kernel
theorem dX10_someoneAtEnd_26 : decode cX10_someoneAtEnd 26 = .ok (.getfield 27, 3) := by decide +kernel
theorem dX10_someoneAtEnd_29 : decode cX10_someoneAtEnd 29 = .ok (.iload_n 2, 1) := by decide +kernel
theorem dX10_someoneAtEnd_30 : decode cX10_someoneAtEnd 30 = .ok (.iaload, 1) := by decide +kernel
theorem dX10_someoneAtEnd_31 : decode cX10_someoneAtEnd 31 = .ok (.aload_n 0, 1) := by decide +kernel
theorem dX10_someoneAtEnd_32 : decode cX10_someoneAtEnd 32 = .ok (.getfield 18, 3) := by decide +kernel
theorem dX10_someoneAtEnd_35 : decode cX10_someoneAtEnd 35 = .ok (.iload_n 1, 1) := by decide +kernel
theorem dX10_someoneAtEnd_36 : decode cX10_someoneAtEnd 36 = .ok (.iaload, 1) := by decide +kernel
theorem dX10_someoneAtEnd_37 : decode cX10_someoneAtEnd 37 = .ok (.if_icmp .ne 5, 3) := by decide +kernel
theorem dX10_someoneAtEnd_40 : decode cX10_someoneAtEnd 40 = .ok (.iconst 1, 1) := by decide +kernel
theorem dX10_someoneAtEnd_41 : decode cX10_someoneAtEnd 41 = .ok (.ireturn, 1) := by decide +kernel
theorem dX10_someoneAtEnd_42 : decode cX10_someoneAtEnd 42 = .ok (.iinc 2 1, 3) := by decide +kernel
theorem dX10_someoneAtEnd_45 : decode cX10_someoneAtEnd 45 = .ok (.goto (-43), 3) := by decide +kernel
theorem dX10_someoneAtEnd_48 : decode cX10_someoneAtEnd 48 = .ok (.iconst 0, 1) := by decide +kernel
theorem dX10_someoneAtEnd_49 : decode cX10_someoneAtEnd 49 = .ok (.ireturn, 1) := by decide +kernel
theorem dX10_staysOf_0 : decode cX10_staysOf 0 = .ok (.bipush 8, 2) := by decide +kernel
theorem dX10_staysOf_2 : decode cX10_staysOf 2 = .ok (.aload_n 0, 1) := by decide +kernel
theorem dX10_staysOf_3 : decode cX10_staysOf 3 = .ok (.getfield 21, 3) := by decide +kernel
theorem dX10_staysOf_6 : decode cX10_staysOf 6 = .ok (.iload_n 1, 1) := by decide +kernel
theorem dX10_staysOf_7 : decode cX10_staysOf 7 = .ok (.iaload, 1) := by decide +kernel
theorem dX10_staysOf_8 : decode cX10_staysOf 8 = .ok (.iconst 2, 1) := by decide +kernel
theorem dX10_staysOf_9 : decode cX10_staysOf 9 = .ok (.iadd, 1) := by decide +kernel
theorem dX10_staysOf_10 : decode cX10_staysOf 10 = .ok (.invokestatic 109, 3) := by decide +kernel
theorem dX10_staysOf_13 : decode cX10_staysOf 13 = .ok (.istore_n 2, 1) := by decide +kernel
theorem dX10_staysOf_14 : decode cX10_staysOf 14 = .ok (.aload_n 0, 1) := by decide +kernel
theorem dX10_staysOf_15 : decode cX10_staysOf 15 = .ok (.getfield 9, 3) := by decide +kernel
theorem dX10_staysOf_18 : decode cX10_staysOf 18 = .ok (.iload_n 1, 1) := by decide +kernel
theorem dX10_staysOf_19 : decode cX10_staysOf 19 = .ok (.iaload, 1) := by decide +kernel
theorem dX10_staysOf_20 : decode cX10_staysOf 20 = .ok (.tableswitch 84 1 5 #[36, 38, 41, 45, 64], 36) := by decide +kernel
theorem dX10_staysOf_56 : decode cX10_staysOf 56 = .ok (.iload_n 2, 1) := by decide +kernel
theorem dX10_staysOf_57 : decode cX10_staysOf 57 = .ok (.ireturn, 1) := by decide +kernel
theorem dX10_staysOf_58 : decode cX10_staysOf 58 = .ok (.bipush 8, 2) := by decide +kernel
theorem dX10_staysOf_60 : decode cX10_staysOf 60 = .ok (.ireturn, 1) := by decide +kernel
theorem dX10_staysOf_61 : decode cX10_staysOf 61 = .ok (.iload_n 2, 1) := by decide +kernel
theorem dX10_staysOf_62 : decode cX10_staysOf 62 = .ok (.iconst 2, 1) := by decide +kernel
theorem dX10_staysOf_63 : decode cX10_staysOf 63 = .ok (.idiv, 1) := by decide +kernel
theorem dX10_staysOf_64 : decode cX10_staysOf 64 = .ok (.ireturn, 1) := by decide +kernel
theorem dX10_staysOf_65 : decode cX10_staysOf 65 = .ok (.aload_n 0, 1) := by decide +kernel
theorem dX10_staysOf_66 : decode cX10_staysOf 66 = .ok (.getfield 70, 3) := by decide +kernel
theorem dX10_staysOf_69 : decode cX10_staysOf 69 = .ok (.ifCond .eq 13, 3) := by decide +kernel
theorem dX10_staysOf_72 : decode cX10_staysOf 72 = .ok (.iconst 0, 1) := by decide +kernel
theorem dX10_staysOf_73 : decode cX10_staysOf 73 = .ok (.iload_n 2, 1) := by decide +kernel
theorem dX10_staysOf_74 : decode cX10_staysOf 74 = .ok (.iconst 3, 1) := by decide +kernel
theorem dX10_staysOf_75 : decode cX10_staysOf 75 = .ok (.isub, 1) := by decide +kernel
theorem dX10_staysOf_76 : decode cX10_staysOf 76 = .ok (.invokestatic 114, 3) := by decide +kernel
theorem dX10_staysOf_79 : decode cX10_staysOf 79 = .ok (.goto 4, 3) := by decide +kernel
theorem dX10_staysOf_82 : decode cX10_staysOf 82 = .ok (.iload_n 2, 1) := by decide +kernel
theorem dX10_staysOf_83 : decode cX10_staysOf 83 = .ok (.ireturn, 1) := by decide +kernel
theorem dX10_staysOf_84 : decode cX10_staysOf 84 = .ok (.aload_n 0, 1) := by decide +kernel
theorem dX10_staysOf_85 : decode cX10_staysOf 85 = .ok (.iload_n 1, 1) := by decide +kernel
theorem dX10_staysOf_86 : decode cX10_staysOf 86 = .ok (.invokevirtual 117, 3) := by decide +kernel
theorem dX10_staysOf_89 : decode cX10_staysOf 89 = .ok (.ifCond .eq 8, 3) := by decide +kernel
theorem dX10_staysOf_92 : decode cX10_staysOf 92 = .ok (.bipush 8, 2) := by decide +kernel
theorem dX10_staysOf_94 : decode cX10_staysOf 94 = .ok (.goto 9, 3) := by decide +kernel
theorem dX10_staysOf_97 : decode cX10_staysOf 97 = .ok (.aload_n 0, 1) := by decide +kernel
theorem dX10_staysOf_98 : decode cX10_staysOf 98 = .ok (.getfield 21, 3) := by decide +kernel
theorem dX10_staysOf_101 : decode cX10_staysOf 101 = .ok (.iload_n 1, 1) := by decide +kernel
theorem dX10_staysOf_102 : decode cX10_staysOf 102 = .ok (.iaload, 1) := by decide +kernel
theorem dX10_staysOf_103 : decode cX10_staysOf 103 = .ok (.ireturn, 1) := by decide +kernel
theorem dX10_staysOf_104 : decode cX10_staysOf 104 = .ok (.aload_n 0, 1) := by decide +kernel
theorem dX10_staysOf_105 : decode cX10_staysOf 105 = .ok (.getfield 21, 3) := by decide +kernel
theorem dX10_staysOf_108 : decode cX10_staysOf 108 = .ok (.iload_n 1, 1) := by decide +kernel
theorem dX10_staysOf_109 : decode cX10_staysOf 109 = .ok (.iaload, 1) := by decide +kernel
theorem dX10_staysOf_110 : decode cX10_staysOf 110 = .ok (.ireturn, 1) := by decide +kernel
theorem dX10_comesOf_0 : decode cX10_comesOf 0 = .ok (.aload_n 0, 1) := by decide +kernel
theorem dX10_comesOf_1 : decode cX10_comesOf 1 = .ok (.getfield 9, 3) := by decide +kernel
theorem dX10_comesOf_4 : decode cX10_comesOf 4 = .ok (.iload_n 1, 1) := by decide +kernel
theorem dX10_comesOf_5 : decode cX10_comesOf 5 = .ok (.iaload, 1) := by decide +kernel
theorem dX10_comesOf_6 : decode cX10_comesOf 6 = .ok (.tableswitch 60 2 4 #[26, 28, 42], 26) := by decide +kernel
theorem dX10_comesOf_32 : decode cX10_comesOf 32 = .ok (.iconst 0, 1) := by decide +kernel
theorem dX10_comesOf_33 : decode cX10_comesOf 33 = .ok (.ireturn, 1) := by decide +kernel
theorem dX10_comesOf_34 : decode cX10_comesOf 34 = .ok (.bipush 8, 2) := by decide +kernel
theorem dX10_comesOf_36 : decode cX10_comesOf 36 = .ok (.aload_n 0, 1) := by decide +kernel
theorem dX10_comesOf_37 : decode cX10_comesOf 37 = .ok (.getfield 24, 3) := by decide +kernel
theorem dX10_comesOf_40 : decode cX10_comesOf 40 = .ok (.iload_n 1, 1) := by decide +kernel
theorem dX10_comesOf_41 : decode cX10_comesOf 41 = .ok (.iaload, 1) := by decide +kernel
theorem dX10_comesOf_42 : decode cX10_comesOf 42 = .ok (.iconst 2, 1) := by decide +kernel
theorem dX10_comesOf_43 : decode cX10_comesOf 43 = .ok (.iadd, 1) := by decide +kernel
theorem dX10_comesOf_44 : decode cX10_comesOf 44 = .ok (.invokestatic 109, 3) := by decide +kernel
theorem dX10_comesOf_47 : decode cX10_comesOf 47 = .ok (.ireturn, 1) := by decide +kernel
theorem dX10_comesOf_48 : decode cX10_comesOf 48 = .ok (.aload_n 0, 1) := by decide +kernel
theorem dX10_comesOf_49 : decode cX10_comesOf 49 = .ok (.getfield 70, 3) := by decide +kernel
theorem dX10_comesOf_52 : decode cX10_comesOf 52 = .ok (.ifCond .eq 7, 3) := by decide +kernel
theorem dX10_comesOf_55 : decode cX10_comesOf 55 = .ok (.iconst 0, 1) := by decide +kernel
theorem dX10_comesOf_56 : decode cX10_comesOf 56 = .ok (.goto 9, 3) := by decide +kernel
theorem dX10_comesOf_59 : decode cX10_comesOf 59 = .ok (.aload_n 0, 1) := by decide +kernel
theorem dX10_comesOf_60 : decode cX10_comesOf 60 = .ok (.getfield 24, 3) := by decide +kernel
theorem dX10_comesOf_63 : decode cX10_comesOf 63 = .ok (.iload_n 1, 1) := by decide +kernel
theorem dX10_comesOf_64 : decode cX10_comesOf 64 = .ok (.iaload, 1) := by decide +kernel
theorem dX10_comesOf_65 : decode cX10_comesOf 65 = .ok (.ireturn, 1) := by decide +kernel
theorem dX10_comesOf_66 : decode cX10_comesOf 66 = .ok (.aload_n 0, 1) := by decide +kernel
theorem dX10_comesOf_67 : decode cX10_comesOf 67 = .ok (.getfield 24, 3) := by decide +kernel
theorem dX10_comesOf_70 : decode cX10_comesOf 70 = .ok (.iload_n 1, 1) := by decide +kernel
theorem dX10_comesOf_71 : decode cX10_comesOf 71 = .ok (.iaload, 1) := by decide +kernel
theorem dX10_comesOf_72 : decode cX10_comesOf 72 = .ok (.ireturn, 1) := by decide +kernel
theorem dX10_chanceOf_0 : decode cX10_chanceOf 0 = .ok (.aload_n 0, 1) := by decide +kernel
theorem dX10_chanceOf_1 : decode cX10_chanceOf 1 = .ok (.iload_n 1, 1) := by decide +kernel
theorem dX10_chanceOf_2 : decode cX10_chanceOf 2 = .ok (.invokevirtual 120, 3) := by decide +kernel
theorem dX10_chanceOf_5 : decode cX10_chanceOf 5 = .ok (.ifCond .eq 6, 3) := by decide +kernel
theorem dX10_chanceOf_8 : decode cX10_chanceOf 8 = .ok (.bipush 8, 2) := by decide +kernel
theorem dX10_chanceOf_10 : decode cX10_chanceOf 10 = .ok (.ireturn, 1) := by decide +kernel
theorem dX10_chanceOf_11 : decode cX10_chanceOf 11 = .ok (.iload_n 2, 1) := by decide +kernel
theorem dX10_chanceOf_12 : decode cX10_chanceOf 12 = .ok (.ifCond .eq 11, 3) := by decide +kernel
theorem dX10_chanceOf_15 : decode cX10_chanceOf 15 = .ok (.aload_n 0, 1) := by decide +kernel
theorem dX10_chanceOf_16 : decode cX10_chanceOf 16 = .ok (.iload_n 1, 1) := by decide +kernel
theorem dX10_chanceOf_17 : decode cX10_chanceOf 17 = .ok (.invokevirtual 124, 3) := by decide +kernel
theorem dX10_chanceOf_20 : decode cX10_chanceOf 20 = .ok (.goto 8, 3) := by decide +kernel
theorem dX10_chanceOf_23 : decode cX10_chanceOf 23 = .ok (.aload_n 0, 1) := by decide +kernel
theorem dX10_chanceOf_24 : decode cX10_chanceOf 24 = .ok (.iload_n 1, 1) := by decide +kernel
theorem dX10_chanceOf_25 : decode cX10_chanceOf 25 = .ok (.invokevirtual 127, 3) := by decide +kernel
theorem dX10_chanceOf_28 : decode cX10_chanceOf 28 = .ok (.ireturn, 1) := by decide +kernel
theorem dX10_passNight_0 : decode cX10_passNight 0 = .ok (.iconst 0, 1) := by decide +kernel
theorem dX10_passNight_1 : decode cX10_passNight 1 = .ok (.istore_n 1, 1) := by decide +kernel
theorem dX10_passNight_2 : decode cX10_passNight 2 = .ok (.iload_n 1, 1) := by decide +kernel
theorem dX10_passNight_3 : decode cX10_passNight 3 = .ok (.aload_n 0, 1) := by decide +kernel
theorem dX10_passNight_4 : decode cX10_passNight 4 = .ok (.getfield 61, 3) := by decide +kernel
theorem dX10_passNight_7 : decode cX10_passNight 7 = .ok (.if_icmp .ge 67, 3) := by decide +kernel
theorem dX10_passNight_10 : decode cX10_passNight 10 = .ok (.aload_n 0, 1) := by decide +kernel
theorem dX10_passNight_11 : decode cX10_passNight 11 = .ok (.iload_n 1, 1) := by decide +kernel
theorem dX10_passNight_12 : decode cX10_passNight 12 = .ok (.invokevirtual 120, 3) := by decide +kernel
theorem dX10_passNight_15 : decode cX10_passNight 15 = .ok (.ifCond .ne 53, 3) := by decide +kernel
theorem dX10_passNight_18 : decode cX10_passNight 18 = .ok (.aload_n 0, 1) := by decide +kernel
theorem dX10_passNight_19 : decode cX10_passNight 19 = .ok (.aload_n 0, 1) := by decide +kernel
theorem dX10_passNight_20 : decode cX10_passNight 20 = .ok (.getfield 39, 3) := by decide +kernel
theorem dX10_passNight_23 : decode cX10_passNight 23 = .ok (.ldc 130, 2) := by decide +kernel
theorem dX10_passNight_25 : decode cX10_passNight 25 = .ok (.imul, 1) := by decide +kernel
theorem dX10_passNight_26 : decode cX10_passNight 26 = .ok (.sipush 12345, 3) := by decide +kernel
theorem dX10_passNight_29 : decode cX10_passNight 29 = .ok (.iadd, 1) := by decide +kernel
theorem dX10_passNight_30 : decode cX10_passNight 30 = .ok (.putfield 39, 3) := by decide +kernel
theorem dX10_passNight_33 : decode cX10_passNight 33 = .ok (.aload_n 0, 1) := by decide +kernel
theorem dX10_passNight_34 : decode cX10_passNight 34 = .ok (.getfield 39, 3) := by decide +kernel
theorem dX10_passNight_37 : decode cX10_passNight 37 = .ok (.bipush 16, 2) := by decide +kernel
theorem dX10_passNight_39 : decode cX10_passNight 39 = .ok (.iushr, 1) := by decide +kernel
theorem dX10_passNight_40 : decode cX10_passNight 40 = .ok (.bipush 8, 2) := by decide +kernel
theorem dX10_passNight_42 : decode cX10_passNight 42 = .ok (.irem, 1) := by decide +kernel
theorem dX10_passNight_43 : decode cX10_passNight 43 = .ok (.istore_n 2, 1) := by decide +kernel
theorem dX10_passNight_44 : decode cX10_passNight 44 = .ok (.aload_n 0, 1) := by decide +kernel
theorem dX10_passNight_45 : decode cX10_passNight 45 = .ok (.iload_n 1, 1) := by decide +kernel
theorem dX10_passNight_46 : decode cX10_passNight 46 = .ok (.iload_n 2, 1) := by decide +kernel
theorem dX10_passNight_47 : decode cX10_passNight 47 = .ok (.aload_n 0, 1) := by decide +kernel
theorem dX10_passNight_48 : decode cX10_passNight 48 = .ok (.iload_n 1, 1) := by decide +kernel
theorem dX10_passNight_49 : decode cX10_passNight 49 = .ok (.aload_n 0, 1) := by decide +kernel
theorem dX10_passNight_50 : decode cX10_passNight 50 = .ok (.iload_n 1, 1) := by decide +kernel
theorem dX10_passNight_51 : decode cX10_passNight 51 = .ok (.invokevirtual 99, 3) := by decide +kernel
theorem dX10_passNight_54 : decode cX10_passNight 54 = .ok (.invokevirtual 131, 3) := by decide +kernel
theorem dX10_passNight_57 : decode cX10_passNight 57 = .ok (.if_icmp .ge 7, 3) := by decide +kernel
theorem dX10_passNight_60 : decode cX10_passNight 60 = .ok (.iconst 1, 1) := by decide +kernel
theorem dX10_passNight_61 : decode cX10_passNight 61 = .ok (.goto 4, 3) := by decide +kernel
theorem dX10_passNight_64 : decode cX10_passNight 64 = .ok (.iconst 0, 1) := by decide +kernel
theorem dX10_passNight_65 : decode cX10_passNight 65 = .ok (.invokevirtual 84, 3) := by decide +kernel
theorem dX10_passNight_68 : decode cX10_passNight 68 = .ok (.iinc 1 1, 3) := by decide +kernel
theorem dX10_passNight_71 : decode cX10_passNight 71 = .ok (.goto (-69), 3) := by decide +kernel
theorem dX10_passNight_74 : decode cX10_passNight 74 = .ok (.aload_n 0, 1) := by decide +kernel
theorem dX10_passNight_75 : decode cX10_passNight 75 = .ok (.dup, 1) := by decide +kernel
theorem dX10_passNight_76 : decode cX10_passNight 76 = .ok (.getfield 74, 3) := by decide +kernel
theorem dX10_passNight_79 : decode cX10_passNight 79 = .ok (.iconst 1, 1) := by decide +kernel
theorem dX10_passNight_80 : decode cX10_passNight 80 = .ok (.iadd, 1) := by decide +kernel
theorem dX10_passNight_81 : decode cX10_passNight 81 = .ok (.putfield 74, 3) := by decide +kernel
theorem dX10_passNight_84 : decode cX10_passNight 84 = .ok (.return_, 1) := by decide +kernel
theorem dX10_grown_0 : decode cX10_grown 0 = .ok (.iload_n 1, 1) := by decide +kernel
theorem dX10_grown_1 : decode cX10_grown 1 = .ok (.istore_n 2, 1) := by decide +kernel
theorem dX10_grown_2 : decode cX10_grown 2 = .ok (.iconst 0, 1) := by decide +kernel
theorem dX10_grown_3 : decode cX10_grown 3 = .ok (.istore_n 3, 1) := by decide +kernel
theorem dX10_grown_4 : decode cX10_grown 4 = .ok (.iload_n 3, 1) := by decide +kernel
theorem dX10_grown_5 : decode cX10_grown 5 = .ok (.aload_n 0, 1) := by decide +kernel
theorem dX10_grown_6 : decode cX10_grown 6 = .ok (.getfield 61, 3) := by decide +kernel
theorem dX10_grown_9 : decode cX10_grown 9 = .ok (.if_icmp .ge 48, 3) := by decide +kernel
theorem dX10_grown_12 : decode cX10_grown 12 = .ok (.iconst 1, 1) := by decide +kernel
theorem dX10_grown_13 : decode cX10_grown 13 = .ok (.aload_n 0, 1) := by decide +kernel
theorem dX10_grown_14 : decode cX10_grown 14 = .ok (.getfield 15, 3) := by decide +kernel
theorem dX10_grown_17 : decode cX10_grown 17 = .ok (.iload_n 3, 1) := by decide +kernel
theorem dX10_grown_18 : decode cX10_grown 18 = .ok (.iaload, 1) := by decide +kernel
theorem dX10_grown_19 : decode cX10_grown 19 = .ok (.ishl, 1) := by decide +kernel
theorem dX10_grown_20 : decode cX10_grown 20 = .ok (.iconst 1, 1) := by decide +kernel
theorem dX10_grown_21 : decode cX10_grown 21 = .ok (.aload_n 0, 1) := by decide +kernel
theorem dX10_grown_22 : decode cX10_grown 22 = .ok (.getfield 18, 3) := by decide +kernel
theorem dX10_grown_25 : decode cX10_grown 25 = .ok (.iload_n 3, 1) := by decide +kernel
theorem dX10_grown_26 : decode cX10_grown 26 = .ok (.iaload, 1) := by decide +kernel
theorem dX10_grown_27 : decode cX10_grown 27 = .ok (.ishl, 1) := by decide +kernel
theorem dX10_grown_28 : decode cX10_grown 28 = .ok (.ior, 1) := by decide +kernel
theorem dX10_grown_29 : decode cX10_grown 29 = .ok (.istore 4, 2) := by decide +kernel
theorem dX10_grown_31 : decode cX10_grown 31 = .ok (.aload_n 0, 1) := by decide +kernel
theorem dX10_grown_32 : decode cX10_grown 32 = .ok (.iload_n 3, 1) := by decide +kernel
theorem dX10_grown_33 : decode cX10_grown 33 = .ok (.invokevirtual 99, 3) := by decide +kernel
theorem dX10_grown_36 : decode cX10_grown 36 = .ok (.ifCond .eq 15, 3) := by decide +kernel
theorem dX10_grown_39 : decode cX10_grown 39 = .ok (.iload_n 1, 1) := by decide +kernel
theorem dX10_grown_40 : decode cX10_grown 40 = .ok (.iload 4, 2) := by decide +kernel
theorem dX10_grown_42 : decode cX10_grown 42 = .ok (.iand, 1) := by decide +kernel
theorem dX10_grown_43 : decode cX10_grown 43 = .ok (.ifCond .eq 8, 3) := by decide +kernel
theorem dX10_grown_46 : decode cX10_grown 46 = .ok (.iload_n 2, 1) := by decide +kernel
theorem dX10_grown_47 : decode cX10_grown 47 = .ok (.iload 4, 2) := by decide +kernel
theorem dX10_grown_49 : decode cX10_grown 49 = .ok (.ior, 1) := by decide +kernel
theorem dX10_grown_50 : decode cX10_grown 50 = .ok (.istore_n 2, 1) := by decide +kernel
theorem dX10_grown_51 : decode cX10_grown 51 = .ok (.iinc 3 1, 3) := by decide +kernel
theorem dX10_grown_54 : decode cX10_grown 54 = .ok (.goto (-50), 3) := by decide +kernel
theorem dX10_grown_57 : decode cX10_grown 57 = .ok (.iload_n 2, 1) := by decide +kernel
theorem dX10_grown_58 : decode cX10_grown 58 = .ok (.ireturn, 1) := by decide +kernel
theorem dX10_reachFrom_0 : decode cX10_reachFrom 0 = .ok (.iconst 1, 1) := by decide +kernel
theorem dX10_reachFrom_1 : decode cX10_reachFrom 1 = .ok (.iload_n 1, 1) := by decide +kernel
theorem dX10_reachFrom_2 : decode cX10_reachFrom 2 = .ok (.ishl, 1) := by decide +kernel
theorem dX10_reachFrom_3 : decode cX10_reachFrom 3 = .ok (.istore_n 2, 1) := by decide +kernel
theorem dX10_reachFrom_4 : decode cX10_reachFrom 4 = .ok (.iconst 1, 1) := by decide +kernel
theorem dX10_reachFrom_5 : decode cX10_reachFrom 5 = .ok (.istore_n 3, 1) := by decide +kernel
theorem dX10_reachFrom_6 : decode cX10_reachFrom 6 = .ok (.iload_n 3, 1) := by decide +kernel
theorem dX10_reachFrom_7 : decode cX10_reachFrom 7 = .ok (.bipush 8, 2) := by decide +kernel
theorem dX10_reachFrom_9 : decode cX10_reachFrom 9 = .ok (.if_icmp .ge 15, 3) := by decide +kernel
theorem dX10_reachFrom_12 : decode cX10_reachFrom 12 = .ok (.aload_n 0, 1) := by decide +kernel
theorem dX10_reachFrom_13 : decode cX10_reachFrom 13 = .ok (.iload_n 2, 1) := by decide +kernel
theorem dX10_reachFrom_14 : decode cX10_reachFrom 14 = .ok (.invokevirtual 135, 3) := by decide +kernel
theorem dX10_reachFrom_17 : decode cX10_reachFrom 17 = .ok (.istore_n 2, 1) := by decide +kernel
theorem dX10_reachFrom_18 : decode cX10_reachFrom 18 = .ok (.iinc 3 1, 3) := by decide +kernel
theorem dX10_reachFrom_21 : decode cX10_reachFrom 21 = .ok (.goto (-15), 3) := by decide +kernel
theorem dX10_reachFrom_24 : decode cX10_reachFrom 24 = .ok (.iload_n 2, 1) := by decide +kernel
theorem dX10_reachFrom_25 : decode cX10_reachFrom 25 = .ok (.ireturn, 1) := by decide +kernel
theorem dX10_nearFirstClearing_0 : decode cX10_nearFirstClearing 0 = .ok (.aload_n 0, 1) := by decide +kernel
theorem dX10_nearFirstClearing_1 : decode cX10_nearFirstClearing 1 = .ok (.iconst 0, 1) := by decide +kernel
theorem dX10_nearFirstClearing_2 : decode cX10_nearFirstClearing 2 = .ok (.invokevirtual 138, 3) := by decide +kernel
theorem dX10_nearFirstClearing_5 : decode cX10_nearFirstClearing 5 = .ok (.invokestatic 141, 3) := by decide +kernel
theorem dX10_nearFirstClearing_8 : decode cX10_nearFirstClearing 8 = .ok (.ireturn, 1) := by decide +kernel
theorem dX10_distance_0 : decode cX10_distance 0 = .ok (.iconst 1, 1) := by decide +kernel
theorem dX10_distance_1 : decode cX10_distance 1 = .ok (.iload_n 1, 1) := by decide +kernel
theorem dX10_distance_2 : decode cX10_distance 2 = .ok (.ishl, 1) := by decide +kernel
theorem dX10_distance_3 : decode cX10_distance 3 = .ok (.istore_n 3, 1) := by decide +kernel
theorem dX10_distance_4 : decode cX10_distance 4 = .ok (.iconst 0, 1) := by decide +kernel
theorem dX10_distance_5 : decode cX10_distance 5 = .ok (.istore 4, 2) := by decide +kernel
theorem dX10_distance_7 : decode cX10_distance 7 = .ok (.iload 4, 2) := by decide +kernel
theorem dX10_distance_9 : decode cX10_distance 9 = .ok (.bipush 8, 2) := by decide +kernel
theorem dX10_distance_11 : decode cX10_distance 11 = .ok (.if_icmp .ge 26, 3) := by decide +kernel
theorem dX10_distance_14 : decode cX10_distance 14 = .ok (.iload_n 2, 1) := by decide +kernel
theorem dX10_distance_15 : decode cX10_distance 15 = .ok (.iload_n 3, 1) := by decide +kernel
theorem dX10_distance_16 : decode cX10_distance 16 = .ok (.invokestatic 92, 3) := by decide +kernel
theorem dX10_distance_19 : decode cX10_distance 19 = .ok (.ifCond .eq 6, 3) := by decide +kernel
theorem dX10_distance_22 : decode cX10_distance 22 = .ok (.iload 4, 2) := by decide +kernel
theorem dX10_distance_24 : decode cX10_distance 24 = .ok (.ireturn, 1) := by decide +kernel
theorem dX10_distance_25 : decode cX10_distance 25 = .ok (.aload_n 0, 1) := by decide +kernel
theorem dX10_distance_26 : decode cX10_distance 26 = .ok (.iload_n 3, 1) := by decide +kernel
theorem dX10_distance_27 : decode cX10_distance 27 = .ok (.invokevirtual 135, 3) := by decide +kernel
theorem dX10_distance_30 : decode cX10_distance 30 = .ok (.istore_n 3, 1) := by decide +kernel
theorem dX10_distance_31 : decode cX10_distance 31 = .ok (.iinc 4 1, 3) := by decide +kernel
theorem dX10_distance_34 : decode cX10_distance 34 = .ok (.goto (-27), 3) := by decide +kernel
theorem dX10_distance_37 : decode cX10_distance 37 = .ok (.bipush (-3), 2) := by decide +kernel
theorem dX10_distance_39 : decode cX10_distance 39 = .ok (.ireturn, 1) := by decide +kernel
theorem dX10_firstStep_0 : decode cX10_firstStep 0 = .ok (.aload_n 0, 1) := by decide +kernel
theorem dX10_firstStep_1 : decode cX10_firstStep 1 = .ok (.iload_n 1, 1) := by decide +kernel
theorem dX10_firstStep_2 : decode cX10_firstStep 2 = .ok (.iload_n 2, 1) := by decide +kernel
theorem dX10_firstStep_3 : decode cX10_firstStep 3 = .ok (.invokevirtual 146, 3) := by decide +kernel
theorem dX10_firstStep_6 : decode cX10_firstStep 6 = .ok (.istore_n 3, 1) := by decide +kernel
theorem dX10_firstStep_7 : decode cX10_firstStep 7 = .ok (.iconst 0, 1) := by decide +kernel
theorem dX10_firstStep_8 : decode cX10_firstStep 8 = .ok (.istore 4, 2) := by decide +kernel
theorem dX10_firstStep_10 : decode cX10_firstStep 10 = .ok (.iload 4, 2) := by decide +kernel
theorem dX10_firstStep_12 : decode cX10_firstStep 12 = .ok (.aload_n 0, 1) := by decide +kernel
theorem dX10_firstStep_13 : decode cX10_firstStep 13 = .ok (.getfield 61, 3) := by decide +kernel
theorem dX10_firstStep_16 : decode cX10_firstStep 16 = .ok (.if_icmp .ge 53, 3) := by decide +kernel
theorem dX10_firstStep_19 : decode cX10_firstStep 19 = .ok (.iload_n 3, 1) := by decide +kernel
theorem dX10_firstStep_20 : decode cX10_firstStep 20 = .ok (.ifCond .le 49, 3) := by decide +kernel
theorem dX10_firstStep_23 : decode cX10_firstStep 23 = .ok (.aload_n 0, 1) := by decide +kernel
theorem dX10_firstStep_24 : decode cX10_firstStep 24 = .ok (.iload 4, 2) := by decide +kernel
theorem dX10_firstStep_26 : decode cX10_firstStep 26 = .ok (.invokevirtual 99, 3) := by decide +kernel
theorem dX10_firstStep_29 : decode cX10_firstStep 29 = .ok (.ifCond .eq 34, 3) := by decide +kernel
theorem dX10_firstStep_32 : decode cX10_firstStep 32 = .ok (.aload_n 0, 1) := by decide +kernel
theorem dX10_firstStep_33 : decode cX10_firstStep 33 = .ok (.iload 4, 2) := by decide +kernel
theorem dX10_firstStep_35 : decode cX10_firstStep 35 = .ok (.iload_n 1, 1) := by decide +kernel
theorem dX10_firstStep_36 : decode cX10_firstStep 36 = .ok (.invokevirtual 102, 3) := by decide +kernel
theorem dX10_firstStep_39 : decode cX10_firstStep 39 = .ok (.ifCond .eq 24, 3) := by decide +kernel
theorem dX10_firstStep_42 : decode cX10_firstStep 42 = .ok (.aload_n 0, 1) := by decide +kernel
theorem dX10_firstStep_43 : decode cX10_firstStep 43 = .ok (.aload_n 0, 1) := by decide +kernel
theorem dX10_firstStep_44 : decode cX10_firstStep 44 = .ok (.iload 4, 2) := by decide +kernel
theorem dX10_firstStep_46 : decode cX10_firstStep 46 = .ok (.iload_n 1, 1) := by decide +kernel
theorem dX10_firstStep_47 : decode cX10_firstStep 47 = .ok (.invokevirtual 105, 3) := by decide +kernel
theorem dX10_firstStep_50 : decode cX10_firstStep 50 = .ok (.iload_n 2, 1) := by decide +kernel
theorem dX10_firstStep_51 : decode cX10_firstStep 51 = .ok (.invokevirtual 146, 3) := by decide +kernel
theorem dX10_firstStep_54 : decode cX10_firstStep 54 = .ok (.iload_n 3, 1) := by decide +kernel
theorem dX10_firstStep_55 : decode cX10_firstStep 55 = .ok (.iconst 1, 1) := by decide +kernel
theorem dX10_firstStep_56 : decode cX10_firstStep 56 = .ok (.isub, 1) := by decide +kernel
theorem dX10_firstStep_57 : decode cX10_firstStep 57 = .ok (.if_icmp .ne 6, 3) := by decide +kernel
theorem dX10_firstStep_60 : decode cX10_firstStep 60 = .ok (.iload 4, 2) := by decide +kernel
theorem dX10_firstStep_62 : decode cX10_firstStep 62 = .ok (.ireturn, 1) := by decide +kernel
theorem dX10_firstStep_63 : decode cX10_firstStep 63 = .ok (.iinc 4 1, 3) := by decide +kernel
theorem dX10_firstStep_66 : decode cX10_firstStep 66 = .ok (.goto (-56), 3) := by decide +kernel
theorem dX10_firstStep_69 : decode cX10_firstStep 69 = .ok (.bipush (-9), 2) := by decide +kernel
theorem dX10_firstStep_71 : decode cX10_firstStep 71 = .ok (.ireturn, 1) := by decide +kernel
theorem dX11_init_0 : decode cX11_init 0 = .ok (.aload_n 0, 1) := by decide +kernel
theorem dX11_init_1 : decode cX11_init 1 = .ok (.invokespecial 3, 3) := by decide +kernel
theorem dX11_init_4 : decode cX11_init 4 = .ok (.aload_n 0, 1) := by decide +kernel
theorem dX11_init_5 : decode cX11_init 5 = .ok (.new 9, 3) := by decide +kernel
theorem dX11_init_8 : decode cX11_init 8 = .ok (.dup, 1) := by decide +kernel
theorem dX11_init_9 : decode cX11_init 9 = .ok (.invokespecial 11, 3) := by decide +kernel
theorem dX11_init_12 : decode cX11_init 12 = .ok (.putfield 12, 3) := by decide +kernel
theorem dX11_init_15 : decode cX11_init 15 = .ok (.aload_n 0, 1) := by decide +kernel
theorem dX11_init_16 : decode cX11_init 16 = .ok (.new 9, 3) := by decide +kernel
theorem dX11_init_19 : decode cX11_init 19 = .ok (.dup, 1) := by decide +kernel
theorem dX11_init_20 : decode cX11_init 20 = .ok (.invokespecial 11, 3) := by decide +kernel
theorem dX11_init_23 : decode cX11_init 23 = .ok (.putfield 16, 3) := by decide +kernel
theorem dX11_init_26 : decode cX11_init 26 = .ok (.aload_n 0, 1) := by decide +kernel
theorem dX11_init_27 : decode cX11_init 27 = .ok (.new 9, 3) := by decide +kernel
theorem dX11_init_30 : decode cX11_init 30 = .ok (.dup, 1) := by decide +kernel
theorem dX11_init_31 : decode cX11_init 31 = .ok (.invokespecial 11, 3) := by decide +kernel
theorem dX11_init_34 : decode cX11_init 34 = .ok (.putfield 19, 3) := by decide +kernel
theorem dX11_init_37 : decode cX11_init 37 = .ok (.aload_n 0, 1) := by decide +kernel
theorem dX11_init_38 : decode cX11_init 38 = .ok (.new 22, 3) := by decide +kernel
theorem dX11_init_41 : decode cX11_init 41 = .ok (.dup, 1) := by decide +kernel
theorem dX11_init_42 : decode cX11_init 42 = .ok (.invokespecial 24, 3) := by decide +kernel
theorem dX11_init_45 : decode cX11_init 45 = .ok (.putfield 25, 3) := by decide +kernel
theorem dX11_init_48 : decode cX11_init 48 = .ok (.aload_n 0, 1) := by decide +kernel
theorem dX11_init_49 : decode cX11_init 49 = .ok (.new 29, 3) := by decide +kernel
theorem dX11_init_52 : decode cX11_init 52 = .ok (.dup, 1) := by decide +kernel
theorem dX11_init_53 : decode cX11_init 53 = .ok (.invokespecial 31, 3) := by decide +kernel
theorem dX11_init_56 : decode cX11_init 56 = .ok (.putfield 32, 3) := by decide +kernel
theorem dX11_init_59 : decode cX11_init 59 = .ok (.aload_n 0, 1) := by decide +kernel
theorem dX11_init_60 : decode cX11_init 60 = .ok (.bipush 12, 2) := by decide +kernel
theorem dX11_init_62 : decode cX11_init 62 = .ok (.newarray .int, 2) := by decide +kernel
theorem dX11_init_64 : decode cX11_init 64 = .ok (.putfield 36, 3) := by decide +kernel
theorem dX11_init_67 : decode cX11_init 67 = .ok (.aload_n 0, 1) := by decide +kernel
theorem dX11_init_68 : decode cX11_init 68 = .ok (.bipush 12, 2) := by decide +kernel
theorem dX11_init_70 : decode cX11_init 70 = .ok (.newarray .int, 2) := by decide +kernel
theorem dX11_init_72 : decode cX11_init 72 = .ok (.putfield 40, 3) := by decide +kernel
theorem dX11_init_75 : decode cX11_init 75 = .ok (.aload_n 0, 1) := by decide +kernel
theorem dX11_init_76 : decode cX11_init 76 = .ok (.iconst 4, 1) := by decide +kernel
theorem dX11_init_77 : decode cX11_init 77 = .ok (.anewarray 43, 3) := by decide +kernel
theorem dX11_init_80 : decode cX11_init 80 = .ok (.putfield 45, 3) := by decide +kernel
theorem dX11_init_83 : decode cX11_init 83 = .ok (.aload_n 0, 1) := by decide +kernel
theorem dX11_init_84 : decode cX11_init 84 = .ok (.iconst 4, 1) := by decide +kernel
theorem dX11_init_85 : decode cX11_init 85 = .ok (.newarray .int, 2) := by decide +kernel
theorem dX11_init_87 : decode cX11_init 87 = .ok (.putfield 49, 3) := by decide +kernel
theorem dX11_init_90 : decode cX11_init 90 = .ok (.aload_n 0, 1) := by decide +kernel
theorem dX11_init_91 : decode cX11_init 91 = .ok (.iconst 4, 1) := by decide +kernel
theorem dX11_init_92 : decode cX11_init 92 = .ok (.anewarray 43, 3) := by decide +kernel
theorem dX11_init_95 : decode cX11_init 95 = .ok (.putfield 52, 3) := by decide +kernel
theorem dX11_init_98 : decode cX11_init 98 = .ok (.aload_n 0, 1) := by decide +kernel
theorem dX11_init_99 : decode cX11_init 99 = .ok (.new 55, 3) := by decide +kernel
theorem dX11_init_102 : decode cX11_init 102 = .ok (.dup, 1) := by decide +kernel
theorem dX11_init_103 : decode cX11_init 103 = .ok (.invokespecial 57, 3) := by decide +kernel
theorem dX11_init_106 : decode cX11_init 106 = .ok (.putfield 58, 3) := by decide +kernel
theorem dX11_init_109 : decode cX11_init 109 = .ok (.aload_n 0, 1) := by decide +kernel
theorem dX11_init_110 : decode cX11_init 110 = .ok (.getfield 49, 3) := by decide +kernel
theorem dX11_init_113 : decode cX11_init 113 = .ok (.bipush (-9), 2) := by decide +kernel
theorem dX11_init_115 : decode cX11_init 115 = .ok (.invokestatic 62, 3) := by decide +kernel
theorem dX11_init_118 : decode cX11_init 118 = .ok (.return_, 1) := by decide +kernel
theorem dX11_feed_0 : decode cX11_feed 0 = .ok (.iload_n 3, 1) := by decide +kernel
theorem dX11_feed_1 : decode cX11_feed 1 = .ok (.iconst 1, 1) := by decide +kernel
theorem dX11_feed_2 : decode cX11_feed 2 = .ok (.if_icmp .lt 9, 3) := by decide +kernel
theorem dX11_feed_5 : decode cX11_feed 5 = .ok (.iload_n 3, 1) := by decide +kernel
theorem dX11_feed_6 : decode cX11_feed 6 = .ok (.bipush 8, 2) := by decide +kernel
theorem dX11_feed_8 : decode cX11_feed 8 = .ok (.if_icmp .le 5, 3) := by decide +kernel
theorem dX11_feed_11 : decode cX11_feed 11 = .ok (.iconst (-1), 1) := by decide +kernel
theorem dX11_feed_12 : decode cX11_feed 12 = .ok (.ireturn, 1) := by decide +kernel
theorem dX11_feed_13 : decode cX11_feed 13 = .ok (.aload_n 0, 1) := by decide +kernel
theorem dX11_feed_14 : decode cX11_feed 14 = .ok (.getfield 25, 3) := by decide +kernel
theorem dX11_feed_17 : decode cX11_feed 17 = .ok (.lload_n 1, 1) := by decide +kernel
theorem dX11_feed_18 : decode cX11_feed 18 = .ok (.iload_n 3, 1) := by decide +kernel
theorem dX11_feed_19 : decode cX11_feed 19 = .ok (.invokevirtual 68, 3) := by decide +kernel
theorem dX11_feed_22 : decode cX11_feed 22 = .ok (.ireturn, 1) := by decide +kernel
theorem dX11_wood_0 : decode cX11_wood 0 = .ok (.aload_n 0, 1) := by decide +kernel
theorem dX11_wood_1 : decode cX11_wood 1 = .ok (.getfield 19, 3) := by decide +kernel
theorem dX11_wood_4 : decode cX11_wood 4 = .ok (.aload_n 0, 1) := by decide +kernel
theorem dX11_wood_5 : decode cX11_wood 5 = .ok (.getfield 12, 3) := by decide +kernel
theorem dX11_wood_8 : decode cX11_wood 8 = .ok (.invokevirtual 72, 3) := by decide +kernel
theorem dX11_wood_11 : decode cX11_wood 11 = .ok (.aload_n 0, 1) := by decide +kernel
theorem dX11_wood_12 : decode cX11_wood 12 = .ok (.getfield 19, 3) := by decide +kernel
theorem dX11_wood_15 : decode cX11_wood 15 = .ok (.invokevirtual 76, 3) := by decide +kernel
theorem dX11_wood_18 : decode cX11_wood 18 = .ok (.aload_n 0, 1) := by decide +kernel
theorem dX11_wood_19 : decode cX11_wood 19 = .ok (.getfield 25, 3) := by decide +kernel
theorem dX11_wood_22 : decode cX11_wood 22 = .ok (.aload_n 0, 1) := by decide +kernel
theorem dX11_wood_23 : decode cX11_wood 23 = .ok (.getfield 19, 3) := by decide +kernel
theorem dX11_wood_26 : decode cX11_wood 26 = .ok (.invokevirtual 79, 3) := by decide +kernel
theorem dX11_wood_29 : decode cX11_wood 29 = .ok (.istore_n 1, 1) := by decide +kernel
theorem dX11_wood_30 : decode cX11_wood 30 = .ok (.iload_n 1, 1) := by decide +kernel
theorem dX11_wood_31 : decode cX11_wood 31 = .ok (.ifCond .lt 8, 3) := by decide +kernel
theorem dX11_wood_34 : decode cX11_wood 34 = .ok (.bipush (-100), 2) := by decide +kernel
theorem dX11_wood_36 : decode cX11_wood 36 = .ok (.iload_n 1, 1) := by decide +kernel
theorem dX11_wood_37 : decode cX11_wood 37 = .ok (.isub, 1) := by decide +kernel
theorem dX11_wood_38 : decode cX11_wood 38 = .ok (.ireturn, 1) := by decide +kernel
theorem dX11_wood_39 : decode cX11_wood 39 = .ok (.aload_n 0, 1) := by decide +kernel
theorem dX11_wood_40 : decode cX11_wood 40 = .ok (.getfield 12, 3) := by decide +kernel
theorem dX11_wood_43 : decode cX11_wood 43 = .ok (.aload_n 0, 1) := by decide +kernel
theorem dX11_wood_44 : decode cX11_wood 44 = .ok (.getfield 19, 3) := by decide +kernel
theorem dX11_wood_47 : decode cX11_wood 47 = .ok (.invokevirtual 72, 3) := by decide +kernel
theorem dX11_wood_50 : decode cX11_wood 50 = .ok (.aload_n 0, 1) := by decide +kernel
theorem dX11_wood_51 : decode cX11_wood 51 = .ok (.iconst 0, 1) := by decide +kernel
theorem dX11_wood_52 : decode cX11_wood 52 = .ok (.putfield 83, 3) := by decide +kernel
theorem dX11_wood_55 : decode cX11_wood 55 = .ok (.aload_n 0, 1) := by decide +kernel
theorem dX11_wood_56 : decode cX11_wood 56 = .ok (.getfield 12, 3) := by decide +kernel
theorem dX11_wood_59 : decode cX11_wood 59 = .ok (.getfield 87, 3) := by decide +kernel
theorem dX11_wood_62 : decode cX11_wood 62 = .ok (.ireturn, 1) := by decide +kernel
theorem dX11_path_0 : decode cX11_path 0 = .ok (.iload_n 2, 1) := by decide +kernel
theorem dX11_path_1 : decode cX11_path 1 = .ok (.invokestatic 90, 3) := by decide +kernel
theorem dX11_path_4 : decode cX11_path 4 = .ok (.ifCond .eq 19, 3) := by decide +kernel
theorem dX11_path_7 : decode cX11_path 7 = .ok (.iload_n 3, 1) := by decide +kernel
theorem dX11_path_8 : decode cX11_path 8 = .ok (.invokestatic 90, 3) := by decide +kernel
theorem dX11_path_11 : decode cX11_path 11 = .ok (.ifCond .eq 12, 3) := by decide +kernel
theorem dX11_path_14 : decode cX11_path 14 = .ok (.iload_n 2, 1) := by decide +kernel
theorem dX11_path_15 : decode cX11_path 15 = .ok (.iload_n 3, 1) := by decide +kernel
theorem dX11_path_16 : decode cX11_path 16 = .ok (.if_icmp .eq 7, 3) := by decide +kernel
theorem dX11_path_19 : decode cX11_path 19 = .ok (.iconst 1, 1) := by decide +kernel
theorem dX11_path_20 : decode cX11_path 20 = .ok (.goto 4, 3) := by decide +kernel
theorem dX11_path_23 : decode cX11_path 23 = .ok (.iconst 0, 1) := by decide +kernel
theorem dX11_path_24 : decode cX11_path 24 = .ok (.istore 6, 2) := by decide +kernel
theorem dX11_path_26 : decode cX11_path 26 = .ok (.iload 6, 2) := by decide +kernel
theorem dX11_path_28 : decode cX11_path 28 = .ok (.ifCond .eq 32, 3) := by decide +kernel
theorem dX11_path_31 : decode cX11_path 31 = .ok (.iload_n 1, 1) := by decide +kernel
theorem dX11_path_32 : decode cX11_path 32 = .ok (.bipush 6, 2) := by decide +kernel
theorem dX11_path_34 : decode cX11_path 34 = .ok (.invokestatic 94, 3) := by decide +kernel
theorem dX11_path_37 : decode cX11_path 37 = .ok (.ifCond .eq 23, 3) := by decide +kernel
theorem dX11_path_40 : decode cX11_path 40 = .ok (.iload 4, 2) := by decide +kernel
theorem dX11_path_42 : decode cX11_path 42 = .ok (.bipush 8, 2) := by decide +kernel
theorem dX11_path_44 : decode cX11_path 44 = .ok (.invokestatic 98, 3) := by decide +kernel
theorem dX11_path_47 : decode cX11_path 47 = .ok (.ifCond .eq 13, 3) := by decide +kernel
theorem dX11_path_50 : decode cX11_path 50 = .ok (.iload 5, 2) := by decide +kernel
theorem dX11_path_52 : decode cX11_path 52 = .ok (.bipush 8, 2) := by decide +kernel
theorem dX11_path_54 : decode cX11_path 54 = .ok (.invokestatic 98, 3) := by decide +kernel
theorem dX11_path_57 : decode cX11_path 57 = .ok (.ifCond .ne 5, 3) := by decide +kernel
theorem dX11_path_60 : decode cX11_path 60 = .ok (.iconst (-1), 1) := by decide +kernel
theorem dX11_path_61 : decode cX11_path 61 = .ok (.ireturn, 1) := by decide +kernel
theorem dX11_path_62 : decode cX11_path 62 = .ok (.aload_n 0, 1) := by decide +kernel
theorem dX11_path_63 : decode cX11_path 63 = .ok (.getfield 12, 3) := by decide +kernel
theorem dX11_path_66 : decode cX11_path 66 = .ok (.getfield 87, 3) := by decide +kernel
theorem dX11_path_69 : decode cX11_path 69 = .ok (.bipush 8, 2) := by decide +kernel
theorem dX11_path_71 : decode cX11_path 71 = .ok (.if_icmp .lt 6, 3) := by decide +kernel
theorem dX11_path_74 : decode cX11_path 74 = .ok (.bipush (-2), 2) := by decide +kernel
theorem dX11_path_76 : decode cX11_path 76 = .ok (.ireturn, 1) := by decide +kernel
theorem dX11_path_77 : decode cX11_path 77 = .ok (.aload_n 0, 1) := by decide +kernel
theorem dX11_path_78 : decode cX11_path 78 = .ok (.getfield 12, 3) := by decide +kernel
theorem dX11_path_81 : decode cX11_path 81 = .ok (.iload_n 1, 1) := by decide +kernel
theorem dX11_path_82 : decode cX11_path 82 = .ok (.iload_n 2, 1) := by decide +kernel
theorem dX11_path_83 : decode cX11_path 83 = .ok (.iload_n 3, 1) := by decide +kernel
theorem dX11_path_84 : decode cX11_path 84 = .ok (.iload 4, 2) := by decide +kernel
theorem dX11_path_86 : decode cX11_path 86 = .ok (.iload 5, 2) := by decide +kernel
theorem dX11_path_88 : decode cX11_path 88 = .ok (.invokevirtual 101, 3) := by decide +kernel
theorem dX11_path_91 : decode cX11_path 91 = .ok (.ireturn, 1) := by decide +kernel
theorem dX11_pathOf_0 : decode cX11_pathOf 0 = .ok (.aload_n 0, 1) := by decide +kernel
theorem dX11_pathOf_1 : decode cX11_pathOf 1 = .ok (.getfield 12, 3) := by decide +kernel
theorem dX11_pathOf_4 : decode cX11_pathOf 4 = .ok (.iload_n 1, 1) := by decide +kernel
theorem dX11_pathOf_5 : decode cX11_pathOf 5 = .ok (.invokevirtual 105, 3) := by decide +kernel
theorem dX11_pathOf_8 : decode cX11_pathOf 8 = .ok (.ifCond .ne 5, 3) := by decide +kernel
theorem dX11_pathOf_11 : decode cX11_pathOf 11 = .ok (.iconst (-1), 1) := by decide +kernel
theorem dX11_pathOf_12 : decode cX11_pathOf 12 = .ok (.ireturn, 1) := by decide +kernel
theorem dX11_pathOf_13 : decode cX11_pathOf 13 = .ok (.iload_n 2, 1) := by decide +kernel
theorem dX11_pathOf_14 : decode cX11_pathOf 14 = .ok (.tableswitch 144 0 8 #[50, 60, 70, 80, 90, 100, 117, 126, 135], 50) := by decide +kernel
theorem dX11_pathOf_64 : decode cX11_pathOf 64 = .ok (.aload_n 0, 1) := by decide +kernel
theorem dX11_pathOf_65 : decode cX11_pathOf 65 = .ok (.getfield 12, 3) := by decide +kernel
theorem dX11_pathOf_68 : decode cX11_pathOf 68 = .ok (.getfield 108, 3) := by decide +kernel
theorem dX11_pathOf_71 : decode cX11_pathOf 71 = .ok (.iload_n 1, 1) := by decide +kernel
theorem dX11_pathOf_72 : decode cX11_pathOf 72 = .ok (.iaload, 1) := by decide +kernel
theorem dX11_pathOf_73 : decode cX11_pathOf 73 = .ok (.ireturn, 1) := by decide +kernel
theorem dX11_pathOf_74 : decode cX11_pathOf 74 = .ok (.aload_n 0, 1) := by decide +kernel
theorem dX11_pathOf_75 : decode cX11_pathOf 75 = .ok (.getfield 12, 3) := by decide +kernel
theorem dX11_pathOf_78 : decode cX11_pathOf 78 = .ok (.getfield 111, 3) := by decide +kernel
theorem dX11_pathOf_81 : decode cX11_pathOf 81 = .ok (.iload_n 1, 1) := by decide +kernel
theorem dX11_pathOf_82 : decode cX11_pathOf 82 = .ok (.iaload, 1) := by decide +kernel
theorem dX11_pathOf_83 : decode cX11_pathOf 83 = .ok (.ireturn, 1) := by decide +kernel
theorem dX11_pathOf_84 : decode cX11_pathOf 84 = .ok (.aload_n 0, 1) := by decide +kernel
theorem dX11_pathOf_85 : decode cX11_pathOf 85 = .ok (.getfield 12, 3) := by decide +kernel
theorem dX11_pathOf_88 : decode cX11_pathOf 88 = .ok (.getfield 114, 3) := by decide +kernel
theorem dX11_pathOf_91 : decode cX11_pathOf 91 = .ok (.iload_n 1, 1) := by decide +kernel
theorem dX11_pathOf_92 : decode cX11_pathOf 92 = .ok (.iaload, 1) := by decide +kernel
theorem dX11_pathOf_93 : decode cX11_pathOf 93 = .ok (.ireturn, 1) := by decide +kernel
theorem dX11_pathOf_94 : decode cX11_pathOf 94 = .ok (.aload_n 0, 1) := by decide +kernel
theorem dX11_pathOf_95 : decode cX11_pathOf 95 = .ok (.getfield 12, 3) := by decide +kernel
theorem dX11_pathOf_98 : decode cX11_pathOf 98 = .ok (.getfield 117, 3) := by decide +kernel
theorem dX11_pathOf_101 : decode cX11_pathOf 101 = .ok (.iload_n 1, 1) := by decide +kernel
theorem dX11_pathOf_102 : decode cX11_pathOf 102 = .ok (.iaload, 1) := by decide +kernel
theorem dX11_pathOf_103 : decode cX11_pathOf 103 = .ok (.ireturn, 1) := by decide +kernel
theorem dX11_pathOf_104 : decode cX11_pathOf 104 = .ok (.aload_n 0, 1) := by decide +kernel
theorem dX11_pathOf_105 : decode cX11_pathOf 105 = .ok (.getfield 12, 3) := by decide +kernel
theorem dX11_pathOf_108 : decode cX11_pathOf 108 = .ok (.getfield 120, 3) := by decide +kernel
theorem dX11_pathOf_111 : decode cX11_pathOf 111 = .ok (.iload_n 1, 1) := by decide +kernel
theorem dX11_pathOf_112 : decode cX11_pathOf 112 = .ok (.iaload, 1) := by decide +kernel
theorem dX11_pathOf_113 : decode cX11_pathOf 113 = .ok (.ireturn, 1) := by decide +kernel
theorem dX11_pathOf_114 : decode cX11_pathOf 114 = .ok (.aload_n 0, 1) := by decide +kernel
theorem dX11_pathOf_115 : decode cX11_pathOf 115 = .ok (.getfield 12, 3) := by decide +kernel
theorem dX11_pathOf_118 : decode cX11_pathOf 118 = .ok (.iload_n 1, 1) := by decide +kernel
theorem dX11_pathOf_119 : decode cX11_pathOf 119 = .ok (.invokevirtual 123, 3) := by decide +kernel
theorem dX11_pathOf_122 : decode cX11_pathOf 122 = .ok (.ifCond .eq 7, 3) := by decide +kernel
theorem dX11_pathOf_125 : decode cX11_pathOf 125 = .ok (.iconst 1, 1) := by decide +kernel
theorem dX11_pathOf_126 : decode cX11_pathOf 126 = .ok (.goto 4, 3) := by decide +kernel
theorem dX11_pathOf_129 : decode cX11_pathOf 129 = .ok (.iconst 0, 1) := by decide +kernel
theorem dX11_pathOf_130 : decode cX11_pathOf 130 = .ok (.ireturn, 1) := by decide +kernel
theorem dX11_pathOf_131 : decode cX11_pathOf 131 = .ok (.aload_n 0, 1) := by decide +kernel
theorem dX11_pathOf_132 : decode cX11_pathOf 132 = .ok (.getfield 12, 3) := by decide +kernel
theorem dX11_pathOf_135 : decode cX11_pathOf 135 = .ok (.iload_n 1, 1) := by decide +kernel
theorem dX11_pathOf_136 : decode cX11_pathOf 136 = .ok (.invokevirtual 126, 3) := by decide +kernel
theorem dX11_pathOf_139 : decode cX11_pathOf 139 = .ok (.ireturn, 1) := by decide +kernel
theorem dX11_pathOf_140 : decode cX11_pathOf 140 = .ok (.aload_n 0, 1) := by decide +kernel
theorem dX11_pathOf_141 : decode cX11_pathOf 141 = .ok (.getfield 12, 3) := by decide +kernel
theorem dX11_pathOf_144 : decode cX11_pathOf 144 = .ok (.iload_n 1, 1) := by decide +kernel
theorem dX11_pathOf_145 : decode cX11_pathOf 145 = .ok (.invokevirtual 130, 3) := by decide +kernel
theorem dX11_pathOf_148 : decode cX11_pathOf 148 = .ok (.ireturn, 1) := by decide +kernel
theorem dX11_pathOf_149 : decode cX11_pathOf 149 = .ok (.aload_n 0, 1) := by decide +kernel
theorem dX11_pathOf_150 : decode cX11_pathOf 150 = .ok (.getfield 12, 3) := by decide +kernel
theorem dX11_pathOf_153 : decode cX11_pathOf 153 = .ok (.iload_n 1, 1) := by decide +kernel
theorem dX11_pathOf_154 : decode cX11_pathOf 154 = .ok (.invokevirtual 133, 3) := by decide +kernel
theorem dX11_pathOf_157 : decode cX11_pathOf 157 = .ok (.ireturn, 1) := by decide +kernel
theorem dX11_pathOf_158 : decode cX11_pathOf 158 = .ok (.iconst (-1), 1) := by decide +kernel
theorem dX11_pathOf_159 : decode cX11_pathOf 159 = .ok (.ireturn, 1) := by decide +kernel
theorem dX11_open_0 : decode cX11_open 0 = .ok (.aload_n 0, 1) := by decide +kernel
theorem dX11_open_1 : decode cX11_open 1 = .ok (.getfield 12, 3) := by decide +kernel
theorem dX11_open_4 : decode cX11_open 4 = .ok (.iload_n 1, 1) := by decide +kernel
theorem dX11_open_5 : decode cX11_open 5 = .ok (.invokevirtual 105, 3) := by decide +kernel
theorem dX11_open_8 : decode cX11_open 8 = .ok (.ifCond .ne 5, 3) := by decide +kernel
theorem dX11_open_11 : decode cX11_open 11 = .ok (.iconst (-1), 1) := by decide +kernel
theorem dX11_open_12 : decode cX11_open 12 = .ok (.ireturn, 1) := by decide +kernel
theorem dX11_open_13 : decode cX11_open 13 = .ok (.aload_n 0, 1) := by decide +kernel
theorem dX11_open_14 : decode cX11_open 14 = .ok (.getfield 12, 3) := by decide +kernel
theorem dX11_open_17 : decode cX11_open 17 = .ok (.iload_n 1, 1) := by decide +kernel
theorem dX11_open_18 : decode cX11_open 18 = .ok (.invokevirtual 133, 3) := by decide +kernel
theorem dX11_open_21 : decode cX11_open 21 = .ok (.ifCond .eq 6, 3) := by decide +kernel
theorem dX11_open_24 : decode cX11_open 24 = .ok (.bipush (-4), 2) := by decide +kernel
theorem dX11_open_26 : decode cX11_open 26 = .ok (.ireturn, 1) := by decide +kernel
theorem dX11_open_27 : decode cX11_open 27 = .ok (.aload_n 0, 1) := by decide +kernel
theorem dX11_open_28 : decode cX11_open 28 = .ok (.getfield 12, 3) := by decide +kernel
theorem dX11_open_31 : decode cX11_open 31 = .ok (.iload_n 1, 1) := by decide +kernel
theorem dX11_open_32 : decode cX11_open 32 = .ok (.invokevirtual 123, 3) := by decide +kernel
theorem dX11_open_35 : decode cX11_open 35 = .ok (.iload_n 2, 1) := by decide +kernel
theorem dX11_open_36 : decode cX11_open 36 = .ok (.if_icmp .eq 7, 3) := by decide +kernel
theorem dX11_open_39 : decode cX11_open 39 = .ok (.iconst 1, 1) := by decide +kernel
theorem dX11_open_40 : decode cX11_open 40 = .ok (.goto 4, 3) := by decide +kernel
theorem dX11_open_43 : decode cX11_open 43 = .ok (.iconst 0, 1) := by decide +kernel
theorem dX11_open_44 : decode cX11_open 44 = .ok (.istore_n 3, 1) := by decide +kernel
theorem dX11_open_45 : decode cX11_open 45 = .ok (.aload_n 0, 1) := by decide +kernel
theorem dX11_open_46 : decode cX11_open 46 = .ok (.getfield 12, 3) := by decide +kernel
theorem dX11_open_49 : decode cX11_open 49 = .ok (.iload_n 1, 1) := by decide +kernel
theorem dX11_open_50 : decode cX11_open 50 = .ok (.iload_n 2, 1) := by decide +kernel
theorem dX11_open_51 : decode cX11_open 51 = .ok (.invokevirtual 136, 3) := by decide +kernel
theorem dX11_open_54 : decode cX11_open 54 = .ok (.iload_n 3, 1) := by decide +kernel
theorem dX11_open_55 : decode cX11_open 55 = .ok (.ifCond .eq 7, 3) := by decide +kernel
theorem dX11_open_58 : decode cX11_open 58 = .ok (.iconst 1, 1) := by decide +kernel
theorem dX11_open_59 : decode cX11_open 59 = .ok (.goto 4, 3) := by decide +kernel
theorem dX11_open_62 : decode cX11_open 62 = .ok (.iconst 0, 1) := by decide +kernel
theorem dX11_open_63 : decode cX11_open 63 = .ok (.ireturn, 1) := by decide +kernel
theorem dX11_rain_0 : decode cX11_rain 0 = .ok (.aload_n 0, 1) := by decide +kernel
theorem dX11_rain_1 : decode cX11_rain 1 = .ok (.getfield 12, 3) := by decide +kernel
theorem dX11_rain_4 : decode cX11_rain 4 = .ok (.getfield 140, 3) := by decide +kernel
theorem dX11_rain_7 : decode cX11_rain 7 = .ok (.iload_n 1, 1) := by decide +kernel
theorem dX11_rain_8 : decode cX11_rain 8 = .ok (.if_icmp .eq 7, 3) := by decide +kernel
theorem dX11_rain_11 : decode cX11_rain 11 = .ok (.iconst 1, 1) := by decide +kernel
theorem dX11_rain_12 : decode cX11_rain 12 = .ok (.goto 4, 3) := by decide +kernel
theorem dX11_rain_15 : decode cX11_rain 15 = .ok (.iconst 0, 1) := by decide +kernel
theorem dX11_rain_16 : decode cX11_rain 16 = .ok (.istore_n 2, 1) := by decide +kernel
theorem dX11_rain_17 : decode cX11_rain 17 = .ok (.aload_n 0, 1) := by decide +kernel
theorem dX11_rain_18 : decode cX11_rain 18 = .ok (.getfield 12, 3) := by decide +kernel
theorem dX11_rain_21 : decode cX11_rain 21 = .ok (.iload_n 1, 1) := by decide +kernel
theorem dX11_rain_22 : decode cX11_rain 22 = .ok (.putfield 140, 3) := by decide +kernel
theorem dX11_rain_25 : decode cX11_rain 25 = .ok (.iload_n 2, 1) := by decide +kernel
theorem dX11_rain_26 : decode cX11_rain 26 = .ok (.ifCond .eq 7, 3) := by decide +kernel
theorem dX11_rain_29 : decode cX11_rain 29 = .ok (.iconst 1, 1) := by decide +kernel
theorem dX11_rain_30 : decode cX11_rain 30 = .ok (.goto 4, 3) := by decide +kernel
theorem dX11_rain_33 : decode cX11_rain 33 = .ok (.iconst 0, 1) := by decide +kernel
theorem dX11_rain_34 : decode cX11_rain 34 = .ok (.ireturn, 1) := by decide +kernel
theorem dX11_weigh_0 : decode cX11_weigh 0 = .ok (.iload_n 1, 1) := by decide +kernel
theorem dX11_weigh_1 : decode cX11_weigh 1 = .ok (.invokestatic 90, 3) := by decide +kernel
theorem dX11_weigh_4 : decode cX11_weigh 4 = .ok (.ifCond .eq 12, 3) := by decide +kernel
theorem dX11_weigh_7 : decode cX11_weigh 7 = .ok (.iload_n 2, 1) := by decide +kernel
theorem dX11_weigh_8 : decode cX11_weigh 8 = .ok (.bipush 9, 2) := by decide +kernel
theorem dX11_weigh_10 : decode cX11_weigh 10 = .ok (.invokestatic 98, 3) := by decide +kernel
theorem dX11_weigh_13 : decode cX11_weigh 13 = .ok (.ifCond .ne 5, 3) := by decide +kernel
theorem dX11_weigh_16 : decode cX11_weigh 16 = .ok (.iconst (-1), 1) := by decide +kernel
theorem dX11_weigh_17 : decode cX11_weigh 17 = .ok (.ireturn, 1) := by decide +kernel
theorem dX11_weigh_18 : decode cX11_weigh 18 = .ok (.aload_n 0, 1) := by decide +kernel
theorem dX11_weigh_19 : decode cX11_weigh 19 = .ok (.getfield 12, 3) := by decide +kernel
theorem dX11_weigh_22 : decode cX11_weigh 22 = .ok (.getfield 144, 3) := by decide +kernel
theorem dX11_weigh_25 : decode cX11_weigh 25 = .ok (.iload_n 1, 1) := by decide +kernel
theorem dX11_weigh_26 : decode cX11_weigh 26 = .ok (.iaload, 1) := by decide +kernel
theorem dX11_weigh_27 : decode cX11_weigh 27 = .ok (.istore_n 3, 1) := by decide +kernel
theorem dX11_weigh_28 : decode cX11_weigh 28 = .ok (.aload_n 0, 1) := by decide +kernel
theorem dX11_weigh_29 : decode cX11_weigh 29 = .ok (.getfield 12, 3) := by decide +kernel
theorem dX11_weigh_32 : decode cX11_weigh 32 = .ok (.getfield 144, 3) := by decide +kernel
theorem dX11_weigh_35 : decode cX11_weigh 35 = .ok (.iload_n 1, 1) := by decide +kernel
theorem dX11_weigh_36 : decode cX11_weigh 36 = .ok (.iload_n 2, 1) := by decide +kernel
theorem dX11_weigh_37 : decode cX11_weigh 37 = .ok (.iastore, 1) := by decide +kernel
theorem dX11_weigh_38 : decode cX11_weigh 38 = .ok (.iload_n 3, 1) := by decide +kernel
theorem dX11_weigh_39 : decode cX11_weigh 39 = .ok (.ireturn, 1) := by decide +kernel
theorem dX11_walker_0 : decode cX11_walker 0 = .ok (.iload_n 1, 1) := by decide +kernel
theorem dX11_walker_1 : decode cX11_walker 1 = .ok (.invokestatic 90, 3) := by decide +kernel
theorem dX11_walker_4 : decode cX11_walker 4 = .ok (.ifCond .eq 12, 3) := by decide +kernel
theorem dX11_walker_7 : decode cX11_walker 7 = .ok (.iload_n 2, 1) := by decide +kernel
theorem dX11_walker_8 : decode cX11_walker 8 = .ok (.bipush 99, 2) := by decide +kernel
theorem dX11_walker_10 : decode cX11_walker 10 = .ok (.invokestatic 98, 3) := by decide +kernel
theorem dX11_walker_13 : decode cX11_walker 13 = .ok (.ifCond .ne 5, 3) := by decide +kernel
theorem dX11_walker_16 : decode cX11_walker 16 = .ok (.iconst (-1), 1) := by decide +kernel
theorem dX11_walker_17 : decode cX11_walker 17 = .ok (.ireturn, 1) := by decide +kernel
theorem dX11_walker_18 : decode cX11_walker 18 = .ok (.aload_n 0, 1) := by decide +kernel
theorem dX11_walker_19 : decode cX11_walker 19 = .ok (.getfield 12, 3) := by decide +kernel
theorem dX11_walker_22 : decode cX11_walker 22 = .ok (.getfield 147, 3) := by decide +kernel
theorem dX11_walker_25 : decode cX11_walker 25 = .ok (.iconst 4, 1) := by decide +kernel
theorem dX11_walker_26 : decode cX11_walker 26 = .ok (.if_icmp .lt 6, 3) := by decide +kernel
theorem dX11_walker_29 : decode cX11_walker 29 = .ok (.bipush (-2), 2) := by decide +kernel
theorem dX11_walker_31 : decode cX11_walker 31 = .ok (.ireturn, 1) := by decide +kernel
theorem dX11_walker_32 : decode cX11_walker 32 = .ok (.aload_n 0, 1) := by decide +kernel
theorem dX11_walker_33 : decode cX11_walker 33 = .ok (.getfield 12, 3) := by decide +kernel
theorem dX11_walker_36 : decode cX11_walker 36 = .ok (.iload_n 1, 1) := by decide +kernel
theorem dX11_walker_37 : decode cX11_walker 37 = .ok (.iload_n 2, 1) := by decide +kernel
theorem dX11_walker_38 : decode cX11_walker 38 = .ok (.invokevirtual 150, 3) := by decide +kernel
theorem dX11_walker_41 : decode cX11_walker 41 = .ok (.ireturn, 1) := by decide +kernel
theorem dX11_walkerOf_0 : decode cX11_walkerOf 0 = .ok (.aload_n 0, 1) := by decide +kernel
theorem dX11_walkerOf_1 : decode cX11_walkerOf 1 = .ok (.getfield 12, 3) := by decide +kernel
theorem dX11_walkerOf_4 : decode cX11_walkerOf 4 = .ok (.iload_n 1, 1) := by decide +kernel
theorem dX11_walkerOf_5 : decode cX11_walkerOf 5 = .ok (.invokevirtual 154, 3) := by decide +kernel
theorem dX11_walkerOf_8 : decode cX11_walkerOf 8 = .ok (.ifCond .ne 5, 3) := by decide +kernel
theorem dX11_walkerOf_11 : decode cX11_walkerOf 11 = .ok (.iconst (-1), 1) := by decide +kernel
theorem dX11_walkerOf_12 : decode cX11_walkerOf 12 = .ok (.ireturn, 1) := by decide +kernel
theorem dX11_walkerOf_13 : decode cX11_walkerOf 13 = .ok (.iload_n 2, 1) := by decide +kernel
theorem dX11_walkerOf_14 : decode cX11_walkerOf 14 = .ok (.tableswitch 56 0 2 #[26, 36, 46], 26) := by decide +kernel
theorem dX11_walkerOf_40 : decode cX11_walkerOf 40 = .ok (.aload_n 0, 1) := by decide +kernel
theorem dX11_walkerOf_41 : decode cX11_walkerOf 41 = .ok (.getfield 12, 3) := by decide +kernel
theorem dX11_walkerOf_44 : decode cX11_walkerOf 44 = .ok (.getfield 157, 3) := by decide +kernel
theorem dX11_walkerOf_47 : decode cX11_walkerOf 47 = .ok (.iload_n 1, 1) := by decide +kernel
theorem dX11_walkerOf_48 : decode cX11_walkerOf 48 = .ok (.iaload, 1) := by decide +kernel
theorem dX11_walkerOf_49 : decode cX11_walkerOf 49 = .ok (.ireturn, 1) := by decide +kernel
theorem dX11_walkerOf_50 : decode cX11_walkerOf 50 = .ok (.aload_n 0, 1) := by decide +kernel
theorem dX11_walkerOf_51 : decode cX11_walkerOf 51 = .ok (.getfield 12, 3) := by decide +kernel
theorem dX11_walkerOf_54 : decode cX11_walkerOf 54 = .ok (.getfield 160, 3) := by decide +kernel
theorem dX11_walkerOf_57 : decode cX11_walkerOf 57 = .ok (.iload_n 1, 1) := by decide +kernel
theorem dX11_walkerOf_58 : decode cX11_walkerOf 58 = .ok (.iaload, 1) := by decide +kernel
theorem dX11_walkerOf_59 : decode cX11_walkerOf 59 = .ok (.ireturn, 1) := by decide +kernel
theorem dX11_walkerOf_60 : decode cX11_walkerOf 60 = .ok (.aload_n 0, 1) := by decide +kernel
theorem dX11_walkerOf_61 : decode cX11_walkerOf 61 = .ok (.getfield 12, 3) := by decide +kernel
theorem dX11_walkerOf_64 : decode cX11_walkerOf 64 = .ok (.getfield 163, 3) := by decide +kernel
theorem dX11_walkerOf_67 : decode cX11_walkerOf 67 = .ok (.iload_n 1, 1) := by decide +kernel
theorem dX11_walkerOf_68 : decode cX11_walkerOf 68 = .ok (.iaload, 1) := by decide +kernel
theorem dX11_walkerOf_69 : decode cX11_walkerOf 69 = .ok (.ireturn, 1) := by decide +kernel
theorem dX11_walkerOf_70 : decode cX11_walkerOf 70 = .ok (.iconst (-1), 1) := by decide +kernel
theorem dX11_walkerOf_71 : decode cX11_walkerOf 71 = .ok (.ireturn, 1) := by decide +kernel
theorem dX11_walk_0 : decode cX11_walk 0 = .ok (.aload_n 0, 1) := by decide +kernel
theorem dX11_walk_1 : decode cX11_walk 1 = .ok (.getfield 12, 3) := by decide +kernel
theorem dX11_walk_4 : decode cX11_walk 4 = .ok (.iload_n 1, 1) := by decide +kernel
theorem dX11_walk_5 : decode cX11_walk 5 = .ok (.invokevirtual 154, 3) := by decide +kernel
theorem dX11_walk_8 : decode cX11_walk 8 = .ok (.ifCond .eq 14, 3) := by decide +kernel
theorem dX11_walk_11 : decode cX11_walk 11 = .ok (.aload_n 0, 1) := by decide +kernel
theorem dX11_walk_12 : decode cX11_walk 12 = .ok (.getfield 12, 3) := by decide +kernel
theorem dX11_walk_15 : decode cX11_walk 15 = .ok (.iload_n 2, 1) := by decide +kernel
theorem dX11_walk_16 : decode cX11_walk 16 = .ok (.invokevirtual 105, 3) := by decide +kernel
theorem dX11_walk_19 : decode cX11_walk 19 = .ok (.ifCond .ne 5, 3) := by decide +kernel
theorem dX11_walk_22 : decode cX11_walk 22 = .ok (.iconst (-1), 1) := by decide +kernel
theorem dX11_walk_23 : decode cX11_walk 23 = .ok (.ireturn, 1) := by decide +kernel
theorem dX11_walk_24 : decode cX11_walk 24 = .ok (.aload_n 0, 1) := by decide +kernel
theorem dX11_walk_25 : decode cX11_walk 25 = .ok (.getfield 12, 3) := by decide +kernel
theorem dX11_walk_28 : decode cX11_walk 28 = .ok (.iload_n 1, 1) := by decide +kernel
theorem dX11_walk_29 : decode cX11_walk 29 = .ok (.iload_n 2, 1) := by decide +kernel
theorem dX11_walk_30 : decode cX11_walk 30 = .ok (.invokevirtual 166, 3) := by decide +kernel
theorem dX11_walk_33 : decode cX11_walk 33 = .ok (.ifCond .ne 6, 3) := by decide +kernel
theorem dX11_walk_36 : decode cX11_walk 36 = .ok (.bipush (-4), 2) := by decide +kernel
theorem dX11_walk_38 : decode cX11_walk 38 = .ok (.ireturn, 1) := by decide +kernel
theorem dX11_walk_39 : decode cX11_walk 39 = .ok (.aload_n 0, 1) := by decide +kernel
theorem dX11_walk_40 : decode cX11_walk 40 = .ok (.getfield 12, 3) := by decide +kernel
theorem dX11_walk_43 : decode cX11_walk 43 = .ok (.iload_n 1, 1) := by decide +kernel
theorem dX11_walk_44 : decode cX11_walk 44 = .ok (.iload_n 2, 1) := by decide +kernel
theorem dX11_walk_45 : decode cX11_walk 45 = .ok (.invokevirtual 169, 3) := by decide +kernel
theorem dX11_walk_48 : decode cX11_walk 48 = .ok (.aload_n 0, 1) := by decide +kernel
theorem dX11_walk_49 : decode cX11_walk 49 = .ok (.getfield 12, 3) := by decide +kernel
theorem dX11_walk_52 : decode cX11_walk 52 = .ok (.getfield 157, 3) := by decide +kernel
theorem dX11_walk_55 : decode cX11_walk 55 = .ok (.iload_n 1, 1) := by decide +kernel
theorem dX11_walk_56 : decode cX11_walk 56 = .ok (.iaload, 1) := by decide +kernel
theorem dX11_walk_57 : decode cX11_walk 57 = .ok (.ireturn, 1) := by decide +kernel
theorem dX11_on_0 : decode cX11_on 0 = .ok (.aload_n 0, 1) := by decide +kernel
theorem dX11_on_1 : decode cX11_on 1 = .ok (.getfield 12, 3) := by decide +kernel
theorem dX11_on_4 : decode cX11_on 4 = .ok (.iload_n 1, 1) := by decide +kernel
theorem dX11_on_5 : decode cX11_on 5 = .ok (.invokevirtual 154, 3) := by decide +kernel
theorem dX11_on_8 : decode cX11_on 8 = .ok (.ifCond .eq 14, 3) := by decide +kernel
theorem dX11_on_11 : decode cX11_on 11 = .ok (.aload_n 0, 1) := by decide +kernel
theorem dX11_on_12 : decode cX11_on 12 = .ok (.getfield 12, 3) := by decide +kernel
theorem dX11_on_15 : decode cX11_on 15 = .ok (.iload_n 2, 1) := by decide +kernel
theorem dX11_on_16 : decode cX11_on 16 = .ok (.invokevirtual 105, 3) := by decide +kernel
theorem dX11_on_19 : decode cX11_on 19 = .ok (.ifCond .ne 5, 3) := by decide +kernel
theorem dX11_on_22 : decode cX11_on 22 = .ok (.iconst (-1), 1) := by decide +kernel
theorem dX11_on_23 : decode cX11_on 23 = .ok (.ireturn, 1) := by decide +kernel
theorem dX11_on_24 : decode cX11_on 24 = .ok (.aload_n 0, 1) := by decide +kernel
theorem dX11_on_25 : decode cX11_on 25 = .ok (.getfield 12, 3) := by decide +kernel
theorem dX11_on_28 : decode cX11_on 28 = .ok (.iload_n 1, 1) := by decide +kernel
theorem dX11_on_29 : decode cX11_on 29 = .ok (.iload_n 2, 1) := by decide +kernel
theorem dX11_on_30 : decode cX11_on 30 = .ok (.invokevirtual 166, 3) := by decide +kernel
theorem dX11_on_33 : decode cX11_on 33 = .ok (.ifCond .ne 6, 3) := by decide +kernel
theorem dX11_on_36 : decode cX11_on 36 = .ok (.bipush (-4), 2) := by decide +kernel
theorem dX11_on_38 : decode cX11_on 38 = .ok (.ireturn, 1) := by decide +kernel
theorem dX11_on_39 : decode cX11_on 39 = .ok (.aload_n 0, 1) := by decide +kernel
theorem dX11_on_40 : decode cX11_on 40 = .ok (.getfield 12, 3) := by decide +kernel
theorem dX11_on_43 : decode cX11_on 43 = .ok (.iload_n 1, 1) := by decide +kernel
theorem dX11_on_44 : decode cX11_on 44 = .ok (.iload_n 2, 1) := by decide +kernel
theorem dX11_on_45 : decode cX11_on 45 = .ok (.invokevirtual 173, 3) := by decide +kernel
theorem dX11_on_48 : decode cX11_on 48 = .ok (.aload_n 0, 1) := by decide +kernel
theorem dX11_on_49 : decode cX11_on 49 = .ok (.getfield 12, 3) := by decide +kernel
theorem dX11_on_52 : decode cX11_on 52 = .ok (.iload_n 2, 1) := by decide +kernel
theorem dX11_on_53 : decode cX11_on 53 = .ok (.invokevirtual 133, 3) := by decide +kernel
theorem dX11_on_56 : decode cX11_on 56 = .ok (.invokestatic 176, 3) := by decide +kernel
theorem dX11_on_59 : decode cX11_on 59 = .ok (.ireturn, 1) := by decide +kernel
theorem dX11_off_0 : decode cX11_off 0 = .ok (.aload_n 0, 1) := by decide +kernel
theorem dX11_off_1 : decode cX11_off 1 = .ok (.getfield 12, 3) := by decide +kernel
theorem dX11_off_4 : decode cX11_off 4 = .ok (.iload_n 1, 1) := by decide +kernel
theorem dX11_off_5 : decode cX11_off 5 = .ok (.invokevirtual 154, 3) := by decide +kernel
theorem dX11_off_8 : decode cX11_off 8 = .ok (.ifCond .eq 10, 3) := by decide +kernel
theorem dX11_off_11 : decode cX11_off 11 = .ok (.iload_n 2, 1) := by decide +kernel
theorem dX11_off_12 : decode cX11_off 12 = .ok (.invokestatic 90, 3) := by decide +kernel
theorem dX11_off_15 : decode cX11_off 15 = .ok (.ifCond .ne 5, 3) := by decide +kernel
theorem dX11_off_18 : decode cX11_off 18 = .ok (.iconst (-1), 1) := by decide +kernel
theorem dX11_off_19 : decode cX11_off 19 = .ok (.ireturn, 1) := by decide +kernel
theorem dX11_off_20 : decode cX11_off 20 = .ok (.aload_n 0, 1) := by decide +kernel
theorem dX11_off_21 : decode cX11_off 21 = .ok (.getfield 12, 3) := by decide +kernel
theorem dX11_off_24 : decode cX11_off 24 = .ok (.getfield 160, 3) := by decide +kernel
theorem dX11_off_27 : decode cX11_off 27 = .ok (.iload_n 1, 1) := by decide +kernel
theorem dX11_off_28 : decode cX11_off 28 = .ok (.iaload, 1) := by decide +kernel
theorem dX11_off_29 : decode cX11_off 29 = .ok (.istore_n 3, 1) := by decide +kernel
theorem dX11_off_30 : decode cX11_off 30 = .ok (.aload_n 0, 1) := by decide +kernel
theorem dX11_off_31 : decode cX11_off 31 = .ok (.getfield 12, 3) := by decide +kernel
theorem dX11_off_34 : decode cX11_off 34 = .ok (.iload_n 3, 1) := by decide +kernel
theorem dX11_off_35 : decode cX11_off 35 = .ok (.invokevirtual 105, 3) := by decide +kernel
theorem dX11_off_38 : decode cX11_off 38 = .ok (.ifCond .eq 15, 3) := by decide +kernel
theorem dX11_off_41 : decode cX11_off 41 = .ok (.aload_n 0, 1) := by decide +kernel
theorem dX11_off_42 : decode cX11_off 42 = .ok (.getfield 12, 3) := by decide +kernel
theorem dX11_off_45 : decode cX11_off 45 = .ok (.iload_n 3, 1) := by decide +kernel
theorem dX11_off_46 : decode cX11_off 46 = .ok (.iload_n 2, 1) := by decide +kernel
theorem dX11_off_47 : decode cX11_off 47 = .ok (.invokevirtual 181, 3) := by decide +kernel
theorem dX11_off_50 : decode cX11_off 50 = .ok (.ifCond .ne 6, 3) := by decide +kernel
theorem dX11_off_53 : decode cX11_off 53 = .ok (.bipush (-4), 2) := by decide +kernel
theorem dX11_off_55 : decode cX11_off 55 = .ok (.ireturn, 1) := by decide +kernel
theorem dX11_off_56 : decode cX11_off 56 = .ok (.aload_n 0, 1) := by decide +kernel
theorem dX11_off_57 : decode cX11_off 57 = .ok (.getfield 12, 3) := by decide +kernel
theorem dX11_off_60 : decode cX11_off 60 = .ok (.iload_n 1, 1) := by decide +kernel
theorem dX11_off_61 : decode cX11_off 61 = .ok (.iload_n 2, 1) := by decide +kernel
theorem dX11_off_62 : decode cX11_off 62 = .ok (.invokevirtual 184, 3) := by decide +kernel
theorem dX11_off_65 : decode cX11_off 65 = .ok (.iconst 1, 1) := by decide +kernel
theorem dX11_off_66 : decode cX11_off 66 = .ok (.ireturn, 1) := by decide +kernel
theorem dX11_put_0 : decode cX11_put 0 = .ok (.aload_n 0, 1) := by decide +kernel
theorem dX11_put_1 : decode cX11_put 1 = .ok (.getfield 12, 3) := by decide +kernel
theorem dX11_put_4 : decode cX11_put 4 = .ok (.iload_n 1, 1) := by decide +kernel
theorem dX11_put_5 : decode cX11_put 5 = .ok (.invokevirtual 154, 3) := by decide +kernel
theorem dX11_put_8 : decode cX11_put 8 = .ok (.ifCond .eq 10, 3) := by decide +kernel
theorem dX11_put_11 : decode cX11_put 11 = .ok (.iload_n 2, 1) := by decide +kernel
theorem dX11_put_12 : decode cX11_put 12 = .ok (.invokestatic 90, 3) := by decide +kernel
theorem dX11_put_15 : decode cX11_put 15 = .ok (.ifCond .ne 5, 3) := by decide +kernel
theorem dX11_put_18 : decode cX11_put 18 = .ok (.iconst (-1), 1) := by decide +kernel
theorem dX11_put_19 : decode cX11_put 19 = .ok (.ireturn, 1) := by decide +kernel
theorem dX11_put_20 : decode cX11_put 20 = .ok (.aload_n 0, 1) := by decide +kernel
theorem dX11_put_21 : decode cX11_put 21 = .ok (.getfield 12, 3) := by decide +kernel
theorem dX11_put_24 : decode cX11_put 24 = .ok (.getfield 157, 3) := by decide +kernel
theorem dX11_put_27 : decode cX11_put 27 = .ok (.iload_n 1, 1) := by decide +kernel
theorem dX11_put_28 : decode cX11_put 28 = .ok (.iaload, 1) := by decide +kernel
theorem dX11_put_29 : decode cX11_put 29 = .ok (.istore_n 3, 1) := by decide +kernel
theorem dX11_put_30 : decode cX11_put 30 = .ok (.aload_n 0, 1) := by decide +kernel
theorem dX11_put_31 : decode cX11_put 31 = .ok (.getfield 12, 3) := by decide +kernel
theorem dX11_put_34 : decode cX11_put 34 = .ok (.iload_n 1, 1) := by decide +kernel
theorem dX11_put_35 : decode cX11_put 35 = .ok (.iload_n 2, 1) := by decide +kernel
theorem dX11_put_36 : decode cX11_put 36 = .ok (.invokevirtual 184, 3) := by decide +kernel
theorem dX11_put_39 : decode cX11_put 39 = .ok (.iload_n 3, 1) := by decide +kernel
theorem dX11_put_40 : decode cX11_put 40 = .ok (.ireturn, 1) := by decide +kernel
theorem dX11_night_0 : decode cX11_night 0 = .ok (.iload_n 1, 1) := by decide +kernel
theorem dX11_night_1 : decode cX11_night 1 = .ok (.bipush 20, 2) := by decide +kernel
theorem dX11_night_3 : decode cX11_night 3 = .ok (.invokestatic 98, 3) := by decide +kernel
theorem dX11_night_6 : decode cX11_night 6 = .ok (.ifCond .ne 5, 3) := by decide +kernel
theorem dX11_night_9 : decode cX11_night 9 = .ok (.iconst (-1), 1) := by decide +kernel
theorem dX11_night_10 : decode cX11_night 10 = .ok (.ireturn, 1) := by decide +kernel
theorem dX11_night_11 : decode cX11_night 11 = .ok (.iconst 0, 1) := by decide +kernel
theorem dX11_night_12 : decode cX11_night 12 = .ok (.istore_n 2, 1) := by decide +kernel
theorem dX11_night_13 : decode cX11_night 13 = .ok (.iload_n 2, 1) := by decide +kernel
theorem dX11_night_14 : decode cX11_night 14 = .ok (.iload_n 1, 1) := by decide +kernel
theorem dX11_night_15 : decode cX11_night 15 = .ok (.if_icmp .ge 16, 3) := by decide +kernel
theorem dX11_night_18 : decode cX11_night 18 = .ok (.aload_n 0, 1) := by decide +kernel
theorem dX11_night_19 : decode cX11_night 19 = .ok (.getfield 12, 3) := by decide +kernel
theorem dX11_night_22 : decode cX11_night 22 = .ok (.invokevirtual 187, 3) := by decide +kernel
theorem dX11_night_25 : decode cX11_night 25 = .ok (.iinc 2 1, 3) := by decide +kernel
theorem dX11_night_28 : decode cX11_night 28 = .ok (.goto (-15), 3) := by decide +kernel
theorem dX11_night_31 : decode cX11_night 31 = .ok (.aload_n 0, 1) := by decide +kernel
theorem dX11_night_32 : decode cX11_night 32 = .ok (.getfield 12, 3) := by decide +kernel
theorem dX11_night_35 : decode cX11_night 35 = .ok (.getfield 190, 3) := by decide +kernel
theorem dX11_night_38 : decode cX11_night 38 = .ok (.ireturn, 1) := by decide +kernel
theorem dX11_count_0 : decode cX11_count 0 = .ok (.iload_n 1, 1) := by decide +kernel
theorem dX11_count_1 : decode cX11_count 1 = .ok (.tableswitch 77 0 4 #[35, 43, 51, 59, 68], 35) := by decide +kernel
theorem dX11_count_36 : decode cX11_count 36 = .ok (.aload_n 0, 1) := by decide +kernel
theorem dX11_count_37 : decode cX11_count 37 = .ok (.getfield 12, 3) := by decide +kernel
theorem dX11_count_40 : decode cX11_count 40 = .ok (.getfield 193, 3) := by decide +kernel
theorem dX11_count_43 : decode cX11_count 43 = .ok (.ireturn, 1) := by decide +kernel
theorem dX11_count_44 : decode cX11_count 44 = .ok (.aload_n 0, 1) := by decide +kernel
theorem dX11_count_45 : decode cX11_count 45 = .ok (.getfield 12, 3) := by decide +kernel
theorem dX11_count_48 : decode cX11_count 48 = .ok (.getfield 190, 3) := by decide +kernel
theorem dX11_count_51 : decode cX11_count 51 = .ok (.ireturn, 1) := by decide +kernel
theorem dX11_count_52 : decode cX11_count 52 = .ok (.aload_n 0, 1) := by decide +kernel
theorem dX11_count_53 : decode cX11_count 53 = .ok (.getfield 12, 3) := by decide +kernel
theorem dX11_count_56 : decode cX11_count 56 = .ok (.invokevirtual 196, 3) := by decide +kernel
theorem dX11_count_59 : decode cX11_count 59 = .ok (.ireturn, 1) := by decide +kernel
theorem dX11_count_60 : decode cX11_count 60 = .ok (.aload_n 0, 1) := by decide +kernel
theorem dX11_count_61 : decode cX11_count 61 = .ok (.getfield 12, 3) := by decide +kernel
theorem dX11_count_64 : decode cX11_count 64 = .ok (.iconst 0, 1) := by decide +kernel
theorem dX11_count_65 : decode cX11_count 65 = .ok (.invokevirtual 200, 3) := by decide +kernel
theorem dX11_count_68 : decode cX11_count 68 = .ok (.ireturn, 1) := by decide +kernel
theorem dX11_count_69 : decode cX11_count 69 = .ok (.aload_n 0, 1) := by decide +kernel
theorem dX11_count_70 : decode cX11_count 70 = .ok (.getfield 12, 3) := by decide +kernel
theorem dX11_count_73 : decode cX11_count 73 = .ok (.iconst 1, 1) := by decide +kernel
theorem dX11_count_74 : decode cX11_count 74 = .ok (.invokevirtual 200, 3) := by decide +kernel
theorem dX11_count_77 : decode cX11_count 77 = .ok (.ireturn, 1) := by decide +kernel
theorem dX11_count_78 : decode cX11_count 78 = .ok (.iconst (-1), 1) := by decide +kernel
theorem dX11_count_79 : decode cX11_count 79 = .ok (.ireturn, 1) := by decide +kernel
theorem dX11_seed_0 : decode cX11_seed 0 = .ok (.aload_n 0, 1) := by decide +kernel
theorem dX11_seed_1 : decode cX11_seed 1 = .ok (.getfield 12, 3) := by decide +kernel
theorem dX11_seed_4 : decode cX11_seed 4 = .ok (.getfield 204, 3) := by decide +kernel
theorem dX11_seed_7 : decode cX11_seed 7 = .ok (.istore_n 2, 1) := by decide +kernel
theorem dX11_seed_8 : decode cX11_seed 8 = .ok (.aload_n 0, 1) := by decide +kernel
theorem dX11_seed_9 : decode cX11_seed 9 = .ok (.getfield 12, 3) := by decide +kernel
theorem dX11_seed_12 : decode cX11_seed 12 = .ok (.iload_n 1, 1) := by decide +kernel
theorem dX11_seed_13 : decode cX11_seed 13 = .ok (.putfield 204, 3) := by decide +kernel
theorem dX11_seed_16 : decode cX11_seed 16 = .ok (.iload_n 2, 1) := by decide +kernel
theorem dX11_seed_17 : decode cX11_seed 17 = .ok (.ireturn, 1) := by decide +kernel
theorem dX11_way_0 : decode cX11_way 0 = .ok (.iload_n 1, 1) := by decide +kernel
theorem dX11_way_1 : decode cX11_way 1 = .ok (.invokestatic 90, 3) := by decide +kernel
theorem dX11_way_4 : decode cX11_way 4 = .ok (.ifCond .eq 10, 3) := by decide +kernel
theorem dX11_way_7 : decode cX11_way 7 = .ok (.iload_n 2, 1) := by decide +kernel
theorem dX11_way_8 : decode cX11_way 8 = .ok (.invokestatic 90, 3) := by decide +kernel
theorem dX11_way_11 : decode cX11_way 11 = .ok (.ifCond .ne 5, 3) := by decide +kernel
theorem dX11_way_14 : decode cX11_way 14 = .ok (.iconst (-1), 1) := by decide +kernel
theorem dX11_way_15 : decode cX11_way 15 = .ok (.ireturn, 1) := by decide +kernel
theorem dX11_way_16 : decode cX11_way 16 = .ok (.aload_n 0, 1) := by decide +kernel
theorem dX11_way_17 : decode cX11_way 17 = .ok (.getfield 12, 3) := by decide +kernel
theorem dX11_way_20 : decode cX11_way 20 = .ok (.iload_n 1, 1) := by decide +kernel
theorem dX11_way_21 : decode cX11_way 21 = .ok (.iload_n 2, 1) := by decide +kernel
theorem dX11_way_22 : decode cX11_way 22 = .ok (.invokevirtual 207, 3) := by decide +kernel
theorem dX11_way_25 : decode cX11_way 25 = .ok (.ireturn, 1) := by decide +kernel
theorem dX11_reach_0 : decode cX11_reach 0 = .ok (.iload_n 1, 1) := by decide +kernel
theorem dX11_reach_1 : decode cX11_reach 1 = .ok (.invokestatic 90, 3) := by decide +kernel
theorem dX11_reach_4 : decode cX11_reach 4 = .ok (.ifCond .ne 5, 3) := by decide +kernel
theorem dX11_reach_7 : decode cX11_reach 7 = .ok (.iconst (-1), 1) := by decide +kernel
theorem dX11_reach_8 : decode cX11_reach 8 = .ok (.ireturn, 1) := by decide +kernel
theorem dX11_reach_9 : decode cX11_reach 9 = .ok (.aload_n 0, 1) := by decide +kernel
theorem dX11_reach_10 : decode cX11_reach 10 = .ok (.getfield 12, 3) := by decide +kernel
theorem dX11_reach_13 : decode cX11_reach 13 = .ok (.iload_n 1, 1) := by decide +kernel
theorem dX11_reach_14 : decode cX11_reach 14 = .ok (.invokevirtual 210, 3) := by decide +kernel
theorem dX11_reach_17 : decode cX11_reach 17 = .ok (.ireturn, 1) := by decide +kernel
theorem dX11_odds_0 : decode cX11_odds 0 = .ok (.iload_n 1, 1) := by decide +kernel
theorem dX11_odds_1 : decode cX11_odds 1 = .ok (.invokestatic 90, 3) := by decide +kernel
theorem dX11_odds_4 : decode cX11_odds 4 = .ok (.ifCond .eq 17, 3) := by decide +kernel
theorem dX11_odds_7 : decode cX11_odds 7 = .ok (.iload_n 2, 1) := by decide +kernel
theorem dX11_odds_8 : decode cX11_odds 8 = .ok (.invokestatic 90, 3) := by decide +kernel
theorem dX11_odds_11 : decode cX11_odds 11 = .ok (.ifCond .eq 10, 3) := by decide +kernel
theorem dX11_odds_14 : decode cX11_odds 14 = .ok (.iload_n 3, 1) := by decide +kernel
theorem dX11_odds_15 : decode cX11_odds 15 = .ok (.invokestatic 213, 3) := by decide +kernel
theorem dX11_odds_18 : decode cX11_odds 18 = .ok (.ifCond .ne 7, 3) := by decide +kernel
theorem dX11_odds_21 : decode cX11_odds 21 = .ok (.ldc2_w 216, 3) := by decide +kernel
theorem dX11_odds_24 : decode cX11_odds 24 = .ok (.lreturn, 1) := by decide +kernel
theorem dX11_odds_25 : decode cX11_odds 25 = .ok (.aload_n 0, 1) := by decide +kernel
theorem dX11_odds_26 : decode cX11_odds 26 = .ok (.getfield 32, 3) := by decide +kernel
theorem dX11_odds_29 : decode cX11_odds 29 = .ok (.aload_n 0, 1) := by decide +kernel
theorem dX11_odds_30 : decode cX11_odds 30 = .ok (.getfield 12, 3) := by decide +kernel
theorem dX11_odds_33 : decode cX11_odds 33 = .ok (.invokevirtual 218, 3) := by decide +kernel
theorem dX11_odds_36 : decode cX11_odds 36 = .ok (.aload_n 0, 1) := by decide +kernel
theorem dX11_odds_37 : decode cX11_odds 37 = .ok (.getfield 32, 3) := by decide +kernel
theorem dX11_odds_40 : decode cX11_odds 40 = .ok (.iload_n 1, 1) := by decide +kernel
theorem dX11_odds_41 : decode cX11_odds 41 = .ok (.iload_n 2, 1) := by decide +kernel
theorem dX11_odds_42 : decode cX11_odds 42 = .ok (.invokevirtual 221, 3) := by decide +kernel
theorem dX11_odds_45 : decode cX11_odds 45 = .ok (.aload_n 0, 1) := by decide +kernel
theorem dX11_odds_46 : decode cX11_odds 46 = .ok (.getfield 32, 3) := by decide +kernel
theorem dX11_odds_49 : decode cX11_odds 49 = .ok (.getfield 225, 3) := by decide +kernel
theorem dX11_odds_52 : decode cX11_odds 52 = .ok (.iload_n 3, 1) := by decide +kernel
theorem dX11_odds_53 : decode cX11_odds 53 = .ok (.invokestatic 229, 3) := by decide +kernel
theorem dX11_odds_56 : decode cX11_odds 56 = .ok (.lreturn, 1) := by decide +kernel
theorem dX11_held_0 : decode cX11_held 0 = .ok (.iload_n 1, 1) := by decide +kernel
theorem dX11_held_1 : decode cX11_held 1 = .ok (.invokestatic 90, 3) := by decide +kernel
theorem dX11_held_4 : decode cX11_held 4 = .ok (.ifCond .eq 18, 3) := by decide +kernel
theorem dX11_held_7 : decode cX11_held 7 = .ok (.iload_n 2, 1) := by decide +kernel
theorem dX11_held_8 : decode cX11_held 8 = .ok (.invokestatic 90, 3) := by decide +kernel
theorem dX11_held_11 : decode cX11_held 11 = .ok (.ifCond .eq 11, 3) := by decide +kernel
theorem dX11_held_14 : decode cX11_held 14 = .ok (.iload_n 3, 1) := by decide +kernel
theorem dX11_held_15 : decode cX11_held 15 = .ok (.iconst 3, 1) := by decide +kernel
theorem dX11_held_16 : decode cX11_held 16 = .ok (.invokestatic 98, 3) := by decide +kernel
theorem dX11_held_19 : decode cX11_held 19 = .ok (.ifCond .ne 5, 3) := by decide +kernel
theorem dX11_held_22 : decode cX11_held 22 = .ok (.iconst (-1), 1) := by decide +kernel
theorem dX11_held_23 : decode cX11_held 23 = .ok (.ireturn, 1) := by decide +kernel
theorem dX11_held_24 : decode cX11_held 24 = .ok (.aload_n 0, 1) := by decide +kernel
theorem dX11_held_25 : decode cX11_held 25 = .ok (.getfield 32, 3) := by decide +kernel
theorem dX11_held_28 : decode cX11_held 28 = .ok (.aload_n 0, 1) := by decide +kernel
theorem dX11_held_29 : decode cX11_held 29 = .ok (.getfield 12, 3) := by decide +kernel
theorem dX11_held_32 : decode cX11_held 32 = .ok (.iload_n 1, 1) := by decide +kernel
theorem dX11_held_33 : decode cX11_held 33 = .ok (.iload_n 2, 1) := by decide +kernel
theorem dX11_held_34 : decode cX11_held 34 = .ok (.iload_n 3, 1) := by decide +kernel
theorem dX11_held_35 : decode cX11_held 35 = .ok (.invokevirtual 233, 3) := by decide +kernel
theorem dX11_held_38 : decode cX11_held 38 = .ok (.ireturn, 1) := by decide +kernel
theorem dX11_keepers_0 : decode cX11_keepers 0 = .ok (.iload_n 1, 1) := by decide +kernel
theorem dX11_keepers_1 : decode cX11_keepers 1 = .ok (.invokestatic 90, 3) := by decide +kernel
theorem dX11_keepers_4 : decode cX11_keepers 4 = .ok (.ifCond .eq 18, 3) := by decide +kernel
theorem dX11_keepers_7 : decode cX11_keepers 7 = .ok (.iload_n 2, 1) := by decide +kernel
theorem dX11_keepers_8 : decode cX11_keepers 8 = .ok (.invokestatic 90, 3) := by decide +kernel
theorem dX11_keepers_11 : decode cX11_keepers 11 = .ok (.ifCond .eq 11, 3) := by decide +kernel
theorem dX11_keepers_14 : decode cX11_keepers 14 = .ok (.iload_n 3, 1) := by decide +kernel
theorem dX11_keepers_15 : decode cX11_keepers 15 = .ok (.iconst 1, 1) := by decide +kernel
theorem dX11_keepers_16 : decode cX11_keepers 16 = .ok (.invokestatic 98, 3) := by decide +kernel
theorem dX11_keepers_19 : decode cX11_keepers 19 = .ok (.ifCond .ne 5, 3) := by decide +kernel
theorem dX11_keepers_22 : decode cX11_keepers 22 = .ok (.iconst (-1), 1) := by decide +kernel
theorem dX11_keepers_23 : decode cX11_keepers 23 = .ok (.ireturn, 1) := by decide +kernel
theorem dX11_keepers_24 : decode cX11_keepers 24 = .ok (.aload_n 0, 1) := by decide +kernel
theorem dX11_keepers_25 : decode cX11_keepers 25 = .ok (.getfield 32, 3) := by decide +kernel
theorem dX11_keepers_28 : decode cX11_keepers 28 = .ok (.aload_n 0, 1) := by decide +kernel
theorem dX11_keepers_29 : decode cX11_keepers 29 = .ok (.getfield 12, 3) := by decide +kernel
theorem dX11_keepers_32 : decode cX11_keepers 32 = .ok (.iload_n 1, 1) := by decide +kernel
theorem dX11_keepers_33 : decode cX11_keepers 33 = .ok (.iload_n 2, 1) := by decide +kernel
theorem dX11_keepers_34 : decode cX11_keepers 34 = .ok (.invokevirtual 237, 3) := by decide +kernel
theorem dX11_keepers_37 : decode cX11_keepers 37 = .ok (.istore 4, 2) := by decide +kernel
theorem dX11_keepers_39 : decode cX11_keepers 39 = .ok (.iload 4, 2) := by decide +kernel
theorem dX11_keepers_41 : decode cX11_keepers 41 = .ok (.ifCond .ge 6, 3) := by decide +kernel
theorem dX11_keepers_44 : decode cX11_keepers 44 = .ok (.bipush (-3), 2) := by decide +kernel
theorem dX11_keepers_46 : decode cX11_keepers 46 = .ok (.ireturn, 1) := by decide +kernel
theorem dX11_keepers_47 : decode cX11_keepers 47 = .ok (.iload_n 3, 1) := by decide +kernel
theorem dX11_keepers_48 : decode cX11_keepers 48 = .ok (.ifCond .ne 11, 3) := by decide +kernel
theorem dX11_keepers_51 : decode cX11_keepers 51 = .ok (.iload 4, 2) := by decide +kernel
theorem dX11_keepers_53 : decode cX11_keepers 53 = .ok (.invokestatic 176, 3) := by decide +kernel
theorem dX11_keepers_56 : decode cX11_keepers 56 = .ok (.goto 5, 3) := by decide +kernel
theorem dX11_keepers_59 : decode cX11_keepers 59 = .ok (.iload 4, 2) := by decide +kernel
theorem dX11_keepers_61 : decode cX11_keepers 61 = .ok (.ireturn, 1) := by decide +kernel
theorem dX11_home_0 : decode cX11_home 0 = .ok (.iload_n 1, 1) := by decide +kernel
theorem dX11_home_1 : decode cX11_home 1 = .ok (.invokestatic 90, 3) := by decide +kernel
theorem dX11_home_4 : decode cX11_home 4 = .ok (.ifCond .eq 12, 3) := by decide +kernel
theorem dX11_home_7 : decode cX11_home 7 = .ok (.iload_n 2, 1) := by decide +kernel
theorem dX11_home_8 : decode cX11_home 8 = .ok (.bipush 8, 2) := by decide +kernel
theorem dX11_home_10 : decode cX11_home 10 = .ok (.invokestatic 98, 3) := by decide +kernel
theorem dX11_home_13 : decode cX11_home 13 = .ok (.ifCond .ne 5, 3) := by decide +kernel
theorem dX11_home_16 : decode cX11_home 16 = .ok (.iconst (-1), 1) := by decide +kernel
theorem dX11_home_17 : decode cX11_home 17 = .ok (.ireturn, 1) := by decide +kernel
theorem dX11_home_18 : decode cX11_home 18 = .ok (.aload_n 0, 1) := by decide +kernel
theorem dX11_home_19 : decode cX11_home 19 = .ok (.getfield 32, 3) := by decide +kernel
theorem dX11_home_22 : decode cX11_home 22 = .ok (.aload_n 0, 1) := by decide +kernel
theorem dX11_home_23 : decode cX11_home 23 = .ok (.getfield 12, 3) := by decide +kernel
theorem dX11_home_26 : decode cX11_home 26 = .ok (.invokevirtual 218, 3) := by decide +kernel
theorem dX11_home_29 : decode cX11_home 29 = .ok (.iconst 0, 1) := by decide +kernel
theorem dX11_home_30 : decode cX11_home 30 = .ok (.istore_n 3, 1) := by decide +kernel
theorem dX11_home_31 : decode cX11_home 31 = .ok (.iconst 0, 1) := by decide +kernel
theorem dX11_home_32 : decode cX11_home 32 = .ok (.istore 4, 2) := by decide +kernel
theorem dX11_home_34 : decode cX11_home 34 = .ok (.iload 4, 2) := by decide +kernel
theorem dX11_home_36 : decode cX11_home 36 = .ok (.bipush 8, 2) := by decide +kernel
theorem dX11_home_38 : decode cX11_home 38 = .ok (.if_icmp .ge 30, 3) := by decide +kernel
theorem dX11_home_41 : decode cX11_home 41 = .ok (.aload_n 0, 1) := by decide +kernel
theorem dX11_home_42 : decode cX11_home 42 = .ok (.getfield 32, 3) := by decide +kernel
theorem dX11_home_45 : decode cX11_home 45 = .ok (.iload 4, 2) := by decide +kernel
theorem dX11_home_47 : decode cX11_home 47 = .ok (.iload_n 1, 1) := by decide +kernel
theorem dX11_home_48 : decode cX11_home 48 = .ok (.iload_n 2, 1) := by decide +kernel
theorem dX11_home_49 : decode cX11_home 49 = .ok (.invokevirtual 241, 3) := by decide +kernel
theorem dX11_home_52 : decode cX11_home 52 = .ok (.ifCond .eq 10, 3) := by decide +kernel
theorem dX11_home_55 : decode cX11_home 55 = .ok (.iload_n 3, 1) := by decide +kernel
theorem dX11_home_56 : decode cX11_home 56 = .ok (.iconst 1, 1) := by decide +kernel
theorem dX11_home_57 : decode cX11_home 57 = .ok (.iload 4, 2) := by decide +kernel
theorem dX11_home_59 : decode cX11_home 59 = .ok (.ishl, 1) := by decide +kernel
theorem dX11_home_60 : decode cX11_home 60 = .ok (.ior, 1) := by decide +kernel
theorem dX11_home_61 : decode cX11_home 61 = .ok (.istore_n 3, 1) := by decide +kernel
theorem dX11_home_62 : decode cX11_home 62 = .ok (.iinc 4 1, 3) := by decide +kernel
theorem dX11_home_65 : decode cX11_home 65 = .ok (.goto (-31), 3) := by decide +kernel
theorem dX11_home_68 : decode cX11_home 68 = .ok (.iload_n 3, 1) := by decide +kernel
theorem dX11_home_69 : decode cX11_home 69 = .ok (.ireturn, 1) := by decide +kernel
theorem dX11_within_0 : decode cX11_within 0 = .ok (.iload_n 1, 1) := by decide +kernel
theorem dX11_within_1 : decode cX11_within 1 = .ok (.invokestatic 90, 3) := by decide +kernel
theorem dX11_within_4 : decode cX11_within 4 = .ok (.ifCond .eq 26, 3) := by decide +kernel
theorem dX11_within_7 : decode cX11_within 7 = .ok (.iload_n 2, 1) := by decide +kernel
theorem dX11_within_8 : decode cX11_within 8 = .ok (.invokestatic 90, 3) := by decide +kernel
theorem dX11_within_11 : decode cX11_within 11 = .ok (.ifCond .eq 19, 3) := by decide +kernel
theorem dX11_within_14 : decode cX11_within 14 = .ok (.iload_n 3, 1) := by decide +kernel
theorem dX11_within_15 : decode cX11_within 15 = .ok (.iconst 2, 1) := by decide +kernel
theorem dX11_within_16 : decode cX11_within 16 = .ok (.invokestatic 98, 3) := by decide +kernel
theorem dX11_within_19 : decode cX11_within 19 = .ok (.ifCond .eq 11, 3) := by decide +kernel
theorem dX11_within_22 : decode cX11_within 22 = .ok (.iload 4, 2) := by decide +kernel
theorem dX11_within_24 : decode cX11_within 24 = .ok (.invokestatic 213, 3) := by decide +kernel
theorem dX11_within_27 : decode cX11_within 27 = .ok (.ifCond .ne 7, 3) := by decide +kernel
theorem dX11_within_30 : decode cX11_within 30 = .ok (.ldc2_w 216, 3) := by decide +kernel
theorem dX11_within_33 : decode cX11_within 33 = .ok (.lreturn, 1) := by decide +kernel
theorem dX11_within_34 : decode cX11_within 34 = .ok (.aload_n 0, 1) := by decide +kernel
theorem dX11_within_35 : decode cX11_within 35 = .ok (.getfield 32, 3) := by decide +kernel
theorem dX11_within_38 : decode cX11_within 38 = .ok (.aload_n 0, 1) := by decide +kernel
theorem dX11_within_39 : decode cX11_within 39 = .ok (.getfield 12, 3) := by decide +kernel
theorem dX11_within_42 : decode cX11_within 42 = .ok (.iload_n 1, 1) := by decide +kernel
theorem dX11_within_43 : decode cX11_within 43 = .ok (.iload_n 2, 1) := by decide +kernel
theorem dX11_within_44 : decode cX11_within 44 = .ok (.iload_n 3, 1) := by decide +kernel
theorem dX11_within_45 : decode cX11_within 45 = .ok (.invokevirtual 245, 3) := by decide +kernel
theorem dX11_within_48 : decode cX11_within 48 = .ok (.lstore 5, 2) := by decide +kernel
theorem dX11_within_50 : decode cX11_within 50 = .ok (.lconst 1, 1) := by decide +kernel
theorem dX11_within_51 : decode cX11_within 51 = .ok (.lstore 7, 2) := by decide +kernel
theorem dX11_within_53 : decode cX11_within 53 = .ok (.iconst 0, 1) := by decide +kernel
theorem dX11_within_54 : decode cX11_within 54 = .ok (.istore 9, 2) := by decide +kernel
theorem dX11_within_56 : decode cX11_within 56 = .ok (.iload 9, 2) := by decide +kernel
theorem dX11_within_58 : decode cX11_within 58 = .ok (.iload_n 3, 1) := by decide +kernel
theorem dX11_within_59 : decode cX11_within 59 = .ok (.if_icmp .ge 21, 3) := by decide +kernel
theorem dX11_within_62 : decode cX11_within 62 = .ok (.lload 7, 2) := by decide +kernel
theorem dX11_within_64 : decode cX11_within 64 = .ok (.aload_n 0, 1) := by decide +kernel
theorem dX11_within_65 : decode cX11_within 65 = .ok (.getfield 32, 3) := by decide +kernel
theorem dX11_within_68 : decode cX11_within 68 = .ok (.getfield 225, 3) := by decide +kernel
theorem dX11_within_71 : decode cX11_within 71 = .ok (.lmul, 1) := by decide +kernel
theorem dX11_within_72 : decode cX11_within 72 = .ok (.lstore 7, 2) := by decide +kernel
theorem dX11_within_74 : decode cX11_within 74 = .ok (.iinc 9 1, 3) := by decide +kernel
theorem dX11_within_77 : decode cX11_within 77 = .ok (.goto (-21), 3) := by decide +kernel
theorem dX11_within_80 : decode cX11_within 80 = .ok (.lload 5, 2) := by decide +kernel
theorem dX11_within_82 : decode cX11_within 82 = .ok (.lload 7, 2) := by decide +kernel
theorem dX11_within_84 : decode cX11_within 84 = .ok (.iload 4, 2) := by decide +kernel
theorem dX11_within_86 : decode cX11_within 86 = .ok (.invokestatic 229, 3) := by decide +kernel
theorem dX11_within_89 : decode cX11_within 89 = .ok (.lreturn, 1) := by decide +kernel
theorem dX11_seek_0 : decode cX11_seek 0 = .ok (.iload_n 1, 1) := by decide +kernel
theorem dX11_seek_1 : decode cX11_seek 1 = .ok (.invokestatic 90, 3) := by decide +kernel
theorem dX11_seek_4 : decode cX11_seek 4 = .ok (.ifCond .ne 5, 3) := by decide +kernel
theorem dX11_seek_7 : decode cX11_seek 7 = .ok (.iconst (-1), 1) := by decide +kernel
theorem dX11_seek_8 : decode cX11_seek 8 = .ok (.ireturn, 1) := by decide +kernel
theorem dX11_seek_9 : decode cX11_seek 9 = .ok (.aload_n 0, 1) := by decide +kernel
theorem dX11_seek_10 : decode cX11_seek 10 = .ok (.getfield 32, 3) := by decide +kernel
theorem dX11_seek_13 : decode cX11_seek 13 = .ok (.aload_n 0, 1) := by decide +kernel
theorem dX11_seek_14 : decode cX11_seek 14 = .ok (.getfield 12, 3) := by decide +kernel
theorem dX11_seek_17 : decode cX11_seek 17 = .ok (.invokevirtual 218, 3) := by decide +kernel
theorem dX11_seek_20 : decode cX11_seek 20 = .ok (.aload_n 0, 1) := by decide +kernel
theorem dX11_seek_21 : decode cX11_seek 21 = .ok (.getfield 12, 3) := by decide +kernel
theorem dX11_seek_24 : decode cX11_seek 24 = .ok (.iload_n 1, 1) := by decide +kernel
theorem dX11_seek_25 : decode cX11_seek 25 = .ok (.invokevirtual 210, 3) := by decide +kernel
theorem dX11_seek_28 : decode cX11_seek 28 = .ok (.istore_n 2, 1) := by decide +kernel
theorem dX11_seek_29 : decode cX11_seek 29 = .ok (.bipush (-3), 2) := by decide +kernel
theorem dX11_seek_31 : decode cX11_seek 31 = .ok (.istore_n 3, 1) := by decide +kernel
theorem dX11_seek_32 : decode cX11_seek 32 = .ok (.lconst 0, 1) := by decide +kernel
theorem dX11_seek_33 : decode cX11_seek 33 = .ok (.lstore 4, 2) := by decide +kernel
theorem dX11_seek_35 : decode cX11_seek 35 = .ok (.iconst 0, 1) := by decide +kernel
theorem dX11_seek_36 : decode cX11_seek 36 = .ok (.istore 6, 2) := by decide +kernel
theorem dX11_seek_38 : decode cX11_seek 38 = .ok (.iload 6, 2) := by decide +kernel
theorem dX11_seek_40 : decode cX11_seek 40 = .ok (.bipush 8, 2) := by decide +kernel
theorem dX11_seek_42 : decode cX11_seek 42 = .ok (.if_icmp .ge 57, 3) := by decide +kernel
theorem dX11_seek_45 : decode cX11_seek 45 = .ok (.iload 6, 2) := by decide +kernel
theorem dX11_seek_47 : decode cX11_seek 47 = .ok (.iload_n 2, 1) := by decide +kernel
theorem dX11_seek_48 : decode cX11_seek 48 = .ok (.invokestatic 249, 3) := by decide +kernel
theorem dX11_seek_51 : decode cX11_seek 51 = .ok (.ifCond .ne 42, 3) := by decide +kernel
theorem dX11_seek_54 : decode cX11_seek 54 = .ok (.aload_n 0, 1) := by decide +kernel
theorem dX11_seek_55 : decode cX11_seek 55 = .ok (.getfield 12, 3) := by decide +kernel
theorem dX11_seek_58 : decode cX11_seek 58 = .ok (.getfield 144, 3) := by decide +kernel
theorem dX11_seek_61 : decode cX11_seek 61 = .ok (.iload 6, 2) := by decide +kernel
theorem dX11_seek_63 : decode cX11_seek 63 = .ok (.iaload, 1) := by decide +kernel
theorem dX11_seek_64 : decode cX11_seek 64 = .ok (.i2l, 1) := by decide +kernel
theorem dX11_seek_65 : decode cX11_seek 65 = .ok (.aload_n 0, 1) := by decide +kernel
theorem dX11_seek_66 : decode cX11_seek 66 = .ok (.getfield 32, 3) := by decide +kernel
theorem dX11_seek_69 : decode cX11_seek 69 = .ok (.iload_n 1, 1) := by decide +kernel
theorem dX11_seek_70 : decode cX11_seek 70 = .ok (.iload 6, 2) := by decide +kernel
theorem dX11_seek_72 : decode cX11_seek 72 = .ok (.invokevirtual 221, 3) := by decide +kernel
theorem dX11_seek_75 : decode cX11_seek 75 = .ok (.lmul, 1) := by decide +kernel
theorem dX11_seek_76 : decode cX11_seek 76 = .ok (.lstore 7, 2) := by decide +kernel
theorem dX11_seek_78 : decode cX11_seek 78 = .ok (.lload 7, 2) := by decide +kernel
theorem dX11_seek_80 : decode cX11_seek 80 = .ok (.lload 4, 2) := by decide +kernel
theorem dX11_seek_82 : decode cX11_seek 82 = .ok (.lcmp, 1) := by decide +kernel
theorem dX11_seek_83 : decode cX11_seek 83 = .ok (.ifCond .le 10, 3) := by decide +kernel
theorem dX11_seek_86 : decode cX11_seek 86 = .ok (.lload 7, 2) := by decide +kernel
theorem dX11_seek_88 : decode cX11_seek 88 = .ok (.lstore 4, 2) := by decide +kernel
theorem dX11_seek_90 : decode cX11_seek 90 = .ok (.iload 6, 2) := by decide +kernel
theorem dX11_seek_92 : decode cX11_seek 92 = .ok (.istore_n 3, 1) := by decide +kernel
theorem dX11_seek_93 : decode cX11_seek 93 = .ok (.iinc 6 1, 3) := by decide +kernel
theorem dX11_seek_96 : decode cX11_seek 96 = .ok (.goto (-58), 3) := by decide +kernel
theorem dX11_seek_99 : decode cX11_seek 99 = .ok (.iload_n 3, 1) := by decide +kernel
theorem dX11_seek_100 : decode cX11_seek 100 = .ok (.ireturn, 1) := by decide +kernel
theorem dX11_rule_0 : decode cX11_rule 0 = .ok (.iload_n 1, 1) := by decide +kernel
theorem dX11_rule_1 : decode cX11_rule 1 = .ok (.iconst 4, 1) := by decide +kernel
theorem dX11_rule_2 : decode cX11_rule 2 = .ok (.invokestatic 94, 3) := by decide +kernel
theorem dX11_rule_5 : decode cX11_rule 5 = .ok (.ifCond .eq 10, 3) := by decide +kernel
theorem dX11_rule_8 : decode cX11_rule 8 = .ok (.iload_n 2, 1) := by decide +kernel
theorem dX11_rule_9 : decode cX11_rule 9 = .ok (.invokestatic 90, 3) := by decide +kernel
theorem dX11_rule_12 : decode cX11_rule 12 = .ok (.ifCond .ne 5, 3) := by decide +kernel
theorem dX11_rule_15 : decode cX11_rule 15 = .ok (.iconst (-1), 1) := by decide +kernel
theorem dX11_rule_16 : decode cX11_rule 16 = .ok (.ireturn, 1) := by decide +kernel
theorem dX11_rule_17 : decode cX11_rule 17 = .ok (.aload_n 0, 1) := by decide +kernel
theorem dX11_rule_18 : decode cX11_rule 18 = .ok (.getfield 12, 3) := by decide +kernel
theorem dX11_rule_21 : decode cX11_rule 21 = .ok (.getfield 252, 3) := by decide +kernel
theorem dX11_rule_24 : decode cX11_rule 24 = .ok (.iconst 4, 1) := by decide +kernel
theorem dX11_rule_25 : decode cX11_rule 25 = .ok (.if_icmp .lt 6, 3) := by decide +kernel
theorem dX11_rule_28 : decode cX11_rule 28 = .ok (.bipush (-2), 2) := by decide +kernel
theorem dX11_rule_30 : decode cX11_rule 30 = .ok (.ireturn, 1) := by decide +kernel
theorem dX11_rule_31 : decode cX11_rule 31 = .ok (.aload_n 0, 1) := by decide +kernel
theorem dX11_rule_32 : decode cX11_rule 32 = .ok (.getfield 12, 3) := by decide +kernel
theorem dX11_rule_35 : decode cX11_rule 35 = .ok (.iload_n 1, 1) := by decide +kernel
theorem dX11_rule_36 : decode cX11_rule 36 = .ok (.iload_n 2, 1) := by decide +kernel
theorem dX11_rule_37 : decode cX11_rule 37 = .ok (.invokevirtual 255, 3) := by decide +kernel
theorem dX11_rule_40 : decode cX11_rule 40 = .ok (.ireturn, 1) := by decide +kernel
theorem dX11_ruleOf_0 : decode cX11_ruleOf 0 = .ok (.aload_n 0, 1) := by decide +kernel
theorem dX11_ruleOf_1 : decode cX11_ruleOf 1 = .ok (.getfield 12, 3) := by decide +kernel
theorem dX11_ruleOf_4 : decode cX11_ruleOf 4 = .ok (.iload_n 1, 1) := by decide +kernel
theorem dX11_ruleOf_5 : decode cX11_ruleOf 5 = .ok (.invokevirtual 258, 3) := by decide +kernel
theorem dX11_ruleOf_8 : decode cX11_ruleOf 8 = .ok (.ifCond .ne 5, 3) := by decide +kernel
theorem dX11_ruleOf_11 : decode cX11_ruleOf 11 = .ok (.iconst (-1), 1) := by decide +kernel
theorem dX11_ruleOf_12 : decode cX11_ruleOf 12 = .ok (.ireturn, 1) := by decide +kernel
theorem dX11_ruleOf_13 : decode cX11_ruleOf 13 = .ok (.iload_n 2, 1) := by decide +kernel
theorem dX11_ruleOf_14 : decode cX11_ruleOf 14 = .ok (.lookupswitch 46 #[(0, 26), (1, 36)], 26) := by decide +kernel
theorem dX11_ruleOf_40 : decode cX11_ruleOf 40 = .ok (.aload_n 0, 1) := by decide +kernel
theorem dX11_ruleOf_41 : decode cX11_ruleOf 41 = .ok (.getfield 12, 3) := by decide +kernel
theorem dX11_ruleOf_44 : decode cX11_ruleOf 44 = .ok (.getfield 261, 3) := by decide +kernel
theorem dX11_ruleOf_47 : decode cX11_ruleOf 47 = .ok (.iload_n 1, 1) := by decide +kernel
theorem dX11_ruleOf_48 : decode cX11_ruleOf 48 = .ok (.iaload, 1) := by decide +kernel
theorem dX11_ruleOf_49 : decode cX11_ruleOf 49 = .ok (.ireturn, 1) := by decide +kernel
theorem dX11_ruleOf_50 : decode cX11_ruleOf 50 = .ok (.aload_n 0, 1) := by decide +kernel
theorem dX11_ruleOf_51 : decode cX11_ruleOf 51 = .ok (.getfield 12, 3) := by decide +kernel
theorem dX11_ruleOf_54 : decode cX11_ruleOf 54 = .ok (.getfield 264, 3) := by decide +kernel
theorem dX11_ruleOf_57 : decode cX11_ruleOf 57 = .ok (.iload_n 1, 1) := by decide +kernel
theorem dX11_ruleOf_58 : decode cX11_ruleOf 58 = .ok (.iaload, 1) := by decide +kernel
theorem dX11_ruleOf_59 : decode cX11_ruleOf 59 = .ok (.ireturn, 1) := by decide +kernel
theorem dX11_ruleOf_60 : decode cX11_ruleOf 60 = .ok (.iconst (-1), 1) := by decide +kernel
theorem dX11_ruleOf_61 : decode cX11_ruleOf 61 = .ok (.ireturn, 1) := by decide +kernel
theorem dX11_does_0 : decode cX11_does 0 = .ok (.aload_n 0, 1) := by decide +kernel
theorem dX11_does_1 : decode cX11_does 1 = .ok (.getfield 12, 3) := by decide +kernel
theorem dX11_does_4 : decode cX11_does 4 = .ok (.iload_n 1, 1) := by decide +kernel
theorem dX11_does_5 : decode cX11_does 5 = .ok (.invokevirtual 258, 3) := by decide +kernel
theorem dX11_does_8 : decode cX11_does 8 = .ok (.ifCond .eq 14, 3) := by decide +kernel
theorem dX11_does_11 : decode cX11_does 11 = .ok (.aload_n 0, 1) := by decide +kernel
theorem dX11_does_12 : decode cX11_does 12 = .ok (.getfield 12, 3) := by decide +kernel
theorem dX11_does_15 : decode cX11_does 15 = .ok (.iload_n 2, 1) := by decide +kernel
theorem dX11_does_16 : decode cX11_does 16 = .ok (.invokevirtual 154, 3) := by decide +kernel
theorem dX11_does_19 : decode cX11_does 19 = .ok (.ifCond .ne 5, 3) := by decide +kernel
theorem dX11_does_22 : decode cX11_does 22 = .ok (.iconst (-1), 1) := by decide +kernel
theorem dX11_does_23 : decode cX11_does 23 = .ok (.ireturn, 1) := by decide +kernel
theorem dX11_does_24 : decode cX11_does 24 = .ok (.aload_n 0, 1) := by decide +kernel
theorem dX11_does_25 : decode cX11_does 25 = .ok (.iload_n 1, 1) := by decide +kernel
theorem dX11_does_26 : decode cX11_does 26 = .ok (.iload_n 2, 1) := by decide +kernel
theorem dX11_does_27 : decode cX11_does 27 = .ok (.invokevirtual 267, 3) := by decide +kernel
theorem dX11_does_30 : decode cX11_does 30 = .ok (.istore_n 3, 1) := by decide +kernel
theorem dX11_does_31 : decode cX11_does 31 = .ok (.aload_n 0, 1) := by decide +kernel
theorem dX11_does_32 : decode cX11_does 32 = .ok (.getfield 12, 3) := by decide +kernel
theorem dX11_does_35 : decode cX11_does 35 = .ok (.iload_n 3, 1) := by decide +kernel
theorem dX11_does_36 : decode cX11_does 36 = .ok (.invokevirtual 105, 3) := by decide +kernel
theorem dX11_does_39 : decode cX11_does 39 = .ok (.ifCond .ne 5, 3) := by decide +kernel
theorem dX11_does_42 : decode cX11_does 42 = .ok (.iconst 0, 1) := by decide +kernel
theorem dX11_does_43 : decode cX11_does 43 = .ok (.ireturn, 1) := by decide +kernel
theorem dX11_does_44 : decode cX11_does 44 = .ok (.aload_n 0, 1) := by decide +kernel
theorem dX11_does_45 : decode cX11_does 45 = .ok (.getfield 12, 3) := by decide +kernel
theorem dX11_does_48 : decode cX11_does 48 = .ok (.getfield 261, 3) := by decide +kernel
theorem dX11_does_51 : decode cX11_does 51 = .ok (.iload_n 1, 1) := by decide +kernel
theorem dX11_does_52 : decode cX11_does 52 = .ok (.iaload, 1) := by decide +kernel
theorem dX11_does_53 : decode cX11_does 53 = .ok (.iconst 1, 1) := by decide +kernel
theorem dX11_does_54 : decode cX11_does 54 = .ok (.if_icmp .ne 15, 3) := by decide +kernel
theorem dX11_does_57 : decode cX11_does 57 = .ok (.aload_n 0, 1) := by decide +kernel
theorem dX11_does_58 : decode cX11_does 58 = .ok (.getfield 12, 3) := by decide +kernel
theorem dX11_does_61 : decode cX11_does 61 = .ok (.iload_n 2, 1) := by decide +kernel
theorem dX11_does_62 : decode cX11_does 62 = .ok (.iload_n 3, 1) := by decide +kernel
theorem dX11_does_63 : decode cX11_does 63 = .ok (.invokevirtual 173, 3) := by decide +kernel
theorem dX11_does_66 : decode cX11_does 66 = .ok (.goto 12, 3) := by decide +kernel
theorem dX11_does_69 : decode cX11_does 69 = .ok (.aload_n 0, 1) := by decide +kernel
theorem dX11_does_70 : decode cX11_does 70 = .ok (.getfield 12, 3) := by decide +kernel
theorem dX11_does_73 : decode cX11_does 73 = .ok (.iload_n 2, 1) := by decide +kernel
theorem dX11_does_74 : decode cX11_does 74 = .ok (.iload_n 3, 1) := by decide +kernel
theorem dX11_does_75 : decode cX11_does 75 = .ok (.invokevirtual 169, 3) := by decide +kernel
theorem dX11_does_78 : decode cX11_does 78 = .ok (.iconst 1, 1) := by decide +kernel
theorem dX11_does_79 : decode cX11_does 79 = .ok (.ireturn, 1) := by decide +kernel
theorem dX11_goes_0 : decode cX11_goes 0 = .ok (.aload_n 0, 1) := by decide +kernel
theorem dX11_goes_1 : decode cX11_goes 1 = .ok (.getfield 12, 3) := by decide +kernel
theorem dX11_goes_4 : decode cX11_goes 4 = .ok (.iload_n 1, 1) := by decide +kernel
theorem dX11_goes_5 : decode cX11_goes 5 = .ok (.invokevirtual 258, 3) := by decide +kernel
theorem dX11_goes_8 : decode cX11_goes 8 = .ok (.ifCond .eq 14, 3) := by decide +kernel
theorem dX11_goes_11 : decode cX11_goes 11 = .ok (.aload_n 0, 1) := by decide +kernel
theorem dX11_goes_12 : decode cX11_goes 12 = .ok (.getfield 12, 3) := by decide +kernel
theorem dX11_goes_15 : decode cX11_goes 15 = .ok (.iload_n 2, 1) := by decide +kernel
theorem dX11_goes_16 : decode cX11_goes 16 = .ok (.invokevirtual 154, 3) := by decide +kernel
theorem dX11_goes_19 : decode cX11_goes 19 = .ok (.ifCond .ne 5, 3) := by decide +kernel
theorem dX11_goes_22 : decode cX11_goes 22 = .ok (.iconst (-1), 1) := by decide +kernel
theorem dX11_goes_23 : decode cX11_goes 23 = .ok (.ireturn, 1) := by decide +kernel
theorem dX11_goes_24 : decode cX11_goes 24 = .ok (.aload_n 0, 1) := by decide +kernel
theorem dX11_goes_25 : decode cX11_goes 25 = .ok (.iload_n 1, 1) := by decide +kernel
theorem dX11_goes_26 : decode cX11_goes 26 = .ok (.iload_n 2, 1) := by decide +kernel
theorem dX11_goes_27 : decode cX11_goes 27 = .ok (.invokevirtual 267, 3) := by decide +kernel
theorem dX11_goes_30 : decode cX11_goes 30 = .ok (.ireturn, 1) := by decide +kernel
theorem dX11_prove_0 : decode cX11_prove 0 = .ok (.iload_n 1, 1) := by decide +kernel
theorem dX11_prove_1 : decode cX11_prove 1 = .ok (.iconst 1, 1) := by decide +kernel
theorem dX11_prove_2 : decode cX11_prove 2 = .ok (.if_icmp .lt 9, 3) := by decide +kernel
theorem dX11_prove_5 : decode cX11_prove 5 = .ok (.iload_n 1, 1) := by decide +kernel
theorem dX11_prove_6 : decode cX11_prove 6 = .ok (.bipush 12, 2) := by decide +kernel
theorem dX11_prove_8 : decode cX11_prove 8 = .ok (.if_icmp .le 5, 3) := by decide +kernel
theorem dX11_prove_11 : decode cX11_prove 11 = .ok (.iconst (-1), 1) := by decide +kernel
theorem dX11_prove_12 : decode cX11_prove 12 = .ok (.ireturn, 1) := by decide +kernel
theorem dX11_prove_13 : decode cX11_prove 13 = .ok (.aload_n 0, 1) := by decide +kernel
theorem dX11_prove_14 : decode cX11_prove 14 = .ok (.getfield 19, 3) := by decide +kernel
theorem dX11_prove_17 : decode cX11_prove 17 = .ok (.aload_n 0, 1) := by decide +kernel
theorem dX11_prove_18 : decode cX11_prove 18 = .ok (.getfield 12, 3) := by decide +kernel
theorem dX11_prove_21 : decode cX11_prove 21 = .ok (.invokevirtual 72, 3) := by decide +kernel
theorem dX11_prove_24 : decode cX11_prove 24 = .ok (.iconst 0, 1) := by decide +kernel
theorem dX11_prove_25 : decode cX11_prove 25 = .ok (.istore_n 2, 1) := by decide +kernel
theorem dX11_prove_26 : decode cX11_prove 26 = .ok (.iload_n 2, 1) := by decide +kernel
theorem dX11_prove_27 : decode cX11_prove 27 = .ok (.iload_n 1, 1) := by decide +kernel
theorem dX11_prove_28 : decode cX11_prove 28 = .ok (.if_icmp .ge 42, 3) := by decide +kernel
theorem dX11_prove_31 : decode cX11_prove 31 = .ok (.aload_n 0, 1) := by decide +kernel
theorem dX11_prove_32 : decode cX11_prove 32 = .ok (.getfield 19, 3) := by decide +kernel
theorem dX11_prove_35 : decode cX11_prove 35 = .ok (.invokevirtual 187, 3) := by decide +kernel
theorem dX11_prove_38 : decode cX11_prove 38 = .ok (.aload_n 0, 1) := by decide +kernel
theorem dX11_prove_39 : decode cX11_prove 39 = .ok (.getfield 36, 3) := by decide +kernel
theorem dX11_prove_42 : decode cX11_prove 42 = .ok (.iload_n 2, 1) := by decide +kernel
theorem dX11_prove_43 : decode cX11_prove 43 = .ok (.aload_n 0, 1) := by decide +kernel
theorem dX11_prove_44 : decode cX11_prove 44 = .ok (.getfield 19, 3) := by decide +kernel
theorem dX11_prove_47 : decode cX11_prove 47 = .ok (.getfield 190, 3) := by decide +kernel
theorem dX11_prove_50 : decode cX11_prove 50 = .ok (.iastore, 1) := by decide +kernel
theorem dX11_prove_51 : decode cX11_prove 51 = .ok (.aload_n 0, 1) := by decide +kernel
theorem dX11_prove_52 : decode cX11_prove 52 = .ok (.getfield 40, 3) := by decide +kernel
theorem dX11_prove_55 : decode cX11_prove 55 = .ok (.iload_n 2, 1) := by decide +kernel
theorem dX11_prove_56 : decode cX11_prove 56 = .ok (.aload_n 0, 1) := by decide +kernel
theorem dX11_prove_57 : decode cX11_prove 57 = .ok (.getfield 19, 3) := by decide +kernel
theorem dX11_prove_60 : decode cX11_prove 60 = .ok (.invokevirtual 270, 3) := by decide +kernel
theorem dX11_prove_63 : decode cX11_prove 63 = .ok (.iastore, 1) := by decide +kernel
theorem dX11_prove_64 : decode cX11_prove 64 = .ok (.iinc 2 1, 3) := by decide +kernel
theorem dX11_prove_67 : decode cX11_prove 67 = .ok (.goto (-41), 3) := by decide +kernel
theorem dX11_prove_70 : decode cX11_prove 70 = .ok (.aload_n 0, 1) := by decide +kernel
theorem dX11_prove_71 : decode cX11_prove 71 = .ok (.iload_n 1, 1) := by decide +kernel
theorem dX11_prove_72 : decode cX11_prove 72 = .ok (.putfield 83, 3) := by decide +kernel
theorem dX11_prove_75 : decode cX11_prove 75 = .ok (.iload_n 1, 1) := by decide +kernel
theorem dX11_prove_76 : decode cX11_prove 76 = .ok (.ireturn, 1) := by decide +kernel
theorem dX11_row_0 : decode cX11_row 0 = .ok (.iload_n 1, 1) := by decide +kernel
theorem dX11_row_1 : decode cX11_row 1 = .ok (.aload_n 0, 1) := by decide +kernel
theorem dX11_row_2 : decode cX11_row 2 = .ok (.getfield 83, 3) := by decide +kernel
theorem dX11_row_5 : decode cX11_row 5 = .ok (.invokestatic 94, 3) := by decide +kernel
theorem dX11_row_8 : decode cX11_row 8 = .ok (.ifCond .eq 11, 3) := by decide +kernel
theorem dX11_row_11 : decode cX11_row 11 = .ok (.iload_n 2, 1) := by decide +kernel
theorem dX11_row_12 : decode cX11_row 12 = .ok (.iconst 1, 1) := by decide +kernel
theorem dX11_row_13 : decode cX11_row 13 = .ok (.invokestatic 98, 3) := by decide +kernel
theorem dX11_row_16 : decode cX11_row 16 = .ok (.ifCond .ne 6, 3) := by decide +kernel
theorem dX11_row_19 : decode cX11_row 19 = .ok (.bipush (-9), 2) := by decide +kernel
theorem dX11_row_21 : decode cX11_row 21 = .ok (.ireturn, 1) := by decide +kernel
theorem dX11_row_22 : decode cX11_row 22 = .ok (.iload_n 2, 1) := by decide +kernel
theorem dX11_row_23 : decode cX11_row 23 = .ok (.ifCond .ne 12, 3) := by decide +kernel
theorem dX11_row_26 : decode cX11_row 26 = .ok (.aload_n 0, 1) := by decide +kernel
theorem dX11_row_27 : decode cX11_row 27 = .ok (.getfield 36, 3) := by decide +kernel
theorem dX11_row_30 : decode cX11_row 30 = .ok (.iload_n 1, 1) := by decide +kernel
theorem dX11_row_31 : decode cX11_row 31 = .ok (.iaload, 1) := by decide +kernel
theorem dX11_row_32 : decode cX11_row 32 = .ok (.goto 9, 3) := by decide +kernel
theorem dX11_row_35 : decode cX11_row 35 = .ok (.aload_n 0, 1) := by decide +kernel
theorem dX11_row_36 : decode cX11_row 36 = .ok (.getfield 40, 3) := by decide +kernel
theorem dX11_row_39 : decode cX11_row 39 = .ok (.iload_n 1, 1) := by decide +kernel
theorem dX11_row_40 : decode cX11_row 40 = .ok (.iaload, 1) := by decide +kernel
theorem dX11_row_41 : decode cX11_row 41 = .ok (.ireturn, 1) := by decide +kernel
theorem dX11_alterRow_0 : decode cX11_alterRow 0 = .ok (.iload_n 1, 1) := by decide +kernel
theorem dX11_alterRow_1 : decode cX11_alterRow 1 = .ok (.aload_n 0, 1) := by decide +kernel
theorem dX11_alterRow_2 : decode cX11_alterRow 2 = .ok (.getfield 83, 3) := by decide +kernel
theorem dX11_alterRow_5 : decode cX11_alterRow 5 = .ok (.invokestatic 94, 3) := by decide +kernel
theorem dX11_alterRow_8 : decode cX11_alterRow 8 = .ok (.ifCond .eq 11, 3) := by decide +kernel
theorem dX11_alterRow_11 : decode cX11_alterRow 11 = .ok (.iload_n 2, 1) := by decide +kernel
theorem dX11_alterRow_12 : decode cX11_alterRow 12 = .ok (.iconst 1, 1) := by decide +kernel
theorem dX11_alterRow_13 : decode cX11_alterRow 13 = .ok (.invokestatic 98, 3) := by decide +kernel
theorem dX11_alterRow_16 : decode cX11_alterRow 16 = .ok (.ifCond .ne 6, 3) := by decide +kernel
theorem dX11_alterRow_19 : decode cX11_alterRow 19 = .ok (.bipush (-9), 2) := by decide +kernel
theorem dX11_alterRow_21 : decode cX11_alterRow 21 = .ok (.ireturn, 1) := by decide +kernel
theorem dX11_alterRow_22 : decode cX11_alterRow 22 = .ok (.iload_n 2, 1) := by decide +kernel
theorem dX11_alterRow_23 : decode cX11_alterRow 23 = .ok (.ifCond .ne 10, 3) := by decide +kernel
theorem dX11_alterRow_26 : decode cX11_alterRow 26 = .ok (.aload_n 0, 1) := by decide +kernel
theorem dX11_alterRow_27 : decode cX11_alterRow 27 = .ok (.getfield 36, 3) := by decide +kernel
theorem dX11_alterRow_30 : decode cX11_alterRow 30 = .ok (.goto 7, 3) := by decide +kernel
theorem dX11_alterRow_33 : decode cX11_alterRow 33 = .ok (.aload_n 0, 1) := by decide +kernel
theorem dX11_alterRow_34 : decode cX11_alterRow 34 = .ok (.getfield 40, 3) := by decide +kernel
theorem dX11_alterRow_37 : decode cX11_alterRow 37 = .ok (.astore 4, 2) := by decide +kernel
theorem dX11_alterRow_39 : decode cX11_alterRow 39 = .ok (.aload 4, 2) := by decide +kernel
theorem dX11_alterRow_41 : decode cX11_alterRow 41 = .ok (.iload_n 1, 1) := by decide +kernel
theorem dX11_alterRow_42 : decode cX11_alterRow 42 = .ok (.iaload, 1) := by decide +kernel
theorem dX11_alterRow_43 : decode cX11_alterRow 43 = .ok (.istore 5, 2) := by decide +kernel
theorem dX11_alterRow_45 : decode cX11_alterRow 45 = .ok (.aload 4, 2) := by decide +kernel
theorem dX11_alterRow_47 : decode cX11_alterRow 47 = .ok (.iload_n 1, 1) := by decide +kernel
theorem dX11_alterRow_48 : decode cX11_alterRow 48 = .ok (.iload_n 3, 1) := by decide +kernel
theorem dX11_alterRow_49 : decode cX11_alterRow 49 = .ok (.iastore, 1) := by decide +kernel
theorem dX11_alterRow_50 : decode cX11_alterRow 50 = .ok (.iload 5, 2) := by decide +kernel
theorem dX11_alterRow_52 : decode cX11_alterRow 52 = .ok (.ireturn, 1) := by decide +kernel
theorem dX11_judge_0 : decode cX11_judge 0 = .ok (.aload_n 0, 1) := by decide +kernel
theorem dX11_judge_1 : decode cX11_judge 1 = .ok (.getfield 19, 3) := by decide +kernel
theorem dX11_judge_4 : decode cX11_judge 4 = .ok (.aload_n 0, 1) := by decide +kernel
theorem dX11_judge_5 : decode cX11_judge 5 = .ok (.getfield 12, 3) := by decide +kernel
theorem dX11_judge_8 : decode cX11_judge 8 = .ok (.invokevirtual 72, 3) := by decide +kernel
theorem dX11_judge_11 : decode cX11_judge 11 = .ok (.iconst 0, 1) := by decide +kernel
theorem dX11_judge_12 : decode cX11_judge 12 = .ok (.istore_n 1, 1) := by decide +kernel
theorem dX11_judge_13 : decode cX11_judge 13 = .ok (.iload_n 1, 1) := by decide +kernel
theorem dX11_judge_14 : decode cX11_judge 14 = .ok (.aload_n 0, 1) := by decide +kernel
theorem dX11_judge_15 : decode cX11_judge 15 = .ok (.getfield 83, 3) := by decide +kernel
theorem dX11_judge_18 : decode cX11_judge 18 = .ok (.if_icmp .ge 52, 3) := by decide +kernel
theorem dX11_judge_21 : decode cX11_judge 21 = .ok (.aload_n 0, 1) := by decide +kernel
theorem dX11_judge_22 : decode cX11_judge 22 = .ok (.getfield 19, 3) := by decide +kernel
theorem dX11_judge_25 : decode cX11_judge 25 = .ok (.invokevirtual 187, 3) := by decide +kernel
theorem dX11_judge_28 : decode cX11_judge 28 = .ok (.aload_n 0, 1) := by decide +kernel
theorem dX11_judge_29 : decode cX11_judge 29 = .ok (.getfield 36, 3) := by decide +kernel
theorem dX11_judge_32 : decode cX11_judge 32 = .ok (.iload_n 1, 1) := by decide +kernel
theorem dX11_judge_33 : decode cX11_judge 33 = .ok (.iaload, 1) := by decide +kernel
theorem dX11_judge_34 : decode cX11_judge 34 = .ok (.aload_n 0, 1) := by decide +kernel
theorem dX11_judge_35 : decode cX11_judge 35 = .ok (.getfield 19, 3) := by decide +kernel
theorem dX11_judge_38 : decode cX11_judge 38 = .ok (.getfield 190, 3) := by decide +kernel
theorem dX11_judge_41 : decode cX11_judge 41 = .ok (.if_icmp .ne 19, 3) := by decide +kernel
theorem dX11_judge_44 : decode cX11_judge 44 = .ok (.aload_n 0, 1) := by decide +kernel
theorem dX11_judge_45 : decode cX11_judge 45 = .ok (.getfield 40, 3) := by decide +kernel
theorem dX11_judge_48 : decode cX11_judge 48 = .ok (.iload_n 1, 1) := by decide +kernel
theorem dX11_judge_49 : decode cX11_judge 49 = .ok (.iaload, 1) := by decide +kernel
theorem dX11_judge_50 : decode cX11_judge 50 = .ok (.aload_n 0, 1) := by decide +kernel
theorem dX11_judge_51 : decode cX11_judge 51 = .ok (.getfield 19, 3) := by decide +kernel
theorem dX11_judge_54 : decode cX11_judge 54 = .ok (.invokevirtual 270, 3) := by decide +kernel
theorem dX11_judge_57 : decode cX11_judge 57 = .ok (.if_icmp .eq 7, 3) := by decide +kernel
theorem dX11_judge_60 : decode cX11_judge 60 = .ok (.iload_n 1, 1) := by decide +kernel
theorem dX11_judge_61 : decode cX11_judge 61 = .ok (.iconst 1, 1) := by decide +kernel
theorem dX11_judge_62 : decode cX11_judge 62 = .ok (.iadd, 1) := by decide +kernel
theorem dX11_judge_63 : decode cX11_judge 63 = .ok (.ireturn, 1) := by decide +kernel
theorem dX11_judge_64 : decode cX11_judge 64 = .ok (.iinc 1 1, 3) := by decide +kernel
theorem dX11_judge_67 : decode cX11_judge 67 = .ok (.goto (-54), 3) := by decide +kernel
theorem dX11_judge_70 : decode cX11_judge 70 = .ok (.iconst 0, 1) := by decide +kernel
theorem dX11_judge_71 : decode cX11_judge 71 = .ok (.ireturn, 1) := by decide +kernel
theorem dX11_lays_0 : decode cX11_lays 0 = .ok (.iload_n 1, 1) := by decide +kernel
theorem dX11_lays_1 : decode cX11_lays 1 = .ok (.iconst 4, 1) := by decide +kernel
theorem dX11_lays_2 : decode cX11_lays 2 = .ok (.invokestatic 94, 3) := by decide +kernel
theorem dX11_lays_5 : decode cX11_lays 5 = .ok (.ifCond .ne 5, 3) := by decide +kernel
theorem dX11_lays_8 : decode cX11_lays 8 = .ok (.iconst (-1), 1) := by decide +kernel
theorem dX11_lays_9 : decode cX11_lays 9 = .ok (.ireturn, 1) := by decide +kernel
theorem dX11_lays_10 : decode cX11_lays 10 = .ok (.aload_n 0, 1) := by decide +kernel
theorem dX11_lays_11 : decode cX11_lays 11 = .ok (.getfield 45, 3) := by decide +kernel
theorem dX11_lays_14 : decode cX11_lays 14 = .ok (.iload_n 1, 1) := by decide +kernel
theorem dX11_lays_15 : decode cX11_lays 15 = .ok (.aaload, 1) := by decide +kernel
theorem dX11_lays_16 : decode cX11_lays 16 = .ok (.astore_n 2, 1) := by decide +kernel
theorem dX11_lays_17 : decode cX11_lays 17 = .ok (.aload_n 2, 1) := by decide +kernel
theorem dX11_lays_18 : decode cX11_lays 18 = .ok (.ifnonnull 6, 3) := by decide +kernel
theorem dX11_lays_21 : decode cX11_lays 21 = .ok (.bipush (-11), 2) := by decide +kernel
theorem dX11_lays_23 : decode cX11_lays 23 = .ok (.ireturn, 1) := by decide +kernel
theorem dX11_lays_24 : decode cX11_lays 24 = .ok (.aload_n 2, 1) := by decide +kernel
theorem dX11_lays_25 : decode cX11_lays 25 = .ok (.getfield 273, 3) := by decide +kernel
theorem dX11_lays_28 : decode cX11_lays 28 = .ok (.iconst 2, 1) := by decide +kernel
theorem dX11_lays_29 : decode cX11_lays 29 = .ok (.if_icmp .eq 6, 3) := by decide +kernel
theorem dX11_lays_32 : decode cX11_lays 32 = .ok (.bipush (-13), 2) := by decide +kernel
theorem dX11_lays_34 : decode cX11_lays 34 = .ok (.ireturn, 1) := by decide +kernel
theorem dX11_lays_35 : decode cX11_lays 35 = .ok (.aload_n 2, 1) := by decide +kernel
theorem dX11_lays_36 : decode cX11_lays 36 = .ok (.getfield 276, 3) := by decide +kernel
theorem dX11_lays_39 : decode cX11_lays 39 = .ok (.arraylength, 1) := by decide +kernel
theorem dX11_lays_40 : decode cX11_lays 40 = .ok (.aload_n 0, 1) := by decide +kernel
theorem dX11_lays_41 : decode cX11_lays 41 = .ok (.getfield 12, 3) := by decide +kernel
theorem dX11_lays_44 : decode cX11_lays 44 = .ok (.getfield 87, 3) := by decide +kernel
theorem dX11_lays_47 : decode cX11_lays 47 = .ok (.invokestatic 280, 3) := by decide +kernel
theorem dX11_lays_50 : decode cX11_lays 50 = .ok (.istore_n 3, 1) := by decide +kernel
theorem dX11_lays_51 : decode cX11_lays 51 = .ok (.iconst 0, 1) := by decide +kernel
theorem dX11_lays_52 : decode cX11_lays 52 = .ok (.istore 4, 2) := by decide +kernel
theorem dX11_lays_54 : decode cX11_lays 54 = .ok (.iload 4, 2) := by decide +kernel
theorem dX11_lays_56 : decode cX11_lays 56 = .ok (.iload_n 3, 1) := by decide +kernel
theorem dX11_lays_57 : decode cX11_lays 57 = .ok (.if_icmp .ge 37, 3) := by decide +kernel
theorem dX11_lays_60 : decode cX11_lays 60 = .ok (.aload_n 0, 1) := by decide +kernel
theorem dX11_lays_61 : decode cX11_lays 61 = .ok (.getfield 12, 3) := by decide +kernel
theorem dX11_lays_64 : decode cX11_lays 64 = .ok (.getfield 117, 3) := by decide +kernel
theorem dX11_lays_67 : decode cX11_lays 67 = .ok (.iload 4, 2) := by decide +kernel
theorem dX11_lays_69 : decode cX11_lays 69 = .ok (.lconst 0, 1) := by decide +kernel
theorem dX11_lays_70 : decode cX11_lays 70 = .ok (.ldc2_w 285, 3) := by decide +kernel
theorem dX11_lays_73 : decode cX11_lays 73 = .ok (.aload_n 2, 1) := by decide +kernel
theorem dX11_lays_74 : decode cX11_lays 74 = .ok (.getfield 276, 3) := by decide +kernel
theorem dX11_lays_77 : decode cX11_lays 77 = .ok (.iload 4, 2) := by decide +kernel
theorem dX11_lays_79 : decode cX11_lays 79 = .ok (.laload, 1) := by decide +kernel
theorem dX11_lays_80 : decode cX11_lays 80 = .ok (.invokestatic 287, 3) := by decide +kernel
theorem dX11_lays_83 : decode cX11_lays 83 = .ok (.invokestatic 290, 3) := by decide +kernel
theorem dX11_lays_86 : decode cX11_lays 86 = .ok (.l2i, 1) := by decide +kernel
theorem dX11_lays_87 : decode cX11_lays 87 = .ok (.iastore, 1) := by decide +kernel
theorem dX11_lays_88 : decode cX11_lays 88 = .ok (.iinc 4 1, 3) := by decide +kernel
theorem dX11_lays_91 : decode cX11_lays 91 = .ok (.goto (-37), 3) := by decide +kernel
theorem dX11_lays_94 : decode cX11_lays 94 = .ok (.iload_n 3, 1) := by decide +kernel
theorem dX11_lays_95 : decode cX11_lays 95 = .ok (.ireturn, 1) := by decide +kernel
theorem dX11_sheet_0 : decode cX11_sheet 0 = .ok (.iload_n 2, 1) := by decide +kernel
theorem dX11_sheet_1 : decode cX11_sheet 1 = .ok (.iconst (-1), 1) := by decide +kernel
theorem dX11_sheet_2 : decode cX11_sheet 2 = .ok (.if_icmp .ne 7, 3) := by decide +kernel
theorem dX11_sheet_5 : decode cX11_sheet 5 = .ok (.iconst 1, 1) := by decide +kernel
theorem dX11_sheet_6 : decode cX11_sheet 6 = .ok (.goto 4, 3) := by decide +kernel
theorem dX11_sheet_9 : decode cX11_sheet 9 = .ok (.iconst 0, 1) := by decide +kernel
theorem dX11_sheet_10 : decode cX11_sheet 10 = .ok (.istore 4, 2) := by decide +kernel
theorem dX11_sheet_12 : decode cX11_sheet 12 = .ok (.iload_n 1, 1) := by decide +kernel
theorem dX11_sheet_13 : decode cX11_sheet 13 = .ok (.iconst 4, 1) := by decide +kernel
theorem dX11_sheet_14 : decode cX11_sheet 14 = .ok (.invokestatic 94, 3) := by decide +kernel
theorem dX11_sheet_17 : decode cX11_sheet 17 = .ok (.ifCond .eq 22, 3) := by decide +kernel
theorem dX11_sheet_20 : decode cX11_sheet 20 = .ok (.iload 4, 2) := by decide +kernel
theorem dX11_sheet_22 : decode cX11_sheet 22 = .ok (.ifCond .ne 19, 3) := by decide +kernel
theorem dX11_sheet_25 : decode cX11_sheet 25 = .ok (.iload_n 2, 1) := by decide +kernel
theorem dX11_sheet_26 : decode cX11_sheet 26 = .ok (.iconst 4, 1) := by decide +kernel
theorem dX11_sheet_27 : decode cX11_sheet 27 = .ok (.invokestatic 94, 3) := by decide +kernel
theorem dX11_sheet_30 : decode cX11_sheet 30 = .ok (.ifCond .eq 9, 3) := by decide +kernel
theorem dX11_sheet_33 : decode cX11_sheet 33 = .ok (.iload_n 3, 1) := by decide +kernel
theorem dX11_sheet_34 : decode cX11_sheet 34 = .ok (.bipush 40, 2) := by decide +kernel
theorem dX11_sheet_36 : decode cX11_sheet 36 = .ok (.if_icmp .le 5, 3) := by decide +kernel
theorem dX11_sheet_39 : decode cX11_sheet 39 = .ok (.iconst (-1), 1) := by decide +kernel
theorem dX11_sheet_40 : decode cX11_sheet 40 = .ok (.ireturn, 1) := by decide +kernel
theorem dX11_sheet_41 : decode cX11_sheet 41 = .ok (.iload 4, 2) := by decide +kernel
theorem dX11_sheet_43 : decode cX11_sheet 43 = .ok (.ifCond .ne 10, 3) := by decide +kernel
theorem dX11_sheet_46 : decode cX11_sheet 46 = .ok (.iload_n 3, 1) := by decide +kernel
theorem dX11_sheet_47 : decode cX11_sheet 47 = .ok (.ifCond .ge 6, 3) := by decide +kernel
theorem dX11_sheet_50 : decode cX11_sheet 50 = .ok (.bipush (-14), 2) := by decide +kernel
theorem dX11_sheet_52 : decode cX11_sheet 52 = .ok (.ireturn, 1) := by decide +kernel
theorem dX11_sheet_53 : decode cX11_sheet 53 = .ok (.aload_n 0, 1) := by decide +kernel
theorem dX11_sheet_54 : decode cX11_sheet 54 = .ok (.getfield 45, 3) := by decide +kernel
theorem dX11_sheet_57 : decode cX11_sheet 57 = .ok (.iload_n 1, 1) := by decide +kernel
theorem dX11_sheet_58 : decode cX11_sheet 58 = .ok (.iload 4, 2) := by decide +kernel
theorem dX11_sheet_60 : decode cX11_sheet 60 = .ok (.ifCond .eq 7, 3) := by decide +kernel
theorem dX11_sheet_63 : decode cX11_sheet 63 = .ok (.aconst_null, 1) := by decide +kernel
theorem dX11_sheet_64 : decode cX11_sheet 64 = .ok (.goto 12, 3) := by decide +kernel
theorem dX11_sheet_67 : decode cX11_sheet 67 = .ok (.new 43, 3) := by decide +kernel
theorem dX11_sheet_70 : decode cX11_sheet 70 = .ok (.dup, 1) := by decide +kernel
theorem dX11_sheet_71 : decode cX11_sheet 71 = .ok (.iload_n 2, 1) := by decide +kernel
theorem dX11_sheet_72 : decode cX11_sheet 72 = .ok (.iload_n 3, 1) := by decide +kernel
theorem dX11_sheet_73 : decode cX11_sheet 73 = .ok (.invokespecial 293, 3) := by decide +kernel
theorem dX11_sheet_76 : decode cX11_sheet 76 = .ok (.aastore, 1) := by decide +kernel
theorem dX11_sheet_77 : decode cX11_sheet 77 = .ok (.iconst 1, 1) := by decide +kernel
theorem dX11_sheet_78 : decode cX11_sheet 78 = .ok (.ireturn, 1) := by decide +kernel
theorem dX11_write_0 : decode cX11_write 0 = .ok (.iload_n 1, 1) := by decide +kernel
theorem dX11_write_1 : decode cX11_write 1 = .ok (.iconst 4, 1) := by decide +kernel
theorem dX11_write_2 : decode cX11_write 2 = .ok (.invokestatic 94, 3) := by decide +kernel
theorem dX11_write_5 : decode cX11_write 5 = .ok (.ifCond .ne 5, 3) := by decide +kernel
theorem dX11_write_8 : decode cX11_write 8 = .ok (.iconst (-1), 1) := by decide +kernel
theorem dX11_write_9 : decode cX11_write 9 = .ok (.ireturn, 1) := by decide +kernel
theorem dX11_write_10 : decode cX11_write 10 = .ok (.aload_n 0, 1) := by decide +kernel
theorem dX11_write_11 : decode cX11_write 11 = .ok (.getfield 45, 3) := by decide +kernel
theorem dX11_write_14 : decode cX11_write 14 = .ok (.iload_n 1, 1) := by decide +kernel
theorem dX11_write_15 : decode cX11_write 15 = .ok (.aaload, 1) := by decide +kernel
theorem dX11_write_16 : decode cX11_write 16 = .ok (.astore 4, 2) := by decide +kernel
theorem dX11_write_18 : decode cX11_write 18 = .ok (.aload 4, 2) := by decide +kernel
theorem dX11_write_20 : decode cX11_write 20 = .ok (.ifnonnull 6, 3) := by decide +kernel
theorem dX11_write_23 : decode cX11_write 23 = .ok (.bipush (-11), 2) := by decide +kernel
theorem dX11_write_25 : decode cX11_write 25 = .ok (.ireturn, 1) := by decide +kernel
theorem dX11_write_26 : decode cX11_write 26 = .ok (.iload_n 2, 1) := by decide +kernel
theorem dX11_write_27 : decode cX11_write 27 = .ok (.aload 4, 2) := by decide +kernel
theorem dX11_write_29 : decode cX11_write 29 = .ok (.getfield 276, 3) := by decide +kernel
theorem dX11_write_32 : decode cX11_write 32 = .ok (.arraylength, 1) := by decide +kernel
theorem dX11_write_33 : decode cX11_write 33 = .ok (.invokestatic 94, 3) := by decide +kernel
theorem dX11_write_36 : decode cX11_write 36 = .ok (.ifCond .ne 6, 3) := by decide +kernel
theorem dX11_write_39 : decode cX11_write 39 = .ok (.bipush (-12), 2) := by decide +kernel
theorem dX11_write_41 : decode cX11_write 41 = .ok (.ireturn, 1) := by decide +kernel
theorem dX11_write_42 : decode cX11_write 42 = .ok (.aload 4, 2) := by decide +kernel
theorem dX11_write_44 : decode cX11_write 44 = .ok (.getfield 276, 3) := by decide +kernel
theorem dX11_write_47 : decode cX11_write 47 = .ok (.iload_n 2, 1) := by decide +kernel
theorem dX11_write_48 : decode cX11_write 48 = .ok (.aload 4, 2) := by decide +kernel
theorem dX11_write_50 : decode cX11_write 50 = .ok (.iload_n 3, 1) := by decide +kernel
theorem dX11_write_51 : decode cX11_write 51 = .ok (.invokevirtual 295, 3) := by decide +kernel
theorem dX11_write_54 : decode cX11_write 54 = .ok (.lastore, 1) := by decide +kernel
theorem dX11_write_55 : decode cX11_write 55 = .ok (.iconst 1, 1) := by decide +kernel
theorem dX11_write_56 : decode cX11_write 56 = .ok (.ireturn, 1) := by decide +kernel
theorem dX11_item_0 : decode cX11_item 0 = .ok (.iload_n 1, 1) := by decide +kernel
theorem dX11_item_1 : decode cX11_item 1 = .ok (.iconst 4, 1) := by decide +kernel
theorem dX11_item_2 : decode cX11_item 2 = .ok (.invokestatic 94, 3) := by decide +kernel
theorem dX11_item_5 : decode cX11_item 5 = .ok (.ifCond .eq 11, 3) := by decide +kernel
theorem dX11_item_8 : decode cX11_item 8 = .ok (.iload_n 2, 1) := by decide +kernel
theorem dX11_item_9 : decode cX11_item 9 = .ok (.iconst 4, 1) := by decide +kernel
theorem dX11_item_10 : decode cX11_item 10 = .ok (.invokestatic 94, 3) := by decide +kernel
theorem dX11_item_13 : decode cX11_item 13 = .ok (.ifCond .ne 5, 3) := by decide +kernel
theorem dX11_item_16 : decode cX11_item 16 = .ok (.iconst (-1), 1) := by decide +kernel
theorem dX11_item_17 : decode cX11_item 17 = .ok (.ireturn, 1) := by decide +kernel
theorem dX11_item_18 : decode cX11_item 18 = .ok (.aload_n 0, 1) := by decide +kernel
theorem dX11_item_19 : decode cX11_item 19 = .ok (.getfield 45, 3) := by decide +kernel
theorem dX11_item_22 : decode cX11_item 22 = .ok (.iload_n 1, 1) := by decide +kernel
theorem dX11_item_23 : decode cX11_item 23 = .ok (.aaload, 1) := by decide +kernel
theorem dX11_item_24 : decode cX11_item 24 = .ok (.astore 4, 2) := by decide +kernel
theorem dX11_item_26 : decode cX11_item 26 = .ok (.aload 4, 2) := by decide +kernel
theorem dX11_item_28 : decode cX11_item 28 = .ok (.ifnonnull 6, 3) := by decide +kernel
theorem dX11_item_31 : decode cX11_item 31 = .ok (.bipush (-11), 2) := by decide +kernel
theorem dX11_item_33 : decode cX11_item 33 = .ok (.ireturn, 1) := by decide +kernel
theorem dX11_item_34 : decode cX11_item 34 = .ok (.aload 4, 2) := by decide +kernel
theorem dX11_item_36 : decode cX11_item 36 = .ok (.getfield 273, 3) := by decide +kernel
theorem dX11_item_39 : decode cX11_item 39 = .ok (.iload_n 2, 1) := by decide +kernel
theorem dX11_item_40 : decode cX11_item 40 = .ok (.if_icmp .eq 6, 3) := by decide +kernel
theorem dX11_item_43 : decode cX11_item 43 = .ok (.bipush (-13), 2) := by decide +kernel
theorem dX11_item_45 : decode cX11_item 45 = .ok (.ireturn, 1) := by decide +kernel
theorem dX11_item_46 : decode cX11_item 46 = .ok (.iload_n 3, 1) := by decide +kernel
theorem dX11_item_47 : decode cX11_item 47 = .ok (.aload 4, 2) := by decide +kernel
theorem dX11_item_49 : decode cX11_item 49 = .ok (.getfield 276, 3) := by decide +kernel
theorem dX11_item_52 : decode cX11_item 52 = .ok (.arraylength, 1) := by decide +kernel
theorem dX11_item_53 : decode cX11_item 53 = .ok (.invokestatic 94, 3) := by decide +kernel
theorem dX11_item_56 : decode cX11_item 56 = .ok (.ifCond .ne 6, 3) := by decide +kernel
theorem dX11_item_59 : decode cX11_item 59 = .ok (.bipush (-12), 2) := by decide +kernel
theorem dX11_item_61 : decode cX11_item 61 = .ok (.ireturn, 1) := by decide +kernel
theorem dX11_item_62 : decode cX11_item 62 = .ok (.aload 4, 2) := by decide +kernel
theorem dX11_item_64 : decode cX11_item 64 = .ok (.getfield 276, 3) := by decide +kernel
theorem dX11_item_67 : decode cX11_item 67 = .ok (.iload_n 3, 1) := by decide +kernel
theorem dX11_item_68 : decode cX11_item 68 = .ok (.laload, 1) := by decide +kernel
theorem dX11_item_69 : decode cX11_item 69 = .ok (.l2i, 1) := by decide +kernel
theorem dX11_item_70 : decode cX11_item 70 = .ok (.ireturn, 1) := by decide +kernel
theorem dX11_shelf_0 : decode cX11_shelf 0 = .ok (.iload_n 1, 1) := by decide +kernel
theorem dX11_shelf_1 : decode cX11_shelf 1 = .ok (.iconst 4, 1) := by decide +kernel
theorem dX11_shelf_2 : decode cX11_shelf 2 = .ok (.invokestatic 94, 3) := by decide +kernel
theorem dX11_shelf_5 : decode cX11_shelf 5 = .ok (.ifCond .eq 11, 3) := by decide +kernel
theorem dX11_shelf_8 : decode cX11_shelf 8 = .ok (.iload_n 2, 1) := by decide +kernel
theorem dX11_shelf_9 : decode cX11_shelf 9 = .ok (.iconst 2, 1) := by decide +kernel
theorem dX11_shelf_10 : decode cX11_shelf 10 = .ok (.invokestatic 98, 3) := by decide +kernel
theorem dX11_shelf_13 : decode cX11_shelf 13 = .ok (.ifCond .ne 5, 3) := by decide +kernel
theorem dX11_shelf_16 : decode cX11_shelf 16 = .ok (.iconst (-1), 1) := by decide +kernel
theorem dX11_shelf_17 : decode cX11_shelf 17 = .ok (.ireturn, 1) := by decide +kernel
theorem dX11_shelf_18 : decode cX11_shelf 18 = .ok (.iload_n 2, 1) := by decide +kernel
theorem dX11_shelf_19 : decode cX11_shelf 19 = .ok (.ifCond .ne 14, 3) := by decide +kernel
theorem dX11_shelf_22 : decode cX11_shelf 22 = .ok (.aload_n 0, 1) := by decide +kernel
theorem dX11_shelf_23 : decode cX11_shelf 23 = .ok (.getfield 12, 3) := by decide +kernel
theorem dX11_shelf_26 : decode cX11_shelf 26 = .ok (.iload_n 3, 1) := by decide +kernel
theorem dX11_shelf_27 : decode cX11_shelf 27 = .ok (.invokevirtual 105, 3) := by decide +kernel
theorem dX11_shelf_30 : decode cX11_shelf 30 = .ok (.ifCond .eq 16, 3) := by decide +kernel
theorem dX11_shelf_33 : decode cX11_shelf 33 = .ok (.iload_n 2, 1) := by decide +kernel
theorem dX11_shelf_34 : decode cX11_shelf 34 = .ok (.iconst 1, 1) := by decide +kernel
theorem dX11_shelf_35 : decode cX11_shelf 35 = .ok (.if_icmp .ne 13, 3) := by decide +kernel
theorem dX11_shelf_38 : decode cX11_shelf 38 = .ok (.iload_n 3, 1) := by decide +kernel
theorem dX11_shelf_39 : decode cX11_shelf 39 = .ok (.iconst 4, 1) := by decide +kernel
theorem dX11_shelf_40 : decode cX11_shelf 40 = .ok (.invokestatic 94, 3) := by decide +kernel
theorem dX11_shelf_43 : decode cX11_shelf 43 = .ok (.ifCond .ne 5, 3) := by decide +kernel
theorem dX11_shelf_46 : decode cX11_shelf 46 = .ok (.iconst (-1), 1) := by decide +kernel
theorem dX11_shelf_47 : decode cX11_shelf 47 = .ok (.ireturn, 1) := by decide +kernel
theorem dX11_shelf_48 : decode cX11_shelf 48 = .ok (.aload_n 0, 1) := by decide +kernel
theorem dX11_shelf_49 : decode cX11_shelf 49 = .ok (.getfield 49, 3) := by decide +kernel
theorem dX11_shelf_52 : decode cX11_shelf 52 = .ok (.iload_n 1, 1) := by decide +kernel
theorem dX11_shelf_53 : decode cX11_shelf 53 = .ok (.iload_n 2, 1) := by decide +kernel
theorem dX11_shelf_54 : decode cX11_shelf 54 = .ok (.ifCond .ne 7, 3) := by decide +kernel
theorem dX11_shelf_57 : decode cX11_shelf 57 = .ok (.iload_n 3, 1) := by decide +kernel
theorem dX11_shelf_58 : decode cX11_shelf 58 = .ok (.goto 5, 3) := by decide +kernel
theorem dX11_shelf_61 : decode cX11_shelf 61 = .ok (.bipush (-9), 2) := by decide +kernel
theorem dX11_shelf_63 : decode cX11_shelf 63 = .ok (.iastore, 1) := by decide +kernel
theorem dX11_shelf_64 : decode cX11_shelf 64 = .ok (.aload_n 0, 1) := by decide +kernel
theorem dX11_shelf_65 : decode cX11_shelf 65 = .ok (.getfield 52, 3) := by decide +kernel
theorem dX11_shelf_68 : decode cX11_shelf 68 = .ok (.iload_n 1, 1) := by decide +kernel
theorem dX11_shelf_69 : decode cX11_shelf 69 = .ok (.iload_n 2, 1) := by decide +kernel
theorem dX11_shelf_70 : decode cX11_shelf 70 = .ok (.iconst 1, 1) := by decide +kernel
theorem dX11_shelf_71 : decode cX11_shelf 71 = .ok (.if_icmp .ne 12, 3) := by decide +kernel
theorem dX11_shelf_74 : decode cX11_shelf 74 = .ok (.aload_n 0, 1) := by decide +kernel
theorem dX11_shelf_75 : decode cX11_shelf 75 = .ok (.getfield 45, 3) := by decide +kernel
theorem dX11_shelf_78 : decode cX11_shelf 78 = .ok (.iload_n 3, 1) := by decide +kernel
theorem dX11_shelf_79 : decode cX11_shelf 79 = .ok (.aaload, 1) := by decide +kernel
theorem dX11_shelf_80 : decode cX11_shelf 80 = .ok (.goto 4, 3) := by decide +kernel
theorem dX11_shelf_83 : decode cX11_shelf 83 = .ok (.aconst_null, 1) := by decide +kernel
theorem dX11_shelf_84 : decode cX11_shelf 84 = .ok (.aastore, 1) := by decide +kernel
theorem dX11_shelf_85 : decode cX11_shelf 85 = .ok (.iconst 1, 1) := by decide +kernel
theorem dX11_shelf_86 : decode cX11_shelf 86 = .ok (.ireturn, 1) := by decide +kernel
theorem dX11_taken_0 : decode cX11_taken 0 = .ok (.iload_n 2, 1) := by decide +kernel
theorem dX11_taken_1 : decode cX11_taken 1 = .ok (.bipush 6, 2) := by decide +kernel
theorem dX11_taken_3 : decode cX11_taken 3 = .ok (.invokestatic 94, 3) := by decide +kernel
theorem dX11_taken_6 : decode cX11_taken 6 = .ok (.istore_n 3, 1) := by decide +kernel
theorem dX11_taken_7 : decode cX11_taken 7 = .ok (.iload_n 1, 1) := by decide +kernel
theorem dX11_taken_8 : decode cX11_taken 8 = .ok (.iconst 4, 1) := by decide +kernel
theorem dX11_taken_9 : decode cX11_taken 9 = .ok (.invokestatic 94, 3) := by decide +kernel
theorem dX11_taken_12 : decode cX11_taken 12 = .ok (.ifCond .eq 18, 3) := by decide +kernel
theorem dX11_taken_15 : decode cX11_taken 15 = .ok (.iload_n 3, 1) := by decide +kernel
theorem dX11_taken_16 : decode cX11_taken 16 = .ok (.ifCond .ne 16, 3) := by decide +kernel
theorem dX11_taken_19 : decode cX11_taken 19 = .ok (.iload_n 2, 1) := by decide +kernel
theorem dX11_taken_20 : decode cX11_taken 20 = .ok (.bipush 10, 2) := by decide +kernel
theorem dX11_taken_22 : decode cX11_taken 22 = .ok (.isub, 1) := by decide +kernel
theorem dX11_taken_23 : decode cX11_taken 23 = .ok (.iconst 4, 1) := by decide +kernel
theorem dX11_taken_24 : decode cX11_taken 24 = .ok (.invokestatic 94, 3) := by decide +kernel
theorem dX11_taken_27 : decode cX11_taken 27 = .ok (.ifCond .ne 5, 3) := by decide +kernel
theorem dX11_taken_30 : decode cX11_taken 30 = .ok (.iconst (-1), 1) := by decide +kernel
theorem dX11_taken_31 : decode cX11_taken 31 = .ok (.ireturn, 1) := by decide +kernel
theorem dX11_taken_32 : decode cX11_taken 32 = .ok (.aload_n 0, 1) := by decide +kernel
theorem dX11_taken_33 : decode cX11_taken 33 = .ok (.getfield 49, 3) := by decide +kernel
theorem dX11_taken_36 : decode cX11_taken 36 = .ok (.iload_n 1, 1) := by decide +kernel
theorem dX11_taken_37 : decode cX11_taken 37 = .ok (.iaload, 1) := by decide +kernel
theorem dX11_taken_38 : decode cX11_taken 38 = .ok (.istore 4, 2) := by decide +kernel
theorem dX11_taken_40 : decode cX11_taken 40 = .ok (.aload_n 0, 1) := by decide +kernel
theorem dX11_taken_41 : decode cX11_taken 41 = .ok (.getfield 52, 3) := by decide +kernel
theorem dX11_taken_44 : decode cX11_taken 44 = .ok (.iload_n 1, 1) := by decide +kernel
theorem dX11_taken_45 : decode cX11_taken 45 = .ok (.aaload, 1) := by decide +kernel
theorem dX11_taken_46 : decode cX11_taken 46 = .ok (.astore 5, 2) := by decide +kernel
theorem dX11_taken_48 : decode cX11_taken 48 = .ok (.aload_n 0, 1) := by decide +kernel
theorem dX11_taken_49 : decode cX11_taken 49 = .ok (.getfield 12, 3) := by decide +kernel
theorem dX11_taken_52 : decode cX11_taken 52 = .ok (.iload 4, 2) := by decide +kernel
theorem dX11_taken_54 : decode cX11_taken 54 = .ok (.invokevirtual 105, 3) := by decide +kernel
theorem dX11_taken_57 : decode cX11_taken 57 = .ok (.ifCond .eq 32, 3) := by decide +kernel
theorem dX11_taken_60 : decode cX11_taken 60 = .ok (.iload_n 3, 1) := by decide +kernel
theorem dX11_taken_61 : decode cX11_taken 61 = .ok (.ifCond .eq 25, 3) := by decide +kernel
theorem dX11_taken_64 : decode cX11_taken 64 = .ok (.aload_n 0, 1) := by decide +kernel
theorem dX11_taken_65 : decode cX11_taken 65 = .ok (.getfield 12, 3) := by decide +kernel
theorem dX11_taken_68 : decode cX11_taken 68 = .ok (.getfield 108, 3) := by decide +kernel
theorem dX11_taken_71 : decode cX11_taken 71 = .ok (.iload 4, 2) := by decide +kernel
theorem dX11_taken_73 : decode cX11_taken 73 = .ok (.iaload, 1) := by decide +kernel
theorem dX11_taken_74 : decode cX11_taken 74 = .ok (.iload_n 2, 1) := by decide +kernel
theorem dX11_taken_75 : decode cX11_taken 75 = .ok (.invokestatic 299, 3) := by decide +kernel
theorem dX11_taken_78 : decode cX11_taken 78 = .ok (.ifCond .eq 8, 3) := by decide +kernel
theorem dX11_taken_81 : decode cX11_taken 81 = .ok (.iload 4, 2) := by decide +kernel
theorem dX11_taken_83 : decode cX11_taken 83 = .ok (.goto 5, 3) := by decide +kernel
theorem dX11_taken_86 : decode cX11_taken 86 = .ok (.bipush (-13), 2) := by decide +kernel
theorem dX11_taken_88 : decode cX11_taken 88 = .ok (.ireturn, 1) := by decide +kernel
theorem dX11_taken_89 : decode cX11_taken 89 = .ok (.aload 5, 2) := by decide +kernel
theorem dX11_taken_91 : decode cX11_taken 91 = .ok (.ifnonnull 6, 3) := by decide +kernel
theorem dX11_taken_94 : decode cX11_taken 94 = .ok (.bipush (-11), 2) := by decide +kernel
theorem dX11_taken_96 : decode cX11_taken 96 = .ok (.ireturn, 1) := by decide +kernel
theorem dX11_taken_97 : decode cX11_taken 97 = .ok (.iload_n 3, 1) := by decide +kernel
theorem dX11_taken_98 : decode cX11_taken 98 = .ok (.ifCond .ne 24, 3) := by decide +kernel
theorem dX11_taken_101 : decode cX11_taken 101 = .ok (.aload 5, 2) := by decide +kernel
theorem dX11_taken_103 : decode cX11_taken 103 = .ok (.getfield 273, 3) := by decide +kernel
theorem dX11_taken_106 : decode cX11_taken 106 = .ok (.iload_n 2, 1) := by decide +kernel
theorem dX11_taken_107 : decode cX11_taken 107 = .ok (.bipush 10, 2) := by decide +kernel
theorem dX11_taken_109 : decode cX11_taken 109 = .ok (.isub, 1) := by decide +kernel
theorem dX11_taken_110 : decode cX11_taken 110 = .ok (.if_icmp .ne 12, 3) := by decide +kernel
theorem dX11_taken_113 : decode cX11_taken 113 = .ok (.aload 5, 2) := by decide +kernel
theorem dX11_taken_115 : decode cX11_taken 115 = .ok (.getfield 276, 3) := by decide +kernel
theorem dX11_taken_118 : decode cX11_taken 118 = .ok (.arraylength, 1) := by decide +kernel
theorem dX11_taken_119 : decode cX11_taken 119 = .ok (.goto 5, 3) := by decide +kernel
theorem dX11_taken_122 : decode cX11_taken 122 = .ok (.bipush (-13), 2) := by decide +kernel
theorem dX11_taken_124 : decode cX11_taken 124 = .ok (.ireturn, 1) := by decide +kernel
theorem dX11_act_0 : decode cX11_act 0 = .ok (.aload_n 0, 1) := by decide +kernel
theorem dX11_act_1 : decode cX11_act 1 = .ok (.getfield 58, 3) := by decide +kernel
theorem dX11_act_4 : decode cX11_act 4 = .ok (.invokevirtual 302, 3) := by decide +kernel
theorem dX11_act_7 : decode cX11_act 7 = .ok (.iload_n 1, 1) := by decide +kernel
theorem dX11_act_8 : decode cX11_act 8 = .ok (.iconst 4, 1) := by decide +kernel
theorem dX11_act_9 : decode cX11_act 9 = .ok (.invokestatic 94, 3) := by decide +kernel
theorem dX11_act_12 : decode cX11_act 12 = .ok (.ifCond .eq 27, 3) := by decide +kernel
theorem dX11_act_15 : decode cX11_act 15 = .ok (.iload_n 2, 1) := by decide +kernel
theorem dX11_act_16 : decode cX11_act 16 = .ok (.iconst 4, 1) := by decide +kernel
theorem dX11_act_17 : decode cX11_act 17 = .ok (.invokestatic 94, 3) := by decide +kernel
theorem dX11_act_20 : decode cX11_act 20 = .ok (.ifCond .eq 19, 3) := by decide +kernel
theorem dX11_act_23 : decode cX11_act 23 = .ok (.aload_n 0, 1) := by decide +kernel
theorem dX11_act_24 : decode cX11_act 24 = .ok (.getfield 12, 3) := by decide +kernel
theorem dX11_act_27 : decode cX11_act 27 = .ok (.aload_n 0, 1) := by decide +kernel
theorem dX11_act_28 : decode cX11_act 28 = .ok (.getfield 49, 3) := by decide +kernel
theorem dX11_act_31 : decode cX11_act 31 = .ok (.iload_n 1, 1) := by decide +kernel
theorem dX11_act_32 : decode cX11_act 32 = .ok (.iaload, 1) := by decide +kernel
theorem dX11_act_33 : decode cX11_act 33 = .ok (.invokevirtual 105, 3) := by decide +kernel
theorem dX11_act_36 : decode cX11_act 36 = .ok (.ifCond .ne 5, 3) := by decide +kernel
theorem dX11_act_39 : decode cX11_act 39 = .ok (.iconst 0, 1) := by decide +kernel
theorem dX11_act_40 : decode cX11_act 40 = .ok (.ireturn, 1) := by decide +kernel
theorem dX11_act_41 : decode cX11_act 41 = .ok (.aload_n 0, 1) := by decide +kernel
theorem dX11_act_42 : decode cX11_act 42 = .ok (.aload_n 0, 1) := by decide +kernel
theorem dX11_act_43 : decode cX11_act 43 = .ok (.getfield 49, 3) := by decide +kernel
theorem dX11_act_46 : decode cX11_act 46 = .ok (.iload_n 1, 1) := by decide +kernel
theorem dX11_act_47 : decode cX11_act 47 = .ok (.iaload, 1) := by decide +kernel
theorem dX11_act_48 : decode cX11_act 48 = .ok (.invokevirtual 303, 3) := by decide +kernel
theorem dX11_act_51 : decode cX11_act 51 = .ok (.astore 4, 2) := by decide +kernel
theorem dX11_act_53 : decode cX11_act 53 = .ok (.iload_n 2, 1) := by decide +kernel
theorem dX11_act_54 : decode cX11_act 54 = .ok (.tableswitch 59 0 2 #[26, 37, 48], 26) := by decide +kernel
theorem dX11_act_80 : decode cX11_act 80 = .ok (.aload 4, 2) := by decide +kernel
theorem dX11_act_82 : decode cX11_act 82 = .ok (.iload_n 3, 1) := by decide +kernel
theorem dX11_act_83 : decode cX11_act 83 = .ok (.invokevirtual 307, 3) := by decide +kernel
theorem dX11_act_86 : decode cX11_act 86 = .ok (.istore 5, 2) := by decide +kernel
theorem dX11_act_88 : decode cX11_act 88 = .ok (.goto 33, 3) := by decide +kernel
theorem dX11_act_91 : decode cX11_act 91 = .ok (.aload 4, 2) := by decide +kernel
theorem dX11_act_93 : decode cX11_act 93 = .ok (.iload_n 3, 1) := by decide +kernel
theorem dX11_act_94 : decode cX11_act 94 = .ok (.invokevirtual 312, 3) := by decide +kernel
theorem dX11_act_97 : decode cX11_act 97 = .ok (.istore 5, 2) := by decide +kernel
theorem dX11_act_99 : decode cX11_act 99 = .ok (.goto 22, 3) := by decide +kernel
theorem dX11_act_102 : decode cX11_act 102 = .ok (.aload 4, 2) := by decide +kernel
theorem dX11_act_104 : decode cX11_act 104 = .ok (.iload_n 3, 1) := by decide +kernel
theorem dX11_act_105 : decode cX11_act 105 = .ok (.invokevirtual 315, 3) := by decide +kernel
theorem dX11_act_108 : decode cX11_act 108 = .ok (.istore 5, 2) := by decide +kernel
theorem dX11_act_110 : decode cX11_act 110 = .ok (.goto 11, 3) := by decide +kernel
theorem dX11_act_113 : decode cX11_act 113 = .ok (.aload 4, 2) := by decide +kernel
theorem dX11_act_115 : decode cX11_act 115 = .ok (.iload_n 3, 1) := by decide +kernel
theorem dX11_act_116 : decode cX11_act 116 = .ok (.invokevirtual 318, 3) := by decide +kernel
theorem dX11_act_119 : decode cX11_act 119 = .ok (.istore 5, 2) := by decide +kernel
theorem dX11_act_121 : decode cX11_act 121 = .ok (.aload_n 0, 1) := by decide +kernel
theorem dX11_act_122 : decode cX11_act 122 = .ok (.getfield 58, 3) := by decide +kernel
theorem dX11_act_125 : decode cX11_act 125 = .ok (.getfield 321, 3) := by decide +kernel
theorem dX11_act_128 : decode cX11_act 128 = .ok (.ifCond .eq 8, 3) := by decide +kernel
theorem dX11_act_131 : decode cX11_act 131 = .ok (.bipush (-15), 2) := by decide +kernel
theorem dX11_act_133 : decode cX11_act 133 = .ok (.goto 5, 3) := by decide +kernel
theorem dX11_act_136 : decode cX11_act 136 = .ok (.iload 5, 2) := by decide +kernel
theorem dX11_act_138 : decode cX11_act 138 = .ok (.ireturn, 1) := by decide +kernel
theorem dX11_trace_0 : decode cX11_trace 0 = .ok (.iload_n 1, 1) := by decide +kernel
theorem dX11_trace_1 : decode cX11_trace 1 = .ok (.aload_n 0, 1) := by decide +kernel
theorem dX11_trace_2 : decode cX11_trace 2 = .ok (.getfield 58, 3) := by decide +kernel
theorem dX11_trace_5 : decode cX11_trace 5 = .ok (.getfield 324, 3) := by decide +kernel
theorem dX11_trace_8 : decode cX11_trace 8 = .ok (.invokestatic 94, 3) := by decide +kernel
theorem dX11_trace_11 : decode cX11_trace 11 = .ok (.ifCond .eq 15, 3) := by decide +kernel
theorem dX11_trace_14 : decode cX11_trace 14 = .ok (.aload_n 0, 1) := by decide +kernel
theorem dX11_trace_15 : decode cX11_trace 15 = .ok (.getfield 58, 3) := by decide +kernel
theorem dX11_trace_18 : decode cX11_trace 18 = .ok (.getfield 327, 3) := by decide +kernel
theorem dX11_trace_21 : decode cX11_trace 21 = .ok (.iload_n 1, 1) := by decide +kernel
theorem dX11_trace_22 : decode cX11_trace 22 = .ok (.iaload, 1) := by decide +kernel
theorem dX11_trace_23 : decode cX11_trace 23 = .ok (.goto 5, 3) := by decide +kernel
theorem dX11_trace_26 : decode cX11_trace 26 = .ok (.bipush (-3), 2) := by decide +kernel
theorem dX11_trace_28 : decode cX11_trace 28 = .ok (.ireturn, 1) := by decide +kernel
theorem dX11_many_0 : decode cX11_many 0 = .ok (.iload_n 1, 1) := by decide +kernel
theorem dX11_many_1 : decode cX11_many 1 = .ok (.tableswitch 84 0 5 #[39, 47, 55, 63, 68, 76], 39) := by decide +kernel
theorem dX11_many_40 : decode cX11_many 40 = .ok (.aload_n 0, 1) := by decide +kernel
theorem dX11_many_41 : decode cX11_many 41 = .ok (.getfield 12, 3) := by decide +kernel
theorem dX11_many_44 : decode cX11_many 44 = .ok (.getfield 87, 3) := by decide +kernel
theorem dX11_many_47 : decode cX11_many 47 = .ok (.ireturn, 1) := by decide +kernel
theorem dX11_many_48 : decode cX11_many 48 = .ok (.aload_n 0, 1) := by decide +kernel
theorem dX11_many_49 : decode cX11_many 49 = .ok (.getfield 12, 3) := by decide +kernel
theorem dX11_many_52 : decode cX11_many 52 = .ok (.getfield 147, 3) := by decide +kernel
theorem dX11_many_55 : decode cX11_many 55 = .ok (.ireturn, 1) := by decide +kernel
theorem dX11_many_56 : decode cX11_many 56 = .ok (.aload_n 0, 1) := by decide +kernel
theorem dX11_many_57 : decode cX11_many 57 = .ok (.getfield 12, 3) := by decide +kernel
theorem dX11_many_60 : decode cX11_many 60 = .ok (.getfield 252, 3) := by decide +kernel
theorem dX11_many_63 : decode cX11_many 63 = .ok (.ireturn, 1) := by decide +kernel
theorem dX11_many_64 : decode cX11_many 64 = .ok (.aload_n 0, 1) := by decide +kernel
theorem dX11_many_65 : decode cX11_many 65 = .ok (.getfield 83, 3) := by decide +kernel
theorem dX11_many_68 : decode cX11_many 68 = .ok (.ireturn, 1) := by decide +kernel
theorem dX11_many_69 : decode cX11_many 69 = .ok (.aload_n 0, 1) := by decide +kernel
theorem dX11_many_70 : decode cX11_many 70 = .ok (.getfield 25, 3) := by decide +kernel
theorem dX11_many_73 : decode cX11_many 73 = .ok (.getfield 330, 3) := by decide +kernel
theorem dX11_many_76 : decode cX11_many 76 = .ok (.ireturn, 1) := by decide +kernel
theorem dX11_many_77 : decode cX11_many 77 = .ok (.aload_n 0, 1) := by decide +kernel
theorem dX11_many_78 : decode cX11_many 78 = .ok (.getfield 58, 3) := by decide +kernel
theorem dX11_many_81 : decode cX11_many 81 = .ok (.getfield 324, 3) := by decide +kernel
theorem dX11_many_84 : decode cX11_many 84 = .ok (.ireturn, 1) := by decide +kernel
theorem dX11_many_85 : decode cX11_many 85 = .ok (.iconst (-1), 1) := by decide +kernel
theorem dX11_many_86 : decode cX11_many 86 = .ok (.ireturn, 1) := by decide +kernel
theorem dX11_keep_0 : decode cX11_keep 0 = .ok (.aload_n 0, 1) := by decide +kernel
theorem dX11_keep_1 : decode cX11_keep 1 = .ok (.getfield 16, 3) := by decide +kernel
theorem dX11_keep_4 : decode cX11_keep 4 = .ok (.aload_n 0, 1) := by decide +kernel
theorem dX11_keep_5 : decode cX11_keep 5 = .ok (.getfield 12, 3) := by decide +kernel
theorem dX11_keep_8 : decode cX11_keep 8 = .ok (.invokevirtual 72, 3) := by decide +kernel
theorem dX11_keep_11 : decode cX11_keep 11 = .ok (.aload_n 0, 1) := by decide +kernel
theorem dX11_keep_12 : decode cX11_keep 12 = .ok (.iconst 1, 1) := by decide +kernel
theorem dX11_keep_13 : decode cX11_keep 13 = .ok (.putfield 331, 3) := by decide +kernel
theorem dX11_keep_16 : decode cX11_keep 16 = .ok (.iconst 1, 1) := by decide +kernel
theorem dX11_keep_17 : decode cX11_keep 17 = .ok (.ireturn, 1) := by decide +kernel
theorem dX11_again_0 : decode cX11_again 0 = .ok (.aload_n 0, 1) := by decide +kernel
theorem dX11_again_1 : decode cX11_again 1 = .ok (.getfield 331, 3) := by decide +kernel
theorem dX11_again_4 : decode cX11_again 4 = .ok (.ifCond .ne 6, 3) := by decide +kernel
theorem dX11_again_7 : decode cX11_again 7 = .ok (.bipush (-3), 2) := by decide +kernel
theorem dX11_again_9 : decode cX11_again 9 = .ok (.ireturn, 1) := by decide +kernel
theorem dX11_again_10 : decode cX11_again 10 = .ok (.aload_n 0, 1) := by decide +kernel
theorem dX11_again_11 : decode cX11_again 11 = .ok (.getfield 12, 3) := by decide +kernel
theorem dX11_again_14 : decode cX11_again 14 = .ok (.aload_n 0, 1) := by decide +kernel
theorem dX11_again_15 : decode cX11_again 15 = .ok (.getfield 16, 3) := by decide +kernel
theorem dX11_again_18 : decode cX11_again 18 = .ok (.invokevirtual 72, 3) := by decide +kernel
theorem dX11_again_21 : decode cX11_again 21 = .ok (.aload_n 0, 1) := by decide +kernel
theorem dX11_again_22 : decode cX11_again 22 = .ok (.getfield 12, 3) := by decide +kernel
theorem dX11_again_25 : decode cX11_again 25 = .ok (.getfield 87, 3) := by decide +kernel
theorem dX11_again_28 : decode cX11_again 28 = .ok (.ireturn, 1) := by decide +kernel
theorem dX11_isBelow_0 : decode cX11_isBelow 0 = .ok (.iload_n 0, 1) := by decide +kernel
theorem dX11_isBelow_1 : decode cX11_isBelow 1 = .ok (.ifCond .lt 12, 3) := by decide +kernel
theorem dX11_isBelow_4 : decode cX11_isBelow 4 = .ok (.iload_n 0, 1) := by decide +kernel
theorem dX11_isBelow_5 : decode cX11_isBelow 5 = .ok (.iload_n 1, 1) := by decide +kernel
theorem dX11_isBelow_6 : decode cX11_isBelow 6 = .ok (.if_icmp .ge 7, 3) := by decide +kernel
theorem dX11_isBelow_9 : decode cX11_isBelow 9 = .ok (.iconst 1, 1) := by decide +kernel
theorem dX11_isBelow_10 : decode cX11_isBelow 10 = .ok (.goto 4, 3) := by decide +kernel
theorem dX11_isBelow_13 : decode cX11_isBelow 13 = .ok (.iconst 0, 1) := by decide +kernel
theorem dX11_isBelow_14 : decode cX11_isBelow 14 = .ok (.ireturn, 1) := by decide +kernel
theorem dX11_isUpTo_0 : decode cX11_isUpTo 0 = .ok (.iload_n 0, 1) := by decide +kernel
theorem dX11_isUpTo_1 : decode cX11_isUpTo 1 = .ok (.ifCond .lt 12, 3) := by decide +kernel
theorem dX11_isUpTo_4 : decode cX11_isUpTo 4 = .ok (.iload_n 0, 1) := by decide +kernel
theorem dX11_isUpTo_5 : decode cX11_isUpTo 5 = .ok (.iload_n 1, 1) := by decide +kernel
theorem dX11_isUpTo_6 : decode cX11_isUpTo 6 = .ok (.if_icmp .gt 7, 3) := by decide +kernel
theorem dX11_isUpTo_9 : decode cX11_isUpTo 9 = .ok (.iconst 1, 1) := by decide +kernel
theorem dX11_isUpTo_10 : decode cX11_isUpTo 10 = .ok (.goto 4, 3) := by decide +kernel
theorem dX11_isUpTo_13 : decode cX11_isUpTo 13 = .ok (.iconst 0, 1) := by decide +kernel
theorem dX11_isUpTo_14 : decode cX11_isUpTo 14 = .ok (.ireturn, 1) := by decide +kernel
theorem dX11_isClearing_0 : decode cX11_isClearing 0 = .ok (.iload_n 0, 1) := by decide +kernel
theorem dX11_isClearing_1 : decode cX11_isClearing 1 = .ok (.bipush 8, 2) := by decide +kernel
theorem dX11_isClearing_3 : decode cX11_isClearing 3 = .ok (.invokestatic 94, 3) := by decide +kernel
theorem dX11_isClearing_6 : decode cX11_isClearing 6 = .ok (.ireturn, 1) := by decide +kernel
theorem dX11_isPart_0 : decode cX11_isPart 0 = .ok (.iload_n 0, 1) := by decide +kernel
theorem dX11_isPart_1 : decode cX11_isPart 1 = .ok (.iconst 2, 1) := by decide +kernel
theorem dX11_isPart_2 : decode cX11_isPart 2 = .ok (.invokestatic 94, 3) := by decide +kernel
theorem dX11_isPart_5 : decode cX11_isPart 5 = .ok (.ireturn, 1) := by decide +kernel
theorem dX11_isInSet_0 : decode cX11_isInSet 0 = .ok (.iload_n 1, 1) := by decide +kernel
theorem dX11_isInSet_1 : decode cX11_isInSet 1 = .ok (.iload_n 0, 1) := by decide +kernel
theorem dX11_isInSet_2 : decode cX11_isInSet 2 = .ok (.iushr, 1) := by decide +kernel
theorem dX11_isInSet_3 : decode cX11_isInSet 3 = .ok (.iconst 1, 1) := by decide +kernel
theorem dX11_isInSet_4 : decode cX11_isInSet 4 = .ok (.iand, 1) := by decide +kernel
theorem dX11_isInSet_5 : decode cX11_isInSet 5 = .ok (.ifCond .eq 7, 3) := by decide +kernel
theorem dX11_isInSet_8 : decode cX11_isInSet 8 = .ok (.iconst 1, 1) := by decide +kernel
theorem dX11_isInSet_9 : decode cX11_isInSet 9 = .ok (.goto 4, 3) := by decide +kernel
theorem dX11_isInSet_12 : decode cX11_isInSet 12 = .ok (.iconst 0, 1) := by decide +kernel
theorem dX11_isInSet_13 : decode cX11_isInSet 13 = .ok (.ireturn, 1) := by decide +kernel
theorem dX11_partOf_0 : decode cX11_partOf 0 = .ok (.lload_n 0, 1) := by decide +kernel
theorem dX11_partOf_1 : decode cX11_partOf 1 = .ok (.lstore 5, 2) := by decide +kernel
theorem dX11_partOf_3 : decode cX11_partOf 3 = .ok (.lload_n 2, 1) := by decide +kernel
theorem dX11_partOf_4 : decode cX11_partOf 4 = .ok (.lstore 7, 2) := by decide +kernel
theorem dX11_partOf_6 : decode cX11_partOf 6 = .ok (.iconst 0, 1) := by decide +kernel
theorem dX11_partOf_7 : decode cX11_partOf 7 = .ok (.istore 9, 2) := by decide +kernel
theorem dX11_partOf_9 : decode cX11_partOf 9 = .ok (.iload 9, 2) := by decide +kernel
theorem dX11_partOf_11 : decode cX11_partOf 11 = .ok (.bipush 64, 2) := by decide +kernel
theorem dX11_partOf_13 : decode cX11_partOf 13 = .ok (.if_icmp .ge 37, 3) := by decide +kernel
theorem dX11_partOf_16 : decode cX11_partOf 16 = .ok (.lload 7, 2) := by decide +kernel
theorem dX11_partOf_18 : decode cX11_partOf 18 = .ok (.lconst 1, 1) := by decide +kernel
theorem dX11_partOf_19 : decode cX11_partOf 19 = .ok (.lcmp, 1) := by decide +kernel
theorem dX11_partOf_20 : decode cX11_partOf 20 = .ok (.ifCond .le 30, 3) := by decide +kernel
theorem dX11_partOf_23 : decode cX11_partOf 23 = .ok (.lload 5, 2) := by decide +kernel
theorem dX11_partOf_25 : decode cX11_partOf 25 = .ok (.lconst 1, 1) := by decide +kernel
theorem dX11_partOf_26 : decode cX11_partOf 26 = .ok (.land, 1) := by decide +kernel
theorem dX11_partOf_27 : decode cX11_partOf 27 = .ok (.lconst 0, 1) := by decide +kernel
theorem dX11_partOf_28 : decode cX11_partOf 28 = .ok (.lcmp, 1) := by decide +kernel
theorem dX11_partOf_29 : decode cX11_partOf 29 = .ok (.ifCond .ne 21, 3) := by decide +kernel
theorem dX11_partOf_32 : decode cX11_partOf 32 = .ok (.lload 5, 2) := by decide +kernel
theorem dX11_partOf_34 : decode cX11_partOf 34 = .ok (.iconst 1, 1) := by decide +kernel
theorem dX11_partOf_35 : decode cX11_partOf 35 = .ok (.lshr, 1) := by decide +kernel
theorem dX11_partOf_36 : decode cX11_partOf 36 = .ok (.lstore 5, 2) := by decide +kernel
theorem dX11_partOf_38 : decode cX11_partOf 38 = .ok (.lload 7, 2) := by decide +kernel
theorem dX11_partOf_40 : decode cX11_partOf 40 = .ok (.iconst 1, 1) := by decide +kernel
theorem dX11_partOf_41 : decode cX11_partOf 41 = .ok (.lshr, 1) := by decide +kernel
theorem dX11_partOf_42 : decode cX11_partOf 42 = .ok (.lstore 7, 2) := by decide +kernel
theorem dX11_partOf_44 : decode cX11_partOf 44 = .ok (.iinc 9 1, 3) := by decide +kernel
theorem dX11_partOf_47 : decode cX11_partOf 47 = .ok (.goto (-38), 3) := by decide +kernel
theorem dX11_partOf_50 : decode cX11_partOf 50 = .ok (.iload 4, 2) := by decide +kernel
theorem dX11_partOf_52 : decode cX11_partOf 52 = .ok (.ifCond .ne 8, 3) := by decide +kernel
theorem dX11_partOf_55 : decode cX11_partOf 55 = .ok (.lload 5, 2) := by decide +kernel
theorem dX11_partOf_57 : decode cX11_partOf 57 = .ok (.goto 5, 3) := by decide +kernel
theorem dX11_partOf_60 : decode cX11_partOf 60 = .ok (.lload 7, 2) := by decide +kernel
theorem dX11_partOf_62 : decode cX11_partOf 62 = .ok (.lreturn, 1) := by decide +kernel
theorem dX11_isOfKind_0 : decode cX11_isOfKind 0 = .ok (.iload_n 0, 1) := by decide +kernel
theorem dX11_isOfKind_1 : decode cX11_isOfKind 1 = .ok (.iconst 3, 1) := by decide +kernel
theorem dX11_isOfKind_2 : decode cX11_isOfKind 2 = .ok (.if_icmp .eq 8, 3) := by decide +kernel
theorem dX11_isOfKind_5 : decode cX11_isOfKind 5 = .ok (.iload_n 0, 1) := by decide +kernel
theorem dX11_isOfKind_6 : decode cX11_isOfKind 6 = .ok (.iconst 4, 1) := by decide +kernel
theorem dX11_isOfKind_7 : decode cX11_isOfKind 7 = .ok (.if_icmp .ne 7, 3) := by decide +kernel
theorem dX11_isOfKind_10 : decode cX11_isOfKind 10 = .ok (.iconst 1, 1) := by decide +kernel
theorem dX11_isOfKind_11 : decode cX11_isOfKind 11 = .ok (.goto 4, 3) := by decide +kernel
theorem dX11_isOfKind_14 : decode cX11_isOfKind 14 = .ok (.iconst 0, 1) := by decide +kernel
theorem dX11_isOfKind_15 : decode cX11_isOfKind 15 = .ok (.istore_n 2, 1) := by decide +kernel
theorem dX11_isOfKind_16 : decode cX11_isOfKind 16 = .ok (.iload_n 1, 1) := by decide +kernel
theorem dX11_isOfKind_17 : decode cX11_isOfKind 17 = .ok (.ifCond .eq 17, 3) := by decide +kernel
theorem dX11_isOfKind_20 : decode cX11_isOfKind 20 = .ok (.iload_n 1, 1) := by decide +kernel
theorem dX11_isOfKind_21 : decode cX11_isOfKind 21 = .ok (.iload_n 0, 1) := by decide +kernel
theorem dX11_isOfKind_22 : decode cX11_isOfKind 22 = .ok (.if_icmp .eq 12, 3) := by decide +kernel
theorem dX11_isOfKind_25 : decode cX11_isOfKind 25 = .ok (.iload_n 1, 1) := by decide +kernel
theorem dX11_isOfKind_26 : decode cX11_isOfKind 26 = .ok (.iconst 1, 1) := by decide +kernel
theorem dX11_isOfKind_27 : decode cX11_isOfKind 27 = .ok (.if_icmp .ne 11, 3) := by decide +kernel
theorem dX11_isOfKind_30 : decode cX11_isOfKind 30 = .ok (.iload_n 2, 1) := by decide +kernel
theorem dX11_isOfKind_31 : decode cX11_isOfKind 31 = .ok (.ifCond .eq 7, 3) := by decide +kernel
theorem dX11_isOfKind_34 : decode cX11_isOfKind 34 = .ok (.iconst 1, 1) := by decide +kernel
theorem dX11_isOfKind_35 : decode cX11_isOfKind 35 = .ok (.goto 4, 3) := by decide +kernel
theorem dX11_isOfKind_38 : decode cX11_isOfKind 38 = .ok (.iconst 0, 1) := by decide +kernel
theorem dX11_isOfKind_39 : decode cX11_isOfKind 39 = .ok (.ireturn, 1) := by decide +kernel
theorem dX11_stepBy_0 : decode cX11_stepBy 0 = .ok (.aload_n 0, 1) := by decide +kernel
theorem dX11_stepBy_1 : decode cX11_stepBy 1 = .ok (.getfield 12, 3) := by decide +kernel
theorem dX11_stepBy_4 : decode cX11_stepBy 4 = .ok (.getfield 157, 3) := by decide +kernel
theorem dX11_stepBy_7 : decode cX11_stepBy 7 = .ok (.iload_n 2, 1) := by decide +kernel
theorem dX11_stepBy_8 : decode cX11_stepBy 8 = .ok (.iaload, 1) := by decide +kernel
theorem dX11_stepBy_9 : decode cX11_stepBy 9 = .ok (.istore_n 3, 1) := by decide +kernel
theorem dX11_stepBy_10 : decode cX11_stepBy 10 = .ok (.iload_n 3, 1) := by decide +kernel
theorem dX11_stepBy_11 : decode cX11_stepBy 11 = .ok (.invokestatic 90, 3) := by decide +kernel
theorem dX11_stepBy_14 : decode cX11_stepBy 14 = .ok (.ifCond .ne 6, 3) := by decide +kernel
theorem dX11_stepBy_17 : decode cX11_stepBy 17 = .ok (.bipush (-9), 2) := by decide +kernel
theorem dX11_stepBy_19 : decode cX11_stepBy 19 = .ok (.ireturn, 1) := by decide +kernel
theorem dX11_stepBy_20 : decode cX11_stepBy 20 = .ok (.aload_n 0, 1) := by decide +kernel
theorem dX11_stepBy_21 : decode cX11_stepBy 21 = .ok (.getfield 12, 3) := by decide +kernel
theorem dX11_stepBy_24 : decode cX11_stepBy 24 = .ok (.getfield 261, 3) := by decide +kernel
theorem dX11_stepBy_27 : decode cX11_stepBy 27 = .ok (.iload_n 1, 1) := by decide +kernel
theorem dX11_stepBy_28 : decode cX11_stepBy 28 = .ok (.iaload, 1) := by decide +kernel
theorem dX11_stepBy_29 : decode cX11_stepBy 29 = .ok (.istore 4, 2) := by decide +kernel
theorem dX11_stepBy_31 : decode cX11_stepBy 31 = .ok (.aload_n 0, 1) := by decide +kernel
theorem dX11_stepBy_32 : decode cX11_stepBy 32 = .ok (.getfield 12, 3) := by decide +kernel
theorem dX11_stepBy_35 : decode cX11_stepBy 35 = .ok (.getfield 264, 3) := by decide +kernel
theorem dX11_stepBy_38 : decode cX11_stepBy 38 = .ok (.iload_n 1, 1) := by decide +kernel
theorem dX11_stepBy_39 : decode cX11_stepBy 39 = .ok (.iaload, 1) := by decide +kernel
theorem dX11_stepBy_40 : decode cX11_stepBy 40 = .ok (.istore 5, 2) := by decide +kernel
theorem dX11_stepBy_42 : decode cX11_stepBy 42 = .ok (.iload 4, 2) := by decide +kernel
theorem dX11_stepBy_44 : decode cX11_stepBy 44 = .ok (.iconst 3, 1) := by decide +kernel
theorem dX11_stepBy_45 : decode cX11_stepBy 45 = .ok (.if_icmp .ne 20, 3) := by decide +kernel
theorem dX11_stepBy_48 : decode cX11_stepBy 48 = .ok (.aload_n 0, 1) := by decide +kernel
theorem dX11_stepBy_49 : decode cX11_stepBy 49 = .ok (.getfield 12, 3) := by decide +kernel
theorem dX11_stepBy_52 : decode cX11_stepBy 52 = .ok (.iload_n 3, 1) := by decide +kernel
theorem dX11_stepBy_53 : decode cX11_stepBy 53 = .ok (.iload 5, 2) := by decide +kernel
theorem dX11_stepBy_55 : decode cX11_stepBy 55 = .ok (.invokevirtual 207, 3) := by decide +kernel
theorem dX11_stepBy_58 : decode cX11_stepBy 58 = .ok (.iconst 1, 1) := by decide +kernel
theorem dX11_stepBy_59 : decode cX11_stepBy 59 = .ok (.if_icmp .eq 6, 3) := by decide +kernel
theorem dX11_stepBy_62 : decode cX11_stepBy 62 = .ok (.bipush (-9), 2) := by decide +kernel
theorem dX11_stepBy_64 : decode cX11_stepBy 64 = .ok (.ireturn, 1) := by decide +kernel
theorem dX11_stepBy_65 : decode cX11_stepBy 65 = .ok (.iload 4, 2) := by decide +kernel
theorem dX11_stepBy_67 : decode cX11_stepBy 67 = .ok (.iconst 2, 1) := by decide +kernel
theorem dX11_stepBy_68 : decode cX11_stepBy 68 = .ok (.if_icmp .ne 13, 3) := by decide +kernel
theorem dX11_stepBy_71 : decode cX11_stepBy 71 = .ok (.aload_n 0, 1) := by decide +kernel
theorem dX11_stepBy_72 : decode cX11_stepBy 72 = .ok (.iload_n 3, 1) := by decide +kernel
theorem dX11_stepBy_73 : decode cX11_stepBy 73 = .ok (.iload 5, 2) := by decide +kernel
theorem dX11_stepBy_75 : decode cX11_stepBy 75 = .ok (.invokevirtual 334, 3) := by decide +kernel
theorem dX11_stepBy_78 : decode cX11_stepBy 78 = .ok (.goto 5, 3) := by decide +kernel
theorem dX11_stepBy_81 : decode cX11_stepBy 81 = .ok (.iload 5, 2) := by decide +kernel
theorem dX11_stepBy_83 : decode cX11_stepBy 83 = .ok (.istore 6, 2) := by decide +kernel
theorem dX11_stepBy_85 : decode cX11_stepBy 85 = .ok (.iload 6, 2) := by decide +kernel
theorem dX11_stepBy_87 : decode cX11_stepBy 87 = .ok (.invokestatic 90, 3) := by decide +kernel
theorem dX11_stepBy_90 : decode cX11_stepBy 90 = .ok (.ifCond .eq 16, 3) := by decide +kernel
theorem dX11_stepBy_93 : decode cX11_stepBy 93 = .ok (.aload_n 0, 1) := by decide +kernel
theorem dX11_stepBy_94 : decode cX11_stepBy 94 = .ok (.getfield 12, 3) := by decide +kernel
theorem dX11_stepBy_97 : decode cX11_stepBy 97 = .ok (.iload_n 3, 1) := by decide +kernel
theorem dX11_stepBy_98 : decode cX11_stepBy 98 = .ok (.iload 6, 2) := by decide +kernel
theorem dX11_stepBy_100 : decode cX11_stepBy 100 = .ok (.invokevirtual 337, 3) := by decide +kernel
theorem dX11_stepBy_103 : decode cX11_stepBy 103 = .ok (.goto 5, 3) := by decide +kernel
theorem dX11_stepBy_106 : decode cX11_stepBy 106 = .ok (.bipush (-9), 2) := by decide +kernel
theorem dX11_stepBy_108 : decode cX11_stepBy 108 = .ok (.ireturn, 1) := by decide +kernel
theorem dX11_farthestSafe_0 : decode cX11_farthestSafe 0 = .ok (.aload_n 0, 1) := by decide +kernel
theorem dX11_farthestSafe_1 : decode cX11_farthestSafe 1 = .ok (.getfield 32, 3) := by decide +kernel
theorem dX11_farthestSafe_4 : decode cX11_farthestSafe 4 = .ok (.aload_n 0, 1) := by decide +kernel
theorem dX11_farthestSafe_5 : decode cX11_farthestSafe 5 = .ok (.getfield 12, 3) := by decide +kernel
theorem dX11_farthestSafe_8 : decode cX11_farthestSafe 8 = .ok (.invokevirtual 218, 3) := by decide +kernel
theorem dX11_farthestSafe_11 : decode cX11_farthestSafe 11 = .ok (.aload_n 0, 1) := by decide +kernel
theorem dX11_farthestSafe_12 : decode cX11_farthestSafe 12 = .ok (.getfield 12, 3) := by decide +kernel
theorem dX11_farthestSafe_15 : decode cX11_farthestSafe 15 = .ok (.iload_n 1, 1) := by decide +kernel
theorem dX11_farthestSafe_16 : decode cX11_farthestSafe 16 = .ok (.invokevirtual 210, 3) := by decide +kernel
theorem dX11_farthestSafe_19 : decode cX11_farthestSafe 19 = .ok (.aload_n 0, 1) := by decide +kernel
theorem dX11_farthestSafe_20 : decode cX11_farthestSafe 20 = .ok (.getfield 12, 3) := by decide +kernel
theorem dX11_farthestSafe_23 : decode cX11_farthestSafe 23 = .ok (.iload_n 2, 1) := by decide +kernel
theorem dX11_farthestSafe_24 : decode cX11_farthestSafe 24 = .ok (.invokevirtual 210, 3) := by decide +kernel
theorem dX11_farthestSafe_27 : decode cX11_farthestSafe 27 = .ok (.iand, 1) := by decide +kernel
theorem dX11_farthestSafe_28 : decode cX11_farthestSafe 28 = .ok (.istore_n 3, 1) := by decide +kernel
theorem dX11_farthestSafe_29 : decode cX11_farthestSafe 29 = .ok (.bipush (-9), 2) := by decide +kernel
theorem dX11_farthestSafe_31 : decode cX11_farthestSafe 31 = .ok (.istore 4, 2) := by decide +kernel
theorem dX11_farthestSafe_33 : decode cX11_farthestSafe 33 = .ok (.iconst (-1), 1) := by decide +kernel
theorem dX11_farthestSafe_34 : decode cX11_farthestSafe 34 = .ok (.istore 5, 2) := by decide +kernel
theorem dX11_farthestSafe_36 : decode cX11_farthestSafe 36 = .ok (.iconst 0, 1) := by decide +kernel
theorem dX11_farthestSafe_37 : decode cX11_farthestSafe 37 = .ok (.istore 6, 2) := by decide +kernel
theorem dX11_farthestSafe_39 : decode cX11_farthestSafe 39 = .ok (.iload 6, 2) := by decide +kernel
theorem dX11_farthestSafe_41 : decode cX11_farthestSafe 41 = .ok (.bipush 8, 2) := by decide +kernel
theorem dX11_farthestSafe_43 : decode cX11_farthestSafe 43 = .ok (.if_icmp .ge 59, 3) := by decide +kernel
theorem dX11_farthestSafe_46 : decode cX11_farthestSafe 46 = .ok (.iload 6, 2) := by decide +kernel
theorem dX11_farthestSafe_48 : decode cX11_farthestSafe 48 = .ok (.iload_n 3, 1) := by decide +kernel
theorem dX11_farthestSafe_49 : decode cX11_farthestSafe 49 = .ok (.invokestatic 249, 3) := by decide +kernel
theorem dX11_farthestSafe_52 : decode cX11_farthestSafe 52 = .ok (.ifCond .eq 44, 3) := by decide +kernel
theorem dX11_farthestSafe_55 : decode cX11_farthestSafe 55 = .ok (.aload_n 0, 1) := by decide +kernel
theorem dX11_farthestSafe_56 : decode cX11_farthestSafe 56 = .ok (.getfield 32, 3) := by decide +kernel
theorem dX11_farthestSafe_59 : decode cX11_farthestSafe 59 = .ok (.iload 6, 2) := by decide +kernel
theorem dX11_farthestSafe_61 : decode cX11_farthestSafe 61 = .ok (.iload_n 2, 1) := by decide +kernel
theorem dX11_farthestSafe_62 : decode cX11_farthestSafe 62 = .ok (.iconst 4, 1) := by decide +kernel
theorem dX11_farthestSafe_63 : decode cX11_farthestSafe 63 = .ok (.invokevirtual 241, 3) := by decide +kernel
theorem dX11_farthestSafe_66 : decode cX11_farthestSafe 66 = .ok (.ifCond .eq 30, 3) := by decide +kernel
theorem dX11_farthestSafe_69 : decode cX11_farthestSafe 69 = .ok (.aload_n 0, 1) := by decide +kernel
theorem dX11_farthestSafe_70 : decode cX11_farthestSafe 70 = .ok (.getfield 12, 3) := by decide +kernel
theorem dX11_farthestSafe_73 : decode cX11_farthestSafe 73 = .ok (.iload 6, 2) := by decide +kernel
theorem dX11_farthestSafe_75 : decode cX11_farthestSafe 75 = .ok (.iload_n 2, 1) := by decide +kernel
theorem dX11_farthestSafe_76 : decode cX11_farthestSafe 76 = .ok (.invokevirtual 207, 3) := by decide +kernel
theorem dX11_farthestSafe_79 : decode cX11_farthestSafe 79 = .ok (.istore 7, 2) := by decide +kernel
theorem dX11_farthestSafe_81 : decode cX11_farthestSafe 81 = .ok (.iload 7, 2) := by decide +kernel
theorem dX11_farthestSafe_83 : decode cX11_farthestSafe 83 = .ok (.iload 5, 2) := by decide +kernel
theorem dX11_farthestSafe_85 : decode cX11_farthestSafe 85 = .ok (.if_icmp .le 11, 3) := by decide +kernel
theorem dX11_farthestSafe_88 : decode cX11_farthestSafe 88 = .ok (.iload 7, 2) := by decide +kernel
theorem dX11_farthestSafe_90 : decode cX11_farthestSafe 90 = .ok (.istore 5, 2) := by decide +kernel
theorem dX11_farthestSafe_92 : decode cX11_farthestSafe 92 = .ok (.iload 6, 2) := by decide +kernel
theorem dX11_farthestSafe_94 : decode cX11_farthestSafe 94 = .ok (.istore 4, 2) := by decide +kernel
theorem dX11_farthestSafe_96 : decode cX11_farthestSafe 96 = .ok (.iinc 6 1, 3) := by decide +kernel
theorem dX11_farthestSafe_99 : decode cX11_farthestSafe 99 = .ok (.goto (-60), 3) := by decide +kernel
theorem dX11_farthestSafe_102 : decode cX11_farthestSafe 102 = .ok (.iload 4, 2) := by decide +kernel
theorem dX11_farthestSafe_104 : decode cX11_farthestSafe 104 = .ok (.ireturn, 1) := by decide +kernel
theorem dX11_thingOf_0 : decode cX11_thingOf 0 = .ok (.aload_n 0, 1) := by decide +kernel
theorem dX11_thingOf_1 : decode cX11_thingOf 1 = .ok (.getfield 12, 3) := by decide +kernel
theorem dX11_thingOf_4 : decode cX11_thingOf 4 = .ok (.getfield 117, 3) := by decide +kernel
theorem dX11_thingOf_7 : decode cX11_thingOf 7 = .ok (.iload_n 1, 1) := by decide +kernel
theorem dX11_thingOf_8 : decode cX11_thingOf 8 = .ok (.iaload, 1) := by decide +kernel
theorem dX11_thingOf_9 : decode cX11_thingOf 9 = .ok (.istore_n 2, 1) := by decide +kernel
theorem dX11_thingOf_10 : decode cX11_thingOf 10 = .ok (.aload_n 0, 1) := by decide +kernel
theorem dX11_thingOf_11 : decode cX11_thingOf 11 = .ok (.getfield 12, 3) := by decide +kernel
theorem dX11_thingOf_14 : decode cX11_thingOf 14 = .ok (.getfield 108, 3) := by decide +kernel
theorem dX11_thingOf_17 : decode cX11_thingOf 17 = .ok (.iload_n 1, 1) := by decide +kernel
theorem dX11_thingOf_18 : decode cX11_thingOf 18 = .ok (.iaload, 1) := by decide +kernel
theorem dX11_thingOf_19 : decode cX11_thingOf 19 = .ok (.tableswitch 103 1 5 #[33, 47, 61, 75, 89], 33) := by decide +kernel
theorem dX11_thingOf_52 : decode cX11_thingOf 52 = .ok (.new 340, 3) := by decide +kernel
theorem dX11_thingOf_55 : decode cX11_thingOf 55 = .ok (.dup, 1) := by decide +kernel
theorem dX11_thingOf_56 : decode cX11_thingOf 56 = .ok (.iload_n 1, 1) := by decide +kernel
theorem dX11_thingOf_57 : decode cX11_thingOf 57 = .ok (.iload_n 2, 1) := by decide +kernel
theorem dX11_thingOf_58 : decode cX11_thingOf 58 = .ok (.aload_n 0, 1) := by decide +kernel
theorem dX11_thingOf_59 : decode cX11_thingOf 59 = .ok (.getfield 58, 3) := by decide +kernel
theorem dX11_thingOf_62 : decode cX11_thingOf 62 = .ok (.invokespecial 342, 3) := by decide +kernel
theorem dX11_thingOf_65 : decode cX11_thingOf 65 = .ok (.areturn, 1) := by decide +kernel
theorem dX11_thingOf_66 : decode cX11_thingOf 66 = .ok (.new 345, 3) := by decide +kernel
theorem dX11_thingOf_69 : decode cX11_thingOf 69 = .ok (.dup, 1) := by decide +kernel
theorem dX11_thingOf_70 : decode cX11_thingOf 70 = .ok (.iload_n 1, 1) := by decide +kernel
theorem dX11_thingOf_71 : decode cX11_thingOf 71 = .ok (.iload_n 2, 1) := by decide +kernel
theorem dX11_thingOf_72 : decode cX11_thingOf 72 = .ok (.aload_n 0, 1) := by decide +kernel
theorem dX11_thingOf_73 : decode cX11_thingOf 73 = .ok (.getfield 58, 3) := by decide +kernel
theorem dX11_thingOf_76 : decode cX11_thingOf 76 = .ok (.invokespecial 347, 3) := by decide +kernel
theorem dX11_thingOf_79 : decode cX11_thingOf 79 = .ok (.areturn, 1) := by decide +kernel
theorem dX11_thingOf_80 : decode cX11_thingOf 80 = .ok (.new 348, 3) := by decide +kernel
theorem dX11_thingOf_83 : decode cX11_thingOf 83 = .ok (.dup, 1) := by decide +kernel
theorem dX11_thingOf_84 : decode cX11_thingOf 84 = .ok (.iload_n 1, 1) := by decide +kernel
theorem dX11_thingOf_85 : decode cX11_thingOf 85 = .ok (.iload_n 2, 1) := by decide +kernel
theorem dX11_thingOf_86 : decode cX11_thingOf 86 = .ok (.aload_n 0, 1) := by decide +kernel
theorem dX11_thingOf_87 : decode cX11_thingOf 87 = .ok (.getfield 58, 3) := by decide +kernel
theorem dX11_thingOf_90 : decode cX11_thingOf 90 = .ok (.invokespecial 350, 3) := by decide +kernel
theorem dX11_thingOf_93 : decode cX11_thingOf 93 = .ok (.areturn, 1) := by decide +kernel
theorem dX11_thingOf_94 : decode cX11_thingOf 94 = .ok (.new 351, 3) := by decide +kernel
theorem dX11_thingOf_97 : decode cX11_thingOf 97 = .ok (.dup, 1) := by decide +kernel
theorem dX11_thingOf_98 : decode cX11_thingOf 98 = .ok (.iload_n 1, 1) := by decide +kernel
theorem dX11_thingOf_99 : decode cX11_thingOf 99 = .ok (.iload_n 2, 1) := by decide +kernel
theorem dX11_thingOf_100 : decode cX11_thingOf 100 = .ok (.aload_n 0, 1) := by decide +kernel
theorem dX11_thingOf_101 : decode cX11_thingOf 101 = .ok (.getfield 58, 3) := by decide +kernel
theorem dX11_thingOf_104 : decode cX11_thingOf 104 = .ok (.invokespecial 353, 3) := by decide +kernel
theorem dX11_thingOf_107 : decode cX11_thingOf 107 = .ok (.areturn, 1) := by decide +kernel
theorem dX11_thingOf_108 : decode cX11_thingOf 108 = .ok (.new 354, 3) := by decide +kernel
theorem dX11_thingOf_111 : decode cX11_thingOf 111 = .ok (.dup, 1) := by decide +kernel
theorem dX11_thingOf_112 : decode cX11_thingOf 112 = .ok (.iload_n 1, 1) := by decide +kernel
theorem dX11_thingOf_113 : decode cX11_thingOf 113 = .ok (.iload_n 2, 1) := by decide +kernel
theorem dX11_thingOf_114 : decode cX11_thingOf 114 = .ok (.aload_n 0, 1) := by decide +kernel
theorem dX11_thingOf_115 : decode cX11_thingOf 115 = .ok (.getfield 58, 3) := by decide +kernel
theorem dX11_thingOf_118 : decode cX11_thingOf 118 = .ok (.invokespecial 356, 3) := by decide +kernel
theorem dX11_thingOf_121 : decode cX11_thingOf 121 = .ok (.areturn, 1) := by decide +kernel
theorem dX11_thingOf_122 : decode cX11_thingOf 122 = .ok (.new 308, 3) := by decide +kernel
theorem dX11_thingOf_125 : decode cX11_thingOf 125 = .ok (.dup, 1) := by decide +kernel
theorem dX11_thingOf_126 : decode cX11_thingOf 126 = .ok (.iload_n 1, 1) := by decide +kernel
theorem dX11_thingOf_127 : decode cX11_thingOf 127 = .ok (.iload_n 2, 1) := by decide +kernel
theorem dX11_thingOf_128 : decode cX11_thingOf 128 = .ok (.aload_n 0, 1) := by decide +kernel
theorem dX11_thingOf_129 : decode cX11_thingOf 129 = .ok (.getfield 58, 3) := by decide +kernel
theorem dX11_thingOf_132 : decode cX11_thingOf 132 = .ok (.invokespecial 357, 3) := by decide +kernel
theorem dX11_thingOf_135 : decode cX11_thingOf 135 = .ok (.areturn, 1) := by decide +kernel
theorem dX12_init_0 : decode cX12_init 0 = .ok (.aload_n 0, 1) := by decide +kernel
theorem dX12_init_1 : decode cX12_init 1 = .ok (.invokespecial 1, 3) := by decide +kernel
theorem dX12_init_4 : decode cX12_init 4 = .ok (.aload_n 0, 1) := by decide +kernel
theorem dX12_init_5 : decode cX12_init 5 = .ok (.bipush 40, 2) := by decide +kernel
theorem dX12_init_7 : decode cX12_init 7 = .ok (.newarray .int, 2) := by decide +kernel
theorem dX12_init_9 : decode cX12_init 9 = .ok (.putfield 7, 3) := by decide +kernel
theorem dX12_init_12 : decode cX12_init 12 = .ok (.aload_n 0, 1) := by decide +kernel
theorem dX12_init_13 : decode cX12_init 13 = .ok (.iconst 4, 1) := by decide +kernel
theorem dX12_init_14 : decode cX12_init 14 = .ok (.newarray .int, 2) := by decide +kernel
theorem dX12_init_16 : decode cX12_init 16 = .ok (.putfield 13, 3) := by decide +kernel
theorem dX12_init_19 : decode cX12_init 19 = .ok (.aload_n 0, 1) := by decide +kernel
theorem dX12_init_20 : decode cX12_init 20 = .ok (.iconst 4, 1) := by decide +kernel
theorem dX12_init_21 : decode cX12_init 21 = .ok (.newarray .int, 2) := by decide +kernel
theorem dX12_init_23 : decode cX12_init 23 = .ok (.putfield 16, 3) := by decide +kernel
theorem dX12_init_26 : decode cX12_init 26 = .ok (.aload_n 0, 1) := by decide +kernel
theorem dX12_init_27 : decode cX12_init 27 = .ok (.iconst 4, 1) := by decide +kernel
theorem dX12_init_28 : decode cX12_init 28 = .ok (.newarray .int, 2) := by decide +kernel
theorem dX12_init_30 : decode cX12_init 30 = .ok (.putfield 19, 3) := by decide +kernel
theorem dX12_init_33 : decode cX12_init 33 = .ok (.aload_n 0, 1) := by decide +kernel
theorem dX12_init_34 : decode cX12_init 34 = .ok (.bipush 8, 2) := by decide +kernel
theorem dX12_init_36 : decode cX12_init 36 = .ok (.newarray .int, 2) := by decide +kernel
theorem dX12_init_38 : decode cX12_init 38 = .ok (.dup, 1) := by decide +kernel
theorem dX12_init_39 : decode cX12_init 39 = .ok (.iconst 0, 1) := by decide +kernel
theorem dX12_init_40 : decode cX12_init 40 = .ok (.iconst 1, 1) := by decide +kernel
theorem dX12_init_41 : decode cX12_init 41 = .ok (.iastore, 1) := by decide +kernel
theorem dX12_init_42 : decode cX12_init 42 = .ok (.dup, 1) := by decide +kernel
theorem dX12_init_43 : decode cX12_init 43 = .ok (.iconst 1, 1) := by decide +kernel
theorem dX12_init_44 : decode cX12_init 44 = .ok (.iconst 1, 1) := by decide +kernel
theorem dX12_init_45 : decode cX12_init 45 = .ok (.iastore, 1) := by decide +kernel
theorem dX12_init_46 : decode cX12_init 46 = .ok (.dup, 1) := by decide +kernel
theorem dX12_init_47 : decode cX12_init 47 = .ok (.iconst 2, 1) := by decide +kernel
theorem dX12_init_48 : decode cX12_init 48 = .ok (.iconst 1, 1) := by decide +kernel
theorem dX12_init_49 : decode cX12_init 49 = .ok (.iastore, 1) := by decide +kernel
theorem dX12_init_50 : decode cX12_init 50 = .ok (.dup, 1) := by decide +kernel
theorem dX12_init_51 : decode cX12_init 51 = .ok (.iconst 3, 1) := by decide +kernel
theorem dX12_init_52 : decode cX12_init 52 = .ok (.iconst 1, 1) := by decide +kernel
theorem dX12_init_53 : decode cX12_init 53 = .ok (.iastore, 1) := by decide +kernel
theorem dX12_init_54 : decode cX12_init 54 = .ok (.dup, 1) := by decide +kernel
theorem dX12_init_55 : decode cX12_init 55 = .ok (.iconst 4, 1) := by decide +kernel
theorem dX12_init_56 : decode cX12_init 56 = .ok (.iconst 1, 1) := by decide +kernel
theorem dX12_init_57 : decode cX12_init 57 = .ok (.iastore, 1) := by decide +kernel
theorem dX12_init_58 : decode cX12_init 58 = .ok (.dup, 1) := by decide +kernel
theorem dX12_init_59 : decode cX12_init 59 = .ok (.iconst 5, 1) := by decide +kernel
theorem dX12_init_60 : decode cX12_init 60 = .ok (.iconst 1, 1) := by decide +kernel
theorem dX12_init_61 : decode cX12_init 61 = .ok (.iastore, 1) := by decide +kernel
theorem dX12_init_62 : decode cX12_init 62 = .ok (.dup, 1) := by decide +kernel
theorem dX12_init_63 : decode cX12_init 63 = .ok (.bipush 6, 2) := by decide +kernel
theorem dX12_init_65 : decode cX12_init 65 = .ok (.iconst 1, 1) := by decide +kernel
theorem dX12_init_66 : decode cX12_init 66 = .ok (.iastore, 1) := by decide +kernel
theorem dX12_init_67 : decode cX12_init 67 = .ok (.dup, 1) := by decide +kernel
theorem dX12_init_68 : decode cX12_init 68 = .ok (.bipush 7, 2) := by decide +kernel
theorem dX12_init_70 : decode cX12_init 70 = .ok (.iconst 1, 1) := by decide +kernel
theorem dX12_init_71 : decode cX12_init 71 = .ok (.iastore, 1) := by decide +kernel
theorem dX12_init_72 : decode cX12_init 72 = .ok (.putfield 22, 3) := by decide +kernel
theorem dX12_init_75 : decode cX12_init 75 = .ok (.aload_n 0, 1) := by decide +kernel
theorem dX12_init_76 : decode cX12_init 76 = .ok (.iconst 1, 1) := by decide +kernel
theorem dX12_init_77 : decode cX12_init 77 = .ok (.putfield 25, 3) := by decide +kernel
theorem dX12_init_80 : decode cX12_init 80 = .ok (.aload_n 0, 1) := by decide +kernel
theorem dX12_init_81 : decode cX12_init 81 = .ok (.bipush 8, 2) := by decide +kernel
theorem dX12_init_83 : decode cX12_init 83 = .ok (.newarray .int, 2) := by decide +kernel
theorem dX12_init_85 : decode cX12_init 85 = .ok (.putfield 29, 3) := by decide +kernel
theorem dX12_init_88 : decode cX12_init 88 = .ok (.aload_n 0, 1) := by decide +kernel
theorem dX12_init_89 : decode cX12_init 89 = .ok (.sipush 240, 3) := by decide +kernel
theorem dX12_init_92 : decode cX12_init 92 = .ok (.newarray .int, 2) := by decide +kernel
theorem dX12_init_94 : decode cX12_init 94 = .ok (.putfield 32, 3) := by decide +kernel
theorem dX12_init_97 : decode cX12_init 97 = .ok (.aload_n 0, 1) := by decide +kernel
theorem dX12_init_98 : decode cX12_init 98 = .ok (.bipush 40, 2) := by decide +kernel
theorem dX12_init_100 : decode cX12_init 100 = .ok (.newarray .int, 2) := by decide +kernel
theorem dX12_init_102 : decode cX12_init 102 = .ok (.putfield 35, 3) := by decide +kernel
theorem dX12_init_105 : decode cX12_init 105 = .ok (.aload_n 0, 1) := by decide +kernel
theorem dX12_init_106 : decode cX12_init 106 = .ok (.iconst 4, 1) := by decide +kernel
theorem dX12_init_107 : decode cX12_init 107 = .ok (.newarray .int, 2) := by decide +kernel
theorem dX12_init_109 : decode cX12_init 109 = .ok (.putfield 38, 3) := by decide +kernel
theorem dX12_init_112 : decode cX12_init 112 = .ok (.aload_n 0, 1) := by decide +kernel
theorem dX12_init_113 : decode cX12_init 113 = .ok (.iconst 4, 1) := by decide +kernel
theorem dX12_init_114 : decode cX12_init 114 = .ok (.newarray .int, 2) := by decide +kernel
theorem dX12_init_116 : decode cX12_init 116 = .ok (.putfield 41, 3) := by decide +kernel
theorem dX12_init_119 : decode cX12_init 119 = .ok (.aload_n 0, 1) := by decide +kernel
theorem dX12_init_120 : decode cX12_init 120 = .ok (.bipush 8, 2) := by decide +kernel
theorem dX12_init_122 : decode cX12_init 122 = .ok (.newarray .int, 2) := by decide +kernel
theorem dX12_init_124 : decode cX12_init 124 = .ok (.putfield 44, 3) := by decide +kernel
theorem dX12_init_127 : decode cX12_init 127 = .ok (.aload_n 0, 1) := by decide +kernel
theorem dX12_init_128 : decode cX12_init 128 = .ok (.bipush 8, 2) := by decide +kernel
theorem dX12_init_130 : decode cX12_init 130 = .ok (.newarray .int, 2) := by decide +kernel
theorem dX12_init_132 : decode cX12_init 132 = .ok (.putfield 47, 3) := by decide +kernel
theorem dX12_init_135 : decode cX12_init 135 = .ok (.aload_n 0, 1) := by decide +kernel
theorem dX12_init_136 : decode cX12_init 136 = .ok (.sipush 256, 3) := by decide +kernel
theorem dX12_init_139 : decode cX12_init 139 = .ok (.newarray .int, 2) := by decide +kernel
theorem dX12_init_141 : decode cX12_init 141 = .ok (.putfield 50, 3) := by decide +kernel
theorem dX12_init_144 : decode cX12_init 144 = .ok (.aload_n 0, 1) := by decide +kernel
theorem dX12_init_145 : decode cX12_init 145 = .ok (.bipush 8, 2) := by decide +kernel
theorem dX12_init_147 : decode cX12_init 147 = .ok (.newarray .long, 2) := by decide +kernel
theorem dX12_init_149 : decode cX12_init 149 = .ok (.putfield 53, 3) := by decide +kernel
theorem dX12_init_152 : decode cX12_init 152 = .ok (.aload_n 0, 1) := by decide +kernel
theorem dX12_init_153 : decode cX12_init 153 = .ok (.bipush 8, 2) := by decide +kernel
theorem dX12_init_155 : decode cX12_init 155 = .ok (.newarray .long, 2) := by decide +kernel
theorem dX12_init_157 : decode cX12_init 157 = .ok (.putfield 57, 3) := by decide +kernel
theorem dX12_init_160 : decode cX12_init 160 = .ok (.aload_n 0, 1) := by decide +kernel
theorem dX12_init_161 : decode cX12_init 161 = .ok (.bipush 24, 2) := by decide +kernel
theorem dX12_init_163 : decode cX12_init 163 = .ok (.newarray .int, 2) := by decide +kernel
theorem dX12_init_165 : decode cX12_init 165 = .ok (.putfield 60, 3) := by decide +kernel
theorem dX12_init_168 : decode cX12_init 168 = .ok (.aload_n 0, 1) := by decide +kernel
theorem dX12_init_169 : decode cX12_init 169 = .ok (.bipush 24, 2) := by decide +kernel
theorem dX12_init_171 : decode cX12_init 171 = .ok (.newarray .int, 2) := by decide +kernel
theorem dX12_init_173 : decode cX12_init 173 = .ok (.putfield 63, 3) := by decide +kernel
theorem dX12_init_176 : decode cX12_init 176 = .ok (.aload_n 0, 1) := by decide +kernel
theorem dX12_init_177 : decode cX12_init 177 = .ok (.iconst 4, 1) := by decide +kernel
theorem dX12_init_178 : decode cX12_init 178 = .ok (.newarray .int, 2) := by decide +kernel
theorem dX12_init_180 : decode cX12_init 180 = .ok (.dup, 1) := by decide +kernel
theorem dX12_init_181 : decode cX12_init 181 = .ok (.iconst 0, 1) := by decide +kernel
theorem dX12_init_182 : decode cX12_init 182 = .ok (.iconst (-1), 1) := by decide +kernel
theorem dX12_init_183 : decode cX12_init 183 = .ok (.iastore, 1) := by decide +kernel
theorem dX12_init_184 : decode cX12_init 184 = .ok (.dup, 1) := by decide +kernel
theorem dX12_init_185 : decode cX12_init 185 = .ok (.iconst 1, 1) := by decide +kernel
theorem dX12_init_186 : decode cX12_init 186 = .ok (.iconst (-1), 1) := by decide +kernel
theorem dX12_init_187 : decode cX12_init 187 = .ok (.iastore, 1) := by decide +kernel
theorem dX12_init_188 : decode cX12_init 188 = .ok (.dup, 1) := by decide +kernel
theorem dX12_init_189 : decode cX12_init 189 = .ok (.iconst 2, 1) := by decide +kernel
theorem dX12_init_190 : decode cX12_init 190 = .ok (.iconst (-1), 1) := by decide +kernel
theorem dX12_init_191 : decode cX12_init 191 = .ok (.iastore, 1) := by decide +kernel
theorem dX12_init_192 : decode cX12_init 192 = .ok (.dup, 1) := by decide +kernel
theorem dX12_init_193 : decode cX12_init 193 = .ok (.iconst 3, 1) := by decide +kernel
theorem dX12_init_194 : decode cX12_init 194 = .ok (.iconst (-1), 1) := by decide +kernel
theorem dX12_init_195 : decode cX12_init 195 = .ok (.iastore, 1) := by decide +kernel
theorem dX12_init_196 : decode cX12_init 196 = .ok (.putfield 66, 3) := by decide +kernel
theorem dX12_init_199 : decode cX12_init 199 = .ok (.aload_n 0, 1) := by decide +kernel
theorem dX12_init_200 : decode cX12_init 200 = .ok (.iconst 4, 1) := by decide +kernel
theorem dX12_init_201 : decode cX12_init 201 = .ok (.newarray .int, 2) := by decide +kernel
theorem dX12_init_203 : decode cX12_init 203 = .ok (.putfield 69, 3) := by decide +kernel
theorem dX12_init_206 : decode cX12_init 206 = .ok (.aload_n 0, 1) := by decide +kernel
theorem dX12_init_207 : decode cX12_init 207 = .ok (.sipush 160, 3) := by decide +kernel
theorem dX12_init_210 : decode cX12_init 210 = .ok (.newarray .long, 2) := by decide +kernel
theorem dX12_init_212 : decode cX12_init 212 = .ok (.putfield 72, 3) := by decide +kernel
theorem dX12_init_215 : decode cX12_init 215 = .ok (.aload_n 0, 1) := by decide +kernel
theorem dX12_init_216 : decode cX12_init 216 = .ok (.iconst 4, 1) := by decide +kernel
theorem dX12_init_217 : decode cX12_init 217 = .ok (.newarray .int, 2) := by decide +kernel
theorem dX12_init_219 : decode cX12_init 219 = .ok (.dup, 1) := by decide +kernel
theorem dX12_init_220 : decode cX12_init 220 = .ok (.iconst 0, 1) := by decide +kernel
theorem dX12_init_221 : decode cX12_init 221 = .ok (.iconst (-1), 1) := by decide +kernel
theorem dX12_init_222 : decode cX12_init 222 = .ok (.iastore, 1) := by decide +kernel
theorem dX12_init_223 : decode cX12_init 223 = .ok (.dup, 1) := by decide +kernel
theorem dX12_init_224 : decode cX12_init 224 = .ok (.iconst 1, 1) := by decide +kernel
theorem dX12_init_225 : decode cX12_init 225 = .ok (.iconst (-1), 1) := by decide +kernel
theorem dX12_init_226 : decode cX12_init 226 = .ok (.iastore, 1) := by decide +kernel
theorem dX12_init_227 : decode cX12_init 227 = .ok (.dup, 1) := by decide +kernel
theorem dX12_init_228 : decode cX12_init 228 = .ok (.iconst 2, 1) := by decide +kernel
theorem dX12_init_229 : decode cX12_init 229 = .ok (.iconst (-1), 1) := by decide +kernel
theorem dX12_init_230 : decode cX12_init 230 = .ok (.iastore, 1) := by decide +kernel
theorem dX12_init_231 : decode cX12_init 231 = .ok (.dup, 1) := by decide +kernel
theorem dX12_init_232 : decode cX12_init 232 = .ok (.iconst 3, 1) := by decide +kernel
theorem dX12_init_233 : decode cX12_init 233 = .ok (.iconst (-1), 1) := by decide +kernel
theorem dX12_init_234 : decode cX12_init 234 = .ok (.iastore, 1) := by decide +kernel
theorem dX12_init_235 : decode cX12_init 235 = .ok (.putfield 75, 3) := by decide +kernel
theorem dX12_init_238 : decode cX12_init 238 = .ok (.aload_n 0, 1) := by decide +kernel
theorem dX12_init_239 : decode cX12_init 239 = .ok (.iconst 4, 1) := by decide +kernel
theorem dX12_init_240 : decode cX12_init 240 = .ok (.newarray .int, 2) := by decide +kernel
theorem dX12_init_242 : decode cX12_init 242 = .ok (.putfield 78, 3) := by decide +kernel
theorem dX12_init_245 : decode cX12_init 245 = .ok (.aload_n 0, 1) := by decide +kernel
theorem dX12_init_246 : decode cX12_init 246 = .ok (.iconst 4, 1) := by decide +kernel
theorem dX12_init_247 : decode cX12_init 247 = .ok (.newarray .int, 2) := by decide +kernel
theorem dX12_init_249 : decode cX12_init 249 = .ok (.putfield 81, 3) := by decide +kernel
theorem dX12_init_252 : decode cX12_init 252 = .ok (.aload_n 0, 1) := by decide +kernel
theorem dX12_init_253 : decode cX12_init 253 = .ok (.bipush 30, 2) := by decide +kernel
theorem dX12_init_255 : decode cX12_init 255 = .ok (.newarray .int, 2) := by decide +kernel
theorem dX12_init_257 : decode cX12_init 257 = .ok (.putfield 84, 3) := by decide +kernel
theorem dX12_init_260 : decode cX12_init 260 = .ok (.aload_n 0, 1) := by decide +kernel
theorem dX12_init_261 : decode cX12_init 261 = .ok (.bipush 80, 2) := by decide +kernel
theorem dX12_init_263 : decode cX12_init 263 = .ok (.newarray .int, 2) := by decide +kernel
theorem dX12_init_265 : decode cX12_init 265 = .ok (.putfield 87, 3) := by decide +kernel
theorem dX12_init_268 : decode cX12_init 268 = .ok (.aload_n 0, 1) := by decide +kernel
theorem dX12_init_269 : decode cX12_init 269 = .ok (.bipush 7, 2) := by decide +kernel
theorem dX12_init_271 : decode cX12_init 271 = .ok (.newarray .int, 2) := by decide +kernel
theorem dX12_init_273 : decode cX12_init 273 = .ok (.putfield 90, 3) := by decide +kernel
theorem dX12_init_276 : decode cX12_init 276 = .ok (.return_, 1) := by decide +kernel
theorem dX12_in_0 : decode cX12_in 0 = .ok (.iload_n 0, 1) := by decide +kernel
theorem dX12_in_1 : decode cX12_in 1 = .ok (.iload_n 1, 1) := by decide +kernel
theorem dX12_in_2 : decode cX12_in 2 = .ok (.if_icmp .lt 12, 3) := by decide +kernel
theorem dX12_in_5 : decode cX12_in 5 = .ok (.iload_n 0, 1) := by decide +kernel
theorem dX12_in_6 : decode cX12_in 6 = .ok (.iload_n 2, 1) := by decide +kernel
theorem dX12_in_7 : decode cX12_in 7 = .ok (.if_icmp .gt 7, 3) := by decide +kernel
theorem dX12_in_10 : decode cX12_in 10 = .ok (.iconst 1, 1) := by decide +kernel
theorem dX12_in_11 : decode cX12_in 11 = .ok (.goto 4, 3) := by decide +kernel
theorem dX12_in_14 : decode cX12_in 14 = .ok (.iconst 0, 1) := by decide +kernel
theorem dX12_in_15 : decode cX12_in 15 = .ok (.ireturn, 1) := by decide +kernel
theorem dX12_isClearing_0 : decode cX12_isClearing 0 = .ok (.iload_n 0, 1) := by decide +kernel
theorem dX12_isClearing_1 : decode cX12_isClearing 1 = .ok (.iconst 0, 1) := by decide +kernel
theorem dX12_isClearing_2 : decode cX12_isClearing 2 = .ok (.bipush 7, 2) := by decide +kernel
theorem dX12_isClearing_4 : decode cX12_isClearing 4 = .ok (.invokestatic 93, 3) := by decide +kernel
theorem dX12_isClearing_7 : decode cX12_isClearing 7 = .ok (.ireturn, 1) := by decide +kernel
theorem dX12_isPath_0 : decode cX12_isPath 0 = .ok (.iload_n 1, 1) := by decide +kernel
theorem dX12_isPath_1 : decode cX12_isPath 1 = .ok (.iconst 0, 1) := by decide +kernel
theorem dX12_isPath_2 : decode cX12_isPath 2 = .ok (.aload_n 0, 1) := by decide +kernel
theorem dX12_isPath_3 : decode cX12_isPath 3 = .ok (.getfield 97, 3) := by decide +kernel
theorem dX12_isPath_6 : decode cX12_isPath 6 = .ok (.iconst 1, 1) := by decide +kernel
theorem dX12_isPath_7 : decode cX12_isPath 7 = .ok (.isub, 1) := by decide +kernel
theorem dX12_isPath_8 : decode cX12_isPath 8 = .ok (.invokestatic 93, 3) := by decide +kernel
theorem dX12_isPath_11 : decode cX12_isPath 11 = .ok (.ireturn, 1) := by decide +kernel
theorem dX12_isWalker_0 : decode cX12_isWalker 0 = .ok (.iload_n 1, 1) := by decide +kernel
theorem dX12_isWalker_1 : decode cX12_isWalker 1 = .ok (.iconst 0, 1) := by decide +kernel
theorem dX12_isWalker_2 : decode cX12_isWalker 2 = .ok (.aload_n 0, 1) := by decide +kernel
theorem dX12_isWalker_3 : decode cX12_isWalker 3 = .ok (.getfield 100, 3) := by decide +kernel
theorem dX12_isWalker_6 : decode cX12_isWalker 6 = .ok (.iconst 1, 1) := by decide +kernel
theorem dX12_isWalker_7 : decode cX12_isWalker 7 = .ok (.isub, 1) := by decide +kernel
theorem dX12_isWalker_8 : decode cX12_isWalker 8 = .ok (.invokestatic 93, 3) := by decide +kernel
theorem dX12_isWalker_11 : decode cX12_isWalker 11 = .ok (.ireturn, 1) := by decide +kernel
theorem dX12_isSide_0 : decode cX12_isSide 0 = .ok (.iload_n 0, 1) := by decide +kernel
theorem dX12_isSide_1 : decode cX12_isSide 1 = .ok (.iconst 0, 1) := by decide +kernel
theorem dX12_isSide_2 : decode cX12_isSide 2 = .ok (.iconst 1, 1) := by decide +kernel
theorem dX12_isSide_3 : decode cX12_isSide 3 = .ok (.invokestatic 93, 3) := by decide +kernel
theorem dX12_isSide_6 : decode cX12_isSide 6 = .ok (.ireturn, 1) := by decide +kernel
theorem dX12_its_0 : decode cX12_its 0 = .ok (.aload_n 0, 1) := by decide +kernel
theorem dX12_its_1 : decode cX12_its 1 = .ok (.getfield 7, 3) := by decide +kernel
theorem dX12_its_4 : decode cX12_its 4 = .ok (.iconst 5, 1) := by decide +kernel
theorem dX12_its_5 : decode cX12_its 5 = .ok (.iload_n 1, 1) := by decide +kernel
theorem dX12_its_6 : decode cX12_its 6 = .ok (.imul, 1) := by decide +kernel
theorem dX12_its_7 : decode cX12_its 7 = .ok (.iload_n 2, 1) := by decide +kernel
theorem dX12_its_8 : decode cX12_its 8 = .ok (.iadd, 1) := by decide +kernel
theorem dX12_its_9 : decode cX12_its 9 = .ok (.iaload, 1) := by decide +kernel
theorem dX12_its_10 : decode cX12_its 10 = .ok (.ireturn, 1) := by decide +kernel
theorem dX12_isThere_0 : decode cX12_isThere 0 = .ok (.aload_n 0, 1) := by decide +kernel
theorem dX12_isThere_1 : decode cX12_isThere 1 = .ok (.getfield 103, 3) := by decide +kernel
theorem dX12_isThere_4 : decode cX12_isThere 4 = .ok (.iload_n 1, 1) := by decide +kernel
theorem dX12_isThere_5 : decode cX12_isThere 5 = .ok (.ishr, 1) := by decide +kernel
theorem dX12_isThere_6 : decode cX12_isThere 6 = .ok (.iconst 1, 1) := by decide +kernel
theorem dX12_isThere_7 : decode cX12_isThere 7 = .ok (.iand, 1) := by decide +kernel
theorem dX12_isThere_8 : decode cX12_isThere 8 = .ok (.iconst 1, 1) := by decide +kernel
theorem dX12_isThere_9 : decode cX12_isThere 9 = .ok (.if_icmp .ne 7, 3) := by decide +kernel
theorem dX12_isThere_12 : decode cX12_isThere 12 = .ok (.iconst 1, 1) := by decide +kernel
theorem dX12_isThere_13 : decode cX12_isThere 13 = .ok (.goto 4, 3) := by decide +kernel
theorem dX12_isThere_16 : decode cX12_isThere 16 = .ok (.iconst 0, 1) := by decide +kernel
theorem dX12_isThere_17 : decode cX12_isThere 17 = .ok (.ireturn, 1) := by decide +kernel
theorem dX12_isEnd_0 : decode cX12_isEnd 0 = .ok (.aload_n 0, 1) := by decide +kernel
theorem dX12_isEnd_1 : decode cX12_isEnd 1 = .ok (.iload_n 1, 1) := by decide +kernel
theorem dX12_isEnd_2 : decode cX12_isEnd 2 = .ok (.iconst 1, 1) := by decide +kernel
theorem dX12_isEnd_3 : decode cX12_isEnd 3 = .ok (.invokevirtual 106, 3) := by decide +kernel
theorem dX12_isEnd_6 : decode cX12_isEnd 6 = .ok (.iload_n 2, 1) := by decide +kernel
theorem dX12_isEnd_7 : decode cX12_isEnd 7 = .ok (.if_icmp .eq 13, 3) := by decide +kernel
theorem dX12_isEnd_10 : decode cX12_isEnd 10 = .ok (.aload_n 0, 1) := by decide +kernel
theorem dX12_isEnd_11 : decode cX12_isEnd 11 = .ok (.iload_n 1, 1) := by decide +kernel
theorem dX12_isEnd_12 : decode cX12_isEnd 12 = .ok (.iconst 2, 1) := by decide +kernel
theorem dX12_isEnd_13 : decode cX12_isEnd 13 = .ok (.invokevirtual 106, 3) := by decide +kernel
theorem dX12_isEnd_16 : decode cX12_isEnd 16 = .ok (.iload_n 2, 1) := by decide +kernel
theorem dX12_isEnd_17 : decode cX12_isEnd 17 = .ok (.if_icmp .ne 7, 3) := by decide +kernel
theorem dX12_isEnd_20 : decode cX12_isEnd 20 = .ok (.iconst 1, 1) := by decide +kernel
theorem dX12_isEnd_21 : decode cX12_isEnd 21 = .ok (.goto 4, 3) := by decide +kernel
theorem dX12_isEnd_24 : decode cX12_isEnd 24 = .ok (.iconst 0, 1) := by decide +kernel
theorem dX12_isEnd_25 : decode cX12_isEnd 25 = .ok (.ireturn, 1) := by decide +kernel
theorem dX12_otherEnd_0 : decode cX12_otherEnd 0 = .ok (.aload_n 0, 1) := by decide +kernel
theorem dX12_otherEnd_1 : decode cX12_otherEnd 1 = .ok (.iload_n 1, 1) := by decide +kernel
theorem dX12_otherEnd_2 : decode cX12_otherEnd 2 = .ok (.iconst 1, 1) := by decide +kernel
theorem dX12_otherEnd_3 : decode cX12_otherEnd 3 = .ok (.invokevirtual 106, 3) := by decide +kernel
theorem dX12_otherEnd_6 : decode cX12_otherEnd 6 = .ok (.iload_n 2, 1) := by decide +kernel
theorem dX12_otherEnd_7 : decode cX12_otherEnd 7 = .ok (.if_icmp .ne 12, 3) := by decide +kernel
theorem dX12_otherEnd_10 : decode cX12_otherEnd 10 = .ok (.aload_n 0, 1) := by decide +kernel
theorem dX12_otherEnd_11 : decode cX12_otherEnd 11 = .ok (.iload_n 1, 1) := by decide +kernel
theorem dX12_otherEnd_12 : decode cX12_otherEnd 12 = .ok (.iconst 2, 1) := by decide +kernel
theorem dX12_otherEnd_13 : decode cX12_otherEnd 13 = .ok (.invokevirtual 106, 3) := by decide +kernel
theorem dX12_otherEnd_16 : decode cX12_otherEnd 16 = .ok (.goto 9, 3) := by decide +kernel
theorem dX12_otherEnd_19 : decode cX12_otherEnd 19 = .ok (.aload_n 0, 1) := by decide +kernel
theorem dX12_otherEnd_20 : decode cX12_otherEnd 20 = .ok (.iload_n 1, 1) := by decide +kernel
theorem dX12_otherEnd_21 : decode cX12_otherEnd 21 = .ok (.iconst 1, 1) := by decide +kernel
theorem dX12_otherEnd_22 : decode cX12_otherEnd 22 = .ok (.invokevirtual 106, 3) := by decide +kernel
theorem dX12_otherEnd_25 : decode cX12_otherEnd 25 = .ok (.ireturn, 1) := by decide +kernel
theorem dX12_feed_0 : decode cX12_feed 0 = .ok (.iload_n 3, 1) := by decide +kernel
theorem dX12_feed_1 : decode cX12_feed 1 = .ok (.iconst 1, 1) := by decide +kernel
theorem dX12_feed_2 : decode cX12_feed 2 = .ok (.bipush 8, 2) := by decide +kernel
theorem dX12_feed_4 : decode cX12_feed 4 = .ok (.invokestatic 93, 3) := by decide +kernel
theorem dX12_feed_7 : decode cX12_feed 7 = .ok (.ifCond .ne 5, 3) := by decide +kernel
theorem dX12_feed_10 : decode cX12_feed 10 = .ok (.iconst (-1), 1) := by decide +kernel
theorem dX12_feed_11 : decode cX12_feed 11 = .ok (.ireturn, 1) := by decide +kernel
theorem dX12_feed_12 : decode cX12_feed 12 = .ok (.aload_n 0, 1) := by decide +kernel
theorem dX12_feed_13 : decode cX12_feed 13 = .ok (.getfield 110, 3) := by decide +kernel
theorem dX12_feed_16 : decode cX12_feed 16 = .ok (.iload_n 3, 1) := by decide +kernel
theorem dX12_feed_17 : decode cX12_feed 17 = .ok (.iadd, 1) := by decide +kernel
theorem dX12_feed_18 : decode cX12_feed 18 = .ok (.sipush 240, 3) := by decide +kernel
theorem dX12_feed_21 : decode cX12_feed 21 = .ok (.if_icmp .le 6, 3) := by decide +kernel
theorem dX12_feed_24 : decode cX12_feed 24 = .ok (.bipush (-2), 2) := by decide +kernel
theorem dX12_feed_26 : decode cX12_feed 26 = .ok (.ireturn, 1) := by decide +kernel
theorem dX12_feed_27 : decode cX12_feed 27 = .ok (.iconst 0, 1) := by decide +kernel
theorem dX12_feed_28 : decode cX12_feed 28 = .ok (.istore 4, 2) := by decide +kernel
theorem dX12_feed_30 : decode cX12_feed 30 = .ok (.iload 4, 2) := by decide +kernel
theorem dX12_feed_32 : decode cX12_feed 32 = .ok (.iload_n 3, 1) := by decide +kernel
theorem dX12_feed_33 : decode cX12_feed 33 = .ok (.if_icmp .ge 40, 3) := by decide +kernel
theorem dX12_feed_36 : decode cX12_feed 36 = .ok (.aload_n 0, 1) := by decide +kernel
theorem dX12_feed_37 : decode cX12_feed 37 = .ok (.getfield 32, 3) := by decide +kernel
theorem dX12_feed_40 : decode cX12_feed 40 = .ok (.aload_n 0, 1) := by decide +kernel
theorem dX12_feed_41 : decode cX12_feed 41 = .ok (.getfield 110, 3) := by decide +kernel
theorem dX12_feed_44 : decode cX12_feed 44 = .ok (.lload_n 1, 1) := by decide +kernel
theorem dX12_feed_45 : decode cX12_feed 45 = .ok (.bipush 8, 2) := by decide +kernel
theorem dX12_feed_47 : decode cX12_feed 47 = .ok (.iload 4, 2) := by decide +kernel
theorem dX12_feed_49 : decode cX12_feed 49 = .ok (.imul, 1) := by decide +kernel
theorem dX12_feed_50 : decode cX12_feed 50 = .ok (.lshr, 1) := by decide +kernel
theorem dX12_feed_51 : decode cX12_feed 51 = .ok (.ldc2_w 113, 3) := by decide +kernel
theorem dX12_feed_54 : decode cX12_feed 54 = .ok (.land, 1) := by decide +kernel
theorem dX12_feed_55 : decode cX12_feed 55 = .ok (.l2i, 1) := by decide +kernel
theorem dX12_feed_56 : decode cX12_feed 56 = .ok (.iastore, 1) := by decide +kernel
theorem dX12_feed_57 : decode cX12_feed 57 = .ok (.aload_n 0, 1) := by decide +kernel
theorem dX12_feed_58 : decode cX12_feed 58 = .ok (.dup, 1) := by decide +kernel
theorem dX12_feed_59 : decode cX12_feed 59 = .ok (.getfield 110, 3) := by decide +kernel
theorem dX12_feed_62 : decode cX12_feed 62 = .ok (.iconst 1, 1) := by decide +kernel
theorem dX12_feed_63 : decode cX12_feed 63 = .ok (.iadd, 1) := by decide +kernel
theorem dX12_feed_64 : decode cX12_feed 64 = .ok (.putfield 110, 3) := by decide +kernel
theorem dX12_feed_67 : decode cX12_feed 67 = .ok (.iinc 4 1, 3) := by decide +kernel
theorem dX12_feed_70 : decode cX12_feed 70 = .ok (.goto (-40), 3) := by decide +kernel
theorem dX12_feed_73 : decode cX12_feed 73 = .ok (.aload_n 0, 1) := by decide +kernel
theorem dX12_feed_74 : decode cX12_feed 74 = .ok (.getfield 110, 3) := by decide +kernel
theorem dX12_feed_77 : decode cX12_feed 77 = .ok (.ireturn, 1) := by decide +kernel
theorem dX12_byteAt_0 : decode cX12_byteAt 0 = .ok (.iload_n 1, 1) := by decide +kernel
theorem dX12_byteAt_1 : decode cX12_byteAt 1 = .ok (.aload_n 0, 1) := by decide +kernel
theorem dX12_byteAt_2 : decode cX12_byteAt 2 = .ok (.getfield 110, 3) := by decide +kernel
theorem dX12_byteAt_5 : decode cX12_byteAt 5 = .ok (.if_icmp .ge 12, 3) := by decide +kernel
theorem dX12_byteAt_8 : decode cX12_byteAt 8 = .ok (.aload_n 0, 1) := by decide +kernel
theorem dX12_byteAt_9 : decode cX12_byteAt 9 = .ok (.getfield 32, 3) := by decide +kernel
theorem dX12_byteAt_12 : decode cX12_byteAt 12 = .ok (.iload_n 1, 1) := by decide +kernel
theorem dX12_byteAt_13 : decode cX12_byteAt 13 = .ok (.iaload, 1) := by decide +kernel
theorem dX12_byteAt_14 : decode cX12_byteAt 14 = .ok (.goto 4, 3) := by decide +kernel
theorem dX12_byteAt_17 : decode cX12_byteAt 17 = .ok (.iconst (-1), 1) := by decide +kernel
theorem dX12_byteAt_18 : decode cX12_byteAt 18 = .ok (.ireturn, 1) := by decide +kernel
theorem dX12_isLetter_0 : decode cX12_isLetter 0 = .ok (.iload_n 0, 1) := by decide +kernel
theorem dX12_isLetter_1 : decode cX12_isLetter 1 = .ok (.bipush 97, 2) := by decide +kernel
theorem dX12_isLetter_3 : decode cX12_isLetter 3 = .ok (.bipush 122, 2) := by decide +kernel
theorem dX12_isLetter_5 : decode cX12_isLetter 5 = .ok (.invokestatic 93, 3) := by decide +kernel
theorem dX12_isLetter_8 : decode cX12_isLetter 8 = .ok (.ireturn, 1) := by decide +kernel
theorem dX12_isDigit_0 : decode cX12_isDigit 0 = .ok (.iload_n 0, 1) := by decide +kernel
theorem dX12_isDigit_1 : decode cX12_isDigit 1 = .ok (.bipush 48, 2) := by decide +kernel
theorem dX12_isDigit_3 : decode cX12_isDigit 3 = .ok (.bipush 57, 2) := by decide +kernel
theorem dX12_isDigit_5 : decode cX12_isDigit 5 = .ok (.invokestatic 93, 3) := by decide +kernel
theorem dX12_isDigit_8 : decode cX12_isDigit 8 = .ok (.ireturn, 1) := by decide +kernel
theorem dX12_advance_0 : decode cX12_advance 0 = .ok (.aload_n 0, 1) := by decide +kernel
theorem dX12_advance_1 : decode cX12_advance 1 = .ok (.aload_n 0, 1) := by decide +kernel
theorem dX12_advance_2 : decode cX12_advance 2 = .ok (.getfield 115, 3) := by decide +kernel
theorem dX12_advance_5 : decode cX12_advance 5 = .ok (.putfield 118, 3) := by decide +kernel
theorem dX12_advance_8 : decode cX12_advance 8 = .ok (.aload_n 0, 1) := by decide +kernel
theorem dX12_advance_9 : decode cX12_advance 9 = .ok (.aload_n 0, 1) := by decide +kernel
theorem dX12_advance_10 : decode cX12_advance 10 = .ok (.getfield 118, 3) := by decide +kernel
theorem dX12_advance_13 : decode cX12_advance 13 = .ok (.invokevirtual 121, 3) := by decide +kernel
theorem dX12_advance_16 : decode cX12_advance 16 = .ok (.bipush 32, 2) := by decide +kernel
theorem dX12_advance_18 : decode cX12_advance 18 = .ok (.if_icmp .ne 16, 3) := by decide +kernel
theorem dX12_advance_21 : decode cX12_advance 21 = .ok (.aload_n 0, 1) := by decide +kernel
theorem dX12_advance_22 : decode cX12_advance 22 = .ok (.dup, 1) := by decide +kernel
theorem dX12_advance_23 : decode cX12_advance 23 = .ok (.getfield 118, 3) := by decide +kernel
theorem dX12_advance_26 : decode cX12_advance 26 = .ok (.iconst 1, 1) := by decide +kernel
theorem dX12_advance_27 : decode cX12_advance 27 = .ok (.iadd, 1) := by decide +kernel
theorem dX12_advance_28 : decode cX12_advance 28 = .ok (.putfield 118, 3) := by decide +kernel
theorem dX12_advance_31 : decode cX12_advance 31 = .ok (.goto (-23), 3) := by decide +kernel
theorem dX12_advance_34 : decode cX12_advance 34 = .ok (.aload_n 0, 1) := by decide +kernel
theorem dX12_advance_35 : decode cX12_advance 35 = .ok (.aload_n 0, 1) := by decide +kernel
theorem dX12_advance_36 : decode cX12_advance 36 = .ok (.getfield 118, 3) := by decide +kernel
theorem dX12_advance_39 : decode cX12_advance 39 = .ok (.putfield 115, 3) := by decide +kernel
theorem dX12_advance_42 : decode cX12_advance 42 = .ok (.aload_n 0, 1) := by decide +kernel
theorem dX12_advance_43 : decode cX12_advance 43 = .ok (.aload_n 0, 1) := by decide +kernel
theorem dX12_advance_44 : decode cX12_advance 44 = .ok (.getfield 118, 3) := by decide +kernel
theorem dX12_advance_47 : decode cX12_advance 47 = .ok (.invokevirtual 121, 3) := by decide +kernel
theorem dX12_advance_50 : decode cX12_advance 50 = .ok (.istore_n 1, 1) := by decide +kernel
theorem dX12_advance_51 : decode cX12_advance 51 = .ok (.aload_n 0, 1) := by decide +kernel
theorem dX12_advance_52 : decode cX12_advance 52 = .ok (.iload_n 1, 1) := by decide +kernel
theorem dX12_advance_53 : decode cX12_advance 53 = .ok (.ifCond .ge 7, 3) := by decide +kernel
theorem dX12_advance_56 : decode cX12_advance 56 = .ok (.iconst 0, 1) := by decide +kernel
theorem dX12_advance_57 : decode cX12_advance 57 = .ok (.goto 26, 3) := by decide +kernel
theorem dX12_advance_60 : decode cX12_advance 60 = .ok (.iload_n 1, 1) := by decide +kernel
theorem dX12_advance_61 : decode cX12_advance 61 = .ok (.invokestatic 125, 3) := by decide +kernel
theorem dX12_advance_64 : decode cX12_advance 64 = .ok (.ifCond .eq 7, 3) := by decide +kernel
theorem dX12_advance_67 : decode cX12_advance 67 = .ok (.iconst 1, 1) := by decide +kernel
theorem dX12_advance_68 : decode cX12_advance 68 = .ok (.goto 15, 3) := by decide +kernel
theorem dX12_advance_71 : decode cX12_advance 71 = .ok (.iload_n 1, 1) := by decide +kernel
theorem dX12_advance_72 : decode cX12_advance 72 = .ok (.invokestatic 129, 3) := by decide +kernel
theorem dX12_advance_75 : decode cX12_advance 75 = .ok (.ifCond .eq 7, 3) := by decide +kernel
theorem dX12_advance_78 : decode cX12_advance 78 = .ok (.iconst 2, 1) := by decide +kernel
theorem dX12_advance_79 : decode cX12_advance 79 = .ok (.goto 4, 3) := by decide +kernel
theorem dX12_advance_82 : decode cX12_advance 82 = .ok (.iconst 3, 1) := by decide +kernel
theorem dX12_advance_83 : decode cX12_advance 83 = .ok (.putfield 132, 3) := by decide +kernel
theorem dX12_advance_86 : decode cX12_advance 86 = .ok (.aload_n 0, 1) := by decide +kernel
theorem dX12_advance_87 : decode cX12_advance 87 = .ok (.lconst 0, 1) := by decide +kernel
theorem dX12_advance_88 : decode cX12_advance 88 = .ok (.putfield 135, 3) := by decide +kernel
theorem dX12_advance_91 : decode cX12_advance 91 = .ok (.aload_n 0, 1) := by decide +kernel
theorem dX12_advance_92 : decode cX12_advance 92 = .ok (.aload_n 0, 1) := by decide +kernel
theorem dX12_advance_93 : decode cX12_advance 93 = .ok (.getfield 132, 3) := by decide +kernel
theorem dX12_advance_96 : decode cX12_advance 96 = .ok (.iconst 2, 1) := by decide +kernel
theorem dX12_advance_97 : decode cX12_advance 97 = .ok (.if_icmp .ne 7, 3) := by decide +kernel
theorem dX12_advance_100 : decode cX12_advance 100 = .ok (.iconst 0, 1) := by decide +kernel
theorem dX12_advance_101 : decode cX12_advance 101 = .ok (.goto 4, 3) := by decide +kernel
theorem dX12_advance_104 : decode cX12_advance 104 = .ok (.iload_n 1, 1) := by decide +kernel
theorem dX12_advance_105 : decode cX12_advance 105 = .ok (.putfield 139, 3) := by decide +kernel
theorem dX12_advance_108 : decode cX12_advance 108 = .ok (.aload_n 0, 1) := by decide +kernel
theorem dX12_advance_109 : decode cX12_advance 109 = .ok (.getfield 132, 3) := by decide +kernel
theorem dX12_advance_112 : decode cX12_advance 112 = .ok (.iconst 3, 1) := by decide +kernel
theorem dX12_advance_113 : decode cX12_advance 113 = .ok (.if_icmp .ne 13, 3) := by decide +kernel
theorem dX12_advance_116 : decode cX12_advance 116 = .ok (.aload_n 0, 1) := by decide +kernel
theorem dX12_advance_117 : decode cX12_advance 117 = .ok (.dup, 1) := by decide +kernel
theorem dX12_advance_118 : decode cX12_advance 118 = .ok (.getfield 115, 3) := by decide +kernel
theorem dX12_advance_121 : decode cX12_advance 121 = .ok (.iconst 1, 1) := by decide +kernel
theorem dX12_advance_122 : decode cX12_advance 122 = .ok (.iadd, 1) := by decide +kernel
theorem dX12_advance_123 : decode cX12_advance 123 = .ok (.putfield 115, 3) := by decide +kernel
theorem dX12_advance_126 : decode cX12_advance 126 = .ok (.aload_n 0, 1) := by decide +kernel
theorem dX12_advance_127 : decode cX12_advance 127 = .ok (.getfield 132, 3) := by decide +kernel
theorem dX12_advance_130 : decode cX12_advance 130 = .ok (.iconst 1, 1) := by decide +kernel
theorem dX12_advance_131 : decode cX12_advance 131 = .ok (.if_icmp .ne 76, 3) := by decide +kernel
theorem dX12_advance_134 : decode cX12_advance 134 = .ok (.aload_n 0, 1) := by decide +kernel
theorem dX12_advance_135 : decode cX12_advance 135 = .ok (.aload_n 0, 1) := by decide +kernel
theorem dX12_advance_136 : decode cX12_advance 136 = .ok (.getfield 115, 3) := by decide +kernel
theorem dX12_advance_139 : decode cX12_advance 139 = .ok (.invokevirtual 121, 3) := by decide +kernel
theorem dX12_advance_142 : decode cX12_advance 142 = .ok (.invokestatic 125, 3) := by decide +kernel
theorem dX12_advance_145 : decode cX12_advance 145 = .ok (.ifCond .eq 62, 3) := by decide +kernel
theorem dX12_advance_148 : decode cX12_advance 148 = .ok (.aload_n 0, 1) := by decide +kernel
theorem dX12_advance_149 : decode cX12_advance 149 = .ok (.aload_n 0, 1) := by decide +kernel
theorem dX12_advance_150 : decode cX12_advance 150 = .ok (.getfield 115, 3) := by decide +kernel
theorem dX12_advance_153 : decode cX12_advance 153 = .ok (.aload_n 0, 1) := by decide +kernel
theorem dX12_advance_154 : decode cX12_advance 154 = .ok (.getfield 118, 3) := by decide +kernel
theorem dX12_advance_157 : decode cX12_advance 157 = .ok (.isub, 1) := by decide +kernel
theorem dX12_advance_158 : decode cX12_advance 158 = .ok (.bipush 8, 2) := by decide +kernel
theorem dX12_advance_160 : decode cX12_advance 160 = .ok (.if_icmp .ge 28, 3) := by decide +kernel
theorem dX12_advance_163 : decode cX12_advance 163 = .ok (.ldc2_w 142, 3) := by decide +kernel
theorem dX12_advance_166 : decode cX12_advance 166 = .ok (.aload_n 0, 1) := by decide +kernel
theorem dX12_advance_167 : decode cX12_advance 167 = .ok (.getfield 135, 3) := by decide +kernel
theorem dX12_advance_170 : decode cX12_advance 170 = .ok (.lmul, 1) := by decide +kernel
theorem dX12_advance_171 : decode cX12_advance 171 = .ok (.aload_n 0, 1) := by decide +kernel
theorem dX12_advance_172 : decode cX12_advance 172 = .ok (.aload_n 0, 1) := by decide +kernel
theorem dX12_advance_173 : decode cX12_advance 173 = .ok (.getfield 115, 3) := by decide +kernel
theorem dX12_advance_176 : decode cX12_advance 176 = .ok (.invokevirtual 121, 3) := by decide +kernel
theorem dX12_advance_179 : decode cX12_advance 179 = .ok (.i2l, 1) := by decide +kernel
theorem dX12_advance_180 : decode cX12_advance 180 = .ok (.ladd, 1) := by decide +kernel
theorem dX12_advance_181 : decode cX12_advance 181 = .ok (.ldc2_w 144, 3) := by decide +kernel
theorem dX12_advance_184 : decode cX12_advance 184 = .ok (.lsub, 1) := by decide +kernel
theorem dX12_advance_185 : decode cX12_advance 185 = .ok (.goto 6, 3) := by decide +kernel
theorem dX12_advance_188 : decode cX12_advance 188 = .ok (.ldc2_w 146, 3) := by decide +kernel
theorem dX12_advance_191 : decode cX12_advance 191 = .ok (.putfield 135, 3) := by decide +kernel
theorem dX12_advance_194 : decode cX12_advance 194 = .ok (.aload_n 0, 1) := by decide +kernel
theorem dX12_advance_195 : decode cX12_advance 195 = .ok (.dup, 1) := by decide +kernel
theorem dX12_advance_196 : decode cX12_advance 196 = .ok (.getfield 115, 3) := by decide +kernel
theorem dX12_advance_199 : decode cX12_advance 199 = .ok (.iconst 1, 1) := by decide +kernel
theorem dX12_advance_200 : decode cX12_advance 200 = .ok (.iadd, 1) := by decide +kernel
theorem dX12_advance_201 : decode cX12_advance 201 = .ok (.putfield 115, 3) := by decide +kernel
theorem dX12_advance_204 : decode cX12_advance 204 = .ok (.goto (-78), 3) := by decide +kernel
theorem dX12_advance_207 : decode cX12_advance 207 = .ok (.aload_n 0, 1) := by decide +kernel
theorem dX12_advance_208 : decode cX12_advance 208 = .ok (.getfield 132, 3) := by decide +kernel
theorem dX12_advance_211 : decode cX12_advance 211 = .ok (.iconst 2, 1) := by decide +kernel
theorem dX12_advance_212 : decode cX12_advance 212 = .ok (.if_icmp .ne 70, 3) := by decide +kernel
theorem dX12_advance_215 : decode cX12_advance 215 = .ok (.aload_n 0, 1) := by decide +kernel
theorem dX12_advance_216 : decode cX12_advance 216 = .ok (.aload_n 0, 1) := by decide +kernel
theorem dX12_advance_217 : decode cX12_advance 217 = .ok (.getfield 115, 3) := by decide +kernel
theorem dX12_advance_220 : decode cX12_advance 220 = .ok (.invokevirtual 121, 3) := by decide +kernel
theorem dX12_advance_223 : decode cX12_advance 223 = .ok (.invokestatic 129, 3) := by decide +kernel
theorem dX12_advance_226 : decode cX12_advance 226 = .ok (.ifCond .eq 56, 3) := by decide +kernel
theorem dX12_advance_229 : decode cX12_advance 229 = .ok (.aload_n 0, 1) := by decide +kernel
theorem dX12_advance_230 : decode cX12_advance 230 = .ok (.aload_n 0, 1) := by decide +kernel
theorem dX12_advance_231 : decode cX12_advance 231 = .ok (.getfield 115, 3) := by decide +kernel
theorem dX12_advance_234 : decode cX12_advance 234 = .ok (.aload_n 0, 1) := by decide +kernel
theorem dX12_advance_235 : decode cX12_advance 235 = .ok (.getfield 118, 3) := by decide +kernel
theorem dX12_advance_238 : decode cX12_advance 238 = .ok (.isub, 1) := by decide +kernel
theorem dX12_advance_239 : decode cX12_advance 239 = .ok (.iconst 2, 1) := by decide +kernel
theorem dX12_advance_240 : decode cX12_advance 240 = .ok (.if_icmp .ge 25, 3) := by decide +kernel
theorem dX12_advance_243 : decode cX12_advance 243 = .ok (.bipush 10, 2) := by decide +kernel
theorem dX12_advance_245 : decode cX12_advance 245 = .ok (.aload_n 0, 1) := by decide +kernel
theorem dX12_advance_246 : decode cX12_advance 246 = .ok (.getfield 139, 3) := by decide +kernel
theorem dX12_advance_249 : decode cX12_advance 249 = .ok (.imul, 1) := by decide +kernel
theorem dX12_advance_250 : decode cX12_advance 250 = .ok (.aload_n 0, 1) := by decide +kernel
theorem dX12_advance_251 : decode cX12_advance 251 = .ok (.aload_n 0, 1) := by decide +kernel
theorem dX12_advance_252 : decode cX12_advance 252 = .ok (.getfield 115, 3) := by decide +kernel
theorem dX12_advance_255 : decode cX12_advance 255 = .ok (.invokevirtual 121, 3) := by decide +kernel
theorem dX12_advance_258 : decode cX12_advance 258 = .ok (.iadd, 1) := by decide +kernel
theorem dX12_advance_259 : decode cX12_advance 259 = .ok (.bipush 48, 2) := by decide +kernel
theorem dX12_advance_261 : decode cX12_advance 261 = .ok (.isub, 1) := by decide +kernel
theorem dX12_advance_262 : decode cX12_advance 262 = .ok (.goto 4, 3) := by decide +kernel
theorem dX12_advance_265 : decode cX12_advance 265 = .ok (.iconst (-1), 1) := by decide +kernel
theorem dX12_advance_266 : decode cX12_advance 266 = .ok (.putfield 139, 3) := by decide +kernel
theorem dX12_advance_269 : decode cX12_advance 269 = .ok (.aload_n 0, 1) := by decide +kernel
theorem dX12_advance_270 : decode cX12_advance 270 = .ok (.dup, 1) := by decide +kernel
theorem dX12_advance_271 : decode cX12_advance 271 = .ok (.getfield 115, 3) := by decide +kernel
theorem dX12_advance_274 : decode cX12_advance 274 = .ok (.iconst 1, 1) := by decide +kernel
theorem dX12_advance_275 : decode cX12_advance 275 = .ok (.iadd, 1) := by decide +kernel
theorem dX12_advance_276 : decode cX12_advance 276 = .ok (.putfield 115, 3) := by decide +kernel
theorem dX12_advance_279 : decode cX12_advance 279 = .ok (.goto (-72), 3) := by decide +kernel
theorem dX12_advance_282 : decode cX12_advance 282 = .ok (.return_, 1) := by decide +kernel
theorem dX12_isWord_0 : decode cX12_isWord 0 = .ok (.aload_n 0, 1) := by decide +kernel
theorem dX12_isWord_1 : decode cX12_isWord 1 = .ok (.getfield 132, 3) := by decide +kernel
theorem dX12_isWord_4 : decode cX12_isWord 4 = .ok (.iconst 1, 1) := by decide +kernel
theorem dX12_isWord_5 : decode cX12_isWord 5 = .ok (.if_icmp .ne 16, 3) := by decide +kernel
theorem dX12_isWord_8 : decode cX12_isWord 8 = .ok (.aload_n 0, 1) := by decide +kernel
theorem dX12_isWord_9 : decode cX12_isWord 9 = .ok (.getfield 135, 3) := by decide +kernel
theorem dX12_isWord_12 : decode cX12_isWord 12 = .ok (.lload_n 1, 1) := by decide +kernel
theorem dX12_isWord_13 : decode cX12_isWord 13 = .ok (.lcmp, 1) := by decide +kernel
theorem dX12_isWord_14 : decode cX12_isWord 14 = .ok (.ifCond .ne 7, 3) := by decide +kernel
theorem dX12_isWord_17 : decode cX12_isWord 17 = .ok (.iconst 1, 1) := by decide +kernel
theorem dX12_isWord_18 : decode cX12_isWord 18 = .ok (.goto 4, 3) := by decide +kernel
theorem dX12_isWord_21 : decode cX12_isWord 21 = .ok (.iconst 0, 1) := by decide +kernel
theorem dX12_isWord_22 : decode cX12_isWord 22 = .ok (.ireturn, 1) := by decide +kernel
theorem dX12_isMark_0 : decode cX12_isMark 0 = .ok (.aload_n 0, 1) := by decide +kernel
theorem dX12_isMark_1 : decode cX12_isMark 1 = .ok (.getfield 132, 3) := by decide +kernel
theorem dX12_isMark_4 : decode cX12_isMark 4 = .ok (.iconst 3, 1) := by decide +kernel
theorem dX12_isMark_5 : decode cX12_isMark 5 = .ok (.if_icmp .ne 15, 3) := by decide +kernel
theorem dX12_isMark_8 : decode cX12_isMark 8 = .ok (.aload_n 0, 1) := by decide +kernel
theorem dX12_isMark_9 : decode cX12_isMark 9 = .ok (.getfield 139, 3) := by decide +kernel
theorem dX12_isMark_12 : decode cX12_isMark 12 = .ok (.iload_n 1, 1) := by decide +kernel
theorem dX12_isMark_13 : decode cX12_isMark 13 = .ok (.if_icmp .ne 7, 3) := by decide +kernel
theorem dX12_isMark_16 : decode cX12_isMark 16 = .ok (.iconst 1, 1) := by decide +kernel
theorem dX12_isMark_17 : decode cX12_isMark 17 = .ok (.goto 4, 3) := by decide +kernel
theorem dX12_isMark_20 : decode cX12_isMark 20 = .ok (.iconst 0, 1) := by decide +kernel
theorem dX12_isMark_21 : decode cX12_isMark 21 = .ok (.ireturn, 1) := by decide +kernel
theorem dX12_kindHere_0 : decode cX12_kindHere 0 = .ok (.aload_n 0, 1) := by decide +kernel
theorem dX12_kindHere_1 : decode cX12_kindHere 1 = .ok (.ldc2_w 148, 3) := by decide +kernel
theorem dX12_kindHere_4 : decode cX12_kindHere 4 = .ok (.invokevirtual 150, 3) := by decide +kernel
theorem dX12_kindHere_7 : decode cX12_kindHere 7 = .ok (.ifCond .eq 7, 3) := by decide +kernel
theorem dX12_kindHere_10 : decode cX12_kindHere 10 = .ok (.iconst 0, 1) := by decide +kernel
theorem dX12_kindHere_11 : decode cX12_kindHere 11 = .ok (.goto 74, 3) := by decide +kernel
theorem dX12_kindHere_14 : decode cX12_kindHere 14 = .ok (.aload_n 0, 1) := by decide +kernel
theorem dX12_kindHere_15 : decode cX12_kindHere 15 = .ok (.ldc2_w 154, 3) := by decide +kernel
theorem dX12_kindHere_18 : decode cX12_kindHere 18 = .ok (.invokevirtual 150, 3) := by decide +kernel
theorem dX12_kindHere_21 : decode cX12_kindHere 21 = .ok (.ifCond .eq 7, 3) := by decide +kernel
theorem dX12_kindHere_24 : decode cX12_kindHere 24 = .ok (.iconst 1, 1) := by decide +kernel
theorem dX12_kindHere_25 : decode cX12_kindHere 25 = .ok (.goto 60, 3) := by decide +kernel
theorem dX12_kindHere_28 : decode cX12_kindHere 28 = .ok (.aload_n 0, 1) := by decide +kernel
theorem dX12_kindHere_29 : decode cX12_kindHere 29 = .ok (.ldc2_w 156, 3) := by decide +kernel
theorem dX12_kindHere_32 : decode cX12_kindHere 32 = .ok (.invokevirtual 150, 3) := by decide +kernel
theorem dX12_kindHere_35 : decode cX12_kindHere 35 = .ok (.ifCond .eq 7, 3) := by decide +kernel
theorem dX12_kindHere_38 : decode cX12_kindHere 38 = .ok (.iconst 2, 1) := by decide +kernel
theorem dX12_kindHere_39 : decode cX12_kindHere 39 = .ok (.goto 46, 3) := by decide +kernel
theorem dX12_kindHere_42 : decode cX12_kindHere 42 = .ok (.aload_n 0, 1) := by decide +kernel
theorem dX12_kindHere_43 : decode cX12_kindHere 43 = .ok (.ldc2_w 158, 3) := by decide +kernel
theorem dX12_kindHere_46 : decode cX12_kindHere 46 = .ok (.invokevirtual 150, 3) := by decide +kernel
theorem dX12_kindHere_49 : decode cX12_kindHere 49 = .ok (.ifCond .eq 7, 3) := by decide +kernel
theorem dX12_kindHere_52 : decode cX12_kindHere 52 = .ok (.iconst 3, 1) := by decide +kernel
theorem dX12_kindHere_53 : decode cX12_kindHere 53 = .ok (.goto 32, 3) := by decide +kernel
theorem dX12_kindHere_56 : decode cX12_kindHere 56 = .ok (.aload_n 0, 1) := by decide +kernel
theorem dX12_kindHere_57 : decode cX12_kindHere 57 = .ok (.ldc2_w 160, 3) := by decide +kernel
theorem dX12_kindHere_60 : decode cX12_kindHere 60 = .ok (.invokevirtual 150, 3) := by decide +kernel
theorem dX12_kindHere_63 : decode cX12_kindHere 63 = .ok (.ifCond .eq 7, 3) := by decide +kernel
theorem dX12_kindHere_66 : decode cX12_kindHere 66 = .ok (.iconst 4, 1) := by decide +kernel
theorem dX12_kindHere_67 : decode cX12_kindHere 67 = .ok (.goto 18, 3) := by decide +kernel
theorem dX12_kindHere_70 : decode cX12_kindHere 70 = .ok (.aload_n 0, 1) := by decide +kernel
theorem dX12_kindHere_71 : decode cX12_kindHere 71 = .ok (.ldc2_w 162, 3) := by decide +kernel
theorem dX12_kindHere_74 : decode cX12_kindHere 74 = .ok (.invokevirtual 150, 3) := by decide +kernel
theorem dX12_kindHere_77 : decode cX12_kindHere 77 = .ok (.ifCond .eq 7, 3) := by decide +kernel
theorem dX12_kindHere_80 : decode cX12_kindHere 80 = .ok (.iconst 5, 1) := by decide +kernel
theorem dX12_kindHere_81 : decode cX12_kindHere 81 = .ok (.goto 4, 3) := by decide +kernel
theorem dX12_kindHere_84 : decode cX12_kindHere 84 = .ok (.iconst (-1), 1) := by decide +kernel
theorem dX12_kindHere_85 : decode cX12_kindHere 85 = .ok (.ireturn, 1) := by decide +kernel
theorem dX12_wantNumber_0 : decode cX12_wantNumber 0 = .ok (.aload_n 0, 1) := by decide +kernel
theorem dX12_wantNumber_1 : decode cX12_wantNumber 1 = .ok (.getfield 139, 3) := by decide +kernel
theorem dX12_wantNumber_4 : decode cX12_wantNumber 4 = .ok (.istore_n 2, 1) := by decide +kernel
theorem dX12_wantNumber_5 : decode cX12_wantNumber 5 = .ok (.aload_n 0, 1) := by decide +kernel
theorem dX12_wantNumber_6 : decode cX12_wantNumber 6 = .ok (.aload_n 0, 1) := by decide +kernel
theorem dX12_wantNumber_7 : decode cX12_wantNumber 7 = .ok (.getfield 164, 3) := by decide +kernel
theorem dX12_wantNumber_10 : decode cX12_wantNumber 10 = .ok (.ifCond .eq 24, 3) := by decide +kernel
theorem dX12_wantNumber_13 : decode cX12_wantNumber 13 = .ok (.aload_n 0, 1) := by decide +kernel
theorem dX12_wantNumber_14 : decode cX12_wantNumber 14 = .ok (.getfield 132, 3) := by decide +kernel
theorem dX12_wantNumber_17 : decode cX12_wantNumber 17 = .ok (.iconst 2, 1) := by decide +kernel
theorem dX12_wantNumber_18 : decode cX12_wantNumber 18 = .ok (.if_icmp .ne 16, 3) := by decide +kernel
theorem dX12_wantNumber_21 : decode cX12_wantNumber 21 = .ok (.iload_n 2, 1) := by decide +kernel
theorem dX12_wantNumber_22 : decode cX12_wantNumber 22 = .ok (.iconst 0, 1) := by decide +kernel
theorem dX12_wantNumber_23 : decode cX12_wantNumber 23 = .ok (.iload_n 1, 1) := by decide +kernel
theorem dX12_wantNumber_24 : decode cX12_wantNumber 24 = .ok (.invokestatic 93, 3) := by decide +kernel
theorem dX12_wantNumber_27 : decode cX12_wantNumber 27 = .ok (.ifCond .eq 7, 3) := by decide +kernel
theorem dX12_wantNumber_30 : decode cX12_wantNumber 30 = .ok (.iconst 1, 1) := by decide +kernel
theorem dX12_wantNumber_31 : decode cX12_wantNumber 31 = .ok (.goto 4, 3) := by decide +kernel
theorem dX12_wantNumber_34 : decode cX12_wantNumber 34 = .ok (.iconst 0, 1) := by decide +kernel
theorem dX12_wantNumber_35 : decode cX12_wantNumber 35 = .ok (.putfield 164, 3) := by decide +kernel
theorem dX12_wantNumber_38 : decode cX12_wantNumber 38 = .ok (.aload_n 0, 1) := by decide +kernel
theorem dX12_wantNumber_39 : decode cX12_wantNumber 39 = .ok (.getfield 164, 3) := by decide +kernel
theorem dX12_wantNumber_42 : decode cX12_wantNumber 42 = .ok (.ifCond .eq 7, 3) := by decide +kernel
theorem dX12_wantNumber_45 : decode cX12_wantNumber 45 = .ok (.aload_n 0, 1) := by decide +kernel
theorem dX12_wantNumber_46 : decode cX12_wantNumber 46 = .ok (.invokevirtual 168, 3) := by decide +kernel
theorem dX12_wantNumber_49 : decode cX12_wantNumber 49 = .ok (.iload_n 2, 1) := by decide +kernel
theorem dX12_wantNumber_50 : decode cX12_wantNumber 50 = .ok (.ireturn, 1) := by decide +kernel
theorem dX12_wantWord_0 : decode cX12_wantWord 0 = .ok (.aload_n 0, 1) := by decide +kernel
theorem dX12_wantWord_1 : decode cX12_wantWord 1 = .ok (.aload_n 0, 1) := by decide +kernel
theorem dX12_wantWord_2 : decode cX12_wantWord 2 = .ok (.getfield 164, 3) := by decide +kernel
theorem dX12_wantWord_5 : decode cX12_wantWord 5 = .ok (.ifCond .eq 15, 3) := by decide +kernel
theorem dX12_wantWord_8 : decode cX12_wantWord 8 = .ok (.aload_n 0, 1) := by decide +kernel
theorem dX12_wantWord_9 : decode cX12_wantWord 9 = .ok (.lload_n 1, 1) := by decide +kernel
theorem dX12_wantWord_10 : decode cX12_wantWord 10 = .ok (.invokevirtual 150, 3) := by decide +kernel
theorem dX12_wantWord_13 : decode cX12_wantWord 13 = .ok (.ifCond .eq 7, 3) := by decide +kernel
theorem dX12_wantWord_16 : decode cX12_wantWord 16 = .ok (.iconst 1, 1) := by decide +kernel
theorem dX12_wantWord_17 : decode cX12_wantWord 17 = .ok (.goto 4, 3) := by decide +kernel
theorem dX12_wantWord_20 : decode cX12_wantWord 20 = .ok (.iconst 0, 1) := by decide +kernel
theorem dX12_wantWord_21 : decode cX12_wantWord 21 = .ok (.putfield 164, 3) := by decide +kernel
theorem dX12_wantWord_24 : decode cX12_wantWord 24 = .ok (.aload_n 0, 1) := by decide +kernel
theorem dX12_wantWord_25 : decode cX12_wantWord 25 = .ok (.getfield 164, 3) := by decide +kernel
theorem dX12_wantWord_28 : decode cX12_wantWord 28 = .ok (.ifCond .eq 7, 3) := by decide +kernel
theorem dX12_wantWord_31 : decode cX12_wantWord 31 = .ok (.aload_n 0, 1) := by decide +kernel
theorem dX12_wantWord_32 : decode cX12_wantWord 32 = .ok (.invokevirtual 168, 3) := by decide +kernel
theorem dX12_wantWord_35 : decode cX12_wantWord 35 = .ok (.return_, 1) := by decide +kernel
theorem dX12_wantEnd_0 : decode cX12_wantEnd 0 = .ok (.aload_n 0, 1) := by decide +kernel
theorem dX12_wantEnd_1 : decode cX12_wantEnd 1 = .ok (.aload_n 0, 1) := by decide +kernel
theorem dX12_wantEnd_2 : decode cX12_wantEnd 2 = .ok (.getfield 164, 3) := by decide +kernel
theorem dX12_wantEnd_5 : decode cX12_wantEnd 5 = .ok (.ifCond .eq 16, 3) := by decide +kernel
theorem dX12_wantEnd_8 : decode cX12_wantEnd 8 = .ok (.aload_n 0, 1) := by decide +kernel
theorem dX12_wantEnd_9 : decode cX12_wantEnd 9 = .ok (.bipush 59, 2) := by decide +kernel
theorem dX12_wantEnd_11 : decode cX12_wantEnd 11 = .ok (.invokevirtual 171, 3) := by decide +kernel
theorem dX12_wantEnd_14 : decode cX12_wantEnd 14 = .ok (.ifCond .eq 7, 3) := by decide +kernel
theorem dX12_wantEnd_17 : decode cX12_wantEnd 17 = .ok (.iconst 1, 1) := by decide +kernel
theorem dX12_wantEnd_18 : decode cX12_wantEnd 18 = .ok (.goto 4, 3) := by decide +kernel
theorem dX12_wantEnd_21 : decode cX12_wantEnd 21 = .ok (.iconst 0, 1) := by decide +kernel
theorem dX12_wantEnd_22 : decode cX12_wantEnd 22 = .ok (.putfield 164, 3) := by decide +kernel
theorem dX12_wantEnd_25 : decode cX12_wantEnd 25 = .ok (.aload_n 0, 1) := by decide +kernel
theorem dX12_wantEnd_26 : decode cX12_wantEnd 26 = .ok (.getfield 164, 3) := by decide +kernel
theorem dX12_wantEnd_29 : decode cX12_wantEnd 29 = .ok (.ifCond .eq 7, 3) := by decide +kernel
theorem dX12_wantEnd_32 : decode cX12_wantEnd 32 = .ok (.aload_n 0, 1) := by decide +kernel
theorem dX12_wantEnd_33 : decode cX12_wantEnd 33 = .ok (.invokevirtual 168, 3) := by decide +kernel
theorem dX12_wantEnd_36 : decode cX12_wantEnd 36 = .ok (.return_, 1) := by decide +kernel
theorem dX12_wantPath_0 : decode cX12_wantPath 0 = .ok (.aload_n 0, 1) := by decide +kernel
theorem dX12_wantPath_1 : decode cX12_wantPath 1 = .ok (.aload_n 0, 1) := by decide +kernel
theorem dX12_wantPath_2 : decode cX12_wantPath 2 = .ok (.getfield 174, 3) := by decide +kernel
theorem dX12_wantPath_5 : decode cX12_wantPath 5 = .ok (.bipush 8, 2) := by decide +kernel
theorem dX12_wantPath_7 : decode cX12_wantPath 7 = .ok (.if_icmp .ge 7, 3) := by decide +kernel
theorem dX12_wantPath_10 : decode cX12_wantPath 10 = .ok (.iconst 1, 1) := by decide +kernel
theorem dX12_wantPath_11 : decode cX12_wantPath 11 = .ok (.goto 4, 3) := by decide +kernel
theorem dX12_wantPath_14 : decode cX12_wantPath 14 = .ok (.iconst 0, 1) := by decide +kernel
theorem dX12_wantPath_15 : decode cX12_wantPath 15 = .ok (.putfield 164, 3) := by decide +kernel
theorem dX12_wantPath_18 : decode cX12_wantPath 18 = .ok (.aload_n 0, 1) := by decide +kernel
theorem dX12_wantPath_19 : decode cX12_wantPath 19 = .ok (.getfield 164, 3) := by decide +kernel
theorem dX12_wantPath_22 : decode cX12_wantPath 22 = .ok (.ifCond .eq 7, 3) := by decide +kernel
theorem dX12_wantPath_25 : decode cX12_wantPath 25 = .ok (.aload_n 0, 1) := by decide +kernel
theorem dX12_wantPath_26 : decode cX12_wantPath 26 = .ok (.invokevirtual 168, 3) := by decide +kernel
theorem dX12_wantPath_29 : decode cX12_wantPath 29 = .ok (.aload_n 0, 1) := by decide +kernel
theorem dX12_wantPath_30 : decode cX12_wantPath 30 = .ok (.bipush 7, 2) := by decide +kernel
theorem dX12_wantPath_32 : decode cX12_wantPath 32 = .ok (.invokevirtual 177, 3) := by decide +kernel
theorem dX12_wantPath_35 : decode cX12_wantPath 35 = .ok (.istore_n 2, 1) := by decide +kernel
theorem dX12_wantPath_36 : decode cX12_wantPath 36 = .ok (.aload_n 0, 1) := by decide +kernel
theorem dX12_wantPath_37 : decode cX12_wantPath 37 = .ok (.aload_n 0, 1) := by decide +kernel
theorem dX12_wantPath_38 : decode cX12_wantPath 38 = .ok (.getfield 164, 3) := by decide +kernel
theorem dX12_wantPath_41 : decode cX12_wantPath 41 = .ok (.ifCond .eq 23, 3) := by decide +kernel
theorem dX12_wantPath_44 : decode cX12_wantPath 44 = .ok (.aload_n 0, 1) := by decide +kernel
theorem dX12_wantPath_45 : decode cX12_wantPath 45 = .ok (.getfield 132, 3) := by decide +kernel
theorem dX12_wantPath_48 : decode cX12_wantPath 48 = .ok (.iconst 2, 1) := by decide +kernel
theorem dX12_wantPath_49 : decode cX12_wantPath 49 = .ok (.if_icmp .ne 11, 3) := by decide +kernel
theorem dX12_wantPath_52 : decode cX12_wantPath 52 = .ok (.aload_n 0, 1) := by decide +kernel
theorem dX12_wantPath_53 : decode cX12_wantPath 53 = .ok (.getfield 139, 3) := by decide +kernel
theorem dX12_wantPath_56 : decode cX12_wantPath 56 = .ok (.iload_n 2, 1) := by decide +kernel
theorem dX12_wantPath_57 : decode cX12_wantPath 57 = .ok (.if_icmp .eq 7, 3) := by decide +kernel
theorem dX12_wantPath_60 : decode cX12_wantPath 60 = .ok (.iconst 1, 1) := by decide +kernel
theorem dX12_wantPath_61 : decode cX12_wantPath 61 = .ok (.goto 4, 3) := by decide +kernel
theorem dX12_wantPath_64 : decode cX12_wantPath 64 = .ok (.iconst 0, 1) := by decide +kernel
theorem dX12_wantPath_65 : decode cX12_wantPath 65 = .ok (.putfield 164, 3) := by decide +kernel
theorem dX12_wantPath_68 : decode cX12_wantPath 68 = .ok (.aload_n 0, 1) := by decide +kernel
theorem dX12_wantPath_69 : decode cX12_wantPath 69 = .ok (.bipush 7, 2) := by decide +kernel
theorem dX12_wantPath_71 : decode cX12_wantPath 71 = .ok (.invokevirtual 177, 3) := by decide +kernel
theorem dX12_wantPath_74 : decode cX12_wantPath 74 = .ok (.istore_n 3, 1) := by decide +kernel
theorem dX12_wantPath_75 : decode cX12_wantPath 75 = .ok (.aload_n 0, 1) := by decide +kernel
theorem dX12_wantPath_76 : decode cX12_wantPath 76 = .ok (.ldc2_w 180, 3) := by decide +kernel
theorem dX12_wantPath_79 : decode cX12_wantPath 79 = .ok (.invokevirtual 182, 3) := by decide +kernel
theorem dX12_wantPath_82 : decode cX12_wantPath 82 = .ok (.aload_n 0, 1) := by decide +kernel
theorem dX12_wantPath_83 : decode cX12_wantPath 83 = .ok (.bipush 8, 2) := by decide +kernel
theorem dX12_wantPath_85 : decode cX12_wantPath 85 = .ok (.invokevirtual 177, 3) := by decide +kernel
theorem dX12_wantPath_88 : decode cX12_wantPath 88 = .ok (.istore 4, 2) := by decide +kernel
theorem dX12_wantPath_90 : decode cX12_wantPath 90 = .ok (.aload_n 0, 1) := by decide +kernel
theorem dX12_wantPath_91 : decode cX12_wantPath 91 = .ok (.ldc2_w 186, 3) := by decide +kernel
theorem dX12_wantPath_94 : decode cX12_wantPath 94 = .ok (.invokevirtual 182, 3) := by decide +kernel
theorem dX12_wantPath_97 : decode cX12_wantPath 97 = .ok (.aload_n 0, 1) := by decide +kernel
theorem dX12_wantPath_98 : decode cX12_wantPath 98 = .ok (.bipush 8, 2) := by decide +kernel
theorem dX12_wantPath_100 : decode cX12_wantPath 100 = .ok (.invokevirtual 177, 3) := by decide +kernel
theorem dX12_wantPath_103 : decode cX12_wantPath 103 = .ok (.istore 5, 2) := by decide +kernel
theorem dX12_wantPath_105 : decode cX12_wantPath 105 = .ok (.aload_n 0, 1) := by decide +kernel
theorem dX12_wantPath_106 : decode cX12_wantPath 106 = .ok (.getfield 164, 3) := by decide +kernel
theorem dX12_wantPath_109 : decode cX12_wantPath 109 = .ok (.ifCond .eq 17, 3) := by decide +kernel
theorem dX12_wantPath_112 : decode cX12_wantPath 112 = .ok (.aload_n 0, 1) := by decide +kernel
theorem dX12_wantPath_113 : decode cX12_wantPath 113 = .ok (.ldc2_w 188, 3) := by decide +kernel
theorem dX12_wantPath_116 : decode cX12_wantPath 116 = .ok (.invokevirtual 150, 3) := by decide +kernel
theorem dX12_wantPath_119 : decode cX12_wantPath 119 = .ok (.ifCond .eq 7, 3) := by decide +kernel
theorem dX12_wantPath_122 : decode cX12_wantPath 122 = .ok (.iconst 1, 1) := by decide +kernel
theorem dX12_wantPath_123 : decode cX12_wantPath 123 = .ok (.goto 4, 3) := by decide +kernel
theorem dX12_wantPath_126 : decode cX12_wantPath 126 = .ok (.iconst 0, 1) := by decide +kernel
theorem dX12_wantPath_127 : decode cX12_wantPath 127 = .ok (.istore 6, 2) := by decide +kernel
theorem dX12_wantPath_129 : decode cX12_wantPath 129 = .ok (.iload 6, 2) := by decide +kernel
theorem dX12_wantPath_131 : decode cX12_wantPath 131 = .ok (.ifCond .eq 7, 3) := by decide +kernel
theorem dX12_wantPath_134 : decode cX12_wantPath 134 = .ok (.aload_n 0, 1) := by decide +kernel
theorem dX12_wantPath_135 : decode cX12_wantPath 135 = .ok (.invokevirtual 168, 3) := by decide +kernel
theorem dX12_wantPath_138 : decode cX12_wantPath 138 = .ok (.aload_n 0, 1) := by decide +kernel
theorem dX12_wantPath_139 : decode cX12_wantPath 139 = .ok (.invokevirtual 190, 3) := by decide +kernel
theorem dX12_wantPath_142 : decode cX12_wantPath 142 = .ok (.aload_n 0, 1) := by decide +kernel
theorem dX12_wantPath_143 : decode cX12_wantPath 143 = .ok (.getfield 164, 3) := by decide +kernel
theorem dX12_wantPath_146 : decode cX12_wantPath 146 = .ok (.ifCond .eq 95, 3) := by decide +kernel
theorem dX12_wantPath_149 : decode cX12_wantPath 149 = .ok (.iconst 5, 1) := by decide +kernel
theorem dX12_wantPath_150 : decode cX12_wantPath 150 = .ok (.aload_n 0, 1) := by decide +kernel
theorem dX12_wantPath_151 : decode cX12_wantPath 151 = .ok (.getfield 174, 3) := by decide +kernel
theorem dX12_wantPath_154 : decode cX12_wantPath 154 = .ok (.imul, 1) := by decide +kernel
theorem dX12_wantPath_155 : decode cX12_wantPath 155 = .ok (.istore 7, 2) := by decide +kernel
theorem dX12_wantPath_157 : decode cX12_wantPath 157 = .ok (.aload_n 0, 1) := by decide +kernel
theorem dX12_wantPath_158 : decode cX12_wantPath 158 = .ok (.getfield 35, 3) := by decide +kernel
theorem dX12_wantPath_161 : decode cX12_wantPath 161 = .ok (.iload 7, 2) := by decide +kernel
theorem dX12_wantPath_163 : decode cX12_wantPath 163 = .ok (.iload_n 1, 1) := by decide +kernel
theorem dX12_wantPath_164 : decode cX12_wantPath 164 = .ok (.iastore, 1) := by decide +kernel
theorem dX12_wantPath_165 : decode cX12_wantPath 165 = .ok (.aload_n 0, 1) := by decide +kernel
theorem dX12_wantPath_166 : decode cX12_wantPath 166 = .ok (.getfield 35, 3) := by decide +kernel
theorem dX12_wantPath_169 : decode cX12_wantPath 169 = .ok (.iload 7, 2) := by decide +kernel
theorem dX12_wantPath_171 : decode cX12_wantPath 171 = .ok (.iconst 1, 1) := by decide +kernel
theorem dX12_wantPath_172 : decode cX12_wantPath 172 = .ok (.iadd, 1) := by decide +kernel
theorem dX12_wantPath_173 : decode cX12_wantPath 173 = .ok (.iload_n 2, 1) := by decide +kernel
theorem dX12_wantPath_174 : decode cX12_wantPath 174 = .ok (.iastore, 1) := by decide +kernel
theorem dX12_wantPath_175 : decode cX12_wantPath 175 = .ok (.aload_n 0, 1) := by decide +kernel
theorem dX12_wantPath_176 : decode cX12_wantPath 176 = .ok (.getfield 35, 3) := by decide +kernel
theorem dX12_wantPath_179 : decode cX12_wantPath 179 = .ok (.iload 7, 2) := by decide +kernel
theorem dX12_wantPath_181 : decode cX12_wantPath 181 = .ok (.iconst 2, 1) := by decide +kernel
theorem dX12_wantPath_182 : decode cX12_wantPath 182 = .ok (.iadd, 1) := by decide +kernel
theorem dX12_wantPath_183 : decode cX12_wantPath 183 = .ok (.iload_n 3, 1) := by decide +kernel
theorem dX12_wantPath_184 : decode cX12_wantPath 184 = .ok (.iastore, 1) := by decide +kernel
theorem dX12_wantPath_185 : decode cX12_wantPath 185 = .ok (.aload_n 0, 1) := by decide +kernel
theorem dX12_wantPath_186 : decode cX12_wantPath 186 = .ok (.getfield 35, 3) := by decide +kernel
theorem dX12_wantPath_189 : decode cX12_wantPath 189 = .ok (.iload 7, 2) := by decide +kernel
theorem dX12_wantPath_191 : decode cX12_wantPath 191 = .ok (.iconst 3, 1) := by decide +kernel
theorem dX12_wantPath_192 : decode cX12_wantPath 192 = .ok (.iadd, 1) := by decide +kernel
theorem dX12_wantPath_193 : decode cX12_wantPath 193 = .ok (.iload 4, 2) := by decide +kernel
theorem dX12_wantPath_195 : decode cX12_wantPath 195 = .ok (.iastore, 1) := by decide +kernel
theorem dX12_wantPath_196 : decode cX12_wantPath 196 = .ok (.aload_n 0, 1) := by decide +kernel
theorem dX12_wantPath_197 : decode cX12_wantPath 197 = .ok (.getfield 35, 3) := by decide +kernel
theorem dX12_wantPath_200 : decode cX12_wantPath 200 = .ok (.iload 7, 2) := by decide +kernel
theorem dX12_wantPath_202 : decode cX12_wantPath 202 = .ok (.iconst 4, 1) := by decide +kernel
theorem dX12_wantPath_203 : decode cX12_wantPath 203 = .ok (.iadd, 1) := by decide +kernel
theorem dX12_wantPath_204 : decode cX12_wantPath 204 = .ok (.iload 5, 2) := by decide +kernel
theorem dX12_wantPath_206 : decode cX12_wantPath 206 = .ok (.iastore, 1) := by decide +kernel
theorem dX12_wantPath_207 : decode cX12_wantPath 207 = .ok (.aload_n 0, 1) := by decide +kernel
theorem dX12_wantPath_208 : decode cX12_wantPath 208 = .ok (.dup, 1) := by decide +kernel
theorem dX12_wantPath_209 : decode cX12_wantPath 209 = .ok (.getfield 193, 3) := by decide +kernel
theorem dX12_wantPath_212 : decode cX12_wantPath 212 = .ok (.iload 6, 2) := by decide +kernel
theorem dX12_wantPath_214 : decode cX12_wantPath 214 = .ok (.ifCond .eq 7, 3) := by decide +kernel
theorem dX12_wantPath_217 : decode cX12_wantPath 217 = .ok (.iconst 0, 1) := by decide +kernel
theorem dX12_wantPath_218 : decode cX12_wantPath 218 = .ok (.goto 9, 3) := by decide +kernel
theorem dX12_wantPath_221 : decode cX12_wantPath 221 = .ok (.iconst 1, 1) := by decide +kernel
theorem dX12_wantPath_222 : decode cX12_wantPath 222 = .ok (.aload_n 0, 1) := by decide +kernel
theorem dX12_wantPath_223 : decode cX12_wantPath 223 = .ok (.getfield 174, 3) := by decide +kernel
theorem dX12_wantPath_226 : decode cX12_wantPath 226 = .ok (.ishl, 1) := by decide +kernel
theorem dX12_wantPath_227 : decode cX12_wantPath 227 = .ok (.ior, 1) := by decide +kernel
theorem dX12_wantPath_228 : decode cX12_wantPath 228 = .ok (.putfield 193, 3) := by decide +kernel
theorem dX12_wantPath_231 : decode cX12_wantPath 231 = .ok (.aload_n 0, 1) := by decide +kernel
theorem dX12_wantPath_232 : decode cX12_wantPath 232 = .ok (.dup, 1) := by decide +kernel
theorem dX12_wantPath_233 : decode cX12_wantPath 233 = .ok (.getfield 174, 3) := by decide +kernel
theorem dX12_wantPath_236 : decode cX12_wantPath 236 = .ok (.iconst 1, 1) := by decide +kernel
theorem dX12_wantPath_237 : decode cX12_wantPath 237 = .ok (.iadd, 1) := by decide +kernel
theorem dX12_wantPath_238 : decode cX12_wantPath 238 = .ok (.putfield 174, 3) := by decide +kernel
theorem dX12_wantPath_241 : decode cX12_wantPath 241 = .ok (.return_, 1) := by decide +kernel
theorem dX12_wantWalker_0 : decode cX12_wantWalker 0 = .ok (.aload_n 0, 1) := by decide +kernel
theorem dX12_wantWalker_1 : decode cX12_wantWalker 1 = .ok (.aload_n 0, 1) := by decide +kernel
theorem dX12_wantWalker_2 : decode cX12_wantWalker 2 = .ok (.getfield 196, 3) := by decide +kernel
theorem dX12_wantWalker_5 : decode cX12_wantWalker 5 = .ok (.iconst 4, 1) := by decide +kernel
theorem dX12_wantWalker_6 : decode cX12_wantWalker 6 = .ok (.if_icmp .ge 7, 3) := by decide +kernel
theorem dX12_wantWalker_9 : decode cX12_wantWalker 9 = .ok (.iconst 1, 1) := by decide +kernel
theorem dX12_wantWalker_10 : decode cX12_wantWalker 10 = .ok (.goto 4, 3) := by decide +kernel
theorem dX12_wantWalker_13 : decode cX12_wantWalker 13 = .ok (.iconst 0, 1) := by decide +kernel
theorem dX12_wantWalker_14 : decode cX12_wantWalker 14 = .ok (.putfield 164, 3) := by decide +kernel
theorem dX12_wantWalker_17 : decode cX12_wantWalker 17 = .ok (.aload_n 0, 1) := by decide +kernel
theorem dX12_wantWalker_18 : decode cX12_wantWalker 18 = .ok (.getfield 164, 3) := by decide +kernel
theorem dX12_wantWalker_21 : decode cX12_wantWalker 21 = .ok (.ifCond .eq 7, 3) := by decide +kernel
theorem dX12_wantWalker_24 : decode cX12_wantWalker 24 = .ok (.aload_n 0, 1) := by decide +kernel
theorem dX12_wantWalker_25 : decode cX12_wantWalker 25 = .ok (.invokevirtual 168, 3) := by decide +kernel
theorem dX12_wantWalker_28 : decode cX12_wantWalker 28 = .ok (.aload_n 0, 1) := by decide +kernel
theorem dX12_wantWalker_29 : decode cX12_wantWalker 29 = .ok (.bipush 7, 2) := by decide +kernel
theorem dX12_wantWalker_31 : decode cX12_wantWalker 31 = .ok (.invokevirtual 177, 3) := by decide +kernel
theorem dX12_wantWalker_34 : decode cX12_wantWalker 34 = .ok (.istore_n 1, 1) := by decide +kernel
theorem dX12_wantWalker_35 : decode cX12_wantWalker 35 = .ok (.iconst 0, 1) := by decide +kernel
theorem dX12_wantWalker_36 : decode cX12_wantWalker 36 = .ok (.istore_n 2, 1) := by decide +kernel
theorem dX12_wantWalker_37 : decode cX12_wantWalker 37 = .ok (.aload_n 0, 1) := by decide +kernel
theorem dX12_wantWalker_38 : decode cX12_wantWalker 38 = .ok (.getfield 164, 3) := by decide +kernel
theorem dX12_wantWalker_41 : decode cX12_wantWalker 41 = .ok (.ifCond .eq 24, 3) := by decide +kernel
theorem dX12_wantWalker_44 : decode cX12_wantWalker 44 = .ok (.aload_n 0, 1) := by decide +kernel
theorem dX12_wantWalker_45 : decode cX12_wantWalker 45 = .ok (.ldc2_w 199, 3) := by decide +kernel
theorem dX12_wantWalker_48 : decode cX12_wantWalker 48 = .ok (.invokevirtual 150, 3) := by decide +kernel
theorem dX12_wantWalker_51 : decode cX12_wantWalker 51 = .ok (.ifCond .eq 14, 3) := by decide +kernel
theorem dX12_wantWalker_54 : decode cX12_wantWalker 54 = .ok (.aload_n 0, 1) := by decide +kernel
theorem dX12_wantWalker_55 : decode cX12_wantWalker 55 = .ok (.invokevirtual 168, 3) := by decide +kernel
theorem dX12_wantWalker_58 : decode cX12_wantWalker 58 = .ok (.aload_n 0, 1) := by decide +kernel
theorem dX12_wantWalker_59 : decode cX12_wantWalker 59 = .ok (.bipush 99, 2) := by decide +kernel
theorem dX12_wantWalker_61 : decode cX12_wantWalker 61 = .ok (.invokevirtual 177, 3) := by decide +kernel
theorem dX12_wantWalker_64 : decode cX12_wantWalker 64 = .ok (.istore_n 2, 1) := by decide +kernel
theorem dX12_wantWalker_65 : decode cX12_wantWalker 65 = .ok (.aload_n 0, 1) := by decide +kernel
theorem dX12_wantWalker_66 : decode cX12_wantWalker 66 = .ok (.invokevirtual 190, 3) := by decide +kernel
theorem dX12_wantWalker_69 : decode cX12_wantWalker 69 = .ok (.aload_n 0, 1) := by decide +kernel
theorem dX12_wantWalker_70 : decode cX12_wantWalker 70 = .ok (.getfield 164, 3) := by decide +kernel
theorem dX12_wantWalker_73 : decode cX12_wantWalker 73 = .ok (.ifCond .eq 33, 3) := by decide +kernel
theorem dX12_wantWalker_76 : decode cX12_wantWalker 76 = .ok (.aload_n 0, 1) := by decide +kernel
theorem dX12_wantWalker_77 : decode cX12_wantWalker 77 = .ok (.getfield 38, 3) := by decide +kernel
theorem dX12_wantWalker_80 : decode cX12_wantWalker 80 = .ok (.aload_n 0, 1) := by decide +kernel
theorem dX12_wantWalker_81 : decode cX12_wantWalker 81 = .ok (.getfield 196, 3) := by decide +kernel
theorem dX12_wantWalker_84 : decode cX12_wantWalker 84 = .ok (.iload_n 1, 1) := by decide +kernel
theorem dX12_wantWalker_85 : decode cX12_wantWalker 85 = .ok (.iastore, 1) := by decide +kernel
theorem dX12_wantWalker_86 : decode cX12_wantWalker 86 = .ok (.aload_n 0, 1) := by decide +kernel
theorem dX12_wantWalker_87 : decode cX12_wantWalker 87 = .ok (.getfield 41, 3) := by decide +kernel
theorem dX12_wantWalker_90 : decode cX12_wantWalker 90 = .ok (.aload_n 0, 1) := by decide +kernel
theorem dX12_wantWalker_91 : decode cX12_wantWalker 91 = .ok (.getfield 196, 3) := by decide +kernel
theorem dX12_wantWalker_94 : decode cX12_wantWalker 94 = .ok (.iload_n 2, 1) := by decide +kernel
theorem dX12_wantWalker_95 : decode cX12_wantWalker 95 = .ok (.iastore, 1) := by decide +kernel
theorem dX12_wantWalker_96 : decode cX12_wantWalker 96 = .ok (.aload_n 0, 1) := by decide +kernel
theorem dX12_wantWalker_97 : decode cX12_wantWalker 97 = .ok (.dup, 1) := by decide +kernel
theorem dX12_wantWalker_98 : decode cX12_wantWalker 98 = .ok (.getfield 196, 3) := by decide +kernel
theorem dX12_wantWalker_101 : decode cX12_wantWalker 101 = .ok (.iconst 1, 1) := by decide +kernel
theorem dX12_wantWalker_102 : decode cX12_wantWalker 102 = .ok (.iadd, 1) := by decide +kernel
theorem dX12_wantWalker_103 : decode cX12_wantWalker 103 = .ok (.putfield 196, 3) := by decide +kernel
theorem dX12_wantWalker_106 : decode cX12_wantWalker 106 = .ok (.return_, 1) := by decide +kernel
theorem dX12_wantClause_0 : decode cX12_wantClause 0 = .ok (.aload_n 0, 1) := by decide +kernel
theorem dX12_wantClause_1 : decode cX12_wantClause 1 = .ok (.invokevirtual 201, 3) := by decide +kernel
theorem dX12_wantClause_4 : decode cX12_wantClause 4 = .ok (.ifCond .lt 14, 3) := by decide +kernel
theorem dX12_wantClause_7 : decode cX12_wantClause 7 = .ok (.aload_n 0, 1) := by decide +kernel
theorem dX12_wantClause_8 : decode cX12_wantClause 8 = .ok (.aload_n 0, 1) := by decide +kernel
theorem dX12_wantClause_9 : decode cX12_wantClause 9 = .ok (.invokevirtual 201, 3) := by decide +kernel
theorem dX12_wantClause_12 : decode cX12_wantClause 12 = .ok (.invokevirtual 205, 3) := by decide +kernel
theorem dX12_wantClause_15 : decode cX12_wantClause 15 = .ok (.goto 100, 3) := by decide +kernel
theorem dX12_wantClause_18 : decode cX12_wantClause 18 = .ok (.aload_n 0, 1) := by decide +kernel
theorem dX12_wantClause_19 : decode cX12_wantClause 19 = .ok (.ldc2_w 209, 3) := by decide +kernel
theorem dX12_wantClause_22 : decode cX12_wantClause 22 = .ok (.invokevirtual 150, 3) := by decide +kernel
theorem dX12_wantClause_25 : decode cX12_wantClause 25 = .ok (.ifCond .eq 10, 3) := by decide +kernel
theorem dX12_wantClause_28 : decode cX12_wantClause 28 = .ok (.aload_n 0, 1) := by decide +kernel
theorem dX12_wantClause_29 : decode cX12_wantClause 29 = .ok (.invokevirtual 211, 3) := by decide +kernel
theorem dX12_wantClause_32 : decode cX12_wantClause 32 = .ok (.goto 83, 3) := by decide +kernel
theorem dX12_wantClause_35 : decode cX12_wantClause 35 = .ok (.aload_n 0, 1) := by decide +kernel
theorem dX12_wantClause_36 : decode cX12_wantClause 36 = .ok (.ldc2_w 214, 3) := by decide +kernel
theorem dX12_wantClause_39 : decode cX12_wantClause 39 = .ok (.invokevirtual 150, 3) := by decide +kernel
theorem dX12_wantClause_42 : decode cX12_wantClause 42 = .ok (.ifCond .eq 19, 3) := by decide +kernel
theorem dX12_wantClause_45 : decode cX12_wantClause 45 = .ok (.aload_n 0, 1) := by decide +kernel
theorem dX12_wantClause_46 : decode cX12_wantClause 46 = .ok (.invokevirtual 168, 3) := by decide +kernel
theorem dX12_wantClause_49 : decode cX12_wantClause 49 = .ok (.aload_n 0, 1) := by decide +kernel
theorem dX12_wantClause_50 : decode cX12_wantClause 50 = .ok (.invokevirtual 190, 3) := by decide +kernel
theorem dX12_wantClause_53 : decode cX12_wantClause 53 = .ok (.aload_n 0, 1) := by decide +kernel
theorem dX12_wantClause_54 : decode cX12_wantClause 54 = .ok (.iconst 1, 1) := by decide +kernel
theorem dX12_wantClause_55 : decode cX12_wantClause 55 = .ok (.putfield 216, 3) := by decide +kernel
theorem dX12_wantClause_58 : decode cX12_wantClause 58 = .ok (.goto 57, 3) := by decide +kernel
theorem dX12_wantClause_61 : decode cX12_wantClause 61 = .ok (.aload_n 0, 1) := by decide +kernel
theorem dX12_wantClause_62 : decode cX12_wantClause 62 = .ok (.ldc2_w 219, 3) := by decide +kernel
theorem dX12_wantClause_65 : decode cX12_wantClause 65 = .ok (.invokevirtual 150, 3) := by decide +kernel
theorem dX12_wantClause_68 : decode cX12_wantClause 68 = .ok (.ifCond .eq 42, 3) := by decide +kernel
theorem dX12_wantClause_71 : decode cX12_wantClause 71 = .ok (.aload_n 0, 1) := by decide +kernel
theorem dX12_wantClause_72 : decode cX12_wantClause 72 = .ok (.invokevirtual 168, 3) := by decide +kernel
theorem dX12_wantClause_75 : decode cX12_wantClause 75 = .ok (.aload_n 0, 1) := by decide +kernel
theorem dX12_wantClause_76 : decode cX12_wantClause 76 = .ok (.bipush 7, 2) := by decide +kernel
theorem dX12_wantClause_78 : decode cX12_wantClause 78 = .ok (.invokevirtual 177, 3) := by decide +kernel
theorem dX12_wantClause_81 : decode cX12_wantClause 81 = .ok (.istore_n 1, 1) := by decide +kernel
theorem dX12_wantClause_82 : decode cX12_wantClause 82 = .ok (.aload_n 0, 1) := by decide +kernel
theorem dX12_wantClause_83 : decode cX12_wantClause 83 = .ok (.bipush 9, 2) := by decide +kernel
theorem dX12_wantClause_85 : decode cX12_wantClause 85 = .ok (.invokevirtual 177, 3) := by decide +kernel
theorem dX12_wantClause_88 : decode cX12_wantClause 88 = .ok (.istore_n 2, 1) := by decide +kernel
theorem dX12_wantClause_89 : decode cX12_wantClause 89 = .ok (.aload_n 0, 1) := by decide +kernel
theorem dX12_wantClause_90 : decode cX12_wantClause 90 = .ok (.invokevirtual 190, 3) := by decide +kernel
theorem dX12_wantClause_93 : decode cX12_wantClause 93 = .ok (.aload_n 0, 1) := by decide +kernel
theorem dX12_wantClause_94 : decode cX12_wantClause 94 = .ok (.getfield 164, 3) := by decide +kernel
theorem dX12_wantClause_97 : decode cX12_wantClause 97 = .ok (.ifCond .eq 10, 3) := by decide +kernel
theorem dX12_wantClause_100 : decode cX12_wantClause 100 = .ok (.aload_n 0, 1) := by decide +kernel
theorem dX12_wantClause_101 : decode cX12_wantClause 101 = .ok (.getfield 44, 3) := by decide +kernel
theorem dX12_wantClause_104 : decode cX12_wantClause 104 = .ok (.iload_n 1, 1) := by decide +kernel
theorem dX12_wantClause_105 : decode cX12_wantClause 105 = .ok (.iload_n 2, 1) := by decide +kernel
theorem dX12_wantClause_106 : decode cX12_wantClause 106 = .ok (.iastore, 1) := by decide +kernel
theorem dX12_wantClause_107 : decode cX12_wantClause 107 = .ok (.goto 8, 3) := by decide +kernel
theorem dX12_wantClause_110 : decode cX12_wantClause 110 = .ok (.aload_n 0, 1) := by decide +kernel
theorem dX12_wantClause_111 : decode cX12_wantClause 111 = .ok (.iconst 0, 1) := by decide +kernel
theorem dX12_wantClause_112 : decode cX12_wantClause 112 = .ok (.putfield 164, 3) := by decide +kernel
theorem dX12_wantClause_115 : decode cX12_wantClause 115 = .ok (.return_, 1) := by decide +kernel
theorem dX12_wood_0 : decode cX12_wood 0 = .ok (.aload_n 0, 1) := by decide +kernel
theorem dX12_wood_1 : decode cX12_wood 1 = .ok (.iconst 0, 1) := by decide +kernel
theorem dX12_wood_2 : decode cX12_wood 2 = .ok (.putfield 115, 3) := by decide +kernel
theorem dX12_wood_5 : decode cX12_wood 5 = .ok (.aload_n 0, 1) := by decide +kernel
theorem dX12_wood_6 : decode cX12_wood 6 = .ok (.iconst 1, 1) := by decide +kernel
theorem dX12_wood_7 : decode cX12_wood 7 = .ok (.putfield 164, 3) := by decide +kernel
theorem dX12_wood_10 : decode cX12_wood 10 = .ok (.aload_n 0, 1) := by decide +kernel
theorem dX12_wood_11 : decode cX12_wood 11 = .ok (.iconst 0, 1) := by decide +kernel
theorem dX12_wood_12 : decode cX12_wood 12 = .ok (.putfield 174, 3) := by decide +kernel
theorem dX12_wood_15 : decode cX12_wood 15 = .ok (.aload_n 0, 1) := by decide +kernel
theorem dX12_wood_16 : decode cX12_wood 16 = .ok (.iconst 0, 1) := by decide +kernel
theorem dX12_wood_17 : decode cX12_wood 17 = .ok (.putfield 193, 3) := by decide +kernel
theorem dX12_wood_20 : decode cX12_wood 20 = .ok (.aload_n 0, 1) := by decide +kernel
theorem dX12_wood_21 : decode cX12_wood 21 = .ok (.iconst 0, 1) := by decide +kernel
theorem dX12_wood_22 : decode cX12_wood 22 = .ok (.putfield 196, 3) := by decide +kernel
theorem dX12_wood_25 : decode cX12_wood 25 = .ok (.aload_n 0, 1) := by decide +kernel
theorem dX12_wood_26 : decode cX12_wood 26 = .ok (.iconst 0, 1) := by decide +kernel
theorem dX12_wood_27 : decode cX12_wood 27 = .ok (.putfield 216, 3) := by decide +kernel
theorem dX12_wood_30 : decode cX12_wood 30 = .ok (.iconst 0, 1) := by decide +kernel
theorem dX12_wood_31 : decode cX12_wood 31 = .ok (.istore_n 1, 1) := by decide +kernel
theorem dX12_wood_32 : decode cX12_wood 32 = .ok (.iload_n 1, 1) := by decide +kernel
theorem dX12_wood_33 : decode cX12_wood 33 = .ok (.bipush 8, 2) := by decide +kernel
theorem dX12_wood_35 : decode cX12_wood 35 = .ok (.if_icmp .ge 16, 3) := by decide +kernel
theorem dX12_wood_38 : decode cX12_wood 38 = .ok (.aload_n 0, 1) := by decide +kernel
theorem dX12_wood_39 : decode cX12_wood 39 = .ok (.getfield 44, 3) := by decide +kernel
theorem dX12_wood_42 : decode cX12_wood 42 = .ok (.iload_n 1, 1) := by decide +kernel
theorem dX12_wood_43 : decode cX12_wood 43 = .ok (.iconst 1, 1) := by decide +kernel
theorem dX12_wood_44 : decode cX12_wood 44 = .ok (.iastore, 1) := by decide +kernel
theorem dX12_wood_45 : decode cX12_wood 45 = .ok (.iinc 1 1, 3) := by decide +kernel
theorem dX12_wood_48 : decode cX12_wood 48 = .ok (.goto (-16), 3) := by decide +kernel
theorem dX12_wood_51 : decode cX12_wood 51 = .ok (.aload_n 0, 1) := by decide +kernel
theorem dX12_wood_52 : decode cX12_wood 52 = .ok (.invokevirtual 168, 3) := by decide +kernel
theorem dX12_wood_55 : decode cX12_wood 55 = .ok (.aload_n 0, 1) := by decide +kernel
theorem dX12_wood_56 : decode cX12_wood 56 = .ok (.getfield 164, 3) := by decide +kernel
theorem dX12_wood_59 : decode cX12_wood 59 = .ok (.ifCond .eq 17, 3) := by decide +kernel
theorem dX12_wood_62 : decode cX12_wood 62 = .ok (.aload_n 0, 1) := by decide +kernel
theorem dX12_wood_63 : decode cX12_wood 63 = .ok (.getfield 132, 3) := by decide +kernel
theorem dX12_wood_66 : decode cX12_wood 66 = .ok (.ifCond .eq 10, 3) := by decide +kernel
theorem dX12_wood_69 : decode cX12_wood 69 = .ok (.aload_n 0, 1) := by decide +kernel
theorem dX12_wood_70 : decode cX12_wood 70 = .ok (.invokevirtual 221, 3) := by decide +kernel
theorem dX12_wood_73 : decode cX12_wood 73 = .ok (.goto (-18), 3) := by decide +kernel
theorem dX12_wood_76 : decode cX12_wood 76 = .ok (.aload_n 0, 1) := by decide +kernel
theorem dX12_wood_77 : decode cX12_wood 77 = .ok (.iconst 0, 1) := by decide +kernel
theorem dX12_wood_78 : decode cX12_wood 78 = .ok (.putfield 110, 3) := by decide +kernel
theorem dX12_wood_81 : decode cX12_wood 81 = .ok (.aload_n 0, 1) := by decide +kernel
theorem dX12_wood_82 : decode cX12_wood 82 = .ok (.getfield 164, 3) := by decide +kernel
theorem dX12_wood_85 : decode cX12_wood 85 = .ok (.ifCond .ne 11, 3) := by decide +kernel
theorem dX12_wood_88 : decode cX12_wood 88 = .ok (.bipush (-100), 2) := by decide +kernel
theorem dX12_wood_90 : decode cX12_wood 90 = .ok (.aload_n 0, 1) := by decide +kernel
theorem dX12_wood_91 : decode cX12_wood 91 = .ok (.getfield 118, 3) := by decide +kernel
theorem dX12_wood_94 : decode cX12_wood 94 = .ok (.isub, 1) := by decide +kernel
theorem dX12_wood_95 : decode cX12_wood 95 = .ok (.ireturn, 1) := by decide +kernel
theorem dX12_wood_96 : decode cX12_wood 96 = .ok (.aload_n 0, 1) := by decide +kernel
theorem dX12_wood_97 : decode cX12_wood 97 = .ok (.aload_n 0, 1) := by decide +kernel
theorem dX12_wood_98 : decode cX12_wood 98 = .ok (.getfield 174, 3) := by decide +kernel
theorem dX12_wood_101 : decode cX12_wood 101 = .ok (.putfield 97, 3) := by decide +kernel
theorem dX12_wood_104 : decode cX12_wood 104 = .ok (.aload_n 0, 1) := by decide +kernel
theorem dX12_wood_105 : decode cX12_wood 105 = .ok (.aload_n 0, 1) := by decide +kernel
theorem dX12_wood_106 : decode cX12_wood 106 = .ok (.getfield 193, 3) := by decide +kernel
theorem dX12_wood_109 : decode cX12_wood 109 = .ok (.putfield 103, 3) := by decide +kernel
theorem dX12_wood_112 : decode cX12_wood 112 = .ok (.aload_n 0, 1) := by decide +kernel
theorem dX12_wood_113 : decode cX12_wood 113 = .ok (.aload_n 0, 1) := by decide +kernel
theorem dX12_wood_114 : decode cX12_wood 114 = .ok (.getfield 196, 3) := by decide +kernel
theorem dX12_wood_117 : decode cX12_wood 117 = .ok (.putfield 100, 3) := by decide +kernel
theorem dX12_wood_120 : decode cX12_wood 120 = .ok (.aload_n 0, 1) := by decide +kernel
theorem dX12_wood_121 : decode cX12_wood 121 = .ok (.aload_n 0, 1) := by decide +kernel
theorem dX12_wood_122 : decode cX12_wood 122 = .ok (.getfield 216, 3) := by decide +kernel
theorem dX12_wood_125 : decode cX12_wood 125 = .ok (.putfield 224, 3) := by decide +kernel
theorem dX12_wood_128 : decode cX12_wood 128 = .ok (.iconst 0, 1) := by decide +kernel
theorem dX12_wood_129 : decode cX12_wood 129 = .ok (.istore_n 1, 1) := by decide +kernel
theorem dX12_wood_130 : decode cX12_wood 130 = .ok (.iload_n 1, 1) := by decide +kernel
theorem dX12_wood_131 : decode cX12_wood 131 = .ok (.bipush 40, 2) := by decide +kernel
theorem dX12_wood_133 : decode cX12_wood 133 = .ok (.if_icmp .ge 21, 3) := by decide +kernel
theorem dX12_wood_136 : decode cX12_wood 136 = .ok (.aload_n 0, 1) := by decide +kernel
theorem dX12_wood_137 : decode cX12_wood 137 = .ok (.getfield 7, 3) := by decide +kernel
theorem dX12_wood_140 : decode cX12_wood 140 = .ok (.iload_n 1, 1) := by decide +kernel
theorem dX12_wood_141 : decode cX12_wood 141 = .ok (.aload_n 0, 1) := by decide +kernel
theorem dX12_wood_142 : decode cX12_wood 142 = .ok (.getfield 35, 3) := by decide +kernel
theorem dX12_wood_145 : decode cX12_wood 145 = .ok (.iload_n 1, 1) := by decide +kernel
theorem dX12_wood_146 : decode cX12_wood 146 = .ok (.iaload, 1) := by decide +kernel
theorem dX12_wood_147 : decode cX12_wood 147 = .ok (.iastore, 1) := by decide +kernel
theorem dX12_wood_148 : decode cX12_wood 148 = .ok (.iinc 1 1, 3) := by decide +kernel
theorem dX12_wood_151 : decode cX12_wood 151 = .ok (.goto (-21), 3) := by decide +kernel
theorem dX12_wood_154 : decode cX12_wood 154 = .ok (.iconst 0, 1) := by decide +kernel
theorem dX12_wood_155 : decode cX12_wood 155 = .ok (.istore_n 1, 1) := by decide +kernel
theorem dX12_wood_156 : decode cX12_wood 156 = .ok (.iload_n 1, 1) := by decide +kernel
theorem dX12_wood_157 : decode cX12_wood 157 = .ok (.aload_n 0, 1) := by decide +kernel
theorem dX12_wood_158 : decode cX12_wood 158 = .ok (.getfield 100, 3) := by decide +kernel
theorem dX12_wood_161 : decode cX12_wood 161 = .ok (.if_icmp .ge 40, 3) := by decide +kernel
theorem dX12_wood_164 : decode cX12_wood 164 = .ok (.aload_n 0, 1) := by decide +kernel
theorem dX12_wood_165 : decode cX12_wood 165 = .ok (.getfield 13, 3) := by decide +kernel
theorem dX12_wood_168 : decode cX12_wood 168 = .ok (.iload_n 1, 1) := by decide +kernel
theorem dX12_wood_169 : decode cX12_wood 169 = .ok (.aload_n 0, 1) := by decide +kernel
theorem dX12_wood_170 : decode cX12_wood 170 = .ok (.getfield 38, 3) := by decide +kernel
theorem dX12_wood_173 : decode cX12_wood 173 = .ok (.iload_n 1, 1) := by decide +kernel
theorem dX12_wood_174 : decode cX12_wood 174 = .ok (.iaload, 1) := by decide +kernel
theorem dX12_wood_175 : decode cX12_wood 175 = .ok (.iastore, 1) := by decide +kernel
theorem dX12_wood_176 : decode cX12_wood 176 = .ok (.aload_n 0, 1) := by decide +kernel
theorem dX12_wood_177 : decode cX12_wood 177 = .ok (.getfield 16, 3) := by decide +kernel
theorem dX12_wood_180 : decode cX12_wood 180 = .ok (.iload_n 1, 1) := by decide +kernel
theorem dX12_wood_181 : decode cX12_wood 181 = .ok (.iconst (-1), 1) := by decide +kernel
theorem dX12_wood_182 : decode cX12_wood 182 = .ok (.iastore, 1) := by decide +kernel
theorem dX12_wood_183 : decode cX12_wood 183 = .ok (.aload_n 0, 1) := by decide +kernel
theorem dX12_wood_184 : decode cX12_wood 184 = .ok (.getfield 19, 3) := by decide +kernel
theorem dX12_wood_187 : decode cX12_wood 187 = .ok (.iload_n 1, 1) := by decide +kernel
theorem dX12_wood_188 : decode cX12_wood 188 = .ok (.aload_n 0, 1) := by decide +kernel
theorem dX12_wood_189 : decode cX12_wood 189 = .ok (.getfield 41, 3) := by decide +kernel
theorem dX12_wood_192 : decode cX12_wood 192 = .ok (.iload_n 1, 1) := by decide +kernel
theorem dX12_wood_193 : decode cX12_wood 193 = .ok (.iaload, 1) := by decide +kernel
theorem dX12_wood_194 : decode cX12_wood 194 = .ok (.iastore, 1) := by decide +kernel
theorem dX12_wood_195 : decode cX12_wood 195 = .ok (.iinc 1 1, 3) := by decide +kernel
theorem dX12_wood_198 : decode cX12_wood 198 = .ok (.goto (-42), 3) := by decide +kernel
theorem dX12_wood_201 : decode cX12_wood 201 = .ok (.iconst 0, 1) := by decide +kernel
theorem dX12_wood_202 : decode cX12_wood 202 = .ok (.istore_n 1, 1) := by decide +kernel
theorem dX12_wood_203 : decode cX12_wood 203 = .ok (.iload_n 1, 1) := by decide +kernel
theorem dX12_wood_204 : decode cX12_wood 204 = .ok (.bipush 8, 2) := by decide +kernel
theorem dX12_wood_206 : decode cX12_wood 206 = .ok (.if_icmp .ge 21, 3) := by decide +kernel
theorem dX12_wood_209 : decode cX12_wood 209 = .ok (.aload_n 0, 1) := by decide +kernel
theorem dX12_wood_210 : decode cX12_wood 210 = .ok (.getfield 22, 3) := by decide +kernel
theorem dX12_wood_213 : decode cX12_wood 213 = .ok (.iload_n 1, 1) := by decide +kernel
theorem dX12_wood_214 : decode cX12_wood 214 = .ok (.aload_n 0, 1) := by decide +kernel
theorem dX12_wood_215 : decode cX12_wood 215 = .ok (.getfield 44, 3) := by decide +kernel
theorem dX12_wood_218 : decode cX12_wood 218 = .ok (.iload_n 1, 1) := by decide +kernel
theorem dX12_wood_219 : decode cX12_wood 219 = .ok (.iaload, 1) := by decide +kernel
theorem dX12_wood_220 : decode cX12_wood 220 = .ok (.iastore, 1) := by decide +kernel
theorem dX12_wood_221 : decode cX12_wood 221 = .ok (.iinc 1 1, 3) := by decide +kernel
theorem dX12_wood_224 : decode cX12_wood 224 = .ok (.goto (-21), 3) := by decide +kernel
theorem dX12_wood_227 : decode cX12_wood 227 = .ok (.aload_n 0, 1) := by decide +kernel
theorem dX12_wood_228 : decode cX12_wood 228 = .ok (.iconst 0, 1) := by decide +kernel
theorem dX12_wood_229 : decode cX12_wood 229 = .ok (.putfield 227, 3) := by decide +kernel
theorem dX12_wood_232 : decode cX12_wood 232 = .ok (.aload_n 0, 1) := by decide +kernel
theorem dX12_wood_233 : decode cX12_wood 233 = .ok (.iconst 0, 1) := by decide +kernel
theorem dX12_wood_234 : decode cX12_wood 234 = .ok (.putfield 230, 3) := by decide +kernel
theorem dX12_wood_237 : decode cX12_wood 237 = .ok (.aload_n 0, 1) := by decide +kernel
theorem dX12_wood_238 : decode cX12_wood 238 = .ok (.getfield 97, 3) := by decide +kernel
theorem dX12_wood_241 : decode cX12_wood 241 = .ok (.ireturn, 1) := by decide +kernel
theorem dX12_path_0 : decode cX12_path 0 = .ok (.iload_n 1, 1) := by decide +kernel
theorem dX12_path_1 : decode cX12_path 1 = .ok (.iconst 0, 1) := by decide +kernel
theorem dX12_path_2 : decode cX12_path 2 = .ok (.iconst 5, 1) := by decide +kernel
theorem dX12_path_3 : decode cX12_path 3 = .ok (.invokestatic 93, 3) := by decide +kernel
theorem dX12_path_6 : decode cX12_path 6 = .ok (.ifCond .eq 44, 3) := by decide +kernel
theorem dX12_path_9 : decode cX12_path 9 = .ok (.iload_n 2, 1) := by decide +kernel
theorem dX12_path_10 : decode cX12_path 10 = .ok (.invokestatic 233, 3) := by decide +kernel
theorem dX12_path_13 : decode cX12_path 13 = .ok (.ifCond .eq 37, 3) := by decide +kernel
theorem dX12_path_16 : decode cX12_path 16 = .ok (.iload_n 3, 1) := by decide +kernel
theorem dX12_path_17 : decode cX12_path 17 = .ok (.invokestatic 233, 3) := by decide +kernel
theorem dX12_path_20 : decode cX12_path 20 = .ok (.ifCond .eq 30, 3) := by decide +kernel
theorem dX12_path_23 : decode cX12_path 23 = .ok (.iload_n 2, 1) := by decide +kernel
theorem dX12_path_24 : decode cX12_path 24 = .ok (.iload_n 3, 1) := by decide +kernel
theorem dX12_path_25 : decode cX12_path 25 = .ok (.if_icmp .eq 25, 3) := by decide +kernel
theorem dX12_path_28 : decode cX12_path 28 = .ok (.iload 4, 2) := by decide +kernel
theorem dX12_path_30 : decode cX12_path 30 = .ok (.iconst 0, 1) := by decide +kernel
theorem dX12_path_31 : decode cX12_path 31 = .ok (.bipush 8, 2) := by decide +kernel
theorem dX12_path_33 : decode cX12_path 33 = .ok (.invokestatic 93, 3) := by decide +kernel
theorem dX12_path_36 : decode cX12_path 36 = .ok (.ifCond .eq 14, 3) := by decide +kernel
theorem dX12_path_39 : decode cX12_path 39 = .ok (.iload 5, 2) := by decide +kernel
theorem dX12_path_41 : decode cX12_path 41 = .ok (.iconst 0, 1) := by decide +kernel
theorem dX12_path_42 : decode cX12_path 42 = .ok (.bipush 8, 2) := by decide +kernel
theorem dX12_path_44 : decode cX12_path 44 = .ok (.invokestatic 93, 3) := by decide +kernel
theorem dX12_path_47 : decode cX12_path 47 = .ok (.ifCond .ne 5, 3) := by decide +kernel
theorem dX12_path_50 : decode cX12_path 50 = .ok (.iconst (-1), 1) := by decide +kernel
theorem dX12_path_51 : decode cX12_path 51 = .ok (.ireturn, 1) := by decide +kernel
theorem dX12_path_52 : decode cX12_path 52 = .ok (.aload_n 0, 1) := by decide +kernel
theorem dX12_path_53 : decode cX12_path 53 = .ok (.getfield 97, 3) := by decide +kernel
theorem dX12_path_56 : decode cX12_path 56 = .ok (.bipush 8, 2) := by decide +kernel
theorem dX12_path_58 : decode cX12_path 58 = .ok (.if_icmp .ne 6, 3) := by decide +kernel
theorem dX12_path_61 : decode cX12_path 61 = .ok (.bipush (-2), 2) := by decide +kernel
theorem dX12_path_63 : decode cX12_path 63 = .ok (.ireturn, 1) := by decide +kernel
theorem dX12_path_64 : decode cX12_path 64 = .ok (.iconst 5, 1) := by decide +kernel
theorem dX12_path_65 : decode cX12_path 65 = .ok (.aload_n 0, 1) := by decide +kernel
theorem dX12_path_66 : decode cX12_path 66 = .ok (.getfield 97, 3) := by decide +kernel
theorem dX12_path_69 : decode cX12_path 69 = .ok (.imul, 1) := by decide +kernel
theorem dX12_path_70 : decode cX12_path 70 = .ok (.istore 6, 2) := by decide +kernel
theorem dX12_path_72 : decode cX12_path 72 = .ok (.aload_n 0, 1) := by decide +kernel
theorem dX12_path_73 : decode cX12_path 73 = .ok (.getfield 7, 3) := by decide +kernel
theorem dX12_path_76 : decode cX12_path 76 = .ok (.iload 6, 2) := by decide +kernel
theorem dX12_path_78 : decode cX12_path 78 = .ok (.iload_n 1, 1) := by decide +kernel
theorem dX12_path_79 : decode cX12_path 79 = .ok (.iastore, 1) := by decide +kernel
theorem dX12_path_80 : decode cX12_path 80 = .ok (.aload_n 0, 1) := by decide +kernel
theorem dX12_path_81 : decode cX12_path 81 = .ok (.getfield 7, 3) := by decide +kernel
theorem dX12_path_84 : decode cX12_path 84 = .ok (.iload 6, 2) := by decide +kernel
theorem dX12_path_86 : decode cX12_path 86 = .ok (.iconst 1, 1) := by decide +kernel
theorem dX12_path_87 : decode cX12_path 87 = .ok (.iadd, 1) := by decide +kernel
theorem dX12_path_88 : decode cX12_path 88 = .ok (.iload_n 2, 1) := by decide +kernel
theorem dX12_path_89 : decode cX12_path 89 = .ok (.iastore, 1) := by decide +kernel
theorem dX12_path_90 : decode cX12_path 90 = .ok (.aload_n 0, 1) := by decide +kernel
theorem dX12_path_91 : decode cX12_path 91 = .ok (.getfield 7, 3) := by decide +kernel
theorem dX12_path_94 : decode cX12_path 94 = .ok (.iload 6, 2) := by decide +kernel
theorem dX12_path_96 : decode cX12_path 96 = .ok (.iconst 2, 1) := by decide +kernel
theorem dX12_path_97 : decode cX12_path 97 = .ok (.iadd, 1) := by decide +kernel
theorem dX12_path_98 : decode cX12_path 98 = .ok (.iload_n 3, 1) := by decide +kernel
theorem dX12_path_99 : decode cX12_path 99 = .ok (.iastore, 1) := by decide +kernel
theorem dX12_path_100 : decode cX12_path 100 = .ok (.aload_n 0, 1) := by decide +kernel
theorem dX12_path_101 : decode cX12_path 101 = .ok (.getfield 7, 3) := by decide +kernel
theorem dX12_path_104 : decode cX12_path 104 = .ok (.iload 6, 2) := by decide +kernel
theorem dX12_path_106 : decode cX12_path 106 = .ok (.iconst 3, 1) := by decide +kernel
theorem dX12_path_107 : decode cX12_path 107 = .ok (.iadd, 1) := by decide +kernel
theorem dX12_path_108 : decode cX12_path 108 = .ok (.iload 4, 2) := by decide +kernel
theorem dX12_path_110 : decode cX12_path 110 = .ok (.iastore, 1) := by decide +kernel
theorem dX12_path_111 : decode cX12_path 111 = .ok (.aload_n 0, 1) := by decide +kernel
theorem dX12_path_112 : decode cX12_path 112 = .ok (.getfield 7, 3) := by decide +kernel
theorem dX12_path_115 : decode cX12_path 115 = .ok (.iload 6, 2) := by decide +kernel
theorem dX12_path_117 : decode cX12_path 117 = .ok (.iconst 4, 1) := by decide +kernel
theorem dX12_path_118 : decode cX12_path 118 = .ok (.iadd, 1) := by decide +kernel
theorem dX12_path_119 : decode cX12_path 119 = .ok (.iload 5, 2) := by decide +kernel
theorem dX12_path_121 : decode cX12_path 121 = .ok (.iastore, 1) := by decide +kernel
theorem dX12_path_122 : decode cX12_path 122 = .ok (.aload_n 0, 1) := by decide +kernel
theorem dX12_path_123 : decode cX12_path 123 = .ok (.dup, 1) := by decide +kernel
theorem dX12_path_124 : decode cX12_path 124 = .ok (.getfield 103, 3) := by decide +kernel
theorem dX12_path_127 : decode cX12_path 127 = .ok (.iconst 1, 1) := by decide +kernel
theorem dX12_path_128 : decode cX12_path 128 = .ok (.aload_n 0, 1) := by decide +kernel
theorem dX12_path_129 : decode cX12_path 129 = .ok (.getfield 97, 3) := by decide +kernel
theorem dX12_path_132 : decode cX12_path 132 = .ok (.ishl, 1) := by decide +kernel
theorem dX12_path_133 : decode cX12_path 133 = .ok (.ior, 1) := by decide +kernel
theorem dX12_path_134 : decode cX12_path 134 = .ok (.putfield 103, 3) := by decide +kernel
theorem dX12_path_137 : decode cX12_path 137 = .ok (.aload_n 0, 1) := by decide +kernel
theorem dX12_path_138 : decode cX12_path 138 = .ok (.dup, 1) := by decide +kernel
theorem dX12_path_139 : decode cX12_path 139 = .ok (.getfield 97, 3) := by decide +kernel
theorem dX12_path_142 : decode cX12_path 142 = .ok (.iconst 1, 1) := by decide +kernel
theorem dX12_path_143 : decode cX12_path 143 = .ok (.iadd, 1) := by decide +kernel
theorem dX12_path_144 : decode cX12_path 144 = .ok (.putfield 97, 3) := by decide +kernel
theorem dX12_path_147 : decode cX12_path 147 = .ok (.aload_n 0, 1) := by decide +kernel
theorem dX12_path_148 : decode cX12_path 148 = .ok (.getfield 97, 3) := by decide +kernel
theorem dX12_path_151 : decode cX12_path 151 = .ok (.iconst 1, 1) := by decide +kernel
theorem dX12_path_152 : decode cX12_path 152 = .ok (.isub, 1) := by decide +kernel
theorem dX12_path_153 : decode cX12_path 153 = .ok (.ireturn, 1) := by decide +kernel
theorem dX12_kept_0 : decode cX12_kept 0 = .ok (.iload_n 0, 1) := by decide +kernel
theorem dX12_kept_1 : decode cX12_kept 1 = .ok (.iload_n 1, 1) := by decide +kernel
theorem dX12_kept_2 : decode cX12_kept 2 = .ok (.if_icmp .le 7, 3) := by decide +kernel
theorem dX12_kept_5 : decode cX12_kept 5 = .ok (.iload_n 1, 1) := by decide +kernel
theorem dX12_kept_6 : decode cX12_kept 6 = .ok (.goto 12, 3) := by decide +kernel
theorem dX12_kept_9 : decode cX12_kept 9 = .ok (.iload_n 0, 1) := by decide +kernel
theorem dX12_kept_10 : decode cX12_kept 10 = .ok (.ifCond .ge 7, 3) := by decide +kernel
theorem dX12_kept_13 : decode cX12_kept 13 = .ok (.iconst 0, 1) := by decide +kernel
theorem dX12_kept_14 : decode cX12_kept 14 = .ok (.goto 4, 3) := by decide +kernel
theorem dX12_kept_17 : decode cX12_kept 17 = .ok (.iload_n 0, 1) := by decide +kernel
theorem dX12_kept_18 : decode cX12_kept 18 = .ok (.ireturn, 1) := by decide +kernel
theorem dX12_isRidden_0 : decode cX12_isRidden 0 = .ok (.iconst 0, 1) := by decide +kernel
theorem dX12_isRidden_1 : decode cX12_isRidden 1 = .ok (.istore_n 2, 1) := by decide +kernel
theorem dX12_isRidden_2 : decode cX12_isRidden 2 = .ok (.iconst 0, 1) := by decide +kernel
theorem dX12_isRidden_3 : decode cX12_isRidden 3 = .ok (.istore_n 3, 1) := by decide +kernel
theorem dX12_isRidden_4 : decode cX12_isRidden 4 = .ok (.iload_n 3, 1) := by decide +kernel
theorem dX12_isRidden_5 : decode cX12_isRidden 5 = .ok (.aload_n 0, 1) := by decide +kernel
theorem dX12_isRidden_6 : decode cX12_isRidden 6 = .ok (.getfield 100, 3) := by decide +kernel
theorem dX12_isRidden_9 : decode cX12_isRidden 9 = .ok (.if_icmp .ge 42, 3) := by decide +kernel
theorem dX12_isRidden_12 : decode cX12_isRidden 12 = .ok (.iload_n 2, 1) := by decide +kernel
theorem dX12_isRidden_13 : decode cX12_isRidden 13 = .ok (.ifCond .ne 26, 3) := by decide +kernel
theorem dX12_isRidden_16 : decode cX12_isRidden 16 = .ok (.aload_n 0, 1) := by decide +kernel
theorem dX12_isRidden_17 : decode cX12_isRidden 17 = .ok (.getfield 16, 3) := by decide +kernel
theorem dX12_isRidden_20 : decode cX12_isRidden 20 = .ok (.iload_n 3, 1) := by decide +kernel
theorem dX12_isRidden_21 : decode cX12_isRidden 21 = .ok (.iaload, 1) := by decide +kernel
theorem dX12_isRidden_22 : decode cX12_isRidden 22 = .ok (.ifCond .ge 21, 3) := by decide +kernel
theorem dX12_isRidden_25 : decode cX12_isRidden 25 = .ok (.aload_n 0, 1) := by decide +kernel
theorem dX12_isRidden_26 : decode cX12_isRidden 26 = .ok (.iload_n 1, 1) := by decide +kernel
theorem dX12_isRidden_27 : decode cX12_isRidden 27 = .ok (.aload_n 0, 1) := by decide +kernel
theorem dX12_isRidden_28 : decode cX12_isRidden 28 = .ok (.getfield 13, 3) := by decide +kernel
theorem dX12_isRidden_31 : decode cX12_isRidden 31 = .ok (.iload_n 3, 1) := by decide +kernel
theorem dX12_isRidden_32 : decode cX12_isRidden 32 = .ok (.iaload, 1) := by decide +kernel
theorem dX12_isRidden_33 : decode cX12_isRidden 33 = .ok (.invokevirtual 236, 3) := by decide +kernel
theorem dX12_isRidden_36 : decode cX12_isRidden 36 = .ok (.ifCond .eq 7, 3) := by decide +kernel
theorem dX12_isRidden_39 : decode cX12_isRidden 39 = .ok (.iconst 1, 1) := by decide +kernel
theorem dX12_isRidden_40 : decode cX12_isRidden 40 = .ok (.goto 4, 3) := by decide +kernel
theorem dX12_isRidden_43 : decode cX12_isRidden 43 = .ok (.iconst 0, 1) := by decide +kernel
theorem dX12_isRidden_44 : decode cX12_isRidden 44 = .ok (.istore_n 2, 1) := by decide +kernel
theorem dX12_isRidden_45 : decode cX12_isRidden 45 = .ok (.iinc 3 1, 3) := by decide +kernel
theorem dX12_isRidden_48 : decode cX12_isRidden 48 = .ok (.goto (-44), 3) := by decide +kernel
theorem dX12_isRidden_51 : decode cX12_isRidden 51 = .ok (.iload_n 2, 1) := by decide +kernel
theorem dX12_isRidden_52 : decode cX12_isRidden 52 = .ok (.ireturn, 1) := by decide +kernel
theorem dX12_staysOf_0 : decode cX12_staysOf 0 = .ok (.aload_n 0, 1) := by decide +kernel
theorem dX12_staysOf_1 : decode cX12_staysOf 1 = .ok (.iload_n 1, 1) := by decide +kernel
theorem dX12_staysOf_2 : decode cX12_staysOf 2 = .ok (.iconst 3, 1) := by decide +kernel
theorem dX12_staysOf_3 : decode cX12_staysOf 3 = .ok (.invokevirtual 106, 3) := by decide +kernel
theorem dX12_staysOf_6 : decode cX12_staysOf 6 = .ok (.istore_n 2, 1) := by decide +kernel
theorem dX12_staysOf_7 : decode cX12_staysOf 7 = .ok (.iload_n 2, 1) := by decide +kernel
theorem dX12_staysOf_8 : decode cX12_staysOf 8 = .ok (.iconst 2, 1) := by decide +kernel
theorem dX12_staysOf_9 : decode cX12_staysOf 9 = .ok (.iadd, 1) := by decide +kernel
theorem dX12_staysOf_10 : decode cX12_staysOf 10 = .ok (.bipush 8, 2) := by decide +kernel
theorem dX12_staysOf_12 : decode cX12_staysOf 12 = .ok (.invokestatic 240, 3) := by decide +kernel
theorem dX12_staysOf_15 : decode cX12_staysOf 15 = .ok (.istore_n 3, 1) := by decide +kernel
theorem dX12_staysOf_16 : decode cX12_staysOf 16 = .ok (.aload_n 0, 1) := by decide +kernel
theorem dX12_staysOf_17 : decode cX12_staysOf 17 = .ok (.iload_n 1, 1) := by decide +kernel
theorem dX12_staysOf_18 : decode cX12_staysOf 18 = .ok (.iconst 0, 1) := by decide +kernel
theorem dX12_staysOf_19 : decode cX12_staysOf 19 = .ok (.invokevirtual 106, 3) := by decide +kernel
theorem dX12_staysOf_22 : decode cX12_staysOf 22 = .ok (.tableswitch 78 1 5 #[34, 36, 54, 58, 39], 34) := by decide +kernel
theorem dX12_staysOf_56 : decode cX12_staysOf 56 = .ok (.iload_n 3, 1) := by decide +kernel
theorem dX12_staysOf_57 : decode cX12_staysOf 57 = .ok (.ireturn, 1) := by decide +kernel
theorem dX12_staysOf_58 : decode cX12_staysOf 58 = .ok (.bipush 8, 2) := by decide +kernel
theorem dX12_staysOf_60 : decode cX12_staysOf 60 = .ok (.ireturn, 1) := by decide +kernel
theorem dX12_staysOf_61 : decode cX12_staysOf 61 = .ok (.aload_n 0, 1) := by decide +kernel
theorem dX12_staysOf_62 : decode cX12_staysOf 62 = .ok (.iload_n 1, 1) := by decide +kernel
theorem dX12_staysOf_63 : decode cX12_staysOf 63 = .ok (.invokevirtual 243, 3) := by decide +kernel
theorem dX12_staysOf_66 : decode cX12_staysOf 66 = .ok (.ifCond .eq 8, 3) := by decide +kernel
theorem dX12_staysOf_69 : decode cX12_staysOf 69 = .ok (.bipush 8, 2) := by decide +kernel
theorem dX12_staysOf_71 : decode cX12_staysOf 71 = .ok (.goto 4, 3) := by decide +kernel
theorem dX12_staysOf_74 : decode cX12_staysOf 74 = .ok (.iload_n 2, 1) := by decide +kernel
theorem dX12_staysOf_75 : decode cX12_staysOf 75 = .ok (.ireturn, 1) := by decide +kernel
theorem dX12_staysOf_76 : decode cX12_staysOf 76 = .ok (.iload_n 3, 1) := by decide +kernel
theorem dX12_staysOf_77 : decode cX12_staysOf 77 = .ok (.iconst 2, 1) := by decide +kernel
theorem dX12_staysOf_78 : decode cX12_staysOf 78 = .ok (.idiv, 1) := by decide +kernel
theorem dX12_staysOf_79 : decode cX12_staysOf 79 = .ok (.ireturn, 1) := by decide +kernel
theorem dX12_staysOf_80 : decode cX12_staysOf 80 = .ok (.aload_n 0, 1) := by decide +kernel
theorem dX12_staysOf_81 : decode cX12_staysOf 81 = .ok (.getfield 224, 3) := by decide +kernel
theorem dX12_staysOf_84 : decode cX12_staysOf 84 = .ok (.ifCond .eq 9, 3) := by decide +kernel
theorem dX12_staysOf_87 : decode cX12_staysOf 87 = .ok (.iload_n 3, 1) := by decide +kernel
theorem dX12_staysOf_88 : decode cX12_staysOf 88 = .ok (.iconst 3, 1) := by decide +kernel
theorem dX12_staysOf_89 : decode cX12_staysOf 89 = .ok (.isub, 1) := by decide +kernel
theorem dX12_staysOf_90 : decode cX12_staysOf 90 = .ok (.goto 4, 3) := by decide +kernel
theorem dX12_staysOf_93 : decode cX12_staysOf 93 = .ok (.iload_n 3, 1) := by decide +kernel
theorem dX12_staysOf_94 : decode cX12_staysOf 94 = .ok (.bipush 8, 2) := by decide +kernel
theorem dX12_staysOf_96 : decode cX12_staysOf 96 = .ok (.invokestatic 240, 3) := by decide +kernel
theorem dX12_staysOf_99 : decode cX12_staysOf 99 = .ok (.ireturn, 1) := by decide +kernel
theorem dX12_staysOf_100 : decode cX12_staysOf 100 = .ok (.iload_n 2, 1) := by decide +kernel
theorem dX12_staysOf_101 : decode cX12_staysOf 101 = .ok (.ireturn, 1) := by decide +kernel
theorem dX12_comesOf_0 : decode cX12_comesOf 0 = .ok (.aload_n 0, 1) := by decide +kernel
theorem dX12_comesOf_1 : decode cX12_comesOf 1 = .ok (.iload_n 1, 1) := by decide +kernel
theorem dX12_comesOf_2 : decode cX12_comesOf 2 = .ok (.iconst 4, 1) := by decide +kernel
theorem dX12_comesOf_3 : decode cX12_comesOf 3 = .ok (.invokevirtual 106, 3) := by decide +kernel
theorem dX12_comesOf_6 : decode cX12_comesOf 6 = .ok (.istore_n 2, 1) := by decide +kernel
theorem dX12_comesOf_7 : decode cX12_comesOf 7 = .ok (.aload_n 0, 1) := by decide +kernel
theorem dX12_comesOf_8 : decode cX12_comesOf 8 = .ok (.iload_n 1, 1) := by decide +kernel
theorem dX12_comesOf_9 : decode cX12_comesOf 9 = .ok (.iconst 0, 1) := by decide +kernel
theorem dX12_comesOf_10 : decode cX12_comesOf 10 = .ok (.invokevirtual 106, 3) := by decide +kernel
theorem dX12_comesOf_13 : decode cX12_comesOf 13 = .ok (.tableswitch 51 2 4 #[27, 29, 38], 27) := by decide +kernel
theorem dX12_comesOf_40 : decode cX12_comesOf 40 = .ok (.iconst 0, 1) := by decide +kernel
theorem dX12_comesOf_41 : decode cX12_comesOf 41 = .ok (.ireturn, 1) := by decide +kernel
theorem dX12_comesOf_42 : decode cX12_comesOf 42 = .ok (.iload_n 2, 1) := by decide +kernel
theorem dX12_comesOf_43 : decode cX12_comesOf 43 = .ok (.iconst 2, 1) := by decide +kernel
theorem dX12_comesOf_44 : decode cX12_comesOf 44 = .ok (.iadd, 1) := by decide +kernel
theorem dX12_comesOf_45 : decode cX12_comesOf 45 = .ok (.bipush 8, 2) := by decide +kernel
theorem dX12_comesOf_47 : decode cX12_comesOf 47 = .ok (.invokestatic 240, 3) := by decide +kernel
theorem dX12_comesOf_50 : decode cX12_comesOf 50 = .ok (.ireturn, 1) := by decide +kernel
theorem dX12_comesOf_51 : decode cX12_comesOf 51 = .ok (.aload_n 0, 1) := by decide +kernel
theorem dX12_comesOf_52 : decode cX12_comesOf 52 = .ok (.getfield 224, 3) := by decide +kernel
theorem dX12_comesOf_55 : decode cX12_comesOf 55 = .ok (.ifCond .eq 7, 3) := by decide +kernel
theorem dX12_comesOf_58 : decode cX12_comesOf 58 = .ok (.iconst 0, 1) := by decide +kernel
theorem dX12_comesOf_59 : decode cX12_comesOf 59 = .ok (.goto 4, 3) := by decide +kernel
theorem dX12_comesOf_62 : decode cX12_comesOf 62 = .ok (.iload_n 2, 1) := by decide +kernel
theorem dX12_comesOf_63 : decode cX12_comesOf 63 = .ok (.ireturn, 1) := by decide +kernel
theorem dX12_comesOf_64 : decode cX12_comesOf 64 = .ok (.iload_n 2, 1) := by decide +kernel
theorem dX12_comesOf_65 : decode cX12_comesOf 65 = .ok (.ireturn, 1) := by decide +kernel
theorem dX12_onWhich_0 : decode cX12_onWhich 0 = .ok (.iconst 0, 1) := by decide +kernel
theorem dX12_onWhich_1 : decode cX12_onWhich 1 = .ok (.istore_n 2, 1) := by decide +kernel
theorem dX12_onWhich_2 : decode cX12_onWhich 2 = .ok (.iconst 0, 1) := by decide +kernel
theorem dX12_onWhich_3 : decode cX12_onWhich 3 = .ok (.istore_n 3, 1) := by decide +kernel
theorem dX12_onWhich_4 : decode cX12_onWhich 4 = .ok (.iload_n 3, 1) := by decide +kernel
theorem dX12_onWhich_5 : decode cX12_onWhich 5 = .ok (.aload_n 0, 1) := by decide +kernel
theorem dX12_onWhich_6 : decode cX12_onWhich 6 = .ok (.getfield 100, 3) := by decide +kernel
theorem dX12_onWhich_9 : decode cX12_onWhich 9 = .ok (.if_icmp .ge 29, 3) := by decide +kernel
theorem dX12_onWhich_12 : decode cX12_onWhich 12 = .ok (.iload_n 2, 1) := by decide +kernel
theorem dX12_onWhich_13 : decode cX12_onWhich 13 = .ok (.aload_n 0, 1) := by decide +kernel
theorem dX12_onWhich_14 : decode cX12_onWhich 14 = .ok (.getfield 16, 3) := by decide +kernel
theorem dX12_onWhich_17 : decode cX12_onWhich 17 = .ok (.iload_n 3, 1) := by decide +kernel
theorem dX12_onWhich_18 : decode cX12_onWhich 18 = .ok (.iaload, 1) := by decide +kernel
theorem dX12_onWhich_19 : decode cX12_onWhich 19 = .ok (.iload_n 1, 1) := by decide +kernel
theorem dX12_onWhich_20 : decode cX12_onWhich 20 = .ok (.if_icmp .ne 9, 3) := by decide +kernel
theorem dX12_onWhich_23 : decode cX12_onWhich 23 = .ok (.iconst 1, 1) := by decide +kernel
theorem dX12_onWhich_24 : decode cX12_onWhich 24 = .ok (.iload_n 3, 1) := by decide +kernel
theorem dX12_onWhich_25 : decode cX12_onWhich 25 = .ok (.ishl, 1) := by decide +kernel
theorem dX12_onWhich_26 : decode cX12_onWhich 26 = .ok (.goto 4, 3) := by decide +kernel
theorem dX12_onWhich_29 : decode cX12_onWhich 29 = .ok (.iconst 0, 1) := by decide +kernel
theorem dX12_onWhich_30 : decode cX12_onWhich 30 = .ok (.ior, 1) := by decide +kernel
theorem dX12_onWhich_31 : decode cX12_onWhich 31 = .ok (.istore_n 2, 1) := by decide +kernel
theorem dX12_onWhich_32 : decode cX12_onWhich 32 = .ok (.iinc 3 1, 3) := by decide +kernel
theorem dX12_onWhich_35 : decode cX12_onWhich 35 = .ok (.goto (-31), 3) := by decide +kernel
theorem dX12_onWhich_38 : decode cX12_onWhich 38 = .ok (.iload_n 2, 1) := by decide +kernel
theorem dX12_onWhich_39 : decode cX12_onWhich 39 = .ok (.ireturn, 1) := by decide +kernel
theorem dX12_heldSet_0 : decode cX12_heldSet 0 = .ok (.iconst 0, 1) := by decide +kernel
theorem dX12_heldSet_1 : decode cX12_heldSet 1 = .ok (.istore_n 1, 1) := by decide +kernel
theorem dX12_heldSet_2 : decode cX12_heldSet 2 = .ok (.iconst 0, 1) := by decide +kernel
theorem dX12_heldSet_3 : decode cX12_heldSet 3 = .ok (.istore_n 2, 1) := by decide +kernel
theorem dX12_heldSet_4 : decode cX12_heldSet 4 = .ok (.iload_n 2, 1) := by decide +kernel
theorem dX12_heldSet_5 : decode cX12_heldSet 5 = .ok (.aload_n 0, 1) := by decide +kernel
theorem dX12_heldSet_6 : decode cX12_heldSet 6 = .ok (.getfield 100, 3) := by decide +kernel
theorem dX12_heldSet_9 : decode cX12_heldSet 9 = .ok (.if_icmp .ge 33, 3) := by decide +kernel
theorem dX12_heldSet_12 : decode cX12_heldSet 12 = .ok (.iload_n 1, 1) := by decide +kernel
theorem dX12_heldSet_13 : decode cX12_heldSet 13 = .ok (.aload_n 0, 1) := by decide +kernel
theorem dX12_heldSet_14 : decode cX12_heldSet 14 = .ok (.getfield 16, 3) := by decide +kernel
theorem dX12_heldSet_17 : decode cX12_heldSet 17 = .ok (.iload_n 2, 1) := by decide +kernel
theorem dX12_heldSet_18 : decode cX12_heldSet 18 = .ok (.iaload, 1) := by decide +kernel
theorem dX12_heldSet_19 : decode cX12_heldSet 19 = .ok (.ifCond .lt 14, 3) := by decide +kernel
theorem dX12_heldSet_22 : decode cX12_heldSet 22 = .ok (.iconst 1, 1) := by decide +kernel
theorem dX12_heldSet_23 : decode cX12_heldSet 23 = .ok (.aload_n 0, 1) := by decide +kernel
theorem dX12_heldSet_24 : decode cX12_heldSet 24 = .ok (.getfield 16, 3) := by decide +kernel
theorem dX12_heldSet_27 : decode cX12_heldSet 27 = .ok (.iload_n 2, 1) := by decide +kernel
theorem dX12_heldSet_28 : decode cX12_heldSet 28 = .ok (.iaload, 1) := by decide +kernel
theorem dX12_heldSet_29 : decode cX12_heldSet 29 = .ok (.ishl, 1) := by decide +kernel
theorem dX12_heldSet_30 : decode cX12_heldSet 30 = .ok (.goto 4, 3) := by decide +kernel
theorem dX12_heldSet_33 : decode cX12_heldSet 33 = .ok (.iconst 0, 1) := by decide +kernel
theorem dX12_heldSet_34 : decode cX12_heldSet 34 = .ok (.ior, 1) := by decide +kernel
theorem dX12_heldSet_35 : decode cX12_heldSet 35 = .ok (.istore_n 1, 1) := by decide +kernel
theorem dX12_heldSet_36 : decode cX12_heldSet 36 = .ok (.iinc 2 1, 3) := by decide +kernel
theorem dX12_heldSet_39 : decode cX12_heldSet 39 = .ok (.goto (-35), 3) := by decide +kernel
theorem dX12_heldSet_42 : decode cX12_heldSet 42 = .ok (.iload_n 1, 1) := by decide +kernel
theorem dX12_heldSet_43 : decode cX12_heldSet 43 = .ok (.ireturn, 1) := by decide +kernel
theorem dX12_pathOf_0 : decode cX12_pathOf 0 = .ok (.aload_n 0, 1) := by decide +kernel
theorem dX12_pathOf_1 : decode cX12_pathOf 1 = .ok (.iload_n 1, 1) := by decide +kernel
theorem dX12_pathOf_2 : decode cX12_pathOf 2 = .ok (.invokevirtual 246, 3) := by decide +kernel
theorem dX12_pathOf_5 : decode cX12_pathOf 5 = .ok (.ifCond .eq 13, 3) := by decide +kernel
theorem dX12_pathOf_8 : decode cX12_pathOf 8 = .ok (.iload_n 2, 1) := by decide +kernel
theorem dX12_pathOf_9 : decode cX12_pathOf 9 = .ok (.iconst 0, 1) := by decide +kernel
theorem dX12_pathOf_10 : decode cX12_pathOf 10 = .ok (.bipush 8, 2) := by decide +kernel
theorem dX12_pathOf_12 : decode cX12_pathOf 12 = .ok (.invokestatic 93, 3) := by decide +kernel
theorem dX12_pathOf_15 : decode cX12_pathOf 15 = .ok (.ifCond .ne 5, 3) := by decide +kernel
theorem dX12_pathOf_18 : decode cX12_pathOf 18 = .ok (.iconst (-1), 1) := by decide +kernel
theorem dX12_pathOf_19 : decode cX12_pathOf 19 = .ok (.ireturn, 1) := by decide +kernel
theorem dX12_pathOf_20 : decode cX12_pathOf 20 = .ok (.iload_n 2, 1) := by decide +kernel
theorem dX12_pathOf_21 : decode cX12_pathOf 21 = .ok (.tableswitch 58 5 8 #[31, 40, 46, 52], 31) := by decide +kernel
theorem dX12_pathOf_52 : decode cX12_pathOf 52 = .ok (.aload_n 0, 1) := by decide +kernel
theorem dX12_pathOf_53 : decode cX12_pathOf 53 = .ok (.getfield 103, 3) := by decide +kernel
theorem dX12_pathOf_56 : decode cX12_pathOf 56 = .ok (.iload_n 1, 1) := by decide +kernel
theorem dX12_pathOf_57 : decode cX12_pathOf 57 = .ok (.ishr, 1) := by decide +kernel
theorem dX12_pathOf_58 : decode cX12_pathOf 58 = .ok (.iconst 1, 1) := by decide +kernel
theorem dX12_pathOf_59 : decode cX12_pathOf 59 = .ok (.iand, 1) := by decide +kernel
theorem dX12_pathOf_60 : decode cX12_pathOf 60 = .ok (.ireturn, 1) := by decide +kernel
theorem dX12_pathOf_61 : decode cX12_pathOf 61 = .ok (.aload_n 0, 1) := by decide +kernel
theorem dX12_pathOf_62 : decode cX12_pathOf 62 = .ok (.iload_n 1, 1) := by decide +kernel
theorem dX12_pathOf_63 : decode cX12_pathOf 63 = .ok (.invokevirtual 249, 3) := by decide +kernel
theorem dX12_pathOf_66 : decode cX12_pathOf 66 = .ok (.ireturn, 1) := by decide +kernel
theorem dX12_pathOf_67 : decode cX12_pathOf 67 = .ok (.aload_n 0, 1) := by decide +kernel
theorem dX12_pathOf_68 : decode cX12_pathOf 68 = .ok (.iload_n 1, 1) := by decide +kernel
theorem dX12_pathOf_69 : decode cX12_pathOf 69 = .ok (.invokevirtual 252, 3) := by decide +kernel
theorem dX12_pathOf_72 : decode cX12_pathOf 72 = .ok (.ireturn, 1) := by decide +kernel
theorem dX12_pathOf_73 : decode cX12_pathOf 73 = .ok (.aload_n 0, 1) := by decide +kernel
theorem dX12_pathOf_74 : decode cX12_pathOf 74 = .ok (.iload_n 1, 1) := by decide +kernel
theorem dX12_pathOf_75 : decode cX12_pathOf 75 = .ok (.invokevirtual 255, 3) := by decide +kernel
theorem dX12_pathOf_78 : decode cX12_pathOf 78 = .ok (.ireturn, 1) := by decide +kernel
theorem dX12_pathOf_79 : decode cX12_pathOf 79 = .ok (.aload_n 0, 1) := by decide +kernel
theorem dX12_pathOf_80 : decode cX12_pathOf 80 = .ok (.iload_n 1, 1) := by decide +kernel
theorem dX12_pathOf_81 : decode cX12_pathOf 81 = .ok (.iload_n 2, 1) := by decide +kernel
theorem dX12_pathOf_82 : decode cX12_pathOf 82 = .ok (.invokevirtual 106, 3) := by decide +kernel
theorem dX12_pathOf_85 : decode cX12_pathOf 85 = .ok (.ireturn, 1) := by decide +kernel
theorem dX12_open_0 : decode cX12_open 0 = .ok (.aload_n 0, 1) := by decide +kernel
theorem dX12_open_1 : decode cX12_open 1 = .ok (.iload_n 1, 1) := by decide +kernel
theorem dX12_open_2 : decode cX12_open 2 = .ok (.invokevirtual 246, 3) := by decide +kernel
theorem dX12_open_5 : decode cX12_open 5 = .ok (.ifCond .ne 5, 3) := by decide +kernel
theorem dX12_open_8 : decode cX12_open 8 = .ok (.iconst (-1), 1) := by decide +kernel
theorem dX12_open_9 : decode cX12_open 9 = .ok (.ireturn, 1) := by decide +kernel
theorem dX12_open_10 : decode cX12_open 10 = .ok (.aload_n 0, 1) := by decide +kernel
theorem dX12_open_11 : decode cX12_open 11 = .ok (.iload_n 1, 1) := by decide +kernel
theorem dX12_open_12 : decode cX12_open 12 = .ok (.invokevirtual 255, 3) := by decide +kernel
theorem dX12_open_15 : decode cX12_open 15 = .ok (.ifCond .eq 6, 3) := by decide +kernel
theorem dX12_open_18 : decode cX12_open 18 = .ok (.bipush (-4), 2) := by decide +kernel
theorem dX12_open_20 : decode cX12_open 20 = .ok (.ireturn, 1) := by decide +kernel
theorem dX12_open_21 : decode cX12_open 21 = .ok (.aload_n 0, 1) := by decide +kernel
theorem dX12_open_22 : decode cX12_open 22 = .ok (.iload_n 1, 1) := by decide +kernel
theorem dX12_open_23 : decode cX12_open 23 = .ok (.invokevirtual 258, 3) := by decide +kernel
theorem dX12_open_26 : decode cX12_open 26 = .ok (.iload_n 2, 1) := by decide +kernel
theorem dX12_open_27 : decode cX12_open 27 = .ok (.if_icmp .ne 5, 3) := by decide +kernel
theorem dX12_open_30 : decode cX12_open 30 = .ok (.iconst 0, 1) := by decide +kernel
theorem dX12_open_31 : decode cX12_open 31 = .ok (.ireturn, 1) := by decide +kernel
theorem dX12_open_32 : decode cX12_open 32 = .ok (.aload_n 0, 1) := by decide +kernel
theorem dX12_open_33 : decode cX12_open 33 = .ok (.dup, 1) := by decide +kernel
theorem dX12_open_34 : decode cX12_open 34 = .ok (.getfield 103, 3) := by decide +kernel
theorem dX12_open_37 : decode cX12_open 37 = .ok (.iconst 1, 1) := by decide +kernel
theorem dX12_open_38 : decode cX12_open 38 = .ok (.iload_n 1, 1) := by decide +kernel
theorem dX12_open_39 : decode cX12_open 39 = .ok (.ishl, 1) := by decide +kernel
theorem dX12_open_40 : decode cX12_open 40 = .ok (.ixor, 1) := by decide +kernel
theorem dX12_open_41 : decode cX12_open 41 = .ok (.putfield 103, 3) := by decide +kernel
theorem dX12_open_44 : decode cX12_open 44 = .ok (.iconst 1, 1) := by decide +kernel
theorem dX12_open_45 : decode cX12_open 45 = .ok (.ireturn, 1) := by decide +kernel
theorem dX12_rain_0 : decode cX12_rain 0 = .ok (.aload_n 0, 1) := by decide +kernel
theorem dX12_rain_1 : decode cX12_rain 1 = .ok (.getfield 224, 3) := by decide +kernel
theorem dX12_rain_4 : decode cX12_rain 4 = .ok (.istore_n 2, 1) := by decide +kernel
theorem dX12_rain_5 : decode cX12_rain 5 = .ok (.aload_n 0, 1) := by decide +kernel
theorem dX12_rain_6 : decode cX12_rain 6 = .ok (.iload_n 1, 1) := by decide +kernel
theorem dX12_rain_7 : decode cX12_rain 7 = .ok (.putfield 224, 3) := by decide +kernel
theorem dX12_rain_10 : decode cX12_rain 10 = .ok (.iload_n 2, 1) := by decide +kernel
theorem dX12_rain_11 : decode cX12_rain 11 = .ok (.iload_n 1, 1) := by decide +kernel
theorem dX12_rain_12 : decode cX12_rain 12 = .ok (.if_icmp .ne 7, 3) := by decide +kernel
theorem dX12_rain_15 : decode cX12_rain 15 = .ok (.iconst 0, 1) := by decide +kernel
theorem dX12_rain_16 : decode cX12_rain 16 = .ok (.goto 4, 3) := by decide +kernel
theorem dX12_rain_19 : decode cX12_rain 19 = .ok (.iconst 1, 1) := by decide +kernel
theorem dX12_rain_20 : decode cX12_rain 20 = .ok (.ireturn, 1) := by decide +kernel
theorem dX12_weigh_0 : decode cX12_weigh 0 = .ok (.iload_n 1, 1) := by decide +kernel
theorem dX12_weigh_1 : decode cX12_weigh 1 = .ok (.invokestatic 233, 3) := by decide +kernel
theorem dX12_weigh_4 : decode cX12_weigh 4 = .ok (.ifCond .eq 13, 3) := by decide +kernel
theorem dX12_weigh_7 : decode cX12_weigh 7 = .ok (.iload_n 2, 1) := by decide +kernel
theorem dX12_weigh_8 : decode cX12_weigh 8 = .ok (.iconst 0, 1) := by decide +kernel
theorem dX12_weigh_9 : decode cX12_weigh 9 = .ok (.bipush 9, 2) := by decide +kernel
theorem dX12_weigh_11 : decode cX12_weigh 11 = .ok (.invokestatic 93, 3) := by decide +kernel
theorem dX12_weigh_14 : decode cX12_weigh 14 = .ok (.ifCond .ne 5, 3) := by decide +kernel
theorem dX12_weigh_17 : decode cX12_weigh 17 = .ok (.iconst (-1), 1) := by decide +kernel
theorem dX12_weigh_18 : decode cX12_weigh 18 = .ok (.ireturn, 1) := by decide +kernel
theorem dX12_weigh_19 : decode cX12_weigh 19 = .ok (.aload_n 0, 1) := by decide +kernel
theorem dX12_weigh_20 : decode cX12_weigh 20 = .ok (.getfield 22, 3) := by decide +kernel
theorem dX12_weigh_23 : decode cX12_weigh 23 = .ok (.iload_n 1, 1) := by decide +kernel
theorem dX12_weigh_24 : decode cX12_weigh 24 = .ok (.iaload, 1) := by decide +kernel
theorem dX12_weigh_25 : decode cX12_weigh 25 = .ok (.istore_n 3, 1) := by decide +kernel
theorem dX12_weigh_26 : decode cX12_weigh 26 = .ok (.aload_n 0, 1) := by decide +kernel
theorem dX12_weigh_27 : decode cX12_weigh 27 = .ok (.getfield 22, 3) := by decide +kernel
theorem dX12_weigh_30 : decode cX12_weigh 30 = .ok (.iload_n 1, 1) := by decide +kernel
theorem dX12_weigh_31 : decode cX12_weigh 31 = .ok (.iload_n 2, 1) := by decide +kernel
theorem dX12_weigh_32 : decode cX12_weigh 32 = .ok (.iastore, 1) := by decide +kernel
theorem dX12_weigh_33 : decode cX12_weigh 33 = .ok (.iload_n 3, 1) := by decide +kernel
theorem dX12_weigh_34 : decode cX12_weigh 34 = .ok (.ireturn, 1) := by decide +kernel
theorem dX12_walker_0 : decode cX12_walker 0 = .ok (.iload_n 1, 1) := by decide +kernel
theorem dX12_walker_1 : decode cX12_walker 1 = .ok (.invokestatic 233, 3) := by decide +kernel
theorem dX12_walker_4 : decode cX12_walker 4 = .ok (.ifCond .eq 13, 3) := by decide +kernel
theorem dX12_walker_7 : decode cX12_walker 7 = .ok (.iload_n 2, 1) := by decide +kernel
theorem dX12_walker_8 : decode cX12_walker 8 = .ok (.iconst 0, 1) := by decide +kernel
theorem dX12_walker_9 : decode cX12_walker 9 = .ok (.bipush 99, 2) := by decide +kernel
theorem dX12_walker_11 : decode cX12_walker 11 = .ok (.invokestatic 93, 3) := by decide +kernel
theorem dX12_walker_14 : decode cX12_walker 14 = .ok (.ifCond .ne 5, 3) := by decide +kernel
theorem dX12_walker_17 : decode cX12_walker 17 = .ok (.iconst (-1), 1) := by decide +kernel
theorem dX12_walker_18 : decode cX12_walker 18 = .ok (.ireturn, 1) := by decide +kernel
theorem dX12_walker_19 : decode cX12_walker 19 = .ok (.aload_n 0, 1) := by decide +kernel
theorem dX12_walker_20 : decode cX12_walker 20 = .ok (.getfield 100, 3) := by decide +kernel
theorem dX12_walker_23 : decode cX12_walker 23 = .ok (.iconst 4, 1) := by decide +kernel
theorem dX12_walker_24 : decode cX12_walker 24 = .ok (.if_icmp .ne 6, 3) := by decide +kernel
theorem dX12_walker_27 : decode cX12_walker 27 = .ok (.bipush (-2), 2) := by decide +kernel
theorem dX12_walker_29 : decode cX12_walker 29 = .ok (.ireturn, 1) := by decide +kernel
theorem dX12_walker_30 : decode cX12_walker 30 = .ok (.aload_n 0, 1) := by decide +kernel
theorem dX12_walker_31 : decode cX12_walker 31 = .ok (.getfield 13, 3) := by decide +kernel
theorem dX12_walker_34 : decode cX12_walker 34 = .ok (.aload_n 0, 1) := by decide +kernel
theorem dX12_walker_35 : decode cX12_walker 35 = .ok (.getfield 100, 3) := by decide +kernel
theorem dX12_walker_38 : decode cX12_walker 38 = .ok (.iload_n 1, 1) := by decide +kernel
theorem dX12_walker_39 : decode cX12_walker 39 = .ok (.iastore, 1) := by decide +kernel
theorem dX12_walker_40 : decode cX12_walker 40 = .ok (.aload_n 0, 1) := by decide +kernel
theorem dX12_walker_41 : decode cX12_walker 41 = .ok (.getfield 16, 3) := by decide +kernel
theorem dX12_walker_44 : decode cX12_walker 44 = .ok (.aload_n 0, 1) := by decide +kernel
theorem dX12_walker_45 : decode cX12_walker 45 = .ok (.getfield 100, 3) := by decide +kernel
theorem dX12_walker_48 : decode cX12_walker 48 = .ok (.iconst (-1), 1) := by decide +kernel
theorem dX12_walker_49 : decode cX12_walker 49 = .ok (.iastore, 1) := by decide +kernel
theorem dX12_walker_50 : decode cX12_walker 50 = .ok (.aload_n 0, 1) := by decide +kernel
theorem dX12_walker_51 : decode cX12_walker 51 = .ok (.getfield 19, 3) := by decide +kernel
theorem dX12_walker_54 : decode cX12_walker 54 = .ok (.aload_n 0, 1) := by decide +kernel
theorem dX12_walker_55 : decode cX12_walker 55 = .ok (.getfield 100, 3) := by decide +kernel
theorem dX12_walker_58 : decode cX12_walker 58 = .ok (.iload_n 2, 1) := by decide +kernel
theorem dX12_walker_59 : decode cX12_walker 59 = .ok (.iastore, 1) := by decide +kernel
theorem dX12_walker_60 : decode cX12_walker 60 = .ok (.aload_n 0, 1) := by decide +kernel
theorem dX12_walker_61 : decode cX12_walker 61 = .ok (.dup, 1) := by decide +kernel
theorem dX12_walker_62 : decode cX12_walker 62 = .ok (.getfield 100, 3) := by decide +kernel
theorem dX12_walker_65 : decode cX12_walker 65 = .ok (.iconst 1, 1) := by decide +kernel
theorem dX12_walker_66 : decode cX12_walker 66 = .ok (.iadd, 1) := by decide +kernel
theorem dX12_walker_67 : decode cX12_walker 67 = .ok (.putfield 100, 3) := by decide +kernel
theorem dX12_walker_70 : decode cX12_walker 70 = .ok (.aload_n 0, 1) := by decide +kernel
theorem dX12_walker_71 : decode cX12_walker 71 = .ok (.getfield 100, 3) := by decide +kernel
theorem dX12_walker_74 : decode cX12_walker 74 = .ok (.iconst 1, 1) := by decide +kernel
theorem dX12_walker_75 : decode cX12_walker 75 = .ok (.isub, 1) := by decide +kernel
theorem dX12_walker_76 : decode cX12_walker 76 = .ok (.ireturn, 1) := by decide +kernel
theorem dX12_walkerOf_0 : decode cX12_walkerOf 0 = .ok (.aload_n 0, 1) := by decide +kernel
theorem dX12_walkerOf_1 : decode cX12_walkerOf 1 = .ok (.iload_n 1, 1) := by decide +kernel
theorem dX12_walkerOf_2 : decode cX12_walkerOf 2 = .ok (.invokevirtual 261, 3) := by decide +kernel
theorem dX12_walkerOf_5 : decode cX12_walkerOf 5 = .ok (.ifCond .eq 12, 3) := by decide +kernel
theorem dX12_walkerOf_8 : decode cX12_walkerOf 8 = .ok (.iload_n 2, 1) := by decide +kernel
theorem dX12_walkerOf_9 : decode cX12_walkerOf 9 = .ok (.iconst 0, 1) := by decide +kernel
theorem dX12_walkerOf_10 : decode cX12_walkerOf 10 = .ok (.iconst 2, 1) := by decide +kernel
theorem dX12_walkerOf_11 : decode cX12_walkerOf 11 = .ok (.invokestatic 93, 3) := by decide +kernel
theorem dX12_walkerOf_14 : decode cX12_walkerOf 14 = .ok (.ifCond .ne 5, 3) := by decide +kernel
theorem dX12_walkerOf_17 : decode cX12_walkerOf 17 = .ok (.iconst (-1), 1) := by decide +kernel
theorem dX12_walkerOf_18 : decode cX12_walkerOf 18 = .ok (.ireturn, 1) := by decide +kernel
theorem dX12_walkerOf_19 : decode cX12_walkerOf 19 = .ok (.aload_n 0, 1) := by decide +kernel
theorem dX12_walkerOf_20 : decode cX12_walkerOf 20 = .ok (.getfield 16, 3) := by decide +kernel
theorem dX12_walkerOf_23 : decode cX12_walkerOf 23 = .ok (.iload_n 1, 1) := by decide +kernel
theorem dX12_walkerOf_24 : decode cX12_walkerOf 24 = .ok (.iaload, 1) := by decide +kernel
theorem dX12_walkerOf_25 : decode cX12_walkerOf 25 = .ok (.ifCond .lt 7, 3) := by decide +kernel
theorem dX12_walkerOf_28 : decode cX12_walkerOf 28 = .ok (.iconst 1, 1) := by decide +kernel
theorem dX12_walkerOf_29 : decode cX12_walkerOf 29 = .ok (.goto 4, 3) := by decide +kernel
theorem dX12_walkerOf_32 : decode cX12_walkerOf 32 = .ok (.iconst 0, 1) := by decide +kernel
theorem dX12_walkerOf_33 : decode cX12_walkerOf 33 = .ok (.istore_n 3, 1) := by decide +kernel
theorem dX12_walkerOf_34 : decode cX12_walkerOf 34 = .ok (.iload_n 2, 1) := by decide +kernel
theorem dX12_walkerOf_35 : decode cX12_walkerOf 35 = .ok (.iconst 2, 1) := by decide +kernel
theorem dX12_walkerOf_36 : decode cX12_walkerOf 36 = .ok (.if_icmp .ne 12, 3) := by decide +kernel
theorem dX12_walkerOf_39 : decode cX12_walkerOf 39 = .ok (.aload_n 0, 1) := by decide +kernel
theorem dX12_walkerOf_40 : decode cX12_walkerOf 40 = .ok (.getfield 19, 3) := by decide +kernel
theorem dX12_walkerOf_43 : decode cX12_walkerOf 43 = .ok (.iload_n 1, 1) := by decide +kernel
theorem dX12_walkerOf_44 : decode cX12_walkerOf 44 = .ok (.iaload, 1) := by decide +kernel
theorem dX12_walkerOf_45 : decode cX12_walkerOf 45 = .ok (.goto 41, 3) := by decide +kernel
theorem dX12_walkerOf_48 : decode cX12_walkerOf 48 = .ok (.iload_n 2, 1) := by decide +kernel
theorem dX12_walkerOf_49 : decode cX12_walkerOf 49 = .ok (.iconst 1, 1) := by decide +kernel
theorem dX12_walkerOf_50 : decode cX12_walkerOf 50 = .ok (.if_icmp .ne 21, 3) := by decide +kernel
theorem dX12_walkerOf_53 : decode cX12_walkerOf 53 = .ok (.iload_n 3, 1) := by decide +kernel
theorem dX12_walkerOf_54 : decode cX12_walkerOf 54 = .ok (.ifCond .eq 12, 3) := by decide +kernel
theorem dX12_walkerOf_57 : decode cX12_walkerOf 57 = .ok (.aload_n 0, 1) := by decide +kernel
theorem dX12_walkerOf_58 : decode cX12_walkerOf 58 = .ok (.getfield 16, 3) := by decide +kernel
theorem dX12_walkerOf_61 : decode cX12_walkerOf 61 = .ok (.iload_n 1, 1) := by decide +kernel
theorem dX12_walkerOf_62 : decode cX12_walkerOf 62 = .ok (.iaload, 1) := by decide +kernel
theorem dX12_walkerOf_63 : decode cX12_walkerOf 63 = .ok (.goto 23, 3) := by decide +kernel
theorem dX12_walkerOf_66 : decode cX12_walkerOf 66 = .ok (.bipush (-9), 2) := by decide +kernel
theorem dX12_walkerOf_68 : decode cX12_walkerOf 68 = .ok (.goto 18, 3) := by decide +kernel
theorem dX12_walkerOf_71 : decode cX12_walkerOf 71 = .ok (.iload_n 3, 1) := by decide +kernel
theorem dX12_walkerOf_72 : decode cX12_walkerOf 72 = .ok (.ifCond .eq 8, 3) := by decide +kernel
theorem dX12_walkerOf_75 : decode cX12_walkerOf 75 = .ok (.bipush (-9), 2) := by decide +kernel
theorem dX12_walkerOf_77 : decode cX12_walkerOf 77 = .ok (.goto 9, 3) := by decide +kernel
theorem dX12_walkerOf_80 : decode cX12_walkerOf 80 = .ok (.aload_n 0, 1) := by decide +kernel
theorem dX12_walkerOf_81 : decode cX12_walkerOf 81 = .ok (.getfield 13, 3) := by decide +kernel
theorem dX12_walkerOf_84 : decode cX12_walkerOf 84 = .ok (.iload_n 1, 1) := by decide +kernel
theorem dX12_walkerOf_85 : decode cX12_walkerOf 85 = .ok (.iaload, 1) := by decide +kernel
theorem dX12_walkerOf_86 : decode cX12_walkerOf 86 = .ok (.ireturn, 1) := by decide +kernel
theorem dX12_canTake_0 : decode cX12_canTake 0 = .ok (.aload_n 0, 1) := by decide +kernel
theorem dX12_canTake_1 : decode cX12_canTake 1 = .ok (.iload_n 2, 1) := by decide +kernel
theorem dX12_canTake_2 : decode cX12_canTake 2 = .ok (.invokevirtual 258, 3) := by decide +kernel
theorem dX12_canTake_5 : decode cX12_canTake 5 = .ok (.ifCond .eq 30, 3) := by decide +kernel
theorem dX12_canTake_8 : decode cX12_canTake 8 = .ok (.aload_n 0, 1) := by decide +kernel
theorem dX12_canTake_9 : decode cX12_canTake 9 = .ok (.getfield 16, 3) := by decide +kernel
theorem dX12_canTake_12 : decode cX12_canTake 12 = .ok (.iload_n 1, 1) := by decide +kernel
theorem dX12_canTake_13 : decode cX12_canTake 13 = .ok (.iaload, 1) := by decide +kernel
theorem dX12_canTake_14 : decode cX12_canTake 14 = .ok (.ifCond .ge 21, 3) := by decide +kernel
theorem dX12_canTake_17 : decode cX12_canTake 17 = .ok (.aload_n 0, 1) := by decide +kernel
theorem dX12_canTake_18 : decode cX12_canTake 18 = .ok (.iload_n 2, 1) := by decide +kernel
theorem dX12_canTake_19 : decode cX12_canTake 19 = .ok (.aload_n 0, 1) := by decide +kernel
theorem dX12_canTake_20 : decode cX12_canTake 20 = .ok (.getfield 13, 3) := by decide +kernel
theorem dX12_canTake_23 : decode cX12_canTake 23 = .ok (.iload_n 1, 1) := by decide +kernel
theorem dX12_canTake_24 : decode cX12_canTake 24 = .ok (.iaload, 1) := by decide +kernel
theorem dX12_canTake_25 : decode cX12_canTake 25 = .ok (.invokevirtual 236, 3) := by decide +kernel
theorem dX12_canTake_28 : decode cX12_canTake 28 = .ok (.ifCond .eq 7, 3) := by decide +kernel
theorem dX12_canTake_31 : decode cX12_canTake 31 = .ok (.iconst 1, 1) := by decide +kernel
theorem dX12_canTake_32 : decode cX12_canTake 32 = .ok (.goto 4, 3) := by decide +kernel
theorem dX12_canTake_35 : decode cX12_canTake 35 = .ok (.iconst 0, 1) := by decide +kernel
theorem dX12_canTake_36 : decode cX12_canTake 36 = .ok (.ireturn, 1) := by decide +kernel
theorem dX12_walk_0 : decode cX12_walk 0 = .ok (.aload_n 0, 1) := by decide +kernel
theorem dX12_walk_1 : decode cX12_walk 1 = .ok (.iload_n 1, 1) := by decide +kernel
theorem dX12_walk_2 : decode cX12_walk 2 = .ok (.invokevirtual 261, 3) := by decide +kernel
theorem dX12_walk_5 : decode cX12_walk 5 = .ok (.ifCond .eq 11, 3) := by decide +kernel
theorem dX12_walk_8 : decode cX12_walk 8 = .ok (.aload_n 0, 1) := by decide +kernel
theorem dX12_walk_9 : decode cX12_walk 9 = .ok (.iload_n 2, 1) := by decide +kernel
theorem dX12_walk_10 : decode cX12_walk 10 = .ok (.invokevirtual 246, 3) := by decide +kernel
theorem dX12_walk_13 : decode cX12_walk 13 = .ok (.ifCond .ne 5, 3) := by decide +kernel
theorem dX12_walk_16 : decode cX12_walk 16 = .ok (.iconst (-1), 1) := by decide +kernel
theorem dX12_walk_17 : decode cX12_walk 17 = .ok (.ireturn, 1) := by decide +kernel
theorem dX12_walk_18 : decode cX12_walk 18 = .ok (.aload_n 0, 1) := by decide +kernel
theorem dX12_walk_19 : decode cX12_walk 19 = .ok (.iload_n 1, 1) := by decide +kernel
theorem dX12_walk_20 : decode cX12_walk 20 = .ok (.iload_n 2, 1) := by decide +kernel
theorem dX12_walk_21 : decode cX12_walk 21 = .ok (.invokevirtual 264, 3) := by decide +kernel
theorem dX12_walk_24 : decode cX12_walk 24 = .ok (.ifCond .ne 6, 3) := by decide +kernel
theorem dX12_walk_27 : decode cX12_walk 27 = .ok (.bipush (-4), 2) := by decide +kernel
theorem dX12_walk_29 : decode cX12_walk 29 = .ok (.ireturn, 1) := by decide +kernel
theorem dX12_walk_30 : decode cX12_walk 30 = .ok (.aload_n 0, 1) := by decide +kernel
theorem dX12_walk_31 : decode cX12_walk 31 = .ok (.getfield 13, 3) := by decide +kernel
theorem dX12_walk_34 : decode cX12_walk 34 = .ok (.iload_n 1, 1) := by decide +kernel
theorem dX12_walk_35 : decode cX12_walk 35 = .ok (.aload_n 0, 1) := by decide +kernel
theorem dX12_walk_36 : decode cX12_walk 36 = .ok (.iload_n 2, 1) := by decide +kernel
theorem dX12_walk_37 : decode cX12_walk 37 = .ok (.aload_n 0, 1) := by decide +kernel
theorem dX12_walk_38 : decode cX12_walk 38 = .ok (.getfield 13, 3) := by decide +kernel
theorem dX12_walk_41 : decode cX12_walk 41 = .ok (.iload_n 1, 1) := by decide +kernel
theorem dX12_walk_42 : decode cX12_walk 42 = .ok (.iaload, 1) := by decide +kernel
theorem dX12_walk_43 : decode cX12_walk 43 = .ok (.invokevirtual 267, 3) := by decide +kernel
theorem dX12_walk_46 : decode cX12_walk 46 = .ok (.iastore, 1) := by decide +kernel
theorem dX12_walk_47 : decode cX12_walk 47 = .ok (.aload_n 0, 1) := by decide +kernel
theorem dX12_walk_48 : decode cX12_walk 48 = .ok (.getfield 13, 3) := by decide +kernel
theorem dX12_walk_51 : decode cX12_walk 51 = .ok (.iload_n 1, 1) := by decide +kernel
theorem dX12_walk_52 : decode cX12_walk 52 = .ok (.iaload, 1) := by decide +kernel
theorem dX12_walk_53 : decode cX12_walk 53 = .ok (.ireturn, 1) := by decide +kernel
theorem dX12_ones_0 : decode cX12_ones 0 = .ok (.iconst 0, 1) := by decide +kernel
theorem dX12_ones_1 : decode cX12_ones 1 = .ok (.istore_n 1, 1) := by decide +kernel
theorem dX12_ones_2 : decode cX12_ones 2 = .ok (.iload_n 0, 1) := by decide +kernel
theorem dX12_ones_3 : decode cX12_ones 3 = .ok (.istore_n 2, 1) := by decide +kernel
theorem dX12_ones_4 : decode cX12_ones 4 = .ok (.iload_n 2, 1) := by decide +kernel
theorem dX12_ones_5 : decode cX12_ones 5 = .ok (.ifCond .eq 15, 3) := by decide +kernel
theorem dX12_ones_8 : decode cX12_ones 8 = .ok (.iinc 1 1, 3) := by decide +kernel
theorem dX12_ones_11 : decode cX12_ones 11 = .ok (.iload_n 2, 1) := by decide +kernel
theorem dX12_ones_12 : decode cX12_ones 12 = .ok (.iload_n 2, 1) := by decide +kernel
theorem dX12_ones_13 : decode cX12_ones 13 = .ok (.iconst 1, 1) := by decide +kernel
theorem dX12_ones_14 : decode cX12_ones 14 = .ok (.isub, 1) := by decide +kernel
theorem dX12_ones_15 : decode cX12_ones 15 = .ok (.iand, 1) := by decide +kernel
theorem dX12_ones_16 : decode cX12_ones 16 = .ok (.istore_n 2, 1) := by decide +kernel
theorem dX12_ones_17 : decode cX12_ones 17 = .ok (.goto (-13), 3) := by decide +kernel
theorem dX12_ones_20 : decode cX12_ones 20 = .ok (.iload_n 1, 1) := by decide +kernel
theorem dX12_ones_21 : decode cX12_ones 21 = .ok (.ireturn, 1) := by decide +kernel
theorem dX12_on_0 : decode cX12_on 0 = .ok (.aload_n 0, 1) := by decide +kernel
theorem dX12_on_1 : decode cX12_on 1 = .ok (.iload_n 1, 1) := by decide +kernel
theorem dX12_on_2 : decode cX12_on 2 = .ok (.invokevirtual 261, 3) := by decide +kernel
theorem dX12_on_5 : decode cX12_on 5 = .ok (.ifCond .eq 11, 3) := by decide +kernel
theorem dX12_on_8 : decode cX12_on 8 = .ok (.aload_n 0, 1) := by decide +kernel
theorem dX12_on_9 : decode cX12_on 9 = .ok (.iload_n 2, 1) := by decide +kernel
theorem dX12_on_10 : decode cX12_on 10 = .ok (.invokevirtual 246, 3) := by decide +kernel
theorem dX12_on_13 : decode cX12_on 13 = .ok (.ifCond .ne 5, 3) := by decide +kernel
theorem dX12_on_16 : decode cX12_on 16 = .ok (.iconst (-1), 1) := by decide +kernel
theorem dX12_on_17 : decode cX12_on 17 = .ok (.ireturn, 1) := by decide +kernel
theorem dX12_on_18 : decode cX12_on 18 = .ok (.aload_n 0, 1) := by decide +kernel
theorem dX12_on_19 : decode cX12_on 19 = .ok (.iload_n 1, 1) := by decide +kernel
theorem dX12_on_20 : decode cX12_on 20 = .ok (.iload_n 2, 1) := by decide +kernel
theorem dX12_on_21 : decode cX12_on 21 = .ok (.invokevirtual 264, 3) := by decide +kernel
theorem dX12_on_24 : decode cX12_on 24 = .ok (.ifCond .ne 6, 3) := by decide +kernel
theorem dX12_on_27 : decode cX12_on 27 = .ok (.bipush (-4), 2) := by decide +kernel
theorem dX12_on_29 : decode cX12_on 29 = .ok (.ireturn, 1) := by decide +kernel
theorem dX12_on_30 : decode cX12_on 30 = .ok (.aload_n 0, 1) := by decide +kernel
theorem dX12_on_31 : decode cX12_on 31 = .ok (.getfield 16, 3) := by decide +kernel
theorem dX12_on_34 : decode cX12_on 34 = .ok (.iload_n 1, 1) := by decide +kernel
theorem dX12_on_35 : decode cX12_on 35 = .ok (.iload_n 2, 1) := by decide +kernel
theorem dX12_on_36 : decode cX12_on 36 = .ok (.iastore, 1) := by decide +kernel
theorem dX12_on_37 : decode cX12_on 37 = .ok (.aload_n 0, 1) := by decide +kernel
theorem dX12_on_38 : decode cX12_on 38 = .ok (.iload_n 2, 1) := by decide +kernel
theorem dX12_on_39 : decode cX12_on 39 = .ok (.invokevirtual 255, 3) := by decide +kernel
theorem dX12_on_42 : decode cX12_on 42 = .ok (.invokestatic 270, 3) := by decide +kernel
theorem dX12_on_45 : decode cX12_on 45 = .ok (.ireturn, 1) := by decide +kernel
theorem dX12_off_0 : decode cX12_off 0 = .ok (.aload_n 0, 1) := by decide +kernel
theorem dX12_off_1 : decode cX12_off 1 = .ok (.iload_n 1, 1) := by decide +kernel
theorem dX12_off_2 : decode cX12_off 2 = .ok (.invokevirtual 261, 3) := by decide +kernel
theorem dX12_off_5 : decode cX12_off 5 = .ok (.ifCond .eq 10, 3) := by decide +kernel
theorem dX12_off_8 : decode cX12_off 8 = .ok (.iload_n 2, 1) := by decide +kernel
theorem dX12_off_9 : decode cX12_off 9 = .ok (.invokestatic 233, 3) := by decide +kernel
theorem dX12_off_12 : decode cX12_off 12 = .ok (.ifCond .ne 5, 3) := by decide +kernel
theorem dX12_off_15 : decode cX12_off 15 = .ok (.iconst (-1), 1) := by decide +kernel
theorem dX12_off_16 : decode cX12_off 16 = .ok (.ireturn, 1) := by decide +kernel
theorem dX12_off_17 : decode cX12_off 17 = .ok (.aload_n 0, 1) := by decide +kernel
theorem dX12_off_18 : decode cX12_off 18 = .ok (.getfield 16, 3) := by decide +kernel
theorem dX12_off_21 : decode cX12_off 21 = .ok (.iload_n 1, 1) := by decide +kernel
theorem dX12_off_22 : decode cX12_off 22 = .ok (.iaload, 1) := by decide +kernel
theorem dX12_off_23 : decode cX12_off 23 = .ok (.ifCond .lt 30, 3) := by decide +kernel
theorem dX12_off_26 : decode cX12_off 26 = .ok (.aload_n 0, 1) := by decide +kernel
theorem dX12_off_27 : decode cX12_off 27 = .ok (.aload_n 0, 1) := by decide +kernel
theorem dX12_off_28 : decode cX12_off 28 = .ok (.getfield 16, 3) := by decide +kernel
theorem dX12_off_31 : decode cX12_off 31 = .ok (.iload_n 1, 1) := by decide +kernel
theorem dX12_off_32 : decode cX12_off 32 = .ok (.iaload, 1) := by decide +kernel
theorem dX12_off_33 : decode cX12_off 33 = .ok (.ifCond .ge 7, 3) := by decide +kernel
theorem dX12_off_36 : decode cX12_off 36 = .ok (.iconst 0, 1) := by decide +kernel
theorem dX12_off_37 : decode cX12_off 37 = .ok (.goto 9, 3) := by decide +kernel
theorem dX12_off_40 : decode cX12_off 40 = .ok (.aload_n 0, 1) := by decide +kernel
theorem dX12_off_41 : decode cX12_off 41 = .ok (.getfield 16, 3) := by decide +kernel
theorem dX12_off_44 : decode cX12_off 44 = .ok (.iload_n 1, 1) := by decide +kernel
theorem dX12_off_45 : decode cX12_off 45 = .ok (.iaload, 1) := by decide +kernel
theorem dX12_off_46 : decode cX12_off 46 = .ok (.iload_n 2, 1) := by decide +kernel
theorem dX12_off_47 : decode cX12_off 47 = .ok (.invokevirtual 236, 3) := by decide +kernel
theorem dX12_off_50 : decode cX12_off 50 = .ok (.ifCond .ne 6, 3) := by decide +kernel
theorem dX12_off_53 : decode cX12_off 53 = .ok (.bipush (-4), 2) := by decide +kernel
theorem dX12_off_55 : decode cX12_off 55 = .ok (.ireturn, 1) := by decide +kernel
theorem dX12_off_56 : decode cX12_off 56 = .ok (.aload_n 0, 1) := by decide +kernel
theorem dX12_off_57 : decode cX12_off 57 = .ok (.getfield 16, 3) := by decide +kernel
theorem dX12_off_60 : decode cX12_off 60 = .ok (.iload_n 1, 1) := by decide +kernel
theorem dX12_off_61 : decode cX12_off 61 = .ok (.iconst (-1), 1) := by decide +kernel
theorem dX12_off_62 : decode cX12_off 62 = .ok (.iastore, 1) := by decide +kernel
theorem dX12_off_63 : decode cX12_off 63 = .ok (.aload_n 0, 1) := by decide +kernel
theorem dX12_off_64 : decode cX12_off 64 = .ok (.getfield 13, 3) := by decide +kernel
theorem dX12_off_67 : decode cX12_off 67 = .ok (.iload_n 1, 1) := by decide +kernel
theorem dX12_off_68 : decode cX12_off 68 = .ok (.iload_n 2, 1) := by decide +kernel
theorem dX12_off_69 : decode cX12_off 69 = .ok (.iastore, 1) := by decide +kernel
theorem dX12_off_70 : decode cX12_off 70 = .ok (.iconst 1, 1) := by decide +kernel
theorem dX12_off_71 : decode cX12_off 71 = .ok (.ireturn, 1) := by decide +kernel
theorem dX12_put_0 : decode cX12_put 0 = .ok (.aload_n 0, 1) := by decide +kernel
theorem dX12_put_1 : decode cX12_put 1 = .ok (.iload_n 1, 1) := by decide +kernel
theorem dX12_put_2 : decode cX12_put 2 = .ok (.invokevirtual 261, 3) := by decide +kernel
theorem dX12_put_5 : decode cX12_put 5 = .ok (.ifCond .eq 10, 3) := by decide +kernel
theorem dX12_put_8 : decode cX12_put 8 = .ok (.iload_n 2, 1) := by decide +kernel
theorem dX12_put_9 : decode cX12_put 9 = .ok (.invokestatic 233, 3) := by decide +kernel
theorem dX12_put_12 : decode cX12_put 12 = .ok (.ifCond .ne 5, 3) := by decide +kernel
theorem dX12_put_15 : decode cX12_put 15 = .ok (.iconst (-1), 1) := by decide +kernel
theorem dX12_put_16 : decode cX12_put 16 = .ok (.ireturn, 1) := by decide +kernel
theorem dX12_put_17 : decode cX12_put 17 = .ok (.aload_n 0, 1) := by decide +kernel
theorem dX12_put_18 : decode cX12_put 18 = .ok (.getfield 16, 3) := by decide +kernel
theorem dX12_put_21 : decode cX12_put 21 = .ok (.iload_n 1, 1) := by decide +kernel
theorem dX12_put_22 : decode cX12_put 22 = .ok (.iaload, 1) := by decide +kernel
theorem dX12_put_23 : decode cX12_put 23 = .ok (.ifCond .lt 8, 3) := by decide +kernel
theorem dX12_put_26 : decode cX12_put 26 = .ok (.bipush (-9), 2) := by decide +kernel
theorem dX12_put_28 : decode cX12_put 28 = .ok (.goto 9, 3) := by decide +kernel
theorem dX12_put_31 : decode cX12_put 31 = .ok (.aload_n 0, 1) := by decide +kernel
theorem dX12_put_32 : decode cX12_put 32 = .ok (.getfield 13, 3) := by decide +kernel
theorem dX12_put_35 : decode cX12_put 35 = .ok (.iload_n 1, 1) := by decide +kernel
theorem dX12_put_36 : decode cX12_put 36 = .ok (.iaload, 1) := by decide +kernel
theorem dX12_put_37 : decode cX12_put 37 = .ok (.istore_n 3, 1) := by decide +kernel
theorem dX12_put_38 : decode cX12_put 38 = .ok (.aload_n 0, 1) := by decide +kernel
theorem dX12_put_39 : decode cX12_put 39 = .ok (.getfield 16, 3) := by decide +kernel
theorem dX12_put_42 : decode cX12_put 42 = .ok (.iload_n 1, 1) := by decide +kernel
theorem dX12_put_43 : decode cX12_put 43 = .ok (.iconst (-1), 1) := by decide +kernel
theorem dX12_put_44 : decode cX12_put 44 = .ok (.iastore, 1) := by decide +kernel
theorem dX12_put_45 : decode cX12_put 45 = .ok (.aload_n 0, 1) := by decide +kernel
theorem dX12_put_46 : decode cX12_put 46 = .ok (.getfield 13, 3) := by decide +kernel
theorem dX12_put_49 : decode cX12_put 49 = .ok (.iload_n 1, 1) := by decide +kernel
theorem dX12_put_50 : decode cX12_put 50 = .ok (.iload_n 2, 1) := by decide +kernel
theorem dX12_put_51 : decode cX12_put 51 = .ok (.iastore, 1) := by decide +kernel
theorem dX12_put_52 : decode cX12_put 52 = .ok (.iload_n 3, 1) := by decide +kernel
theorem dX12_put_53 : decode cX12_put 53 = .ok (.ireturn, 1) := by decide +kernel
theorem dX12_next_0 : decode cX12_next 0 = .ok (.iload_n 0, 1) := by decide +kernel
theorem dX12_next_1 : decode cX12_next 1 = .ok (.ldc_w 273, 3) := by decide +kernel
theorem dX12_next_4 : decode cX12_next 4 = .ok (.imul, 1) := by decide +kernel
theorem dX12_next_5 : decode cX12_next 5 = .ok (.sipush 12345, 3) := by decide +kernel
theorem dX12_next_8 : decode cX12_next 8 = .ok (.iadd, 1) := by decide +kernel
theorem dX12_next_9 : decode cX12_next 9 = .ok (.ireturn, 1) := by decide +kernel
theorem dX12_behind_0 : decode cX12_behind 0 = .ok (.aload_n 0, 1) := by decide +kernel
theorem dX12_behind_1 : decode cX12_behind 1 = .ok (.invokevirtual 274, 3) := by decide +kernel
theorem dX12_behind_4 : decode cX12_behind 4 = .ok (.istore_n 2, 1) := by decide +kernel
theorem dX12_behind_5 : decode cX12_behind 5 = .ok (.iload_n 2, 1) := by decide +kernel
theorem dX12_behind_6 : decode cX12_behind 6 = .ok (.istore_n 3, 1) := by decide +kernel
theorem dX12_behind_7 : decode cX12_behind 7 = .ok (.iconst 0, 1) := by decide +kernel
theorem dX12_behind_8 : decode cX12_behind 8 = .ok (.istore 4, 2) := by decide +kernel
theorem dX12_behind_10 : decode cX12_behind 10 = .ok (.iload 4, 2) := by decide +kernel
theorem dX12_behind_12 : decode cX12_behind 12 = .ok (.aload_n 0, 1) := by decide +kernel
theorem dX12_behind_13 : decode cX12_behind 13 = .ok (.getfield 97, 3) := by decide +kernel
theorem dX12_behind_16 : decode cX12_behind 16 = .ok (.if_icmp .ge 98, 3) := by decide +kernel
theorem dX12_behind_19 : decode cX12_behind 19 = .ok (.iload_n 2, 1) := by decide +kernel
theorem dX12_behind_20 : decode cX12_behind 20 = .ok (.iload 4, 2) := by decide +kernel
theorem dX12_behind_22 : decode cX12_behind 22 = .ok (.ishr, 1) := by decide +kernel
theorem dX12_behind_23 : decode cX12_behind 23 = .ok (.iconst 1, 1) := by decide +kernel
theorem dX12_behind_24 : decode cX12_behind 24 = .ok (.iand, 1) := by decide +kernel
theorem dX12_behind_25 : decode cX12_behind 25 = .ok (.iconst 1, 1) := by decide +kernel
theorem dX12_behind_26 : decode cX12_behind 26 = .ok (.if_icmp .ne 6, 3) := by decide +kernel
theorem dX12_behind_29 : decode cX12_behind 29 = .ok (.goto 79, 3) := by decide +kernel
theorem dX12_behind_32 : decode cX12_behind 32 = .ok (.aload_n 0, 1) := by decide +kernel
theorem dX12_behind_33 : decode cX12_behind 33 = .ok (.aload_n 0, 1) := by decide +kernel
theorem dX12_behind_34 : decode cX12_behind 34 = .ok (.getfield 277, 3) := by decide +kernel
theorem dX12_behind_37 : decode cX12_behind 37 = .ok (.invokestatic 280, 3) := by decide +kernel
theorem dX12_behind_40 : decode cX12_behind 40 = .ok (.putfield 277, 3) := by decide +kernel
theorem dX12_behind_43 : decode cX12_behind 43 = .ok (.aload_n 0, 1) := by decide +kernel
theorem dX12_behind_44 : decode cX12_behind 44 = .ok (.getfield 277, 3) := by decide +kernel
theorem dX12_behind_47 : decode cX12_behind 47 = .ok (.bipush 16, 2) := by decide +kernel
theorem dX12_behind_49 : decode cX12_behind 49 = .ok (.iushr, 1) := by decide +kernel
theorem dX12_behind_50 : decode cX12_behind 50 = .ok (.bipush 8, 2) := by decide +kernel
theorem dX12_behind_52 : decode cX12_behind 52 = .ok (.irem, 1) := by decide +kernel
theorem dX12_behind_53 : decode cX12_behind 53 = .ok (.istore 5, 2) := by decide +kernel
theorem dX12_behind_55 : decode cX12_behind 55 = .ok (.iload 5, 2) := by decide +kernel
theorem dX12_behind_57 : decode cX12_behind 57 = .ok (.iload_n 1, 1) := by decide +kernel
theorem dX12_behind_58 : decode cX12_behind 58 = .ok (.iload 4, 2) := by decide +kernel
theorem dX12_behind_60 : decode cX12_behind 60 = .ok (.ishr, 1) := by decide +kernel
theorem dX12_behind_61 : decode cX12_behind 61 = .ok (.iconst 1, 1) := by decide +kernel
theorem dX12_behind_62 : decode cX12_behind 62 = .ok (.iand, 1) := by decide +kernel
theorem dX12_behind_63 : decode cX12_behind 63 = .ok (.iconst 1, 1) := by decide +kernel
theorem dX12_behind_64 : decode cX12_behind 64 = .ok (.if_icmp .ne 12, 3) := by decide +kernel
theorem dX12_behind_67 : decode cX12_behind 67 = .ok (.aload_n 0, 1) := by decide +kernel
theorem dX12_behind_68 : decode cX12_behind 68 = .ok (.iload 4, 2) := by decide +kernel
theorem dX12_behind_70 : decode cX12_behind 70 = .ok (.invokevirtual 249, 3) := by decide +kernel
theorem dX12_behind_73 : decode cX12_behind 73 = .ok (.goto 9, 3) := by decide +kernel
theorem dX12_behind_76 : decode cX12_behind 76 = .ok (.aload_n 0, 1) := by decide +kernel
theorem dX12_behind_77 : decode cX12_behind 77 = .ok (.iload 4, 2) := by decide +kernel
theorem dX12_behind_79 : decode cX12_behind 79 = .ok (.invokevirtual 252, 3) := by decide +kernel
theorem dX12_behind_82 : decode cX12_behind 82 = .ok (.if_icmp .ge 7, 3) := by decide +kernel
theorem dX12_behind_85 : decode cX12_behind 85 = .ok (.iconst 1, 1) := by decide +kernel
theorem dX12_behind_86 : decode cX12_behind 86 = .ok (.goto 4, 3) := by decide +kernel
theorem dX12_behind_89 : decode cX12_behind 89 = .ok (.iconst 0, 1) := by decide +kernel
theorem dX12_behind_90 : decode cX12_behind 90 = .ok (.istore 6, 2) := by decide +kernel
theorem dX12_behind_92 : decode cX12_behind 92 = .ok (.iload_n 3, 1) := by decide +kernel
theorem dX12_behind_93 : decode cX12_behind 93 = .ok (.iload 6, 2) := by decide +kernel
theorem dX12_behind_95 : decode cX12_behind 95 = .ok (.ifCond .eq 10, 3) := by decide +kernel
theorem dX12_behind_98 : decode cX12_behind 98 = .ok (.iconst 1, 1) := by decide +kernel
theorem dX12_behind_99 : decode cX12_behind 99 = .ok (.iload 4, 2) := by decide +kernel
theorem dX12_behind_101 : decode cX12_behind 101 = .ok (.ishl, 1) := by decide +kernel
theorem dX12_behind_102 : decode cX12_behind 102 = .ok (.goto 4, 3) := by decide +kernel
theorem dX12_behind_105 : decode cX12_behind 105 = .ok (.iconst 0, 1) := by decide +kernel
theorem dX12_behind_106 : decode cX12_behind 106 = .ok (.ior, 1) := by decide +kernel
theorem dX12_behind_107 : decode cX12_behind 107 = .ok (.istore_n 3, 1) := by decide +kernel
theorem dX12_behind_108 : decode cX12_behind 108 = .ok (.iinc 4 1, 3) := by decide +kernel
theorem dX12_behind_111 : decode cX12_behind 111 = .ok (.goto (-101), 3) := by decide +kernel
theorem dX12_behind_114 : decode cX12_behind 114 = .ok (.iload_n 3, 1) := by decide +kernel
theorem dX12_behind_115 : decode cX12_behind 115 = .ok (.ireturn, 1) := by decide +kernel
theorem dX12_night_0 : decode cX12_night 0 = .ok (.iload_n 1, 1) := by decide +kernel
theorem dX12_night_1 : decode cX12_night 1 = .ok (.iconst 0, 1) := by decide +kernel
theorem dX12_night_2 : decode cX12_night 2 = .ok (.bipush 20, 2) := by decide +kernel
theorem dX12_night_4 : decode cX12_night 4 = .ok (.invokestatic 93, 3) := by decide +kernel
theorem dX12_night_7 : decode cX12_night 7 = .ok (.ifCond .ne 5, 3) := by decide +kernel
theorem dX12_night_10 : decode cX12_night 10 = .ok (.iconst (-1), 1) := by decide +kernel
theorem dX12_night_11 : decode cX12_night 11 = .ok (.ireturn, 1) := by decide +kernel
theorem dX12_night_12 : decode cX12_night 12 = .ok (.aload_n 0, 1) := by decide +kernel
theorem dX12_night_13 : decode cX12_night 13 = .ok (.aload_n 0, 1) := by decide +kernel
theorem dX12_night_14 : decode cX12_night 14 = .ok (.getfield 25, 3) := by decide +kernel
theorem dX12_night_17 : decode cX12_night 17 = .ok (.putfield 277, 3) := by decide +kernel
theorem dX12_night_20 : decode cX12_night 20 = .ok (.iconst 0, 1) := by decide +kernel
theorem dX12_night_21 : decode cX12_night 21 = .ok (.istore_n 2, 1) := by decide +kernel
theorem dX12_night_22 : decode cX12_night 22 = .ok (.iload_n 2, 1) := by decide +kernel
theorem dX12_night_23 : decode cX12_night 23 = .ok (.iload_n 1, 1) := by decide +kernel
theorem dX12_night_24 : decode cX12_night 24 = .ok (.if_icmp .ge 21, 3) := by decide +kernel
theorem dX12_night_27 : decode cX12_night 27 = .ok (.aload_n 0, 1) := by decide +kernel
theorem dX12_night_28 : decode cX12_night 28 = .ok (.aload_n 0, 1) := by decide +kernel
theorem dX12_night_29 : decode cX12_night 29 = .ok (.aload_n 0, 1) := by decide +kernel
theorem dX12_night_30 : decode cX12_night 30 = .ok (.getfield 103, 3) := by decide +kernel
theorem dX12_night_33 : decode cX12_night 33 = .ok (.invokevirtual 283, 3) := by decide +kernel
theorem dX12_night_36 : decode cX12_night 36 = .ok (.putfield 103, 3) := by decide +kernel
theorem dX12_night_39 : decode cX12_night 39 = .ok (.iinc 2 1, 3) := by decide +kernel
theorem dX12_night_42 : decode cX12_night 42 = .ok (.goto (-20), 3) := by decide +kernel
theorem dX12_night_45 : decode cX12_night 45 = .ok (.aload_n 0, 1) := by decide +kernel
theorem dX12_night_46 : decode cX12_night 46 = .ok (.aload_n 0, 1) := by decide +kernel
theorem dX12_night_47 : decode cX12_night 47 = .ok (.getfield 277, 3) := by decide +kernel
theorem dX12_night_50 : decode cX12_night 50 = .ok (.putfield 25, 3) := by decide +kernel
theorem dX12_night_53 : decode cX12_night 53 = .ok (.aload_n 0, 1) := by decide +kernel
theorem dX12_night_54 : decode cX12_night 54 = .ok (.dup, 1) := by decide +kernel
theorem dX12_night_55 : decode cX12_night 55 = .ok (.getfield 227, 3) := by decide +kernel
theorem dX12_night_58 : decode cX12_night 58 = .ok (.iload_n 1, 1) := by decide +kernel
theorem dX12_night_59 : decode cX12_night 59 = .ok (.iadd, 1) := by decide +kernel
theorem dX12_night_60 : decode cX12_night 60 = .ok (.putfield 227, 3) := by decide +kernel
theorem dX12_night_63 : decode cX12_night 63 = .ok (.aload_n 0, 1) := by decide +kernel
theorem dX12_night_64 : decode cX12_night 64 = .ok (.getfield 103, 3) := by decide +kernel
theorem dX12_night_67 : decode cX12_night 67 = .ok (.ireturn, 1) := by decide +kernel
theorem dX12_count_0 : decode cX12_count 0 = .ok (.iconst 0, 1) := by decide +kernel
theorem dX12_count_1 : decode cX12_count 1 = .ok (.istore_n 2, 1) := by decide +kernel
theorem dX12_count_2 : decode cX12_count 2 = .ok (.iload_n 1, 1) := by decide +kernel
theorem dX12_count_3 : decode cX12_count 3 = .ok (.tableswitch 93 0 4 #[33, 38, 43, 48, 48], 33) := by decide +kernel
theorem dX12_count_36 : decode cX12_count 36 = .ok (.aload_n 0, 1) := by decide +kernel
theorem dX12_count_37 : decode cX12_count 37 = .ok (.getfield 227, 3) := by decide +kernel
theorem dX12_count_40 : decode cX12_count 40 = .ok (.ireturn, 1) := by decide +kernel
theorem dX12_count_41 : decode cX12_count 41 = .ok (.aload_n 0, 1) := by decide +kernel
theorem dX12_count_42 : decode cX12_count 42 = .ok (.getfield 103, 3) := by decide +kernel
theorem dX12_count_45 : decode cX12_count 45 = .ok (.ireturn, 1) := by decide +kernel
theorem dX12_count_46 : decode cX12_count 46 = .ok (.aload_n 0, 1) := by decide +kernel
theorem dX12_count_47 : decode cX12_count 47 = .ok (.invokevirtual 274, 3) := by decide +kernel
theorem dX12_count_50 : decode cX12_count 50 = .ok (.ireturn, 1) := by decide +kernel
theorem dX12_count_51 : decode cX12_count 51 = .ok (.iconst 0, 1) := by decide +kernel
theorem dX12_count_52 : decode cX12_count 52 = .ok (.istore_n 3, 1) := by decide +kernel
theorem dX12_count_53 : decode cX12_count 53 = .ok (.iload_n 3, 1) := by decide +kernel
theorem dX12_count_54 : decode cX12_count 54 = .ok (.aload_n 0, 1) := by decide +kernel
theorem dX12_count_55 : decode cX12_count 55 = .ok (.getfield 100, 3) := by decide +kernel
theorem dX12_count_58 : decode cX12_count 58 = .ok (.if_icmp .ge 36, 3) := by decide +kernel
theorem dX12_count_61 : decode cX12_count 61 = .ok (.iload_n 2, 1) := by decide +kernel
theorem dX12_count_62 : decode cX12_count 62 = .ok (.iload_n 1, 1) := by decide +kernel
theorem dX12_count_63 : decode cX12_count 63 = .ok (.iconst 3, 1) := by decide +kernel
theorem dX12_count_64 : decode cX12_count 64 = .ok (.if_icmp .eq 12, 3) := by decide +kernel
theorem dX12_count_67 : decode cX12_count 67 = .ok (.aload_n 0, 1) := by decide +kernel
theorem dX12_count_68 : decode cX12_count 68 = .ok (.getfield 16, 3) := by decide +kernel
theorem dX12_count_71 : decode cX12_count 71 = .ok (.iload_n 3, 1) := by decide +kernel
theorem dX12_count_72 : decode cX12_count 72 = .ok (.iaload, 1) := by decide +kernel
theorem dX12_count_73 : decode cX12_count 73 = .ok (.ifCond .lt 12, 3) := by decide +kernel
theorem dX12_count_76 : decode cX12_count 76 = .ok (.aload_n 0, 1) := by decide +kernel
theorem dX12_count_77 : decode cX12_count 77 = .ok (.getfield 19, 3) := by decide +kernel
theorem dX12_count_80 : decode cX12_count 80 = .ok (.iload_n 3, 1) := by decide +kernel
theorem dX12_count_81 : decode cX12_count 81 = .ok (.iaload, 1) := by decide +kernel
theorem dX12_count_82 : decode cX12_count 82 = .ok (.goto 4, 3) := by decide +kernel
theorem dX12_count_85 : decode cX12_count 85 = .ok (.iconst 0, 1) := by decide +kernel
theorem dX12_count_86 : decode cX12_count 86 = .ok (.iadd, 1) := by decide +kernel
theorem dX12_count_87 : decode cX12_count 87 = .ok (.istore_n 2, 1) := by decide +kernel
theorem dX12_count_88 : decode cX12_count 88 = .ok (.iinc 3 1, 3) := by decide +kernel
theorem dX12_count_91 : decode cX12_count 91 = .ok (.goto (-38), 3) := by decide +kernel
theorem dX12_count_94 : decode cX12_count 94 = .ok (.iload_n 2, 1) := by decide +kernel
theorem dX12_count_95 : decode cX12_count 95 = .ok (.ireturn, 1) := by decide +kernel
theorem dX12_count_96 : decode cX12_count 96 = .ok (.iconst (-1), 1) := by decide +kernel
theorem dX12_count_97 : decode cX12_count 97 = .ok (.ireturn, 1) := by decide +kernel
theorem dX12_seed_0 : decode cX12_seed 0 = .ok (.aload_n 0, 1) := by decide +kernel
theorem dX12_seed_1 : decode cX12_seed 1 = .ok (.getfield 25, 3) := by decide +kernel
theorem dX12_seed_4 : decode cX12_seed 4 = .ok (.istore_n 2, 1) := by decide +kernel
theorem dX12_seed_5 : decode cX12_seed 5 = .ok (.aload_n 0, 1) := by decide +kernel
theorem dX12_seed_6 : decode cX12_seed 6 = .ok (.iload_n 1, 1) := by decide +kernel
theorem dX12_seed_7 : decode cX12_seed 7 = .ok (.putfield 25, 3) := by decide +kernel
theorem dX12_seed_10 : decode cX12_seed 10 = .ok (.iload_n 2, 1) := by decide +kernel
theorem dX12_seed_11 : decode cX12_seed 11 = .ok (.ireturn, 1) := by decide +kernel
theorem dX12_grown_0 : decode cX12_grown 0 = .ok (.iload_n 2, 1) := by decide +kernel
theorem dX12_grown_1 : decode cX12_grown 1 = .ok (.istore_n 3, 1) := by decide +kernel
theorem dX12_grown_2 : decode cX12_grown 2 = .ok (.iconst 0, 1) := by decide +kernel
theorem dX12_grown_3 : decode cX12_grown 3 = .ok (.istore 4, 2) := by decide +kernel
theorem dX12_grown_5 : decode cX12_grown 5 = .ok (.iload 4, 2) := by decide +kernel
theorem dX12_grown_7 : decode cX12_grown 7 = .ok (.aload_n 0, 1) := by decide +kernel
theorem dX12_grown_8 : decode cX12_grown 8 = .ok (.getfield 97, 3) := by decide +kernel
theorem dX12_grown_11 : decode cX12_grown 11 = .ok (.if_icmp .ge 77, 3) := by decide +kernel
theorem dX12_grown_14 : decode cX12_grown 14 = .ok (.iload_n 1, 1) := by decide +kernel
theorem dX12_grown_15 : decode cX12_grown 15 = .ok (.iload 4, 2) := by decide +kernel
theorem dX12_grown_17 : decode cX12_grown 17 = .ok (.ishr, 1) := by decide +kernel
theorem dX12_grown_18 : decode cX12_grown 18 = .ok (.iconst 1, 1) := by decide +kernel
theorem dX12_grown_19 : decode cX12_grown 19 = .ok (.iand, 1) := by decide +kernel
theorem dX12_grown_20 : decode cX12_grown 20 = .ok (.iconst 1, 1) := by decide +kernel
theorem dX12_grown_21 : decode cX12_grown 21 = .ok (.if_icmp .ne 61, 3) := by decide +kernel
theorem dX12_grown_24 : decode cX12_grown 24 = .ok (.aload_n 0, 1) := by decide +kernel
theorem dX12_grown_25 : decode cX12_grown 25 = .ok (.iload 4, 2) := by decide +kernel
theorem dX12_grown_27 : decode cX12_grown 27 = .ok (.iconst 1, 1) := by decide +kernel
theorem dX12_grown_28 : decode cX12_grown 28 = .ok (.invokevirtual 106, 3) := by decide +kernel
theorem dX12_grown_31 : decode cX12_grown 31 = .ok (.istore 5, 2) := by decide +kernel
theorem dX12_grown_33 : decode cX12_grown 33 = .ok (.aload_n 0, 1) := by decide +kernel
theorem dX12_grown_34 : decode cX12_grown 34 = .ok (.iload 4, 2) := by decide +kernel
theorem dX12_grown_36 : decode cX12_grown 36 = .ok (.iconst 2, 1) := by decide +kernel
theorem dX12_grown_37 : decode cX12_grown 37 = .ok (.invokevirtual 106, 3) := by decide +kernel
theorem dX12_grown_40 : decode cX12_grown 40 = .ok (.istore 6, 2) := by decide +kernel
theorem dX12_grown_42 : decode cX12_grown 42 = .ok (.iload_n 3, 1) := by decide +kernel
theorem dX12_grown_43 : decode cX12_grown 43 = .ok (.iload_n 2, 1) := by decide +kernel
theorem dX12_grown_44 : decode cX12_grown 44 = .ok (.iload 5, 2) := by decide +kernel
theorem dX12_grown_46 : decode cX12_grown 46 = .ok (.ishr, 1) := by decide +kernel
theorem dX12_grown_47 : decode cX12_grown 47 = .ok (.iconst 1, 1) := by decide +kernel
theorem dX12_grown_48 : decode cX12_grown 48 = .ok (.iand, 1) := by decide +kernel
theorem dX12_grown_49 : decode cX12_grown 49 = .ok (.iconst 1, 1) := by decide +kernel
theorem dX12_grown_50 : decode cX12_grown 50 = .ok (.if_icmp .ne 10, 3) := by decide +kernel
theorem dX12_grown_53 : decode cX12_grown 53 = .ok (.iconst 1, 1) := by decide +kernel
theorem dX12_grown_54 : decode cX12_grown 54 = .ok (.iload 6, 2) := by decide +kernel
theorem dX12_grown_56 : decode cX12_grown 56 = .ok (.ishl, 1) := by decide +kernel
theorem dX12_grown_57 : decode cX12_grown 57 = .ok (.goto 4, 3) := by decide +kernel
theorem dX12_grown_60 : decode cX12_grown 60 = .ok (.iconst 0, 1) := by decide +kernel
theorem dX12_grown_61 : decode cX12_grown 61 = .ok (.iload_n 2, 1) := by decide +kernel
theorem dX12_grown_62 : decode cX12_grown 62 = .ok (.iload 6, 2) := by decide +kernel
theorem dX12_grown_64 : decode cX12_grown 64 = .ok (.ishr, 1) := by decide +kernel
theorem dX12_grown_65 : decode cX12_grown 65 = .ok (.iconst 1, 1) := by decide +kernel
theorem dX12_grown_66 : decode cX12_grown 66 = .ok (.iand, 1) := by decide +kernel
theorem dX12_grown_67 : decode cX12_grown 67 = .ok (.iconst 1, 1) := by decide +kernel
theorem dX12_grown_68 : decode cX12_grown 68 = .ok (.if_icmp .ne 10, 3) := by decide +kernel
theorem dX12_grown_71 : decode cX12_grown 71 = .ok (.iconst 1, 1) := by decide +kernel
theorem dX12_grown_72 : decode cX12_grown 72 = .ok (.iload 5, 2) := by decide +kernel
theorem dX12_grown_74 : decode cX12_grown 74 = .ok (.ishl, 1) := by decide +kernel
theorem dX12_grown_75 : decode cX12_grown 75 = .ok (.goto 4, 3) := by decide +kernel
theorem dX12_grown_78 : decode cX12_grown 78 = .ok (.iconst 0, 1) := by decide +kernel
theorem dX12_grown_79 : decode cX12_grown 79 = .ok (.ior, 1) := by decide +kernel
theorem dX12_grown_80 : decode cX12_grown 80 = .ok (.ior, 1) := by decide +kernel
theorem dX12_grown_81 : decode cX12_grown 81 = .ok (.istore_n 3, 1) := by decide +kernel
theorem dX12_grown_82 : decode cX12_grown 82 = .ok (.iinc 4 1, 3) := by decide +kernel
theorem dX12_grown_85 : decode cX12_grown 85 = .ok (.goto (-80), 3) := by decide +kernel
theorem dX12_grown_88 : decode cX12_grown 88 = .ok (.iload_n 3, 1) := by decide +kernel
theorem dX12_grown_89 : decode cX12_grown 89 = .ok (.ireturn, 1) := by decide +kernel
theorem dX12_reachBy_0 : decode cX12_reachBy 0 = .ok (.iconst 0, 1) := by decide +kernel
theorem dX12_reachBy_1 : decode cX12_reachBy 1 = .ok (.istore_n 3, 1) := by decide +kernel
theorem dX12_reachBy_2 : decode cX12_reachBy 2 = .ok (.iconst 1, 1) := by decide +kernel
theorem dX12_reachBy_3 : decode cX12_reachBy 3 = .ok (.iload_n 2, 1) := by decide +kernel
theorem dX12_reachBy_4 : decode cX12_reachBy 4 = .ok (.ishl, 1) := by decide +kernel
theorem dX12_reachBy_5 : decode cX12_reachBy 5 = .ok (.istore 4, 2) := by decide +kernel
theorem dX12_reachBy_7 : decode cX12_reachBy 7 = .ok (.iload 4, 2) := by decide +kernel
theorem dX12_reachBy_9 : decode cX12_reachBy 9 = .ok (.iload_n 3, 1) := by decide +kernel
theorem dX12_reachBy_10 : decode cX12_reachBy 10 = .ok (.if_icmp .eq 17, 3) := by decide +kernel
theorem dX12_reachBy_13 : decode cX12_reachBy 13 = .ok (.iload 4, 2) := by decide +kernel
theorem dX12_reachBy_15 : decode cX12_reachBy 15 = .ok (.istore_n 3, 1) := by decide +kernel
theorem dX12_reachBy_16 : decode cX12_reachBy 16 = .ok (.aload_n 0, 1) := by decide +kernel
theorem dX12_reachBy_17 : decode cX12_reachBy 17 = .ok (.iload_n 1, 1) := by decide +kernel
theorem dX12_reachBy_18 : decode cX12_reachBy 18 = .ok (.iload_n 3, 1) := by decide +kernel
theorem dX12_reachBy_19 : decode cX12_reachBy 19 = .ok (.invokevirtual 286, 3) := by decide +kernel
theorem dX12_reachBy_22 : decode cX12_reachBy 22 = .ok (.istore 4, 2) := by decide +kernel
theorem dX12_reachBy_24 : decode cX12_reachBy 24 = .ok (.goto (-17), 3) := by decide +kernel
theorem dX12_reachBy_27 : decode cX12_reachBy 27 = .ok (.iload 4, 2) := by decide +kernel
theorem dX12_reachBy_29 : decode cX12_reachBy 29 = .ok (.ireturn, 1) := by decide +kernel
theorem dX12_wayOf_0 : decode cX12_wayOf 0 = .ok (.iconst 0, 1) := by decide +kernel
theorem dX12_wayOf_1 : decode cX12_wayOf 1 = .ok (.istore_n 3, 1) := by decide +kernel
theorem dX12_wayOf_2 : decode cX12_wayOf 2 = .ok (.iconst 1, 1) := by decide +kernel
theorem dX12_wayOf_3 : decode cX12_wayOf 3 = .ok (.iload_n 1, 1) := by decide +kernel
theorem dX12_wayOf_4 : decode cX12_wayOf 4 = .ok (.ishl, 1) := by decide +kernel
theorem dX12_wayOf_5 : decode cX12_wayOf 5 = .ok (.istore 4, 2) := by decide +kernel
theorem dX12_wayOf_7 : decode cX12_wayOf 7 = .ok (.iconst 0, 1) := by decide +kernel
theorem dX12_wayOf_8 : decode cX12_wayOf 8 = .ok (.istore 5, 2) := by decide +kernel
theorem dX12_wayOf_10 : decode cX12_wayOf 10 = .ok (.iload 4, 2) := by decide +kernel
theorem dX12_wayOf_12 : decode cX12_wayOf 12 = .ok (.iload_n 3, 1) := by decide +kernel
theorem dX12_wayOf_13 : decode cX12_wayOf 13 = .ok (.if_icmp .eq 36, 3) := by decide +kernel
theorem dX12_wayOf_16 : decode cX12_wayOf 16 = .ok (.iload 4, 2) := by decide +kernel
theorem dX12_wayOf_18 : decode cX12_wayOf 18 = .ok (.iload_n 2, 1) := by decide +kernel
theorem dX12_wayOf_19 : decode cX12_wayOf 19 = .ok (.ishr, 1) := by decide +kernel
theorem dX12_wayOf_20 : decode cX12_wayOf 20 = .ok (.iconst 1, 1) := by decide +kernel
theorem dX12_wayOf_21 : decode cX12_wayOf 21 = .ok (.iand, 1) := by decide +kernel
theorem dX12_wayOf_22 : decode cX12_wayOf 22 = .ok (.iconst 1, 1) := by decide +kernel
theorem dX12_wayOf_23 : decode cX12_wayOf 23 = .ok (.if_icmp .ne 6, 3) := by decide +kernel
theorem dX12_wayOf_26 : decode cX12_wayOf 26 = .ok (.iload 5, 2) := by decide +kernel
theorem dX12_wayOf_28 : decode cX12_wayOf 28 = .ok (.ireturn, 1) := by decide +kernel
theorem dX12_wayOf_29 : decode cX12_wayOf 29 = .ok (.iload 4, 2) := by decide +kernel
theorem dX12_wayOf_31 : decode cX12_wayOf 31 = .ok (.istore_n 3, 1) := by decide +kernel
theorem dX12_wayOf_32 : decode cX12_wayOf 32 = .ok (.aload_n 0, 1) := by decide +kernel
theorem dX12_wayOf_33 : decode cX12_wayOf 33 = .ok (.aload_n 0, 1) := by decide +kernel
theorem dX12_wayOf_34 : decode cX12_wayOf 34 = .ok (.getfield 103, 3) := by decide +kernel
theorem dX12_wayOf_37 : decode cX12_wayOf 37 = .ok (.iload_n 3, 1) := by decide +kernel
theorem dX12_wayOf_38 : decode cX12_wayOf 38 = .ok (.invokevirtual 286, 3) := by decide +kernel
theorem dX12_wayOf_41 : decode cX12_wayOf 41 = .ok (.istore 4, 2) := by decide +kernel
theorem dX12_wayOf_43 : decode cX12_wayOf 43 = .ok (.iinc 5 1, 3) := by decide +kernel
theorem dX12_wayOf_46 : decode cX12_wayOf 46 = .ok (.goto (-36), 3) := by decide +kernel
theorem dX12_wayOf_49 : decode cX12_wayOf 49 = .ok (.bipush (-3), 2) := by decide +kernel
theorem dX12_wayOf_51 : decode cX12_wayOf 51 = .ok (.ireturn, 1) := by decide +kernel
theorem dX12_way_0 : decode cX12_way 0 = .ok (.iload_n 1, 1) := by decide +kernel
theorem dX12_way_1 : decode cX12_way 1 = .ok (.invokestatic 233, 3) := by decide +kernel
theorem dX12_way_4 : decode cX12_way 4 = .ok (.ifCond .eq 19, 3) := by decide +kernel
theorem dX12_way_7 : decode cX12_way 7 = .ok (.iload_n 2, 1) := by decide +kernel
theorem dX12_way_8 : decode cX12_way 8 = .ok (.invokestatic 233, 3) := by decide +kernel
theorem dX12_way_11 : decode cX12_way 11 = .ok (.ifCond .eq 12, 3) := by decide +kernel
theorem dX12_way_14 : decode cX12_way 14 = .ok (.aload_n 0, 1) := by decide +kernel
theorem dX12_way_15 : decode cX12_way 15 = .ok (.iload_n 1, 1) := by decide +kernel
theorem dX12_way_16 : decode cX12_way 16 = .ok (.iload_n 2, 1) := by decide +kernel
theorem dX12_way_17 : decode cX12_way 17 = .ok (.invokevirtual 289, 3) := by decide +kernel
theorem dX12_way_20 : decode cX12_way 20 = .ok (.goto 4, 3) := by decide +kernel
theorem dX12_way_23 : decode cX12_way 23 = .ok (.iconst (-1), 1) := by decide +kernel
theorem dX12_way_24 : decode cX12_way 24 = .ok (.ireturn, 1) := by decide +kernel
theorem dX12_reach_0 : decode cX12_reach 0 = .ok (.iload_n 1, 1) := by decide +kernel
theorem dX12_reach_1 : decode cX12_reach 1 = .ok (.invokestatic 233, 3) := by decide +kernel
theorem dX12_reach_4 : decode cX12_reach 4 = .ok (.ifCond .eq 15, 3) := by decide +kernel
theorem dX12_reach_7 : decode cX12_reach 7 = .ok (.aload_n 0, 1) := by decide +kernel
theorem dX12_reach_8 : decode cX12_reach 8 = .ok (.aload_n 0, 1) := by decide +kernel
theorem dX12_reach_9 : decode cX12_reach 9 = .ok (.getfield 103, 3) := by decide +kernel
theorem dX12_reach_12 : decode cX12_reach 12 = .ok (.iload_n 1, 1) := by decide +kernel
theorem dX12_reach_13 : decode cX12_reach 13 = .ok (.invokevirtual 292, 3) := by decide +kernel
theorem dX12_reach_16 : decode cX12_reach 16 = .ok (.goto 4, 3) := by decide +kernel
theorem dX12_reach_19 : decode cX12_reach 19 = .ok (.iconst (-1), 1) := by decide +kernel
theorem dX12_reach_20 : decode cX12_reach 20 = .ok (.ireturn, 1) := by decide +kernel
theorem dX12_lowest_0 : decode cX12_lowest 0 = .ok (.lload_n 1, 1) := by decide +kernel
theorem dX12_lowest_1 : decode cX12_lowest 1 = .ok (.lstore 5, 2) := by decide +kernel
theorem dX12_lowest_3 : decode cX12_lowest 3 = .ok (.lload_n 3, 1) := by decide +kernel
theorem dX12_lowest_4 : decode cX12_lowest 4 = .ok (.lstore 7, 2) := by decide +kernel
theorem dX12_lowest_6 : decode cX12_lowest 6 = .ok (.lload 7, 2) := by decide +kernel
theorem dX12_lowest_8 : decode cX12_lowest 8 = .ok (.lconst 0, 1) := by decide +kernel
theorem dX12_lowest_9 : decode cX12_lowest 9 = .ok (.lcmp, 1) := by decide +kernel
theorem dX12_lowest_10 : decode cX12_lowest 10 = .ok (.ifCond .eq 21, 3) := by decide +kernel
theorem dX12_lowest_13 : decode cX12_lowest 13 = .ok (.lload 5, 2) := by decide +kernel
theorem dX12_lowest_15 : decode cX12_lowest 15 = .ok (.lload 7, 2) := by decide +kernel
theorem dX12_lowest_17 : decode cX12_lowest 17 = .ok (.lrem, 1) := by decide +kernel
theorem dX12_lowest_18 : decode cX12_lowest 18 = .ok (.lstore 9, 2) := by decide +kernel
theorem dX12_lowest_20 : decode cX12_lowest 20 = .ok (.lload 7, 2) := by decide +kernel
theorem dX12_lowest_22 : decode cX12_lowest 22 = .ok (.lstore 5, 2) := by decide +kernel
theorem dX12_lowest_24 : decode cX12_lowest 24 = .ok (.lload 9, 2) := by decide +kernel
theorem dX12_lowest_26 : decode cX12_lowest 26 = .ok (.lstore 7, 2) := by decide +kernel
theorem dX12_lowest_28 : decode cX12_lowest 28 = .ok (.goto (-22), 3) := by decide +kernel
theorem dX12_lowest_31 : decode cX12_lowest 31 = .ok (.aload_n 0, 1) := by decide +kernel
theorem dX12_lowest_32 : decode cX12_lowest 32 = .ok (.lload_n 1, 1) := by decide +kernel
theorem dX12_lowest_33 : decode cX12_lowest 33 = .ok (.lload 5, 2) := by decide +kernel
theorem dX12_lowest_35 : decode cX12_lowest 35 = .ok (.ldiv, 1) := by decide +kernel
theorem dX12_lowest_36 : decode cX12_lowest 36 = .ok (.putfield 295, 3) := by decide +kernel
theorem dX12_lowest_39 : decode cX12_lowest 39 = .ok (.aload_n 0, 1) := by decide +kernel
theorem dX12_lowest_40 : decode cX12_lowest 40 = .ok (.lload_n 3, 1) := by decide +kernel
theorem dX12_lowest_41 : decode cX12_lowest 41 = .ok (.lload 5, 2) := by decide +kernel
theorem dX12_lowest_43 : decode cX12_lowest 43 = .ok (.ldiv, 1) := by decide +kernel
theorem dX12_lowest_44 : decode cX12_lowest 44 = .ok (.putfield 298, 3) := by decide +kernel
theorem dX12_lowest_47 : decode cX12_lowest 47 = .ok (.return_, 1) := by decide +kernel
theorem dX12_findOften_0 : decode cX12_findOften 0 = .ok (.iconst 0, 1) := by decide +kernel
theorem dX12_findOften_1 : decode cX12_findOften 1 = .ok (.istore_n 3, 1) := by decide +kernel
theorem dX12_findOften_2 : decode cX12_findOften 2 = .ok (.iload_n 3, 1) := by decide +kernel
theorem dX12_findOften_3 : decode cX12_findOften 3 = .ok (.aload_n 0, 1) := by decide +kernel
theorem dX12_findOften_4 : decode cX12_findOften 4 = .ok (.getfield 97, 3) := by decide +kernel
theorem dX12_findOften_7 : decode cX12_findOften 7 = .ok (.if_icmp .ge 51, 3) := by decide +kernel
theorem dX12_findOften_10 : decode cX12_findOften 10 = .ok (.aload_n 0, 1) := by decide +kernel
theorem dX12_findOften_11 : decode cX12_findOften 11 = .ok (.getfield 47, 3) := by decide +kernel
theorem dX12_findOften_14 : decode cX12_findOften 14 = .ok (.iload_n 3, 1) := by decide +kernel
theorem dX12_findOften_15 : decode cX12_findOften 15 = .ok (.iload_n 2, 1) := by decide +kernel
theorem dX12_findOften_16 : decode cX12_findOften 16 = .ok (.iload_n 3, 1) := by decide +kernel
theorem dX12_findOften_17 : decode cX12_findOften 17 = .ok (.ishr, 1) := by decide +kernel
theorem dX12_findOften_18 : decode cX12_findOften 18 = .ok (.iconst 1, 1) := by decide +kernel
theorem dX12_findOften_19 : decode cX12_findOften 19 = .ok (.iand, 1) := by decide +kernel
theorem dX12_findOften_20 : decode cX12_findOften 20 = .ok (.iconst 1, 1) := by decide +kernel
theorem dX12_findOften_21 : decode cX12_findOften 21 = .ok (.if_icmp .ne 8, 3) := by decide +kernel
theorem dX12_findOften_24 : decode cX12_findOften 24 = .ok (.bipush 8, 2) := by decide +kernel
theorem dX12_findOften_26 : decode cX12_findOften 26 = .ok (.goto 25, 3) := by decide +kernel
theorem dX12_findOften_29 : decode cX12_findOften 29 = .ok (.iload_n 1, 1) := by decide +kernel
theorem dX12_findOften_30 : decode cX12_findOften 30 = .ok (.iload_n 3, 1) := by decide +kernel
theorem dX12_findOften_31 : decode cX12_findOften 31 = .ok (.ishr, 1) := by decide +kernel
theorem dX12_findOften_32 : decode cX12_findOften 32 = .ok (.iconst 1, 1) := by decide +kernel
theorem dX12_findOften_33 : decode cX12_findOften 33 = .ok (.iand, 1) := by decide +kernel
theorem dX12_findOften_34 : decode cX12_findOften 34 = .ok (.iconst 1, 1) := by decide +kernel
theorem dX12_findOften_35 : decode cX12_findOften 35 = .ok (.if_icmp .ne 11, 3) := by decide +kernel
theorem dX12_findOften_38 : decode cX12_findOften 38 = .ok (.aload_n 0, 1) := by decide +kernel
theorem dX12_findOften_39 : decode cX12_findOften 39 = .ok (.iload_n 3, 1) := by decide +kernel
theorem dX12_findOften_40 : decode cX12_findOften 40 = .ok (.invokevirtual 249, 3) := by decide +kernel
theorem dX12_findOften_43 : decode cX12_findOften 43 = .ok (.goto 8, 3) := by decide +kernel
theorem dX12_findOften_46 : decode cX12_findOften 46 = .ok (.aload_n 0, 1) := by decide +kernel
theorem dX12_findOften_47 : decode cX12_findOften 47 = .ok (.iload_n 3, 1) := by decide +kernel
theorem dX12_findOften_48 : decode cX12_findOften 48 = .ok (.invokevirtual 252, 3) := by decide +kernel
theorem dX12_findOften_51 : decode cX12_findOften 51 = .ok (.iastore, 1) := by decide +kernel
theorem dX12_findOften_52 : decode cX12_findOften 52 = .ok (.iinc 3 1, 3) := by decide +kernel
theorem dX12_findOften_55 : decode cX12_findOften 55 = .ok (.goto (-53), 3) := by decide +kernel
theorem dX12_findOften_58 : decode cX12_findOften 58 = .ok (.return_, 1) := by decide +kernel
theorem dX12_oftenOf_0 : decode cX12_oftenOf 0 = .ok (.lconst 1, 1) := by decide +kernel
theorem dX12_oftenOf_1 : decode cX12_oftenOf 1 = .ok (.lstore_n 2, 1) := by decide +kernel
theorem dX12_oftenOf_2 : decode cX12_oftenOf 2 = .ok (.iconst 0, 1) := by decide +kernel
theorem dX12_oftenOf_3 : decode cX12_oftenOf 3 = .ok (.istore 4, 2) := by decide +kernel
theorem dX12_oftenOf_5 : decode cX12_oftenOf 5 = .ok (.iload 4, 2) := by decide +kernel
theorem dX12_oftenOf_7 : decode cX12_oftenOf 7 = .ok (.aload_n 0, 1) := by decide +kernel
theorem dX12_oftenOf_8 : decode cX12_oftenOf 8 = .ok (.getfield 97, 3) := by decide +kernel
theorem dX12_oftenOf_11 : decode cX12_oftenOf 11 = .ok (.if_icmp .ge 44, 3) := by decide +kernel
theorem dX12_oftenOf_14 : decode cX12_oftenOf 14 = .ok (.lload_n 2, 1) := by decide +kernel
theorem dX12_oftenOf_15 : decode cX12_oftenOf 15 = .ok (.iload_n 1, 1) := by decide +kernel
theorem dX12_oftenOf_16 : decode cX12_oftenOf 16 = .ok (.iload 4, 2) := by decide +kernel
theorem dX12_oftenOf_18 : decode cX12_oftenOf 18 = .ok (.ishr, 1) := by decide +kernel
theorem dX12_oftenOf_19 : decode cX12_oftenOf 19 = .ok (.iconst 1, 1) := by decide +kernel
theorem dX12_oftenOf_20 : decode cX12_oftenOf 20 = .ok (.iand, 1) := by decide +kernel
theorem dX12_oftenOf_21 : decode cX12_oftenOf 21 = .ok (.iconst 1, 1) := by decide +kernel
theorem dX12_oftenOf_22 : decode cX12_oftenOf 22 = .ok (.if_icmp .ne 14, 3) := by decide +kernel
theorem dX12_oftenOf_25 : decode cX12_oftenOf 25 = .ok (.aload_n 0, 1) := by decide +kernel
theorem dX12_oftenOf_26 : decode cX12_oftenOf 26 = .ok (.getfield 47, 3) := by decide +kernel
theorem dX12_oftenOf_29 : decode cX12_oftenOf 29 = .ok (.iload 4, 2) := by decide +kernel
theorem dX12_oftenOf_31 : decode cX12_oftenOf 31 = .ok (.iaload, 1) := by decide +kernel
theorem dX12_oftenOf_32 : decode cX12_oftenOf 32 = .ok (.i2l, 1) := by decide +kernel
theorem dX12_oftenOf_33 : decode cX12_oftenOf 33 = .ok (.goto 14, 3) := by decide +kernel
theorem dX12_oftenOf_36 : decode cX12_oftenOf 36 = .ok (.bipush 8, 2) := by decide +kernel
theorem dX12_oftenOf_38 : decode cX12_oftenOf 38 = .ok (.aload_n 0, 1) := by decide +kernel
theorem dX12_oftenOf_39 : decode cX12_oftenOf 39 = .ok (.getfield 47, 3) := by decide +kernel
theorem dX12_oftenOf_42 : decode cX12_oftenOf 42 = .ok (.iload 4, 2) := by decide +kernel
theorem dX12_oftenOf_44 : decode cX12_oftenOf 44 = .ok (.iaload, 1) := by decide +kernel
theorem dX12_oftenOf_45 : decode cX12_oftenOf 45 = .ok (.isub, 1) := by decide +kernel
theorem dX12_oftenOf_46 : decode cX12_oftenOf 46 = .ok (.i2l, 1) := by decide +kernel
theorem dX12_oftenOf_47 : decode cX12_oftenOf 47 = .ok (.lmul, 1) := by decide +kernel
theorem dX12_oftenOf_48 : decode cX12_oftenOf 48 = .ok (.lstore_n 2, 1) := by decide +kernel
theorem dX12_oftenOf_49 : decode cX12_oftenOf 49 = .ok (.iinc 4 1, 3) := by decide +kernel
theorem dX12_oftenOf_52 : decode cX12_oftenOf 52 = .ok (.goto (-47), 3) := by decide +kernel
theorem dX12_oftenOf_55 : decode cX12_oftenOf 55 = .ok (.lload_n 2, 1) := by decide +kernel
theorem dX12_oftenOf_56 : decode cX12_oftenOf 56 = .ok (.lreturn, 1) := by decide +kernel
theorem dX12_oddsBy_0 : decode cX12_oddsBy 0 = .ok (.aload_n 0, 1) := by decide +kernel
theorem dX12_oddsBy_1 : decode cX12_oddsBy 1 = .ok (.aload_n 0, 1) := by decide +kernel
theorem dX12_oddsBy_2 : decode cX12_oddsBy 2 = .ok (.getfield 103, 3) := by decide +kernel
theorem dX12_oddsBy_5 : decode cX12_oddsBy 5 = .ok (.iload_n 3, 1) := by decide +kernel
theorem dX12_oddsBy_6 : decode cX12_oddsBy 6 = .ok (.invokevirtual 301, 3) := by decide +kernel
theorem dX12_oddsBy_9 : decode cX12_oddsBy 9 = .ok (.lconst 0, 1) := by decide +kernel
theorem dX12_oddsBy_10 : decode cX12_oddsBy 10 = .ok (.lstore 4, 2) := by decide +kernel
theorem dX12_oddsBy_12 : decode cX12_oddsBy 12 = .ok (.iconst 0, 1) := by decide +kernel
theorem dX12_oddsBy_13 : decode cX12_oddsBy 13 = .ok (.istore 6, 2) := by decide +kernel
theorem dX12_oddsBy_15 : decode cX12_oddsBy 15 = .ok (.iload 6, 2) := by decide +kernel
theorem dX12_oddsBy_17 : decode cX12_oddsBy 17 = .ok (.iconst 1, 1) := by decide +kernel
theorem dX12_oddsBy_18 : decode cX12_oddsBy 18 = .ok (.aload_n 0, 1) := by decide +kernel
theorem dX12_oddsBy_19 : decode cX12_oddsBy 19 = .ok (.getfield 97, 3) := by decide +kernel
theorem dX12_oddsBy_22 : decode cX12_oddsBy 22 = .ok (.ishl, 1) := by decide +kernel
theorem dX12_oddsBy_23 : decode cX12_oddsBy 23 = .ok (.if_icmp .ge 39, 3) := by decide +kernel
theorem dX12_oddsBy_26 : decode cX12_oddsBy 26 = .ok (.lload 4, 2) := by decide +kernel
theorem dX12_oddsBy_28 : decode cX12_oddsBy 28 = .ok (.aload_n 0, 1) := by decide +kernel
theorem dX12_oddsBy_29 : decode cX12_oddsBy 29 = .ok (.iload 6, 2) := by decide +kernel
theorem dX12_oddsBy_31 : decode cX12_oddsBy 31 = .ok (.iload_n 1, 1) := by decide +kernel
theorem dX12_oddsBy_32 : decode cX12_oddsBy 32 = .ok (.invokevirtual 292, 3) := by decide +kernel
theorem dX12_oddsBy_35 : decode cX12_oddsBy 35 = .ok (.iload_n 2, 1) := by decide +kernel
theorem dX12_oddsBy_36 : decode cX12_oddsBy 36 = .ok (.ishr, 1) := by decide +kernel
theorem dX12_oddsBy_37 : decode cX12_oddsBy 37 = .ok (.iconst 1, 1) := by decide +kernel
theorem dX12_oddsBy_38 : decode cX12_oddsBy 38 = .ok (.iand, 1) := by decide +kernel
theorem dX12_oddsBy_39 : decode cX12_oddsBy 39 = .ok (.iconst 1, 1) := by decide +kernel
theorem dX12_oddsBy_40 : decode cX12_oddsBy 40 = .ok (.if_icmp .ne 12, 3) := by decide +kernel
theorem dX12_oddsBy_43 : decode cX12_oddsBy 43 = .ok (.aload_n 0, 1) := by decide +kernel
theorem dX12_oddsBy_44 : decode cX12_oddsBy 44 = .ok (.iload 6, 2) := by decide +kernel
theorem dX12_oddsBy_46 : decode cX12_oddsBy 46 = .ok (.invokevirtual 305, 3) := by decide +kernel
theorem dX12_oddsBy_49 : decode cX12_oddsBy 49 = .ok (.goto 4, 3) := by decide +kernel
theorem dX12_oddsBy_52 : decode cX12_oddsBy 52 = .ok (.lconst 0, 1) := by decide +kernel
theorem dX12_oddsBy_53 : decode cX12_oddsBy 53 = .ok (.ladd, 1) := by decide +kernel
theorem dX12_oddsBy_54 : decode cX12_oddsBy 54 = .ok (.lstore 4, 2) := by decide +kernel
theorem dX12_oddsBy_56 : decode cX12_oddsBy 56 = .ok (.iinc 6 1, 3) := by decide +kernel
theorem dX12_oddsBy_59 : decode cX12_oddsBy 59 = .ok (.goto (-44), 3) := by decide +kernel
theorem dX12_oddsBy_62 : decode cX12_oddsBy 62 = .ok (.lload 4, 2) := by decide +kernel
theorem dX12_oddsBy_64 : decode cX12_oddsBy 64 = .ok (.lreturn, 1) := by decide +kernel
theorem dX12_allOdds_0 : decode cX12_allOdds 0 = .ok (.lconst 1, 1) := by decide +kernel
theorem dX12_allOdds_1 : decode cX12_allOdds 1 = .ok (.iconst 3, 1) := by decide +kernel
theorem dX12_allOdds_2 : decode cX12_allOdds 2 = .ok (.aload_n 0, 1) := by decide +kernel
theorem dX12_allOdds_3 : decode cX12_allOdds 3 = .ok (.getfield 97, 3) := by decide +kernel
theorem dX12_allOdds_6 : decode cX12_allOdds 6 = .ok (.imul, 1) := by decide +kernel
theorem dX12_allOdds_7 : decode cX12_allOdds 7 = .ok (.lshl, 1) := by decide +kernel
theorem dX12_allOdds_8 : decode cX12_allOdds 8 = .ok (.lreturn, 1) := by decide +kernel
theorem dX12_oddsOf_0 : decode cX12_oddsOf 0 = .ok (.aload_n 0, 1) := by decide +kernel
theorem dX12_oddsOf_1 : decode cX12_oddsOf 1 = .ok (.iload_n 1, 1) := by decide +kernel
theorem dX12_oddsOf_2 : decode cX12_oddsOf 2 = .ok (.iload_n 2, 1) := by decide +kernel
theorem dX12_oddsOf_3 : decode cX12_oddsOf 3 = .ok (.aload_n 0, 1) := by decide +kernel
theorem dX12_oddsOf_4 : decode cX12_oddsOf 4 = .ok (.invokevirtual 274, 3) := by decide +kernel
theorem dX12_oddsOf_7 : decode cX12_oddsOf 7 = .ok (.invokevirtual 309, 3) := by decide +kernel
theorem dX12_oddsOf_10 : decode cX12_oddsOf 10 = .ok (.lreturn, 1) := by decide +kernel
theorem dX12_odds_0 : decode cX12_odds 0 = .ok (.iload_n 1, 1) := by decide +kernel
theorem dX12_odds_1 : decode cX12_odds 1 = .ok (.invokestatic 233, 3) := by decide +kernel
theorem dX12_odds_4 : decode cX12_odds 4 = .ok (.ifCond .eq 17, 3) := by decide +kernel
theorem dX12_odds_7 : decode cX12_odds 7 = .ok (.iload_n 2, 1) := by decide +kernel
theorem dX12_odds_8 : decode cX12_odds 8 = .ok (.invokestatic 233, 3) := by decide +kernel
theorem dX12_odds_11 : decode cX12_odds 11 = .ok (.ifCond .eq 10, 3) := by decide +kernel
theorem dX12_odds_14 : decode cX12_odds 14 = .ok (.iload_n 3, 1) := by decide +kernel
theorem dX12_odds_15 : decode cX12_odds 15 = .ok (.invokestatic 313, 3) := by decide +kernel
theorem dX12_odds_18 : decode cX12_odds 18 = .ok (.ifCond .ne 7, 3) := by decide +kernel
theorem dX12_odds_21 : decode cX12_odds 21 = .ok (.ldc2_w 146, 3) := by decide +kernel
theorem dX12_odds_24 : decode cX12_odds 24 = .ok (.lreturn, 1) := by decide +kernel
theorem dX12_odds_25 : decode cX12_odds 25 = .ok (.aload_n 0, 1) := by decide +kernel
theorem dX12_odds_26 : decode cX12_odds 26 = .ok (.aload_n 0, 1) := by decide +kernel
theorem dX12_odds_27 : decode cX12_odds 27 = .ok (.iload_n 1, 1) := by decide +kernel
theorem dX12_odds_28 : decode cX12_odds 28 = .ok (.iload_n 2, 1) := by decide +kernel
theorem dX12_odds_29 : decode cX12_odds 29 = .ok (.invokevirtual 316, 3) := by decide +kernel
theorem dX12_odds_32 : decode cX12_odds 32 = .ok (.aload_n 0, 1) := by decide +kernel
theorem dX12_odds_33 : decode cX12_odds 33 = .ok (.invokevirtual 320, 3) := by decide +kernel
theorem dX12_odds_36 : decode cX12_odds 36 = .ok (.invokevirtual 324, 3) := by decide +kernel
theorem dX12_odds_39 : decode cX12_odds 39 = .ok (.iload_n 3, 1) := by decide +kernel
theorem dX12_odds_40 : decode cX12_odds 40 = .ok (.ifCond .ne 10, 3) := by decide +kernel
theorem dX12_odds_43 : decode cX12_odds 43 = .ok (.aload_n 0, 1) := by decide +kernel
theorem dX12_odds_44 : decode cX12_odds 44 = .ok (.getfield 295, 3) := by decide +kernel
theorem dX12_odds_47 : decode cX12_odds 47 = .ok (.goto 7, 3) := by decide +kernel
theorem dX12_odds_50 : decode cX12_odds 50 = .ok (.aload_n 0, 1) := by decide +kernel
theorem dX12_odds_51 : decode cX12_odds 51 = .ok (.getfield 298, 3) := by decide +kernel
theorem dX12_odds_54 : decode cX12_odds 54 = .ok (.lreturn, 1) := by decide +kernel
theorem dX12_held_0 : decode cX12_held 0 = .ok (.iload_n 1, 1) := by decide +kernel
theorem dX12_held_1 : decode cX12_held 1 = .ok (.invokestatic 233, 3) := by decide +kernel
theorem dX12_held_4 : decode cX12_held 4 = .ok (.ifCond .eq 19, 3) := by decide +kernel
theorem dX12_held_7 : decode cX12_held 7 = .ok (.iload_n 2, 1) := by decide +kernel
theorem dX12_held_8 : decode cX12_held 8 = .ok (.invokestatic 233, 3) := by decide +kernel
theorem dX12_held_11 : decode cX12_held 11 = .ok (.ifCond .eq 12, 3) := by decide +kernel
theorem dX12_held_14 : decode cX12_held 14 = .ok (.iload_n 3, 1) := by decide +kernel
theorem dX12_held_15 : decode cX12_held 15 = .ok (.iconst 0, 1) := by decide +kernel
theorem dX12_held_16 : decode cX12_held 16 = .ok (.iconst 3, 1) := by decide +kernel
theorem dX12_held_17 : decode cX12_held 17 = .ok (.invokestatic 93, 3) := by decide +kernel
theorem dX12_held_20 : decode cX12_held 20 = .ok (.ifCond .ne 5, 3) := by decide +kernel
theorem dX12_held_23 : decode cX12_held 23 = .ok (.iconst (-1), 1) := by decide +kernel
theorem dX12_held_24 : decode cX12_held 24 = .ok (.ireturn, 1) := by decide +kernel
theorem dX12_held_25 : decode cX12_held 25 = .ok (.iconst 0, 1) := by decide +kernel
theorem dX12_held_26 : decode cX12_held 26 = .ok (.istore 4, 2) := by decide +kernel
theorem dX12_held_28 : decode cX12_held 28 = .ok (.ldc2_w 146, 3) := by decide +kernel
theorem dX12_held_31 : decode cX12_held 31 = .ok (.lstore 5, 2) := by decide +kernel
theorem dX12_held_33 : decode cX12_held 33 = .ok (.iconst 0, 1) := by decide +kernel
theorem dX12_held_34 : decode cX12_held 34 = .ok (.istore 7, 2) := by decide +kernel
theorem dX12_held_36 : decode cX12_held 36 = .ok (.iload 7, 2) := by decide +kernel
theorem dX12_held_38 : decode cX12_held 38 = .ok (.iconst 1, 1) := by decide +kernel
theorem dX12_held_39 : decode cX12_held 39 = .ok (.aload_n 0, 1) := by decide +kernel
theorem dX12_held_40 : decode cX12_held 40 = .ok (.getfield 97, 3) := by decide +kernel
theorem dX12_held_43 : decode cX12_held 43 = .ok (.ishl, 1) := by decide +kernel
theorem dX12_held_44 : decode cX12_held 44 = .ok (.if_icmp .ge 85, 3) := by decide +kernel
theorem dX12_held_47 : decode cX12_held 47 = .ok (.iload 7, 2) := by decide +kernel
theorem dX12_held_49 : decode cX12_held 49 = .ok (.invokestatic 270, 3) := by decide +kernel
theorem dX12_held_52 : decode cX12_held 52 = .ok (.iload_n 3, 1) := by decide +kernel
theorem dX12_held_53 : decode cX12_held 53 = .ok (.if_icmp .gt 70, 3) := by decide +kernel
theorem dX12_held_56 : decode cX12_held 56 = .ok (.iload 7, 2) := by decide +kernel
theorem dX12_held_58 : decode cX12_held 58 = .ok (.aload_n 0, 1) := by decide +kernel
theorem dX12_held_59 : decode cX12_held 59 = .ok (.getfield 103, 3) := by decide +kernel
theorem dX12_held_62 : decode cX12_held 62 = .ok (.iconst (-1), 1) := by decide +kernel
theorem dX12_held_63 : decode cX12_held 63 = .ok (.ixor, 1) := by decide +kernel
theorem dX12_held_64 : decode cX12_held 64 = .ok (.iand, 1) := by decide +kernel
theorem dX12_held_65 : decode cX12_held 65 = .ok (.ifCond .eq 6, 3) := by decide +kernel
theorem dX12_held_68 : decode cX12_held 68 = .ok (.goto 55, 3) := by decide +kernel
theorem dX12_held_71 : decode cX12_held 71 = .ok (.aload_n 0, 1) := by decide +kernel
theorem dX12_held_72 : decode cX12_held 72 = .ok (.iload_n 1, 1) := by decide +kernel
theorem dX12_held_73 : decode cX12_held 73 = .ok (.iload_n 2, 1) := by decide +kernel
theorem dX12_held_74 : decode cX12_held 74 = .ok (.aload_n 0, 1) := by decide +kernel
theorem dX12_held_75 : decode cX12_held 75 = .ok (.invokevirtual 274, 3) := by decide +kernel
theorem dX12_held_78 : decode cX12_held 78 = .ok (.iload 7, 2) := by decide +kernel
theorem dX12_held_80 : decode cX12_held 80 = .ok (.ior, 1) := by decide +kernel
theorem dX12_held_81 : decode cX12_held 81 = .ok (.invokevirtual 309, 3) := by decide +kernel
theorem dX12_held_84 : decode cX12_held 84 = .ok (.lstore 8, 2) := by decide +kernel
theorem dX12_held_86 : decode cX12_held 86 = .ok (.lload 8, 2) := by decide +kernel
theorem dX12_held_88 : decode cX12_held 88 = .ok (.lload 5, 2) := by decide +kernel
theorem dX12_held_90 : decode cX12_held 90 = .ok (.lcmp, 1) := by decide +kernel
theorem dX12_held_91 : decode cX12_held 91 = .ok (.ifCond .gt 24, 3) := by decide +kernel
theorem dX12_held_94 : decode cX12_held 94 = .ok (.lload 8, 2) := by decide +kernel
theorem dX12_held_96 : decode cX12_held 96 = .ok (.lload 5, 2) := by decide +kernel
theorem dX12_held_98 : decode cX12_held 98 = .ok (.lcmp, 1) := by decide +kernel
theorem dX12_held_99 : decode cX12_held 99 = .ok (.ifCond .ne 24, 3) := by decide +kernel
theorem dX12_held_102 : decode cX12_held 102 = .ok (.iload 7, 2) := by decide +kernel
theorem dX12_held_104 : decode cX12_held 104 = .ok (.invokestatic 270, 3) := by decide +kernel
theorem dX12_held_107 : decode cX12_held 107 = .ok (.iload 4, 2) := by decide +kernel
theorem dX12_held_109 : decode cX12_held 109 = .ok (.invokestatic 270, 3) := by decide +kernel
theorem dX12_held_112 : decode cX12_held 112 = .ok (.if_icmp .ge 11, 3) := by decide +kernel
theorem dX12_held_115 : decode cX12_held 115 = .ok (.lload 8, 2) := by decide +kernel
theorem dX12_held_117 : decode cX12_held 117 = .ok (.lstore 5, 2) := by decide +kernel
theorem dX12_held_119 : decode cX12_held 119 = .ok (.iload 7, 2) := by decide +kernel
theorem dX12_held_121 : decode cX12_held 121 = .ok (.istore 4, 2) := by decide +kernel
theorem dX12_held_123 : decode cX12_held 123 = .ok (.iinc 7 1, 3) := by decide +kernel
theorem dX12_held_126 : decode cX12_held 126 = .ok (.goto (-90), 3) := by decide +kernel
theorem dX12_held_129 : decode cX12_held 129 = .ok (.iload 4, 2) := by decide +kernel
theorem dX12_held_131 : decode cX12_held 131 = .ok (.ireturn, 1) := by decide +kernel
theorem dX12_keepers_0 : decode cX12_keepers 0 = .ok (.iload_n 1, 1) := by decide +kernel
theorem dX12_keepers_1 : decode cX12_keepers 1 = .ok (.invokestatic 233, 3) := by decide +kernel
theorem dX12_keepers_4 : decode cX12_keepers 4 = .ok (.ifCond .eq 17, 3) := by decide +kernel
theorem dX12_keepers_7 : decode cX12_keepers 7 = .ok (.iload_n 2, 1) := by decide +kernel
theorem dX12_keepers_8 : decode cX12_keepers 8 = .ok (.invokestatic 233, 3) := by decide +kernel
theorem dX12_keepers_11 : decode cX12_keepers 11 = .ok (.ifCond .eq 10, 3) := by decide +kernel
theorem dX12_keepers_14 : decode cX12_keepers 14 = .ok (.iload_n 3, 1) := by decide +kernel
theorem dX12_keepers_15 : decode cX12_keepers 15 = .ok (.invokestatic 313, 3) := by decide +kernel
theorem dX12_keepers_18 : decode cX12_keepers 18 = .ok (.ifCond .ne 5, 3) := by decide +kernel
theorem dX12_keepers_21 : decode cX12_keepers 21 = .ok (.iconst (-1), 1) := by decide +kernel
theorem dX12_keepers_22 : decode cX12_keepers 22 = .ok (.ireturn, 1) := by decide +kernel
theorem dX12_keepers_23 : decode cX12_keepers 23 = .ok (.aload_n 0, 1) := by decide +kernel
theorem dX12_keepers_24 : decode cX12_keepers 24 = .ok (.invokevirtual 274, 3) := by decide +kernel
theorem dX12_keepers_27 : decode cX12_keepers 27 = .ok (.istore 4, 2) := by decide +kernel
theorem dX12_keepers_29 : decode cX12_keepers 29 = .ok (.iconst 0, 1) := by decide +kernel
theorem dX12_keepers_30 : decode cX12_keepers 30 = .ok (.istore 5, 2) := by decide +kernel
theorem dX12_keepers_32 : decode cX12_keepers 32 = .ok (.iload 5, 2) := by decide +kernel
theorem dX12_keepers_34 : decode cX12_keepers 34 = .ok (.aload_n 0, 1) := by decide +kernel
theorem dX12_keepers_35 : decode cX12_keepers 35 = .ok (.getfield 97, 3) := by decide +kernel
theorem dX12_keepers_38 : decode cX12_keepers 38 = .ok (.if_icmp .ge 42, 3) := by decide +kernel
theorem dX12_keepers_41 : decode cX12_keepers 41 = .ok (.iload 4, 2) := by decide +kernel
theorem dX12_keepers_43 : decode cX12_keepers 43 = .ok (.aload_n 0, 1) := by decide +kernel
theorem dX12_keepers_44 : decode cX12_keepers 44 = .ok (.iload 5, 2) := by decide +kernel
theorem dX12_keepers_46 : decode cX12_keepers 46 = .ok (.invokevirtual 258, 3) := by decide +kernel
theorem dX12_keepers_49 : decode cX12_keepers 49 = .ok (.ifCond .eq 21, 3) := by decide +kernel
theorem dX12_keepers_52 : decode cX12_keepers 52 = .ok (.aload_n 0, 1) := by decide +kernel
theorem dX12_keepers_53 : decode cX12_keepers 53 = .ok (.iload 5, 2) := by decide +kernel
theorem dX12_keepers_55 : decode cX12_keepers 55 = .ok (.invokevirtual 249, 3) := by decide +kernel
theorem dX12_keepers_58 : decode cX12_keepers 58 = .ok (.bipush 8, 2) := by decide +kernel
theorem dX12_keepers_60 : decode cX12_keepers 60 = .ok (.if_icmp .ne 10, 3) := by decide +kernel
theorem dX12_keepers_63 : decode cX12_keepers 63 = .ok (.iconst 1, 1) := by decide +kernel
theorem dX12_keepers_64 : decode cX12_keepers 64 = .ok (.iload 5, 2) := by decide +kernel
theorem dX12_keepers_66 : decode cX12_keepers 66 = .ok (.ishl, 1) := by decide +kernel
theorem dX12_keepers_67 : decode cX12_keepers 67 = .ok (.goto 4, 3) := by decide +kernel
theorem dX12_keepers_70 : decode cX12_keepers 70 = .ok (.iconst 0, 1) := by decide +kernel
theorem dX12_keepers_71 : decode cX12_keepers 71 = .ok (.ior, 1) := by decide +kernel
theorem dX12_keepers_72 : decode cX12_keepers 72 = .ok (.istore 4, 2) := by decide +kernel
theorem dX12_keepers_74 : decode cX12_keepers 74 = .ok (.iinc 5 1, 3) := by decide +kernel
theorem dX12_keepers_77 : decode cX12_keepers 77 = .ok (.goto (-45), 3) := by decide +kernel
theorem dX12_keepers_80 : decode cX12_keepers 80 = .ok (.bipush (-3), 2) := by decide +kernel
theorem dX12_keepers_82 : decode cX12_keepers 82 = .ok (.istore 5, 2) := by decide +kernel
theorem dX12_keepers_84 : decode cX12_keepers 84 = .ok (.iconst 0, 1) := by decide +kernel
theorem dX12_keepers_85 : decode cX12_keepers 85 = .ok (.istore 6, 2) := by decide +kernel
theorem dX12_keepers_87 : decode cX12_keepers 87 = .ok (.iload 6, 2) := by decide +kernel
theorem dX12_keepers_89 : decode cX12_keepers 89 = .ok (.iconst 1, 1) := by decide +kernel
theorem dX12_keepers_90 : decode cX12_keepers 90 = .ok (.aload_n 0, 1) := by decide +kernel
theorem dX12_keepers_91 : decode cX12_keepers 91 = .ok (.getfield 97, 3) := by decide +kernel
theorem dX12_keepers_94 : decode cX12_keepers 94 = .ok (.ishl, 1) := by decide +kernel
theorem dX12_keepers_95 : decode cX12_keepers 95 = .ok (.if_icmp .ge 78, 3) := by decide +kernel
theorem dX12_keepers_98 : decode cX12_keepers 98 = .ok (.iload 6, 2) := by decide +kernel
theorem dX12_keepers_100 : decode cX12_keepers 100 = .ok (.aload_n 0, 1) := by decide +kernel
theorem dX12_keepers_101 : decode cX12_keepers 101 = .ok (.getfield 103, 3) := by decide +kernel
theorem dX12_keepers_104 : decode cX12_keepers 104 = .ok (.iconst (-1), 1) := by decide +kernel
theorem dX12_keepers_105 : decode cX12_keepers 105 = .ok (.ixor, 1) := by decide +kernel
theorem dX12_keepers_106 : decode cX12_keepers 106 = .ok (.iand, 1) := by decide +kernel
theorem dX12_keepers_107 : decode cX12_keepers 107 = .ok (.ifCond .ne 25, 3) := by decide +kernel
theorem dX12_keepers_110 : decode cX12_keepers 110 = .ok (.aload_n 0, 1) := by decide +kernel
theorem dX12_keepers_111 : decode cX12_keepers 111 = .ok (.iload 4, 2) := by decide +kernel
theorem dX12_keepers_113 : decode cX12_keepers 113 = .ok (.iload 6, 2) := by decide +kernel
theorem dX12_keepers_115 : decode cX12_keepers 115 = .ok (.ior, 1) := by decide +kernel
theorem dX12_keepers_116 : decode cX12_keepers 116 = .ok (.iload_n 1, 1) := by decide +kernel
theorem dX12_keepers_117 : decode cX12_keepers 117 = .ok (.invokevirtual 292, 3) := by decide +kernel
theorem dX12_keepers_120 : decode cX12_keepers 120 = .ok (.iload_n 2, 1) := by decide +kernel
theorem dX12_keepers_121 : decode cX12_keepers 121 = .ok (.ishr, 1) := by decide +kernel
theorem dX12_keepers_122 : decode cX12_keepers 122 = .ok (.iconst 1, 1) := by decide +kernel
theorem dX12_keepers_123 : decode cX12_keepers 123 = .ok (.iand, 1) := by decide +kernel
theorem dX12_keepers_124 : decode cX12_keepers 124 = .ok (.iconst 1, 1) := by decide +kernel
theorem dX12_keepers_125 : decode cX12_keepers 125 = .ok (.if_icmp .ne 7, 3) := by decide +kernel
theorem dX12_keepers_128 : decode cX12_keepers 128 = .ok (.iconst 1, 1) := by decide +kernel
theorem dX12_keepers_129 : decode cX12_keepers 129 = .ok (.goto 4, 3) := by decide +kernel
theorem dX12_keepers_132 : decode cX12_keepers 132 = .ok (.iconst 0, 1) := by decide +kernel
theorem dX12_keepers_133 : decode cX12_keepers 133 = .ok (.istore 7, 2) := by decide +kernel
theorem dX12_keepers_135 : decode cX12_keepers 135 = .ok (.iload 7, 2) := by decide +kernel
theorem dX12_keepers_137 : decode cX12_keepers 137 = .ok (.ifCond .eq 26, 3) := by decide +kernel
theorem dX12_keepers_140 : decode cX12_keepers 140 = .ok (.iload 5, 2) := by decide +kernel
theorem dX12_keepers_142 : decode cX12_keepers 142 = .ok (.ifCond .lt 16, 3) := by decide +kernel
theorem dX12_keepers_145 : decode cX12_keepers 145 = .ok (.iload 6, 2) := by decide +kernel
theorem dX12_keepers_147 : decode cX12_keepers 147 = .ok (.invokestatic 270, 3) := by decide +kernel
theorem dX12_keepers_150 : decode cX12_keepers 150 = .ok (.iload 5, 2) := by decide +kernel
theorem dX12_keepers_152 : decode cX12_keepers 152 = .ok (.invokestatic 270, 3) := by decide +kernel
theorem dX12_keepers_155 : decode cX12_keepers 155 = .ok (.if_icmp .ge 8, 3) := by decide +kernel
theorem dX12_keepers_158 : decode cX12_keepers 158 = .ok (.iload 6, 2) := by decide +kernel
theorem dX12_keepers_160 : decode cX12_keepers 160 = .ok (.goto 5, 3) := by decide +kernel
theorem dX12_keepers_163 : decode cX12_keepers 163 = .ok (.iload 5, 2) := by decide +kernel
theorem dX12_keepers_165 : decode cX12_keepers 165 = .ok (.istore 5, 2) := by decide +kernel
theorem dX12_keepers_167 : decode cX12_keepers 167 = .ok (.iinc 6 1, 3) := by decide +kernel
theorem dX12_keepers_170 : decode cX12_keepers 170 = .ok (.goto (-83), 3) := by decide +kernel
theorem dX12_keepers_173 : decode cX12_keepers 173 = .ok (.iload 5, 2) := by decide +kernel
theorem dX12_keepers_175 : decode cX12_keepers 175 = .ok (.ifCond .lt 8, 3) := by decide +kernel
theorem dX12_keepers_178 : decode cX12_keepers 178 = .ok (.iload_n 3, 1) := by decide +kernel
theorem dX12_keepers_179 : decode cX12_keepers 179 = .ok (.iconst 1, 1) := by decide +kernel
theorem dX12_keepers_180 : decode cX12_keepers 180 = .ok (.if_icmp .ne 8, 3) := by decide +kernel
theorem dX12_keepers_183 : decode cX12_keepers 183 = .ok (.iload 5, 2) := by decide +kernel
theorem dX12_keepers_185 : decode cX12_keepers 185 = .ok (.goto 8, 3) := by decide +kernel
theorem dX12_keepers_188 : decode cX12_keepers 188 = .ok (.iload 5, 2) := by decide +kernel
theorem dX12_keepers_190 : decode cX12_keepers 190 = .ok (.invokestatic 270, 3) := by decide +kernel
theorem dX12_keepers_193 : decode cX12_keepers 193 = .ok (.ireturn, 1) := by decide +kernel
theorem dX12_home_0 : decode cX12_home 0 = .ok (.iload_n 1, 1) := by decide +kernel
theorem dX12_home_1 : decode cX12_home 1 = .ok (.invokestatic 233, 3) := by decide +kernel
theorem dX12_home_4 : decode cX12_home 4 = .ok (.ifCond .eq 13, 3) := by decide +kernel
theorem dX12_home_7 : decode cX12_home 7 = .ok (.iload_n 2, 1) := by decide +kernel
theorem dX12_home_8 : decode cX12_home 8 = .ok (.iconst 0, 1) := by decide +kernel
theorem dX12_home_9 : decode cX12_home 9 = .ok (.bipush 8, 2) := by decide +kernel
theorem dX12_home_11 : decode cX12_home 11 = .ok (.invokestatic 93, 3) := by decide +kernel
theorem dX12_home_14 : decode cX12_home 14 = .ok (.ifCond .ne 5, 3) := by decide +kernel
theorem dX12_home_17 : decode cX12_home 17 = .ok (.iconst (-1), 1) := by decide +kernel
theorem dX12_home_18 : decode cX12_home 18 = .ok (.ireturn, 1) := by decide +kernel
theorem dX12_home_19 : decode cX12_home 19 = .ok (.iconst 0, 1) := by decide +kernel
theorem dX12_home_20 : decode cX12_home 20 = .ok (.istore_n 3, 1) := by decide +kernel
theorem dX12_home_21 : decode cX12_home 21 = .ok (.iconst 0, 1) := by decide +kernel
theorem dX12_home_22 : decode cX12_home 22 = .ok (.istore 4, 2) := by decide +kernel
theorem dX12_home_24 : decode cX12_home 24 = .ok (.iload 4, 2) := by decide +kernel
theorem dX12_home_26 : decode cX12_home 26 = .ok (.bipush 8, 2) := by decide +kernel
theorem dX12_home_28 : decode cX12_home 28 = .ok (.if_icmp .ge 42, 3) := by decide +kernel
theorem dX12_home_31 : decode cX12_home 31 = .ok (.iload_n 3, 1) := by decide +kernel
theorem dX12_home_32 : decode cX12_home 32 = .ok (.aload_n 0, 1) := by decide +kernel
theorem dX12_home_33 : decode cX12_home 33 = .ok (.iload 4, 2) := by decide +kernel
theorem dX12_home_35 : decode cX12_home 35 = .ok (.iload_n 1, 1) := by decide +kernel
theorem dX12_home_36 : decode cX12_home 36 = .ok (.invokevirtual 316, 3) := by decide +kernel
theorem dX12_home_39 : decode cX12_home 39 = .ok (.ldc2_w 328, 3) := by decide +kernel
theorem dX12_home_42 : decode cX12_home 42 = .ok (.lmul, 1) := by decide +kernel
theorem dX12_home_43 : decode cX12_home 43 = .ok (.iload_n 2, 1) := by decide +kernel
theorem dX12_home_44 : decode cX12_home 44 = .ok (.i2l, 1) := by decide +kernel
theorem dX12_home_45 : decode cX12_home 45 = .ok (.aload_n 0, 1) := by decide +kernel
theorem dX12_home_46 : decode cX12_home 46 = .ok (.invokevirtual 320, 3) := by decide +kernel
theorem dX12_home_49 : decode cX12_home 49 = .ok (.lmul, 1) := by decide +kernel
theorem dX12_home_50 : decode cX12_home 50 = .ok (.lcmp, 1) := by decide +kernel
theorem dX12_home_51 : decode cX12_home 51 = .ok (.ifCond .lt 10, 3) := by decide +kernel
theorem dX12_home_54 : decode cX12_home 54 = .ok (.iconst 1, 1) := by decide +kernel
theorem dX12_home_55 : decode cX12_home 55 = .ok (.iload 4, 2) := by decide +kernel
theorem dX12_home_57 : decode cX12_home 57 = .ok (.ishl, 1) := by decide +kernel
theorem dX12_home_58 : decode cX12_home 58 = .ok (.goto 4, 3) := by decide +kernel
theorem dX12_home_61 : decode cX12_home 61 = .ok (.iconst 0, 1) := by decide +kernel
theorem dX12_home_62 : decode cX12_home 62 = .ok (.ior, 1) := by decide +kernel
theorem dX12_home_63 : decode cX12_home 63 = .ok (.istore_n 3, 1) := by decide +kernel
theorem dX12_home_64 : decode cX12_home 64 = .ok (.iinc 4 1, 3) := by decide +kernel
theorem dX12_home_67 : decode cX12_home 67 = .ok (.goto (-43), 3) := by decide +kernel
theorem dX12_home_70 : decode cX12_home 70 = .ok (.iload_n 3, 1) := by decide +kernel
theorem dX12_home_71 : decode cX12_home 71 = .ok (.ireturn, 1) := by decide +kernel
theorem dX12_findWins_0 : decode cX12_findWins 0 = .ok (.aload_n 0, 1) := by decide +kernel
theorem dX12_findWins_1 : decode cX12_findWins 1 = .ok (.iload_n 1, 1) := by decide +kernel
theorem dX12_findWins_2 : decode cX12_findWins 2 = .ok (.aload_n 0, 1) := by decide +kernel
theorem dX12_findWins_3 : decode cX12_findWins 3 = .ok (.invokevirtual 274, 3) := by decide +kernel
theorem dX12_findWins_6 : decode cX12_findWins 6 = .ok (.invokevirtual 301, 3) := by decide +kernel
theorem dX12_findWins_9 : decode cX12_findWins 9 = .ok (.iconst 0, 1) := by decide +kernel
theorem dX12_findWins_10 : decode cX12_findWins 10 = .ok (.istore_n 2, 1) := by decide +kernel
theorem dX12_findWins_11 : decode cX12_findWins 11 = .ok (.iload_n 2, 1) := by decide +kernel
theorem dX12_findWins_12 : decode cX12_findWins 12 = .ok (.bipush 8, 2) := by decide +kernel
theorem dX12_findWins_14 : decode cX12_findWins 14 = .ok (.if_icmp .ge 16, 3) := by decide +kernel
theorem dX12_findWins_17 : decode cX12_findWins 17 = .ok (.aload_n 0, 1) := by decide +kernel
theorem dX12_findWins_18 : decode cX12_findWins 18 = .ok (.getfield 53, 3) := by decide +kernel
theorem dX12_findWins_21 : decode cX12_findWins 21 = .ok (.iload_n 2, 1) := by decide +kernel
theorem dX12_findWins_22 : decode cX12_findWins 22 = .ok (.lconst 0, 1) := by decide +kernel
theorem dX12_findWins_23 : decode cX12_findWins 23 = .ok (.lastore, 1) := by decide +kernel
theorem dX12_findWins_24 : decode cX12_findWins 24 = .ok (.iinc 2 1, 3) := by decide +kernel
theorem dX12_findWins_27 : decode cX12_findWins 27 = .ok (.goto (-16), 3) := by decide +kernel
theorem dX12_findWins_30 : decode cX12_findWins 30 = .ok (.iconst 0, 1) := by decide +kernel
theorem dX12_findWins_31 : decode cX12_findWins 31 = .ok (.istore_n 2, 1) := by decide +kernel
theorem dX12_findWins_32 : decode cX12_findWins 32 = .ok (.iload_n 2, 1) := by decide +kernel
theorem dX12_findWins_33 : decode cX12_findWins 33 = .ok (.iconst 1, 1) := by decide +kernel
theorem dX12_findWins_34 : decode cX12_findWins 34 = .ok (.aload_n 0, 1) := by decide +kernel
theorem dX12_findWins_35 : decode cX12_findWins 35 = .ok (.getfield 97, 3) := by decide +kernel
theorem dX12_findWins_38 : decode cX12_findWins 38 = .ok (.ishl, 1) := by decide +kernel
theorem dX12_findWins_39 : decode cX12_findWins 39 = .ok (.if_icmp .ge 67, 3) := by decide +kernel
theorem dX12_findWins_42 : decode cX12_findWins 42 = .ok (.aload_n 0, 1) := by decide +kernel
theorem dX12_findWins_43 : decode cX12_findWins 43 = .ok (.iload_n 2, 1) := by decide +kernel
theorem dX12_findWins_44 : decode cX12_findWins 44 = .ok (.invokevirtual 305, 3) := by decide +kernel
theorem dX12_findWins_47 : decode cX12_findWins 47 = .ok (.lstore_n 3, 1) := by decide +kernel
theorem dX12_findWins_48 : decode cX12_findWins 48 = .ok (.iconst 0, 1) := by decide +kernel
theorem dX12_findWins_49 : decode cX12_findWins 49 = .ok (.istore 5, 2) := by decide +kernel
theorem dX12_findWins_51 : decode cX12_findWins 51 = .ok (.iload 5, 2) := by decide +kernel
theorem dX12_findWins_53 : decode cX12_findWins 53 = .ok (.bipush 8, 2) := by decide +kernel
theorem dX12_findWins_55 : decode cX12_findWins 55 = .ok (.if_icmp .ge 45, 3) := by decide +kernel
theorem dX12_findWins_58 : decode cX12_findWins 58 = .ok (.lload_n 3, 1) := by decide +kernel
theorem dX12_findWins_59 : decode cX12_findWins 59 = .ok (.lconst 0, 1) := by decide +kernel
theorem dX12_findWins_60 : decode cX12_findWins 60 = .ok (.lcmp, 1) := by decide +kernel
theorem dX12_findWins_61 : decode cX12_findWins 61 = .ok (.ifCond .le 39, 3) := by decide +kernel
theorem dX12_findWins_64 : decode cX12_findWins 64 = .ok (.aload_n 0, 1) := by decide +kernel
theorem dX12_findWins_65 : decode cX12_findWins 65 = .ok (.getfield 53, 3) := by decide +kernel
theorem dX12_findWins_68 : decode cX12_findWins 68 = .ok (.iload 5, 2) := by decide +kernel
theorem dX12_findWins_70 : decode cX12_findWins 70 = .ok (.dup2, 1) := by decide +kernel
theorem dX12_findWins_71 : decode cX12_findWins 71 = .ok (.laload, 1) := by decide +kernel
theorem dX12_findWins_72 : decode cX12_findWins 72 = .ok (.aload_n 0, 1) := by decide +kernel
theorem dX12_findWins_73 : decode cX12_findWins 73 = .ok (.getfield 50, 3) := by decide +kernel
theorem dX12_findWins_76 : decode cX12_findWins 76 = .ok (.iload_n 2, 1) := by decide +kernel
theorem dX12_findWins_77 : decode cX12_findWins 77 = .ok (.iaload, 1) := by decide +kernel
theorem dX12_findWins_78 : decode cX12_findWins 78 = .ok (.iload 5, 2) := by decide +kernel
theorem dX12_findWins_80 : decode cX12_findWins 80 = .ok (.ishr, 1) := by decide +kernel
theorem dX12_findWins_81 : decode cX12_findWins 81 = .ok (.iconst 1, 1) := by decide +kernel
theorem dX12_findWins_82 : decode cX12_findWins 82 = .ok (.iand, 1) := by decide +kernel
theorem dX12_findWins_83 : decode cX12_findWins 83 = .ok (.iconst 1, 1) := by decide +kernel
theorem dX12_findWins_84 : decode cX12_findWins 84 = .ok (.if_icmp .ne 7, 3) := by decide +kernel
theorem dX12_findWins_87 : decode cX12_findWins 87 = .ok (.lload_n 3, 1) := by decide +kernel
theorem dX12_findWins_88 : decode cX12_findWins 88 = .ok (.goto 4, 3) := by decide +kernel
theorem dX12_findWins_91 : decode cX12_findWins 91 = .ok (.lconst 0, 1) := by decide +kernel
theorem dX12_findWins_92 : decode cX12_findWins 92 = .ok (.ladd, 1) := by decide +kernel
theorem dX12_findWins_93 : decode cX12_findWins 93 = .ok (.lastore, 1) := by decide +kernel
theorem dX12_findWins_94 : decode cX12_findWins 94 = .ok (.iinc 5 1, 3) := by decide +kernel
theorem dX12_findWins_97 : decode cX12_findWins 97 = .ok (.goto (-46), 3) := by decide +kernel
theorem dX12_findWins_100 : decode cX12_findWins 100 = .ok (.iinc 2 1, 3) := by decide +kernel
theorem dX12_findWins_103 : decode cX12_findWins 103 = .ok (.goto (-71), 3) := by decide +kernel
theorem dX12_findWins_106 : decode cX12_findWins 106 = .ok (.return_, 1) := by decide +kernel
theorem dX12_mostOf_0 : decode cX12_mostOf 0 = .ok (.lconst 0, 1) := by decide +kernel
theorem dX12_mostOf_1 : decode cX12_mostOf 1 = .ok (.lstore_n 2, 1) := by decide +kernel
theorem dX12_mostOf_2 : decode cX12_mostOf 2 = .ok (.iconst 0, 1) := by decide +kernel
theorem dX12_mostOf_3 : decode cX12_mostOf 3 = .ok (.istore 4, 2) := by decide +kernel
theorem dX12_mostOf_5 : decode cX12_mostOf 5 = .ok (.iload 4, 2) := by decide +kernel
theorem dX12_mostOf_7 : decode cX12_mostOf 7 = .ok (.bipush 8, 2) := by decide +kernel
theorem dX12_mostOf_9 : decode cX12_mostOf 9 = .ok (.if_icmp .ge 43, 3) := by decide +kernel
theorem dX12_mostOf_12 : decode cX12_mostOf 12 = .ok (.iload_n 1, 1) := by decide +kernel
theorem dX12_mostOf_13 : decode cX12_mostOf 13 = .ok (.iload 4, 2) := by decide +kernel
theorem dX12_mostOf_15 : decode cX12_mostOf 15 = .ok (.ishr, 1) := by decide +kernel
theorem dX12_mostOf_16 : decode cX12_mostOf 16 = .ok (.iconst 1, 1) := by decide +kernel
theorem dX12_mostOf_17 : decode cX12_mostOf 17 = .ok (.iand, 1) := by decide +kernel
theorem dX12_mostOf_18 : decode cX12_mostOf 18 = .ok (.iconst 1, 1) := by decide +kernel
theorem dX12_mostOf_19 : decode cX12_mostOf 19 = .ok (.if_icmp .ne 25, 3) := by decide +kernel
theorem dX12_mostOf_22 : decode cX12_mostOf 22 = .ok (.aload_n 0, 1) := by decide +kernel
theorem dX12_mostOf_23 : decode cX12_mostOf 23 = .ok (.getfield 53, 3) := by decide +kernel
theorem dX12_mostOf_26 : decode cX12_mostOf 26 = .ok (.iload 4, 2) := by decide +kernel
theorem dX12_mostOf_28 : decode cX12_mostOf 28 = .ok (.laload, 1) := by decide +kernel
theorem dX12_mostOf_29 : decode cX12_mostOf 29 = .ok (.lload_n 2, 1) := by decide +kernel
theorem dX12_mostOf_30 : decode cX12_mostOf 30 = .ok (.lcmp, 1) := by decide +kernel
theorem dX12_mostOf_31 : decode cX12_mostOf 31 = .ok (.ifCond .le 13, 3) := by decide +kernel
theorem dX12_mostOf_34 : decode cX12_mostOf 34 = .ok (.aload_n 0, 1) := by decide +kernel
theorem dX12_mostOf_35 : decode cX12_mostOf 35 = .ok (.getfield 53, 3) := by decide +kernel
theorem dX12_mostOf_38 : decode cX12_mostOf 38 = .ok (.iload 4, 2) := by decide +kernel
theorem dX12_mostOf_40 : decode cX12_mostOf 40 = .ok (.laload, 1) := by decide +kernel
theorem dX12_mostOf_41 : decode cX12_mostOf 41 = .ok (.goto 4, 3) := by decide +kernel
theorem dX12_mostOf_44 : decode cX12_mostOf 44 = .ok (.lload_n 2, 1) := by decide +kernel
theorem dX12_mostOf_45 : decode cX12_mostOf 45 = .ok (.lstore_n 2, 1) := by decide +kernel
theorem dX12_mostOf_46 : decode cX12_mostOf 46 = .ok (.iinc 4 1, 3) := by decide +kernel
theorem dX12_mostOf_49 : decode cX12_mostOf 49 = .ok (.goto (-44), 3) := by decide +kernel
theorem dX12_mostOf_52 : decode cX12_mostOf 52 = .ok (.lload_n 2, 1) := by decide +kernel
theorem dX12_mostOf_53 : decode cX12_mostOf 53 = .ok (.lreturn, 1) := by decide +kernel
theorem dX12_withinTwo_0 : decode cX12_withinTwo 0 = .ok (.iconst 0, 1) := by decide +kernel
theorem dX12_withinTwo_1 : decode cX12_withinTwo 1 = .ok (.istore_n 2, 1) := by decide +kernel
theorem dX12_withinTwo_2 : decode cX12_withinTwo 2 = .ok (.iload_n 2, 1) := by decide +kernel
theorem dX12_withinTwo_3 : decode cX12_withinTwo 3 = .ok (.bipush 8, 2) := by decide +kernel
theorem dX12_withinTwo_5 : decode cX12_withinTwo 5 = .ok (.if_icmp .ge 16, 3) := by decide +kernel
theorem dX12_withinTwo_8 : decode cX12_withinTwo 8 = .ok (.aload_n 0, 1) := by decide +kernel
theorem dX12_withinTwo_9 : decode cX12_withinTwo 9 = .ok (.getfield 57, 3) := by decide +kernel
theorem dX12_withinTwo_12 : decode cX12_withinTwo 12 = .ok (.iload_n 2, 1) := by decide +kernel
theorem dX12_withinTwo_13 : decode cX12_withinTwo 13 = .ok (.lconst 0, 1) := by decide +kernel
theorem dX12_withinTwo_14 : decode cX12_withinTwo 14 = .ok (.lastore, 1) := by decide +kernel
theorem dX12_withinTwo_15 : decode cX12_withinTwo 15 = .ok (.iinc 2 1, 3) := by decide +kernel
theorem dX12_withinTwo_18 : decode cX12_withinTwo 18 = .ok (.goto (-16), 3) := by decide +kernel
theorem dX12_withinTwo_21 : decode cX12_withinTwo 21 = .ok (.iconst 0, 1) := by decide +kernel
theorem dX12_withinTwo_22 : decode cX12_withinTwo 22 = .ok (.istore_n 2, 1) := by decide +kernel
theorem dX12_withinTwo_23 : decode cX12_withinTwo 23 = .ok (.iload_n 2, 1) := by decide +kernel
theorem dX12_withinTwo_24 : decode cX12_withinTwo 24 = .ok (.iconst 1, 1) := by decide +kernel
theorem dX12_withinTwo_25 : decode cX12_withinTwo 25 = .ok (.aload_n 0, 1) := by decide +kernel
theorem dX12_withinTwo_26 : decode cX12_withinTwo 26 = .ok (.getfield 97, 3) := by decide +kernel
theorem dX12_withinTwo_29 : decode cX12_withinTwo 29 = .ok (.ishl, 1) := by decide +kernel
theorem dX12_withinTwo_30 : decode cX12_withinTwo 30 = .ok (.if_icmp .ge 102, 3) := by decide +kernel
theorem dX12_withinTwo_33 : decode cX12_withinTwo 33 = .ok (.aload_n 0, 1) := by decide +kernel
theorem dX12_withinTwo_34 : decode cX12_withinTwo 34 = .ok (.aload_n 0, 1) := by decide +kernel
theorem dX12_withinTwo_35 : decode cX12_withinTwo 35 = .ok (.getfield 103, 3) := by decide +kernel
theorem dX12_withinTwo_38 : decode cX12_withinTwo 38 = .ok (.aload_n 0, 1) := by decide +kernel
theorem dX12_withinTwo_39 : decode cX12_withinTwo 39 = .ok (.invokevirtual 274, 3) := by decide +kernel
theorem dX12_withinTwo_42 : decode cX12_withinTwo 42 = .ok (.invokevirtual 301, 3) := by decide +kernel
theorem dX12_withinTwo_45 : decode cX12_withinTwo 45 = .ok (.aload_n 0, 1) := by decide +kernel
theorem dX12_withinTwo_46 : decode cX12_withinTwo 46 = .ok (.iload_n 2, 1) := by decide +kernel
theorem dX12_withinTwo_47 : decode cX12_withinTwo 47 = .ok (.invokevirtual 305, 3) := by decide +kernel
theorem dX12_withinTwo_50 : decode cX12_withinTwo 50 = .ok (.lstore_n 3, 1) := by decide +kernel
theorem dX12_withinTwo_51 : decode cX12_withinTwo 51 = .ok (.lload_n 3, 1) := by decide +kernel
theorem dX12_withinTwo_52 : decode cX12_withinTwo 52 = .ok (.lconst 0, 1) := by decide +kernel
theorem dX12_withinTwo_53 : decode cX12_withinTwo 53 = .ok (.lcmp, 1) := by decide +kernel
theorem dX12_withinTwo_54 : decode cX12_withinTwo 54 = .ok (.ifCond .ne 6, 3) := by decide +kernel
theorem dX12_withinTwo_57 : decode cX12_withinTwo 57 = .ok (.goto 69, 3) := by decide +kernel
theorem dX12_withinTwo_60 : decode cX12_withinTwo 60 = .ok (.aload_n 0, 1) := by decide +kernel
theorem dX12_withinTwo_61 : decode cX12_withinTwo 61 = .ok (.iload_n 2, 1) := by decide +kernel
theorem dX12_withinTwo_62 : decode cX12_withinTwo 62 = .ok (.invokevirtual 330, 3) := by decide +kernel
theorem dX12_withinTwo_65 : decode cX12_withinTwo 65 = .ok (.iconst 0, 1) := by decide +kernel
theorem dX12_withinTwo_66 : decode cX12_withinTwo 66 = .ok (.istore 5, 2) := by decide +kernel
theorem dX12_withinTwo_68 : decode cX12_withinTwo 68 = .ok (.iload 5, 2) := by decide +kernel
theorem dX12_withinTwo_70 : decode cX12_withinTwo 70 = .ok (.bipush 8, 2) := by decide +kernel
theorem dX12_withinTwo_72 : decode cX12_withinTwo 72 = .ok (.if_icmp .ge 54, 3) := by decide +kernel
theorem dX12_withinTwo_75 : decode cX12_withinTwo 75 = .ok (.aload_n 0, 1) := by decide +kernel
theorem dX12_withinTwo_76 : decode cX12_withinTwo 76 = .ok (.getfield 57, 3) := by decide +kernel
theorem dX12_withinTwo_79 : decode cX12_withinTwo 79 = .ok (.iload 5, 2) := by decide +kernel
theorem dX12_withinTwo_81 : decode cX12_withinTwo 81 = .ok (.dup2, 1) := by decide +kernel
theorem dX12_withinTwo_82 : decode cX12_withinTwo 82 = .ok (.laload, 1) := by decide +kernel
theorem dX12_withinTwo_83 : decode cX12_withinTwo 83 = .ok (.lload_n 3, 1) := by decide +kernel
theorem dX12_withinTwo_84 : decode cX12_withinTwo 84 = .ok (.aload_n 0, 1) := by decide +kernel
theorem dX12_withinTwo_85 : decode cX12_withinTwo 85 = .ok (.getfield 50, 3) := by decide +kernel
theorem dX12_withinTwo_88 : decode cX12_withinTwo 88 = .ok (.iload_n 2, 1) := by decide +kernel
theorem dX12_withinTwo_89 : decode cX12_withinTwo 89 = .ok (.iaload, 1) := by decide +kernel
theorem dX12_withinTwo_90 : decode cX12_withinTwo 90 = .ok (.iload 5, 2) := by decide +kernel
theorem dX12_withinTwo_92 : decode cX12_withinTwo 92 = .ok (.ishr, 1) := by decide +kernel
theorem dX12_withinTwo_93 : decode cX12_withinTwo 93 = .ok (.iconst 1, 1) := by decide +kernel
theorem dX12_withinTwo_94 : decode cX12_withinTwo 94 = .ok (.iand, 1) := by decide +kernel
theorem dX12_withinTwo_95 : decode cX12_withinTwo 95 = .ok (.iconst 1, 1) := by decide +kernel
theorem dX12_withinTwo_96 : decode cX12_withinTwo 96 = .ok (.if_icmp .ne 10, 3) := by decide +kernel
theorem dX12_withinTwo_99 : decode cX12_withinTwo 99 = .ok (.aload_n 0, 1) := by decide +kernel
theorem dX12_withinTwo_100 : decode cX12_withinTwo 100 = .ok (.invokevirtual 320, 3) := by decide +kernel
theorem dX12_withinTwo_103 : decode cX12_withinTwo 103 = .ok (.goto 14, 3) := by decide +kernel
theorem dX12_withinTwo_106 : decode cX12_withinTwo 106 = .ok (.aload_n 0, 1) := by decide +kernel
theorem dX12_withinTwo_107 : decode cX12_withinTwo 107 = .ok (.aload_n 0, 1) := by decide +kernel
theorem dX12_withinTwo_108 : decode cX12_withinTwo 108 = .ok (.iload_n 2, 1) := by decide +kernel
theorem dX12_withinTwo_109 : decode cX12_withinTwo 109 = .ok (.iload 5, 2) := by decide +kernel
theorem dX12_withinTwo_111 : decode cX12_withinTwo 111 = .ok (.invokevirtual 292, 3) := by decide +kernel
theorem dX12_withinTwo_114 : decode cX12_withinTwo 114 = .ok (.invokevirtual 333, 3) := by decide +kernel
theorem dX12_withinTwo_117 : decode cX12_withinTwo 117 = .ok (.lmul, 1) := by decide +kernel
theorem dX12_withinTwo_118 : decode cX12_withinTwo 118 = .ok (.ladd, 1) := by decide +kernel
theorem dX12_withinTwo_119 : decode cX12_withinTwo 119 = .ok (.lastore, 1) := by decide +kernel
theorem dX12_withinTwo_120 : decode cX12_withinTwo 120 = .ok (.iinc 5 1, 3) := by decide +kernel
theorem dX12_withinTwo_123 : decode cX12_withinTwo 123 = .ok (.goto (-55), 3) := by decide +kernel
theorem dX12_withinTwo_126 : decode cX12_withinTwo 126 = .ok (.iinc 2 1, 3) := by decide +kernel
theorem dX12_withinTwo_129 : decode cX12_withinTwo 129 = .ok (.goto (-106), 3) := by decide +kernel
theorem dX12_withinTwo_132 : decode cX12_withinTwo 132 = .ok (.lconst 0, 1) := by decide +kernel
theorem dX12_withinTwo_133 : decode cX12_withinTwo 133 = .ok (.lstore_n 2, 1) := by decide +kernel
theorem dX12_withinTwo_134 : decode cX12_withinTwo 134 = .ok (.iconst 0, 1) := by decide +kernel
theorem dX12_withinTwo_135 : decode cX12_withinTwo 135 = .ok (.istore 4, 2) := by decide +kernel
theorem dX12_withinTwo_137 : decode cX12_withinTwo 137 = .ok (.iload 4, 2) := by decide +kernel
theorem dX12_withinTwo_139 : decode cX12_withinTwo 139 = .ok (.bipush 8, 2) := by decide +kernel
theorem dX12_withinTwo_141 : decode cX12_withinTwo 141 = .ok (.if_icmp .ge 51, 3) := by decide +kernel
theorem dX12_withinTwo_144 : decode cX12_withinTwo 144 = .ok (.aload_n 0, 1) := by decide +kernel
theorem dX12_withinTwo_145 : decode cX12_withinTwo 145 = .ok (.aload_n 0, 1) := by decide +kernel
theorem dX12_withinTwo_146 : decode cX12_withinTwo 146 = .ok (.getfield 103, 3) := by decide +kernel
theorem dX12_withinTwo_149 : decode cX12_withinTwo 149 = .ok (.iload_n 1, 1) := by decide +kernel
theorem dX12_withinTwo_150 : decode cX12_withinTwo 150 = .ok (.invokevirtual 292, 3) := by decide +kernel
theorem dX12_withinTwo_153 : decode cX12_withinTwo 153 = .ok (.iload 4, 2) := by decide +kernel
theorem dX12_withinTwo_155 : decode cX12_withinTwo 155 = .ok (.ishr, 1) := by decide +kernel
theorem dX12_withinTwo_156 : decode cX12_withinTwo 156 = .ok (.iconst 1, 1) := by decide +kernel
theorem dX12_withinTwo_157 : decode cX12_withinTwo 157 = .ok (.iand, 1) := by decide +kernel
theorem dX12_withinTwo_158 : decode cX12_withinTwo 158 = .ok (.iconst 1, 1) := by decide +kernel
theorem dX12_withinTwo_159 : decode cX12_withinTwo 159 = .ok (.if_icmp .ne 25, 3) := by decide +kernel
theorem dX12_withinTwo_162 : decode cX12_withinTwo 162 = .ok (.aload_n 0, 1) := by decide +kernel
theorem dX12_withinTwo_163 : decode cX12_withinTwo 163 = .ok (.getfield 57, 3) := by decide +kernel
theorem dX12_withinTwo_166 : decode cX12_withinTwo 166 = .ok (.iload 4, 2) := by decide +kernel
theorem dX12_withinTwo_168 : decode cX12_withinTwo 168 = .ok (.laload, 1) := by decide +kernel
theorem dX12_withinTwo_169 : decode cX12_withinTwo 169 = .ok (.lload_n 2, 1) := by decide +kernel
theorem dX12_withinTwo_170 : decode cX12_withinTwo 170 = .ok (.lcmp, 1) := by decide +kernel
theorem dX12_withinTwo_171 : decode cX12_withinTwo 171 = .ok (.ifCond .le 13, 3) := by decide +kernel
theorem dX12_withinTwo_174 : decode cX12_withinTwo 174 = .ok (.aload_n 0, 1) := by decide +kernel
theorem dX12_withinTwo_175 : decode cX12_withinTwo 175 = .ok (.getfield 57, 3) := by decide +kernel
theorem dX12_withinTwo_178 : decode cX12_withinTwo 178 = .ok (.iload 4, 2) := by decide +kernel
theorem dX12_withinTwo_180 : decode cX12_withinTwo 180 = .ok (.laload, 1) := by decide +kernel
theorem dX12_withinTwo_181 : decode cX12_withinTwo 181 = .ok (.goto 4, 3) := by decide +kernel
theorem dX12_withinTwo_184 : decode cX12_withinTwo 184 = .ok (.lload_n 2, 1) := by decide +kernel
theorem dX12_withinTwo_185 : decode cX12_withinTwo 185 = .ok (.lstore_n 2, 1) := by decide +kernel
theorem dX12_withinTwo_186 : decode cX12_withinTwo 186 = .ok (.iinc 4 1, 3) := by decide +kernel
theorem dX12_withinTwo_189 : decode cX12_withinTwo 189 = .ok (.goto (-52), 3) := by decide +kernel
theorem dX12_withinTwo_192 : decode cX12_withinTwo 192 = .ok (.lload_n 2, 1) := by decide +kernel
theorem dX12_withinTwo_193 : decode cX12_withinTwo 193 = .ok (.lreturn, 1) := by decide +kernel
theorem dX12_within_0 : decode cX12_within 0 = .ok (.iload_n 1, 1) := by decide +kernel
theorem dX12_within_1 : decode cX12_within 1 = .ok (.invokestatic 233, 3) := by decide +kernel
theorem dX12_within_4 : decode cX12_within 4 = .ok (.ifCond .eq 27, 3) := by decide +kernel
theorem dX12_within_7 : decode cX12_within 7 = .ok (.iload_n 2, 1) := by decide +kernel
theorem dX12_within_8 : decode cX12_within 8 = .ok (.invokestatic 233, 3) := by decide +kernel
theorem dX12_within_11 : decode cX12_within 11 = .ok (.ifCond .eq 20, 3) := by decide +kernel
theorem dX12_within_14 : decode cX12_within 14 = .ok (.iload_n 3, 1) := by decide +kernel
theorem dX12_within_15 : decode cX12_within 15 = .ok (.iconst 0, 1) := by decide +kernel
theorem dX12_within_16 : decode cX12_within 16 = .ok (.iconst 2, 1) := by decide +kernel
theorem dX12_within_17 : decode cX12_within 17 = .ok (.invokestatic 93, 3) := by decide +kernel
theorem dX12_within_20 : decode cX12_within 20 = .ok (.ifCond .eq 11, 3) := by decide +kernel
theorem dX12_within_23 : decode cX12_within 23 = .ok (.iload 4, 2) := by decide +kernel
theorem dX12_within_25 : decode cX12_within 25 = .ok (.invokestatic 313, 3) := by decide +kernel
theorem dX12_within_28 : decode cX12_within 28 = .ok (.ifCond .ne 7, 3) := by decide +kernel
theorem dX12_within_31 : decode cX12_within 31 = .ok (.ldc2_w 146, 3) := by decide +kernel
theorem dX12_within_34 : decode cX12_within 34 = .ok (.lreturn, 1) := by decide +kernel
theorem dX12_within_35 : decode cX12_within 35 = .ok (.iconst 0, 1) := by decide +kernel
theorem dX12_within_36 : decode cX12_within 36 = .ok (.istore 5, 2) := by decide +kernel
theorem dX12_within_38 : decode cX12_within 38 = .ok (.iload 5, 2) := by decide +kernel
theorem dX12_within_40 : decode cX12_within 40 = .ok (.iconst 1, 1) := by decide +kernel
theorem dX12_within_41 : decode cX12_within 41 = .ok (.aload_n 0, 1) := by decide +kernel
theorem dX12_within_42 : decode cX12_within 42 = .ok (.getfield 97, 3) := by decide +kernel
theorem dX12_within_45 : decode cX12_within 45 = .ok (.ishl, 1) := by decide +kernel
theorem dX12_within_46 : decode cX12_within 46 = .ok (.if_icmp .ge 23, 3) := by decide +kernel
theorem dX12_within_49 : decode cX12_within 49 = .ok (.aload_n 0, 1) := by decide +kernel
theorem dX12_within_50 : decode cX12_within 50 = .ok (.getfield 50, 3) := by decide +kernel
theorem dX12_within_53 : decode cX12_within 53 = .ok (.iload 5, 2) := by decide +kernel
theorem dX12_within_55 : decode cX12_within 55 = .ok (.aload_n 0, 1) := by decide +kernel
theorem dX12_within_56 : decode cX12_within 56 = .ok (.iload 5, 2) := by decide +kernel
theorem dX12_within_58 : decode cX12_within 58 = .ok (.iload_n 2, 1) := by decide +kernel
theorem dX12_within_59 : decode cX12_within 59 = .ok (.invokevirtual 292, 3) := by decide +kernel
theorem dX12_within_62 : decode cX12_within 62 = .ok (.iastore, 1) := by decide +kernel
theorem dX12_within_63 : decode cX12_within 63 = .ok (.iinc 5 1, 3) := by decide +kernel
theorem dX12_within_66 : decode cX12_within 66 = .ok (.goto (-28), 3) := by decide +kernel
theorem dX12_within_69 : decode cX12_within 69 = .ok (.aload_n 0, 1) := by decide +kernel
theorem dX12_within_70 : decode cX12_within 70 = .ok (.getfield 50, 3) := by decide +kernel
theorem dX12_within_73 : decode cX12_within 73 = .ok (.aload_n 0, 1) := by decide +kernel
theorem dX12_within_74 : decode cX12_within 74 = .ok (.getfield 103, 3) := by decide +kernel
theorem dX12_within_77 : decode cX12_within 77 = .ok (.iaload, 1) := by decide +kernel
theorem dX12_within_78 : decode cX12_within 78 = .ok (.iload_n 1, 1) := by decide +kernel
theorem dX12_within_79 : decode cX12_within 79 = .ok (.ishr, 1) := by decide +kernel
theorem dX12_within_80 : decode cX12_within 80 = .ok (.iconst 1, 1) := by decide +kernel
theorem dX12_within_81 : decode cX12_within 81 = .ok (.iand, 1) := by decide +kernel
theorem dX12_within_82 : decode cX12_within 82 = .ok (.iconst 1, 1) := by decide +kernel
theorem dX12_within_83 : decode cX12_within 83 = .ok (.if_icmp .eq 7, 3) := by decide +kernel
theorem dX12_within_86 : decode cX12_within 86 = .ok (.iload_n 3, 1) := by decide +kernel
theorem dX12_within_87 : decode cX12_within 87 = .ok (.ifCond .ne 28, 3) := by decide +kernel
theorem dX12_within_90 : decode cX12_within 90 = .ok (.iload 4, 2) := by decide +kernel
theorem dX12_within_92 : decode cX12_within 92 = .ok (.iconst 1, 1) := by decide +kernel
theorem dX12_within_93 : decode cX12_within 93 = .ok (.if_icmp .ne 7, 3) := by decide +kernel
theorem dX12_within_96 : decode cX12_within 96 = .ok (.lconst 1, 1) := by decide +kernel
theorem dX12_within_97 : decode cX12_within 97 = .ok (.goto 17, 3) := by decide +kernel
theorem dX12_within_100 : decode cX12_within 100 = .ok (.aload_n 0, 1) := by decide +kernel
theorem dX12_within_101 : decode cX12_within 101 = .ok (.getfield 50, 3) := by decide +kernel
theorem dX12_within_104 : decode cX12_within 104 = .ok (.aload_n 0, 1) := by decide +kernel
theorem dX12_within_105 : decode cX12_within 105 = .ok (.getfield 103, 3) := by decide +kernel
theorem dX12_within_108 : decode cX12_within 108 = .ok (.iaload, 1) := by decide +kernel
theorem dX12_within_109 : decode cX12_within 109 = .ok (.iload_n 1, 1) := by decide +kernel
theorem dX12_within_110 : decode cX12_within 110 = .ok (.ishr, 1) := by decide +kernel
theorem dX12_within_111 : decode cX12_within 111 = .ok (.iconst 1, 1) := by decide +kernel
theorem dX12_within_112 : decode cX12_within 112 = .ok (.iand, 1) := by decide +kernel
theorem dX12_within_113 : decode cX12_within 113 = .ok (.i2l, 1) := by decide +kernel
theorem dX12_within_114 : decode cX12_within 114 = .ok (.lreturn, 1) := by decide +kernel
theorem dX12_within_115 : decode cX12_within 115 = .ok (.iload_n 3, 1) := by decide +kernel
theorem dX12_within_116 : decode cX12_within 116 = .ok (.iconst 1, 1) := by decide +kernel
theorem dX12_within_117 : decode cX12_within 117 = .ok (.if_icmp .ne 35, 3) := by decide +kernel
theorem dX12_within_120 : decode cX12_within 120 = .ok (.aload_n 0, 1) := by decide +kernel
theorem dX12_within_121 : decode cX12_within 121 = .ok (.aload_n 0, 1) := by decide +kernel
theorem dX12_within_122 : decode cX12_within 122 = .ok (.getfield 103, 3) := by decide +kernel
theorem dX12_within_125 : decode cX12_within 125 = .ok (.invokevirtual 330, 3) := by decide +kernel
theorem dX12_within_128 : decode cX12_within 128 = .ok (.aload_n 0, 1) := by decide +kernel
theorem dX12_within_129 : decode cX12_within 129 = .ok (.aload_n 0, 1) := by decide +kernel
theorem dX12_within_130 : decode cX12_within 130 = .ok (.aload_n 0, 1) := by decide +kernel
theorem dX12_within_131 : decode cX12_within 131 = .ok (.aload_n 0, 1) := by decide +kernel
theorem dX12_within_132 : decode cX12_within 132 = .ok (.getfield 103, 3) := by decide +kernel
theorem dX12_within_135 : decode cX12_within 135 = .ok (.iload_n 1, 1) := by decide +kernel
theorem dX12_within_136 : decode cX12_within 136 = .ok (.invokevirtual 292, 3) := by decide +kernel
theorem dX12_within_139 : decode cX12_within 139 = .ok (.invokevirtual 333, 3) := by decide +kernel
theorem dX12_within_142 : decode cX12_within 142 = .ok (.aload_n 0, 1) := by decide +kernel
theorem dX12_within_143 : decode cX12_within 143 = .ok (.invokevirtual 320, 3) := by decide +kernel
theorem dX12_within_146 : decode cX12_within 146 = .ok (.invokevirtual 324, 3) := by decide +kernel
theorem dX12_within_149 : decode cX12_within 149 = .ok (.goto 21, 3) := by decide +kernel
theorem dX12_within_152 : decode cX12_within 152 = .ok (.aload_n 0, 1) := by decide +kernel
theorem dX12_within_153 : decode cX12_within 153 = .ok (.aload_n 0, 1) := by decide +kernel
theorem dX12_within_154 : decode cX12_within 154 = .ok (.iload_n 1, 1) := by decide +kernel
theorem dX12_within_155 : decode cX12_within 155 = .ok (.invokevirtual 336, 3) := by decide +kernel
theorem dX12_within_158 : decode cX12_within 158 = .ok (.aload_n 0, 1) := by decide +kernel
theorem dX12_within_159 : decode cX12_within 159 = .ok (.invokevirtual 320, 3) := by decide +kernel
theorem dX12_within_162 : decode cX12_within 162 = .ok (.aload_n 0, 1) := by decide +kernel
theorem dX12_within_163 : decode cX12_within 163 = .ok (.invokevirtual 320, 3) := by decide +kernel
theorem dX12_within_166 : decode cX12_within 166 = .ok (.lmul, 1) := by decide +kernel
theorem dX12_within_167 : decode cX12_within 167 = .ok (.invokevirtual 324, 3) := by decide +kernel
theorem dX12_within_170 : decode cX12_within 170 = .ok (.iload 4, 2) := by decide +kernel
theorem dX12_within_172 : decode cX12_within 172 = .ok (.ifCond .ne 10, 3) := by decide +kernel
theorem dX12_within_175 : decode cX12_within 175 = .ok (.aload_n 0, 1) := by decide +kernel
theorem dX12_within_176 : decode cX12_within 176 = .ok (.getfield 295, 3) := by decide +kernel
theorem dX12_within_179 : decode cX12_within 179 = .ok (.goto 7, 3) := by decide +kernel
theorem dX12_within_182 : decode cX12_within 182 = .ok (.aload_n 0, 1) := by decide +kernel
theorem dX12_within_183 : decode cX12_within 183 = .ok (.getfield 298, 3) := by decide +kernel
theorem dX12_within_186 : decode cX12_within 186 = .ok (.lreturn, 1) := by decide +kernel
theorem dX12_seek_0 : decode cX12_seek 0 = .ok (.iload_n 1, 1) := by decide +kernel
theorem dX12_seek_1 : decode cX12_seek 1 = .ok (.invokestatic 233, 3) := by decide +kernel
theorem dX12_seek_4 : decode cX12_seek 4 = .ok (.ifCond .ne 5, 3) := by decide +kernel
theorem dX12_seek_7 : decode cX12_seek 7 = .ok (.iconst (-1), 1) := by decide +kernel
theorem dX12_seek_8 : decode cX12_seek 8 = .ok (.ireturn, 1) := by decide +kernel
theorem dX12_seek_9 : decode cX12_seek 9 = .ok (.bipush (-3), 2) := by decide +kernel
theorem dX12_seek_11 : decode cX12_seek 11 = .ok (.istore_n 2, 1) := by decide +kernel
theorem dX12_seek_12 : decode cX12_seek 12 = .ok (.lconst 0, 1) := by decide +kernel
theorem dX12_seek_13 : decode cX12_seek 13 = .ok (.lstore_n 3, 1) := by decide +kernel
theorem dX12_seek_14 : decode cX12_seek 14 = .ok (.iconst 0, 1) := by decide +kernel
theorem dX12_seek_15 : decode cX12_seek 15 = .ok (.istore 5, 2) := by decide +kernel
theorem dX12_seek_17 : decode cX12_seek 17 = .ok (.iload 5, 2) := by decide +kernel
theorem dX12_seek_19 : decode cX12_seek 19 = .ok (.bipush 8, 2) := by decide +kernel
theorem dX12_seek_21 : decode cX12_seek 21 = .ok (.if_icmp .ge 77, 3) := by decide +kernel
theorem dX12_seek_24 : decode cX12_seek 24 = .ok (.aload_n 0, 1) := by decide +kernel
theorem dX12_seek_25 : decode cX12_seek 25 = .ok (.aload_n 0, 1) := by decide +kernel
theorem dX12_seek_26 : decode cX12_seek 26 = .ok (.getfield 103, 3) := by decide +kernel
theorem dX12_seek_29 : decode cX12_seek 29 = .ok (.iload_n 1, 1) := by decide +kernel
theorem dX12_seek_30 : decode cX12_seek 30 = .ok (.invokevirtual 292, 3) := by decide +kernel
theorem dX12_seek_33 : decode cX12_seek 33 = .ok (.iload 5, 2) := by decide +kernel
theorem dX12_seek_35 : decode cX12_seek 35 = .ok (.ishr, 1) := by decide +kernel
theorem dX12_seek_36 : decode cX12_seek 36 = .ok (.iconst 1, 1) := by decide +kernel
theorem dX12_seek_37 : decode cX12_seek 37 = .ok (.iand, 1) := by decide +kernel
theorem dX12_seek_38 : decode cX12_seek 38 = .ok (.iconst 1, 1) := by decide +kernel
theorem dX12_seek_39 : decode cX12_seek 39 = .ok (.if_icmp .ne 7, 3) := by decide +kernel
theorem dX12_seek_42 : decode cX12_seek 42 = .ok (.lconst 0, 1) := by decide +kernel
theorem dX12_seek_43 : decode cX12_seek 43 = .ok (.goto 19, 3) := by decide +kernel
theorem dX12_seek_46 : decode cX12_seek 46 = .ok (.aload_n 0, 1) := by decide +kernel
theorem dX12_seek_47 : decode cX12_seek 47 = .ok (.getfield 22, 3) := by decide +kernel
theorem dX12_seek_50 : decode cX12_seek 50 = .ok (.iload 5, 2) := by decide +kernel
theorem dX12_seek_52 : decode cX12_seek 52 = .ok (.iaload, 1) := by decide +kernel
theorem dX12_seek_53 : decode cX12_seek 53 = .ok (.i2l, 1) := by decide +kernel
theorem dX12_seek_54 : decode cX12_seek 54 = .ok (.aload_n 0, 1) := by decide +kernel
theorem dX12_seek_55 : decode cX12_seek 55 = .ok (.iload_n 1, 1) := by decide +kernel
theorem dX12_seek_56 : decode cX12_seek 56 = .ok (.iload 5, 2) := by decide +kernel
theorem dX12_seek_58 : decode cX12_seek 58 = .ok (.invokevirtual 316, 3) := by decide +kernel
theorem dX12_seek_61 : decode cX12_seek 61 = .ok (.lmul, 1) := by decide +kernel
theorem dX12_seek_62 : decode cX12_seek 62 = .ok (.lstore 6, 2) := by decide +kernel
theorem dX12_seek_64 : decode cX12_seek 64 = .ok (.lload 6, 2) := by decide +kernel
theorem dX12_seek_66 : decode cX12_seek 66 = .ok (.lload_n 3, 1) := by decide +kernel
theorem dX12_seek_67 : decode cX12_seek 67 = .ok (.lcmp, 1) := by decide +kernel
theorem dX12_seek_68 : decode cX12_seek 68 = .ok (.ifCond .le 8, 3) := by decide +kernel
theorem dX12_seek_71 : decode cX12_seek 71 = .ok (.iload 5, 2) := by decide +kernel
theorem dX12_seek_73 : decode cX12_seek 73 = .ok (.goto 4, 3) := by decide +kernel
theorem dX12_seek_76 : decode cX12_seek 76 = .ok (.iload_n 2, 1) := by decide +kernel
theorem dX12_seek_77 : decode cX12_seek 77 = .ok (.istore_n 2, 1) := by decide +kernel
theorem dX12_seek_78 : decode cX12_seek 78 = .ok (.lload 6, 2) := by decide +kernel
theorem dX12_seek_80 : decode cX12_seek 80 = .ok (.lload_n 3, 1) := by decide +kernel
theorem dX12_seek_81 : decode cX12_seek 81 = .ok (.lcmp, 1) := by decide +kernel
theorem dX12_seek_82 : decode cX12_seek 82 = .ok (.ifCond .le 8, 3) := by decide +kernel
theorem dX12_seek_85 : decode cX12_seek 85 = .ok (.lload 6, 2) := by decide +kernel
theorem dX12_seek_87 : decode cX12_seek 87 = .ok (.goto 4, 3) := by decide +kernel
theorem dX12_seek_90 : decode cX12_seek 90 = .ok (.lload_n 3, 1) := by decide +kernel
theorem dX12_seek_91 : decode cX12_seek 91 = .ok (.lstore_n 3, 1) := by decide +kernel
theorem dX12_seek_92 : decode cX12_seek 92 = .ok (.iinc 5 1, 3) := by decide +kernel
theorem dX12_seek_95 : decode cX12_seek 95 = .ok (.goto (-78), 3) := by decide +kernel
theorem dX12_seek_98 : decode cX12_seek 98 = .ok (.iload_n 2, 1) := by decide +kernel
theorem dX12_seek_99 : decode cX12_seek 99 = .ok (.ireturn, 1) := by decide +kernel
theorem dX12_isRule_0 : decode cX12_isRule 0 = .ok (.iload_n 1, 1) := by decide +kernel
theorem dX12_isRule_1 : decode cX12_isRule 1 = .ok (.iconst 0, 1) := by decide +kernel
theorem dX12_isRule_2 : decode cX12_isRule 2 = .ok (.aload_n 0, 1) := by decide +kernel
theorem dX12_isRule_3 : decode cX12_isRule 3 = .ok (.getfield 339, 3) := by decide +kernel
theorem dX12_isRule_6 : decode cX12_isRule 6 = .ok (.iconst 1, 1) := by decide +kernel
theorem dX12_isRule_7 : decode cX12_isRule 7 = .ok (.isub, 1) := by decide +kernel
theorem dX12_isRule_8 : decode cX12_isRule 8 = .ok (.invokestatic 93, 3) := by decide +kernel
theorem dX12_isRule_11 : decode cX12_isRule 11 = .ok (.ireturn, 1) := by decide +kernel
theorem dX12_rule_0 : decode cX12_rule 0 = .ok (.iload_n 1, 1) := by decide +kernel
theorem dX12_rule_1 : decode cX12_rule 1 = .ok (.iconst 0, 1) := by decide +kernel
theorem dX12_rule_2 : decode cX12_rule 2 = .ok (.iconst 3, 1) := by decide +kernel
theorem dX12_rule_3 : decode cX12_rule 3 = .ok (.invokestatic 93, 3) := by decide +kernel
theorem dX12_rule_6 : decode cX12_rule 6 = .ok (.ifCond .eq 10, 3) := by decide +kernel
theorem dX12_rule_9 : decode cX12_rule 9 = .ok (.iload_n 2, 1) := by decide +kernel
theorem dX12_rule_10 : decode cX12_rule 10 = .ok (.invokestatic 233, 3) := by decide +kernel
theorem dX12_rule_13 : decode cX12_rule 13 = .ok (.ifCond .ne 5, 3) := by decide +kernel
theorem dX12_rule_16 : decode cX12_rule 16 = .ok (.iconst (-1), 1) := by decide +kernel
theorem dX12_rule_17 : decode cX12_rule 17 = .ok (.ireturn, 1) := by decide +kernel
theorem dX12_rule_18 : decode cX12_rule 18 = .ok (.aload_n 0, 1) := by decide +kernel
theorem dX12_rule_19 : decode cX12_rule 19 = .ok (.getfield 339, 3) := by decide +kernel
theorem dX12_rule_22 : decode cX12_rule 22 = .ok (.iconst 4, 1) := by decide +kernel
theorem dX12_rule_23 : decode cX12_rule 23 = .ok (.if_icmp .ne 6, 3) := by decide +kernel
theorem dX12_rule_26 : decode cX12_rule 26 = .ok (.bipush (-2), 2) := by decide +kernel
theorem dX12_rule_28 : decode cX12_rule 28 = .ok (.ireturn, 1) := by decide +kernel
theorem dX12_rule_29 : decode cX12_rule 29 = .ok (.aload_n 0, 1) := by decide +kernel
theorem dX12_rule_30 : decode cX12_rule 30 = .ok (.getfield 29, 3) := by decide +kernel
theorem dX12_rule_33 : decode cX12_rule 33 = .ok (.iconst 2, 1) := by decide +kernel
theorem dX12_rule_34 : decode cX12_rule 34 = .ok (.aload_n 0, 1) := by decide +kernel
theorem dX12_rule_35 : decode cX12_rule 35 = .ok (.getfield 339, 3) := by decide +kernel
theorem dX12_rule_38 : decode cX12_rule 38 = .ok (.imul, 1) := by decide +kernel
theorem dX12_rule_39 : decode cX12_rule 39 = .ok (.iload_n 1, 1) := by decide +kernel
theorem dX12_rule_40 : decode cX12_rule 40 = .ok (.iastore, 1) := by decide +kernel
theorem dX12_rule_41 : decode cX12_rule 41 = .ok (.aload_n 0, 1) := by decide +kernel
theorem dX12_rule_42 : decode cX12_rule 42 = .ok (.getfield 29, 3) := by decide +kernel
theorem dX12_rule_45 : decode cX12_rule 45 = .ok (.iconst 2, 1) := by decide +kernel
theorem dX12_rule_46 : decode cX12_rule 46 = .ok (.aload_n 0, 1) := by decide +kernel
theorem dX12_rule_47 : decode cX12_rule 47 = .ok (.getfield 339, 3) := by decide +kernel
theorem dX12_rule_50 : decode cX12_rule 50 = .ok (.imul, 1) := by decide +kernel
theorem dX12_rule_51 : decode cX12_rule 51 = .ok (.iconst 1, 1) := by decide +kernel
theorem dX12_rule_52 : decode cX12_rule 52 = .ok (.iadd, 1) := by decide +kernel
theorem dX12_rule_53 : decode cX12_rule 53 = .ok (.iload_n 2, 1) := by decide +kernel
theorem dX12_rule_54 : decode cX12_rule 54 = .ok (.iastore, 1) := by decide +kernel
theorem dX12_rule_55 : decode cX12_rule 55 = .ok (.aload_n 0, 1) := by decide +kernel
theorem dX12_rule_56 : decode cX12_rule 56 = .ok (.dup, 1) := by decide +kernel
theorem dX12_rule_57 : decode cX12_rule 57 = .ok (.getfield 339, 3) := by decide +kernel
theorem dX12_rule_60 : decode cX12_rule 60 = .ok (.iconst 1, 1) := by decide +kernel
theorem dX12_rule_61 : decode cX12_rule 61 = .ok (.iadd, 1) := by decide +kernel
theorem dX12_rule_62 : decode cX12_rule 62 = .ok (.putfield 339, 3) := by decide +kernel
theorem dX12_rule_65 : decode cX12_rule 65 = .ok (.aload_n 0, 1) := by decide +kernel
theorem dX12_rule_66 : decode cX12_rule 66 = .ok (.getfield 339, 3) := by decide +kernel
theorem dX12_rule_69 : decode cX12_rule 69 = .ok (.iconst 1, 1) := by decide +kernel
theorem dX12_rule_70 : decode cX12_rule 70 = .ok (.isub, 1) := by decide +kernel
theorem dX12_rule_71 : decode cX12_rule 71 = .ok (.ireturn, 1) := by decide +kernel
theorem dX12_ruleOf_0 : decode cX12_ruleOf 0 = .ok (.aload_n 0, 1) := by decide +kernel
theorem dX12_ruleOf_1 : decode cX12_ruleOf 1 = .ok (.iload_n 1, 1) := by decide +kernel
theorem dX12_ruleOf_2 : decode cX12_ruleOf 2 = .ok (.invokevirtual 342, 3) := by decide +kernel
theorem dX12_ruleOf_5 : decode cX12_ruleOf 5 = .ok (.ifCond .eq 23, 3) := by decide +kernel
theorem dX12_ruleOf_8 : decode cX12_ruleOf 8 = .ok (.iload_n 2, 1) := by decide +kernel
theorem dX12_ruleOf_9 : decode cX12_ruleOf 9 = .ok (.invokestatic 313, 3) := by decide +kernel
theorem dX12_ruleOf_12 : decode cX12_ruleOf 12 = .ok (.ifCond .eq 16, 3) := by decide +kernel
theorem dX12_ruleOf_15 : decode cX12_ruleOf 15 = .ok (.aload_n 0, 1) := by decide +kernel
theorem dX12_ruleOf_16 : decode cX12_ruleOf 16 = .ok (.getfield 29, 3) := by decide +kernel
theorem dX12_ruleOf_19 : decode cX12_ruleOf 19 = .ok (.iconst 2, 1) := by decide +kernel
theorem dX12_ruleOf_20 : decode cX12_ruleOf 20 = .ok (.iload_n 1, 1) := by decide +kernel
theorem dX12_ruleOf_21 : decode cX12_ruleOf 21 = .ok (.imul, 1) := by decide +kernel
theorem dX12_ruleOf_22 : decode cX12_ruleOf 22 = .ok (.iload_n 2, 1) := by decide +kernel
theorem dX12_ruleOf_23 : decode cX12_ruleOf 23 = .ok (.iadd, 1) := by decide +kernel
theorem dX12_ruleOf_24 : decode cX12_ruleOf 24 = .ok (.iaload, 1) := by decide +kernel
theorem dX12_ruleOf_25 : decode cX12_ruleOf 25 = .ok (.goto 4, 3) := by decide +kernel
theorem dX12_ruleOf_28 : decode cX12_ruleOf 28 = .ok (.iconst (-1), 1) := by decide +kernel
theorem dX12_ruleOf_29 : decode cX12_ruleOf 29 = .ok (.ireturn, 1) := by decide +kernel
theorem dX12_firstPath_0 : decode cX12_firstPath 0 = .ok (.aload_n 0, 1) := by decide +kernel
theorem dX12_firstPath_1 : decode cX12_firstPath 1 = .ok (.iload_n 1, 1) := by decide +kernel
theorem dX12_firstPath_2 : decode cX12_firstPath 2 = .ok (.iload_n 2, 1) := by decide +kernel
theorem dX12_firstPath_3 : decode cX12_firstPath 3 = .ok (.invokevirtual 289, 3) := by decide +kernel
theorem dX12_firstPath_6 : decode cX12_firstPath 6 = .ok (.istore_n 3, 1) := by decide +kernel
theorem dX12_firstPath_7 : decode cX12_firstPath 7 = .ok (.iconst 0, 1) := by decide +kernel
theorem dX12_firstPath_8 : decode cX12_firstPath 8 = .ok (.istore 4, 2) := by decide +kernel
theorem dX12_firstPath_10 : decode cX12_firstPath 10 = .ok (.iload 4, 2) := by decide +kernel
theorem dX12_firstPath_12 : decode cX12_firstPath 12 = .ok (.aload_n 0, 1) := by decide +kernel
theorem dX12_firstPath_13 : decode cX12_firstPath 13 = .ok (.getfield 97, 3) := by decide +kernel
theorem dX12_firstPath_16 : decode cX12_firstPath 16 = .ok (.if_icmp .ge 53, 3) := by decide +kernel
theorem dX12_firstPath_19 : decode cX12_firstPath 19 = .ok (.iload_n 3, 1) := by decide +kernel
theorem dX12_firstPath_20 : decode cX12_firstPath 20 = .ok (.ifCond .le 49, 3) := by decide +kernel
theorem dX12_firstPath_23 : decode cX12_firstPath 23 = .ok (.aload_n 0, 1) := by decide +kernel
theorem dX12_firstPath_24 : decode cX12_firstPath 24 = .ok (.iload 4, 2) := by decide +kernel
theorem dX12_firstPath_26 : decode cX12_firstPath 26 = .ok (.invokevirtual 258, 3) := by decide +kernel
theorem dX12_firstPath_29 : decode cX12_firstPath 29 = .ok (.ifCond .eq 34, 3) := by decide +kernel
theorem dX12_firstPath_32 : decode cX12_firstPath 32 = .ok (.aload_n 0, 1) := by decide +kernel
theorem dX12_firstPath_33 : decode cX12_firstPath 33 = .ok (.iload 4, 2) := by decide +kernel
theorem dX12_firstPath_35 : decode cX12_firstPath 35 = .ok (.iload_n 1, 1) := by decide +kernel
theorem dX12_firstPath_36 : decode cX12_firstPath 36 = .ok (.invokevirtual 236, 3) := by decide +kernel
theorem dX12_firstPath_39 : decode cX12_firstPath 39 = .ok (.ifCond .eq 24, 3) := by decide +kernel
theorem dX12_firstPath_42 : decode cX12_firstPath 42 = .ok (.aload_n 0, 1) := by decide +kernel
theorem dX12_firstPath_43 : decode cX12_firstPath 43 = .ok (.aload_n 0, 1) := by decide +kernel
theorem dX12_firstPath_44 : decode cX12_firstPath 44 = .ok (.iload 4, 2) := by decide +kernel
theorem dX12_firstPath_46 : decode cX12_firstPath 46 = .ok (.iload_n 1, 1) := by decide +kernel
theorem dX12_firstPath_47 : decode cX12_firstPath 47 = .ok (.invokevirtual 267, 3) := by decide +kernel
theorem dX12_firstPath_50 : decode cX12_firstPath 50 = .ok (.iload_n 2, 1) := by decide +kernel
theorem dX12_firstPath_51 : decode cX12_firstPath 51 = .ok (.invokevirtual 289, 3) := by decide +kernel
theorem dX12_firstPath_54 : decode cX12_firstPath 54 = .ok (.iload_n 3, 1) := by decide +kernel
theorem dX12_firstPath_55 : decode cX12_firstPath 55 = .ok (.iconst 1, 1) := by decide +kernel
theorem dX12_firstPath_56 : decode cX12_firstPath 56 = .ok (.isub, 1) := by decide +kernel
theorem dX12_firstPath_57 : decode cX12_firstPath 57 = .ok (.if_icmp .ne 6, 3) := by decide +kernel
theorem dX12_firstPath_60 : decode cX12_firstPath 60 = .ok (.iload 4, 2) := by decide +kernel
theorem dX12_firstPath_62 : decode cX12_firstPath 62 = .ok (.ireturn, 1) := by decide +kernel
theorem dX12_firstPath_63 : decode cX12_firstPath 63 = .ok (.iinc 4 1, 3) := by decide +kernel
theorem dX12_firstPath_66 : decode cX12_firstPath 66 = .ok (.goto (-56), 3) := by decide +kernel
theorem dX12_firstPath_69 : decode cX12_firstPath 69 = .ok (.bipush (-9), 2) := by decide +kernel
theorem dX12_firstPath_71 : decode cX12_firstPath 71 = .ok (.ireturn, 1) := by decide +kernel
theorem dX12_backFrom_0 : decode cX12_backFrom 0 = .ok (.aload_n 0, 1) := by decide +kernel
theorem dX12_backFrom_1 : decode cX12_backFrom 1 = .ok (.aload_n 0, 1) := by decide +kernel
theorem dX12_backFrom_2 : decode cX12_backFrom 2 = .ok (.getfield 103, 3) := by decide +kernel
theorem dX12_backFrom_5 : decode cX12_backFrom 5 = .ok (.iload_n 1, 1) := by decide +kernel
theorem dX12_backFrom_6 : decode cX12_backFrom 6 = .ok (.invokevirtual 292, 3) := by decide +kernel
theorem dX12_backFrom_9 : decode cX12_backFrom 9 = .ok (.aload_n 0, 1) := by decide +kernel
theorem dX12_backFrom_10 : decode cX12_backFrom 10 = .ok (.aload_n 0, 1) := by decide +kernel
theorem dX12_backFrom_11 : decode cX12_backFrom 11 = .ok (.getfield 103, 3) := by decide +kernel
theorem dX12_backFrom_14 : decode cX12_backFrom 14 = .ok (.iload_n 2, 1) := by decide +kernel
theorem dX12_backFrom_15 : decode cX12_backFrom 15 = .ok (.invokevirtual 292, 3) := by decide +kernel
theorem dX12_backFrom_18 : decode cX12_backFrom 18 = .ok (.iand, 1) := by decide +kernel
theorem dX12_backFrom_19 : decode cX12_backFrom 19 = .ok (.istore_n 3, 1) := by decide +kernel
theorem dX12_backFrom_20 : decode cX12_backFrom 20 = .ok (.bipush (-3), 2) := by decide +kernel
theorem dX12_backFrom_22 : decode cX12_backFrom 22 = .ok (.istore 4, 2) := by decide +kernel
theorem dX12_backFrom_24 : decode cX12_backFrom 24 = .ok (.iconst (-1), 1) := by decide +kernel
theorem dX12_backFrom_25 : decode cX12_backFrom 25 = .ok (.istore 5, 2) := by decide +kernel
theorem dX12_backFrom_27 : decode cX12_backFrom 27 = .ok (.iconst 0, 1) := by decide +kernel
theorem dX12_backFrom_28 : decode cX12_backFrom 28 = .ok (.istore 6, 2) := by decide +kernel
theorem dX12_backFrom_30 : decode cX12_backFrom 30 = .ok (.iload 6, 2) := by decide +kernel
theorem dX12_backFrom_32 : decode cX12_backFrom 32 = .ok (.bipush 8, 2) := by decide +kernel
theorem dX12_backFrom_34 : decode cX12_backFrom 34 = .ok (.if_icmp .ge 63, 3) := by decide +kernel
theorem dX12_backFrom_37 : decode cX12_backFrom 37 = .ok (.iload_n 3, 1) := by decide +kernel
theorem dX12_backFrom_38 : decode cX12_backFrom 38 = .ok (.iload 6, 2) := by decide +kernel
theorem dX12_backFrom_40 : decode cX12_backFrom 40 = .ok (.ishr, 1) := by decide +kernel
theorem dX12_backFrom_41 : decode cX12_backFrom 41 = .ok (.iconst 1, 1) := by decide +kernel
theorem dX12_backFrom_42 : decode cX12_backFrom 42 = .ok (.iand, 1) := by decide +kernel
theorem dX12_backFrom_43 : decode cX12_backFrom 43 = .ok (.iconst 1, 1) := by decide +kernel
theorem dX12_backFrom_44 : decode cX12_backFrom 44 = .ok (.if_icmp .ne 47, 3) := by decide +kernel
theorem dX12_backFrom_47 : decode cX12_backFrom 47 = .ok (.aload_n 0, 1) := by decide +kernel
theorem dX12_backFrom_48 : decode cX12_backFrom 48 = .ok (.iload 6, 2) := by decide +kernel
theorem dX12_backFrom_50 : decode cX12_backFrom 50 = .ok (.iload_n 2, 1) := by decide +kernel
theorem dX12_backFrom_51 : decode cX12_backFrom 51 = .ok (.invokevirtual 316, 3) := by decide +kernel
theorem dX12_backFrom_54 : decode cX12_backFrom 54 = .ok (.ldc2_w 345, 3) := by decide +kernel
theorem dX12_backFrom_57 : decode cX12_backFrom 57 = .ok (.lmul, 1) := by decide +kernel
theorem dX12_backFrom_58 : decode cX12_backFrom 58 = .ok (.aload_n 0, 1) := by decide +kernel
theorem dX12_backFrom_59 : decode cX12_backFrom 59 = .ok (.invokevirtual 320, 3) := by decide +kernel
theorem dX12_backFrom_62 : decode cX12_backFrom 62 = .ok (.lcmp, 1) := by decide +kernel
theorem dX12_backFrom_63 : decode cX12_backFrom 63 = .ok (.ifCond .lt 28, 3) := by decide +kernel
theorem dX12_backFrom_66 : decode cX12_backFrom 66 = .ok (.aload_n 0, 1) := by decide +kernel
theorem dX12_backFrom_67 : decode cX12_backFrom 67 = .ok (.iload 6, 2) := by decide +kernel
theorem dX12_backFrom_69 : decode cX12_backFrom 69 = .ok (.iload_n 2, 1) := by decide +kernel
theorem dX12_backFrom_70 : decode cX12_backFrom 70 = .ok (.invokevirtual 289, 3) := by decide +kernel
theorem dX12_backFrom_73 : decode cX12_backFrom 73 = .ok (.iload 5, 2) := by decide +kernel
theorem dX12_backFrom_75 : decode cX12_backFrom 75 = .ok (.if_icmp .le 16, 3) := by decide +kernel
theorem dX12_backFrom_78 : decode cX12_backFrom 78 = .ok (.iload 6, 2) := by decide +kernel
theorem dX12_backFrom_80 : decode cX12_backFrom 80 = .ok (.istore 4, 2) := by decide +kernel
theorem dX12_backFrom_82 : decode cX12_backFrom 82 = .ok (.aload_n 0, 1) := by decide +kernel
theorem dX12_backFrom_83 : decode cX12_backFrom 83 = .ok (.iload 6, 2) := by decide +kernel
theorem dX12_backFrom_85 : decode cX12_backFrom 85 = .ok (.iload_n 2, 1) := by decide +kernel
theorem dX12_backFrom_86 : decode cX12_backFrom 86 = .ok (.invokevirtual 289, 3) := by decide +kernel
theorem dX12_backFrom_89 : decode cX12_backFrom 89 = .ok (.istore 5, 2) := by decide +kernel
theorem dX12_backFrom_91 : decode cX12_backFrom 91 = .ok (.iinc 6 1, 3) := by decide +kernel
theorem dX12_backFrom_94 : decode cX12_backFrom 94 = .ok (.goto (-64), 3) := by decide +kernel
theorem dX12_backFrom_97 : decode cX12_backFrom 97 = .ok (.iload 4, 2) := by decide +kernel
theorem dX12_backFrom_99 : decode cX12_backFrom 99 = .ok (.ireturn, 1) := by decide +kernel
theorem dX12_goesBy_0 : decode cX12_goesBy 0 = .ok (.aload_n 0, 1) := by decide +kernel
theorem dX12_goesBy_1 : decode cX12_goesBy 1 = .ok (.getfield 16, 3) := by decide +kernel
theorem dX12_goesBy_4 : decode cX12_goesBy 4 = .ok (.iload_n 2, 1) := by decide +kernel
theorem dX12_goesBy_5 : decode cX12_goesBy 5 = .ok (.iaload, 1) := by decide +kernel
theorem dX12_goesBy_6 : decode cX12_goesBy 6 = .ok (.ifCond .lt 6, 3) := by decide +kernel
theorem dX12_goesBy_9 : decode cX12_goesBy 9 = .ok (.bipush (-9), 2) := by decide +kernel
theorem dX12_goesBy_11 : decode cX12_goesBy 11 = .ok (.ireturn, 1) := by decide +kernel
theorem dX12_goesBy_12 : decode cX12_goesBy 12 = .ok (.aload_n 0, 1) := by decide +kernel
theorem dX12_goesBy_13 : decode cX12_goesBy 13 = .ok (.getfield 13, 3) := by decide +kernel
theorem dX12_goesBy_16 : decode cX12_goesBy 16 = .ok (.iload_n 2, 1) := by decide +kernel
theorem dX12_goesBy_17 : decode cX12_goesBy 17 = .ok (.iaload, 1) := by decide +kernel
theorem dX12_goesBy_18 : decode cX12_goesBy 18 = .ok (.istore_n 3, 1) := by decide +kernel
theorem dX12_goesBy_19 : decode cX12_goesBy 19 = .ok (.aload_n 0, 1) := by decide +kernel
theorem dX12_goesBy_20 : decode cX12_goesBy 20 = .ok (.getfield 29, 3) := by decide +kernel
theorem dX12_goesBy_23 : decode cX12_goesBy 23 = .ok (.iconst 2, 1) := by decide +kernel
theorem dX12_goesBy_24 : decode cX12_goesBy 24 = .ok (.iload_n 1, 1) := by decide +kernel
theorem dX12_goesBy_25 : decode cX12_goesBy 25 = .ok (.imul, 1) := by decide +kernel
theorem dX12_goesBy_26 : decode cX12_goesBy 26 = .ok (.iconst 1, 1) := by decide +kernel
theorem dX12_goesBy_27 : decode cX12_goesBy 27 = .ok (.iadd, 1) := by decide +kernel
theorem dX12_goesBy_28 : decode cX12_goesBy 28 = .ok (.iaload, 1) := by decide +kernel
theorem dX12_goesBy_29 : decode cX12_goesBy 29 = .ok (.istore 4, 2) := by decide +kernel
theorem dX12_goesBy_31 : decode cX12_goesBy 31 = .ok (.aload_n 0, 1) := by decide +kernel
theorem dX12_goesBy_32 : decode cX12_goesBy 32 = .ok (.getfield 29, 3) := by decide +kernel
theorem dX12_goesBy_35 : decode cX12_goesBy 35 = .ok (.iconst 2, 1) := by decide +kernel
theorem dX12_goesBy_36 : decode cX12_goesBy 36 = .ok (.iload_n 1, 1) := by decide +kernel
theorem dX12_goesBy_37 : decode cX12_goesBy 37 = .ok (.imul, 1) := by decide +kernel
theorem dX12_goesBy_38 : decode cX12_goesBy 38 = .ok (.iaload, 1) := by decide +kernel
theorem dX12_goesBy_39 : decode cX12_goesBy 39 = .ok (.tableswitch 60 0 2 #[25, 25, 33], 25) := by decide +kernel
theorem dX12_goesBy_64 : decode cX12_goesBy 64 = .ok (.aload_n 0, 1) := by decide +kernel
theorem dX12_goesBy_65 : decode cX12_goesBy 65 = .ok (.iload_n 3, 1) := by decide +kernel
theorem dX12_goesBy_66 : decode cX12_goesBy 66 = .ok (.iload 4, 2) := by decide +kernel
theorem dX12_goesBy_68 : decode cX12_goesBy 68 = .ok (.invokevirtual 347, 3) := by decide +kernel
theorem dX12_goesBy_71 : decode cX12_goesBy 71 = .ok (.ireturn, 1) := by decide +kernel
theorem dX12_goesBy_72 : decode cX12_goesBy 72 = .ok (.aload_n 0, 1) := by decide +kernel
theorem dX12_goesBy_73 : decode cX12_goesBy 73 = .ok (.iload_n 3, 1) := by decide +kernel
theorem dX12_goesBy_74 : decode cX12_goesBy 74 = .ok (.iload 4, 2) := by decide +kernel
theorem dX12_goesBy_76 : decode cX12_goesBy 76 = .ok (.invokevirtual 350, 3) := by decide +kernel
theorem dX12_goesBy_79 : decode cX12_goesBy 79 = .ok (.istore 5, 2) := by decide +kernel
theorem dX12_goesBy_81 : decode cX12_goesBy 81 = .ok (.iload 5, 2) := by decide +kernel
theorem dX12_goesBy_83 : decode cX12_goesBy 83 = .ok (.ifCond .ge 8, 3) := by decide +kernel
theorem dX12_goesBy_86 : decode cX12_goesBy 86 = .ok (.bipush (-9), 2) := by decide +kernel
theorem dX12_goesBy_88 : decode cX12_goesBy 88 = .ok (.goto 10, 3) := by decide +kernel
theorem dX12_goesBy_91 : decode cX12_goesBy 91 = .ok (.aload_n 0, 1) := by decide +kernel
theorem dX12_goesBy_92 : decode cX12_goesBy 92 = .ok (.iload_n 3, 1) := by decide +kernel
theorem dX12_goesBy_93 : decode cX12_goesBy 93 = .ok (.iload 5, 2) := by decide +kernel
theorem dX12_goesBy_95 : decode cX12_goesBy 95 = .ok (.invokevirtual 347, 3) := by decide +kernel
theorem dX12_goesBy_98 : decode cX12_goesBy 98 = .ok (.ireturn, 1) := by decide +kernel
theorem dX12_goesBy_99 : decode cX12_goesBy 99 = .ok (.aload_n 0, 1) := by decide +kernel
theorem dX12_goesBy_100 : decode cX12_goesBy 100 = .ok (.iload_n 3, 1) := by decide +kernel
theorem dX12_goesBy_101 : decode cX12_goesBy 101 = .ok (.iload 4, 2) := by decide +kernel
theorem dX12_goesBy_103 : decode cX12_goesBy 103 = .ok (.invokevirtual 289, 3) := by decide +kernel
theorem dX12_goesBy_106 : decode cX12_goesBy 106 = .ok (.iconst 1, 1) := by decide +kernel
theorem dX12_goesBy_107 : decode cX12_goesBy 107 = .ok (.if_icmp .ne 13, 3) := by decide +kernel
theorem dX12_goesBy_110 : decode cX12_goesBy 110 = .ok (.aload_n 0, 1) := by decide +kernel
theorem dX12_goesBy_111 : decode cX12_goesBy 111 = .ok (.iload_n 3, 1) := by decide +kernel
theorem dX12_goesBy_112 : decode cX12_goesBy 112 = .ok (.iload 4, 2) := by decide +kernel
theorem dX12_goesBy_114 : decode cX12_goesBy 114 = .ok (.invokevirtual 347, 3) := by decide +kernel
theorem dX12_goesBy_117 : decode cX12_goesBy 117 = .ok (.goto 5, 3) := by decide +kernel
theorem dX12_goesBy_120 : decode cX12_goesBy 120 = .ok (.bipush (-9), 2) := by decide +kernel
theorem dX12_goesBy_122 : decode cX12_goesBy 122 = .ok (.ireturn, 1) := by decide +kernel
theorem dX12_goes_0 : decode cX12_goes 0 = .ok (.aload_n 0, 1) := by decide +kernel
theorem dX12_goes_1 : decode cX12_goes 1 = .ok (.iload_n 1, 1) := by decide +kernel
theorem dX12_goes_2 : decode cX12_goes 2 = .ok (.invokevirtual 342, 3) := by decide +kernel
theorem dX12_goes_5 : decode cX12_goes 5 = .ok (.ifCond .eq 20, 3) := by decide +kernel
theorem dX12_goes_8 : decode cX12_goes 8 = .ok (.aload_n 0, 1) := by decide +kernel
theorem dX12_goes_9 : decode cX12_goes 9 = .ok (.iload_n 2, 1) := by decide +kernel
theorem dX12_goes_10 : decode cX12_goes 10 = .ok (.invokevirtual 261, 3) := by decide +kernel
theorem dX12_goes_13 : decode cX12_goes 13 = .ok (.ifCond .eq 12, 3) := by decide +kernel
theorem dX12_goes_16 : decode cX12_goes 16 = .ok (.aload_n 0, 1) := by decide +kernel
theorem dX12_goes_17 : decode cX12_goes 17 = .ok (.iload_n 1, 1) := by decide +kernel
theorem dX12_goes_18 : decode cX12_goes 18 = .ok (.iload_n 2, 1) := by decide +kernel
theorem dX12_goes_19 : decode cX12_goes 19 = .ok (.invokevirtual 353, 3) := by decide +kernel
theorem dX12_goes_22 : decode cX12_goes 22 = .ok (.goto 4, 3) := by decide +kernel
theorem dX12_goes_25 : decode cX12_goes 25 = .ok (.iconst (-1), 1) := by decide +kernel
theorem dX12_goes_26 : decode cX12_goes 26 = .ok (.ireturn, 1) := by decide +kernel
theorem dX12_does_0 : decode cX12_does 0 = .ok (.aload_n 0, 1) := by decide +kernel
theorem dX12_does_1 : decode cX12_does 1 = .ok (.iload_n 1, 1) := by decide +kernel
theorem dX12_does_2 : decode cX12_does 2 = .ok (.invokevirtual 342, 3) := by decide +kernel
theorem dX12_does_5 : decode cX12_does 5 = .ok (.ifCond .eq 11, 3) := by decide +kernel
theorem dX12_does_8 : decode cX12_does 8 = .ok (.aload_n 0, 1) := by decide +kernel
theorem dX12_does_9 : decode cX12_does 9 = .ok (.iload_n 2, 1) := by decide +kernel
theorem dX12_does_10 : decode cX12_does 10 = .ok (.invokevirtual 261, 3) := by decide +kernel
theorem dX12_does_13 : decode cX12_does 13 = .ok (.ifCond .ne 5, 3) := by decide +kernel
theorem dX12_does_16 : decode cX12_does 16 = .ok (.iconst (-1), 1) := by decide +kernel
theorem dX12_does_17 : decode cX12_does 17 = .ok (.ireturn, 1) := by decide +kernel
theorem dX12_does_18 : decode cX12_does 18 = .ok (.aload_n 0, 1) := by decide +kernel
theorem dX12_does_19 : decode cX12_does 19 = .ok (.iload_n 1, 1) := by decide +kernel
theorem dX12_does_20 : decode cX12_does 20 = .ok (.iload_n 2, 1) := by decide +kernel
theorem dX12_does_21 : decode cX12_does 21 = .ok (.invokevirtual 353, 3) := by decide +kernel
theorem dX12_does_24 : decode cX12_does 24 = .ok (.istore_n 3, 1) := by decide +kernel
theorem dX12_does_25 : decode cX12_does 25 = .ok (.iload_n 3, 1) := by decide +kernel
theorem dX12_does_26 : decode cX12_does 26 = .ok (.ifCond .ge 5, 3) := by decide +kernel
theorem dX12_does_29 : decode cX12_does 29 = .ok (.iconst 0, 1) := by decide +kernel
theorem dX12_does_30 : decode cX12_does 30 = .ok (.ireturn, 1) := by decide +kernel
theorem dX12_does_31 : decode cX12_does 31 = .ok (.aload_n 0, 1) := by decide +kernel
theorem dX12_does_32 : decode cX12_does 32 = .ok (.getfield 29, 3) := by decide +kernel
theorem dX12_does_35 : decode cX12_does 35 = .ok (.iconst 2, 1) := by decide +kernel
theorem dX12_does_36 : decode cX12_does 36 = .ok (.iload_n 1, 1) := by decide +kernel
theorem dX12_does_37 : decode cX12_does 37 = .ok (.imul, 1) := by decide +kernel
theorem dX12_does_38 : decode cX12_does 38 = .ok (.iaload, 1) := by decide +kernel
theorem dX12_does_39 : decode cX12_does 39 = .ok (.iconst 1, 1) := by decide +kernel
theorem dX12_does_40 : decode cX12_does 40 = .ok (.if_icmp .ne 13, 3) := by decide +kernel
theorem dX12_does_43 : decode cX12_does 43 = .ok (.aload_n 0, 1) := by decide +kernel
theorem dX12_does_44 : decode cX12_does 44 = .ok (.getfield 16, 3) := by decide +kernel
theorem dX12_does_47 : decode cX12_does 47 = .ok (.iload_n 2, 1) := by decide +kernel
theorem dX12_does_48 : decode cX12_does 48 = .ok (.iload_n 3, 1) := by decide +kernel
theorem dX12_does_49 : decode cX12_does 49 = .ok (.iastore, 1) := by decide +kernel
theorem dX12_does_50 : decode cX12_does 50 = .ok (.goto 20, 3) := by decide +kernel
theorem dX12_does_53 : decode cX12_does 53 = .ok (.aload_n 0, 1) := by decide +kernel
theorem dX12_does_54 : decode cX12_does 54 = .ok (.getfield 13, 3) := by decide +kernel
theorem dX12_does_57 : decode cX12_does 57 = .ok (.iload_n 2, 1) := by decide +kernel
theorem dX12_does_58 : decode cX12_does 58 = .ok (.aload_n 0, 1) := by decide +kernel
theorem dX12_does_59 : decode cX12_does 59 = .ok (.iload_n 3, 1) := by decide +kernel
theorem dX12_does_60 : decode cX12_does 60 = .ok (.aload_n 0, 1) := by decide +kernel
theorem dX12_does_61 : decode cX12_does 61 = .ok (.getfield 13, 3) := by decide +kernel
theorem dX12_does_64 : decode cX12_does 64 = .ok (.iload_n 2, 1) := by decide +kernel
theorem dX12_does_65 : decode cX12_does 65 = .ok (.iaload, 1) := by decide +kernel
theorem dX12_does_66 : decode cX12_does 66 = .ok (.invokevirtual 267, 3) := by decide +kernel
theorem dX12_does_69 : decode cX12_does 69 = .ok (.iastore, 1) := by decide +kernel
theorem dX12_does_70 : decode cX12_does 70 = .ok (.iconst 1, 1) := by decide +kernel
theorem dX12_does_71 : decode cX12_does 71 = .ok (.ireturn, 1) := by decide +kernel
theorem dX12_findRows_0 : decode cX12_findRows 0 = .ok (.aload_n 0, 1) := by decide +kernel
theorem dX12_findRows_1 : decode cX12_findRows 1 = .ok (.aload_n 0, 1) := by decide +kernel
theorem dX12_findRows_2 : decode cX12_findRows 2 = .ok (.getfield 25, 3) := by decide +kernel
theorem dX12_findRows_5 : decode cX12_findRows 5 = .ok (.putfield 277, 3) := by decide +kernel
theorem dX12_findRows_8 : decode cX12_findRows 8 = .ok (.aload_n 0, 1) := by decide +kernel
theorem dX12_findRows_9 : decode cX12_findRows 9 = .ok (.getfield 103, 3) := by decide +kernel
theorem dX12_findRows_12 : decode cX12_findRows 12 = .ok (.istore_n 2, 1) := by decide +kernel
theorem dX12_findRows_13 : decode cX12_findRows 13 = .ok (.iconst 0, 1) := by decide +kernel
theorem dX12_findRows_14 : decode cX12_findRows 14 = .ok (.istore_n 3, 1) := by decide +kernel
theorem dX12_findRows_15 : decode cX12_findRows 15 = .ok (.iload_n 3, 1) := by decide +kernel
theorem dX12_findRows_16 : decode cX12_findRows 16 = .ok (.iload_n 1, 1) := by decide +kernel
theorem dX12_findRows_17 : decode cX12_findRows 17 = .ok (.if_icmp .ge 43, 3) := by decide +kernel
theorem dX12_findRows_20 : decode cX12_findRows 20 = .ok (.aload_n 0, 1) := by decide +kernel
theorem dX12_findRows_21 : decode cX12_findRows 21 = .ok (.iload_n 2, 1) := by decide +kernel
theorem dX12_findRows_22 : decode cX12_findRows 22 = .ok (.invokevirtual 283, 3) := by decide +kernel
theorem dX12_findRows_25 : decode cX12_findRows 25 = .ok (.istore_n 2, 1) := by decide +kernel
theorem dX12_findRows_26 : decode cX12_findRows 26 = .ok (.aload_n 0, 1) := by decide +kernel
theorem dX12_findRows_27 : decode cX12_findRows 27 = .ok (.getfield 63, 3) := by decide +kernel
theorem dX12_findRows_30 : decode cX12_findRows 30 = .ok (.iconst 2, 1) := by decide +kernel
theorem dX12_findRows_31 : decode cX12_findRows 31 = .ok (.iload_n 3, 1) := by decide +kernel
theorem dX12_findRows_32 : decode cX12_findRows 32 = .ok (.imul, 1) := by decide +kernel
theorem dX12_findRows_33 : decode cX12_findRows 33 = .ok (.iload_n 2, 1) := by decide +kernel
theorem dX12_findRows_34 : decode cX12_findRows 34 = .ok (.iastore, 1) := by decide +kernel
theorem dX12_findRows_35 : decode cX12_findRows 35 = .ok (.aload_n 0, 1) := by decide +kernel
theorem dX12_findRows_36 : decode cX12_findRows 36 = .ok (.getfield 63, 3) := by decide +kernel
theorem dX12_findRows_39 : decode cX12_findRows 39 = .ok (.iconst 2, 1) := by decide +kernel
theorem dX12_findRows_40 : decode cX12_findRows 40 = .ok (.iload_n 3, 1) := by decide +kernel
theorem dX12_findRows_41 : decode cX12_findRows 41 = .ok (.imul, 1) := by decide +kernel
theorem dX12_findRows_42 : decode cX12_findRows 42 = .ok (.iconst 1, 1) := by decide +kernel
theorem dX12_findRows_43 : decode cX12_findRows 43 = .ok (.iadd, 1) := by decide +kernel
theorem dX12_findRows_44 : decode cX12_findRows 44 = .ok (.aload_n 0, 1) := by decide +kernel
theorem dX12_findRows_45 : decode cX12_findRows 45 = .ok (.iload_n 2, 1) := by decide +kernel
theorem dX12_findRows_46 : decode cX12_findRows 46 = .ok (.iconst 0, 1) := by decide +kernel
theorem dX12_findRows_47 : decode cX12_findRows 47 = .ok (.invokevirtual 292, 3) := by decide +kernel
theorem dX12_findRows_50 : decode cX12_findRows 50 = .ok (.invokestatic 270, 3) := by decide +kernel
theorem dX12_findRows_53 : decode cX12_findRows 53 = .ok (.iastore, 1) := by decide +kernel
theorem dX12_findRows_54 : decode cX12_findRows 54 = .ok (.iinc 3 1, 3) := by decide +kernel
theorem dX12_findRows_57 : decode cX12_findRows 57 = .ok (.goto (-42), 3) := by decide +kernel
theorem dX12_findRows_60 : decode cX12_findRows 60 = .ok (.return_, 1) := by decide +kernel
theorem dX12_prove_0 : decode cX12_prove 0 = .ok (.iload_n 1, 1) := by decide +kernel
theorem dX12_prove_1 : decode cX12_prove 1 = .ok (.iconst 1, 1) := by decide +kernel
theorem dX12_prove_2 : decode cX12_prove 2 = .ok (.bipush 12, 2) := by decide +kernel
theorem dX12_prove_4 : decode cX12_prove 4 = .ok (.invokestatic 93, 3) := by decide +kernel
theorem dX12_prove_7 : decode cX12_prove 7 = .ok (.ifCond .ne 5, 3) := by decide +kernel
theorem dX12_prove_10 : decode cX12_prove 10 = .ok (.iconst (-1), 1) := by decide +kernel
theorem dX12_prove_11 : decode cX12_prove 11 = .ok (.ireturn, 1) := by decide +kernel
theorem dX12_prove_12 : decode cX12_prove 12 = .ok (.aload_n 0, 1) := by decide +kernel
theorem dX12_prove_13 : decode cX12_prove 13 = .ok (.iload_n 1, 1) := by decide +kernel
theorem dX12_prove_14 : decode cX12_prove 14 = .ok (.invokevirtual 356, 3) := by decide +kernel
theorem dX12_prove_17 : decode cX12_prove 17 = .ok (.aload_n 0, 1) := by decide +kernel
theorem dX12_prove_18 : decode cX12_prove 18 = .ok (.iload_n 1, 1) := by decide +kernel
theorem dX12_prove_19 : decode cX12_prove 19 = .ok (.putfield 230, 3) := by decide +kernel
theorem dX12_prove_22 : decode cX12_prove 22 = .ok (.iconst 0, 1) := by decide +kernel
theorem dX12_prove_23 : decode cX12_prove 23 = .ok (.istore_n 2, 1) := by decide +kernel
theorem dX12_prove_24 : decode cX12_prove 24 = .ok (.iload_n 2, 1) := by decide +kernel
theorem dX12_prove_25 : decode cX12_prove 25 = .ok (.iconst 2, 1) := by decide +kernel
theorem dX12_prove_26 : decode cX12_prove 26 = .ok (.iload_n 1, 1) := by decide +kernel
theorem dX12_prove_27 : decode cX12_prove 27 = .ok (.imul, 1) := by decide +kernel
theorem dX12_prove_28 : decode cX12_prove 28 = .ok (.if_icmp .ge 21, 3) := by decide +kernel
theorem dX12_prove_31 : decode cX12_prove 31 = .ok (.aload_n 0, 1) := by decide +kernel
theorem dX12_prove_32 : decode cX12_prove 32 = .ok (.getfield 60, 3) := by decide +kernel
theorem dX12_prove_35 : decode cX12_prove 35 = .ok (.iload_n 2, 1) := by decide +kernel
theorem dX12_prove_36 : decode cX12_prove 36 = .ok (.aload_n 0, 1) := by decide +kernel
theorem dX12_prove_37 : decode cX12_prove 37 = .ok (.getfield 63, 3) := by decide +kernel
theorem dX12_prove_40 : decode cX12_prove 40 = .ok (.iload_n 2, 1) := by decide +kernel
theorem dX12_prove_41 : decode cX12_prove 41 = .ok (.iaload, 1) := by decide +kernel
theorem dX12_prove_42 : decode cX12_prove 42 = .ok (.iastore, 1) := by decide +kernel
theorem dX12_prove_43 : decode cX12_prove 43 = .ok (.iinc 2 1, 3) := by decide +kernel
theorem dX12_prove_46 : decode cX12_prove 46 = .ok (.goto (-22), 3) := by decide +kernel
theorem dX12_prove_49 : decode cX12_prove 49 = .ok (.aload_n 0, 1) := by decide +kernel
theorem dX12_prove_50 : decode cX12_prove 50 = .ok (.getfield 230, 3) := by decide +kernel
theorem dX12_prove_53 : decode cX12_prove 53 = .ok (.ireturn, 1) := by decide +kernel
theorem dX12_isRow_0 : decode cX12_isRow 0 = .ok (.iload_n 1, 1) := by decide +kernel
theorem dX12_isRow_1 : decode cX12_isRow 1 = .ok (.iconst 0, 1) := by decide +kernel
theorem dX12_isRow_2 : decode cX12_isRow 2 = .ok (.aload_n 0, 1) := by decide +kernel
theorem dX12_isRow_3 : decode cX12_isRow 3 = .ok (.getfield 230, 3) := by decide +kernel
theorem dX12_isRow_6 : decode cX12_isRow 6 = .ok (.iconst 1, 1) := by decide +kernel
theorem dX12_isRow_7 : decode cX12_isRow 7 = .ok (.isub, 1) := by decide +kernel
theorem dX12_isRow_8 : decode cX12_isRow 8 = .ok (.invokestatic 93, 3) := by decide +kernel
theorem dX12_isRow_11 : decode cX12_isRow 11 = .ok (.ifCond .eq 14, 3) := by decide +kernel
theorem dX12_isRow_14 : decode cX12_isRow 14 = .ok (.iload_n 2, 1) := by decide +kernel
theorem dX12_isRow_15 : decode cX12_isRow 15 = .ok (.invokestatic 313, 3) := by decide +kernel
theorem dX12_isRow_18 : decode cX12_isRow 18 = .ok (.ifCond .eq 7, 3) := by decide +kernel
theorem dX12_isRow_21 : decode cX12_isRow 21 = .ok (.iconst 1, 1) := by decide +kernel
theorem dX12_isRow_22 : decode cX12_isRow 22 = .ok (.goto 4, 3) := by decide +kernel
theorem dX12_isRow_25 : decode cX12_isRow 25 = .ok (.iconst 0, 1) := by decide +kernel
theorem dX12_isRow_26 : decode cX12_isRow 26 = .ok (.ireturn, 1) := by decide +kernel
theorem dX12_row_0 : decode cX12_row 0 = .ok (.aload_n 0, 1) := by decide +kernel
theorem dX12_row_1 : decode cX12_row 1 = .ok (.iload_n 1, 1) := by decide +kernel
theorem dX12_row_2 : decode cX12_row 2 = .ok (.iload_n 2, 1) := by decide +kernel
theorem dX12_row_3 : decode cX12_row 3 = .ok (.invokevirtual 359, 3) := by decide +kernel
theorem dX12_row_6 : decode cX12_row 6 = .ok (.ifCond .eq 16, 3) := by decide +kernel
theorem dX12_row_9 : decode cX12_row 9 = .ok (.aload_n 0, 1) := by decide +kernel
theorem dX12_row_10 : decode cX12_row 10 = .ok (.getfield 60, 3) := by decide +kernel
theorem dX12_row_13 : decode cX12_row 13 = .ok (.iconst 2, 1) := by decide +kernel
theorem dX12_row_14 : decode cX12_row 14 = .ok (.iload_n 1, 1) := by decide +kernel
theorem dX12_row_15 : decode cX12_row 15 = .ok (.imul, 1) := by decide +kernel
theorem dX12_row_16 : decode cX12_row 16 = .ok (.iload_n 2, 1) := by decide +kernel
theorem dX12_row_17 : decode cX12_row 17 = .ok (.iadd, 1) := by decide +kernel
theorem dX12_row_18 : decode cX12_row 18 = .ok (.iaload, 1) := by decide +kernel
theorem dX12_row_19 : decode cX12_row 19 = .ok (.goto 5, 3) := by decide +kernel
theorem dX12_row_22 : decode cX12_row 22 = .ok (.bipush (-9), 2) := by decide +kernel
theorem dX12_row_24 : decode cX12_row 24 = .ok (.ireturn, 1) := by decide +kernel
theorem dX12_alterRow_0 : decode cX12_alterRow 0 = .ok (.aload_n 0, 1) := by decide +kernel
theorem dX12_alterRow_1 : decode cX12_alterRow 1 = .ok (.iload_n 1, 1) := by decide +kernel
theorem dX12_alterRow_2 : decode cX12_alterRow 2 = .ok (.iload_n 2, 1) := by decide +kernel
theorem dX12_alterRow_3 : decode cX12_alterRow 3 = .ok (.invokevirtual 359, 3) := by decide +kernel
theorem dX12_alterRow_6 : decode cX12_alterRow 6 = .ok (.ifCond .ne 6, 3) := by decide +kernel
theorem dX12_alterRow_9 : decode cX12_alterRow 9 = .ok (.bipush (-9), 2) := by decide +kernel
theorem dX12_alterRow_11 : decode cX12_alterRow 11 = .ok (.ireturn, 1) := by decide +kernel
theorem dX12_alterRow_12 : decode cX12_alterRow 12 = .ok (.aload_n 0, 1) := by decide +kernel
theorem dX12_alterRow_13 : decode cX12_alterRow 13 = .ok (.getfield 60, 3) := by decide +kernel
theorem dX12_alterRow_16 : decode cX12_alterRow 16 = .ok (.iconst 2, 1) := by decide +kernel
theorem dX12_alterRow_17 : decode cX12_alterRow 17 = .ok (.iload_n 1, 1) := by decide +kernel
theorem dX12_alterRow_18 : decode cX12_alterRow 18 = .ok (.imul, 1) := by decide +kernel
theorem dX12_alterRow_19 : decode cX12_alterRow 19 = .ok (.iload_n 2, 1) := by decide +kernel
theorem dX12_alterRow_20 : decode cX12_alterRow 20 = .ok (.iadd, 1) := by decide +kernel
theorem dX12_alterRow_21 : decode cX12_alterRow 21 = .ok (.iaload, 1) := by decide +kernel
theorem dX12_alterRow_22 : decode cX12_alterRow 22 = .ok (.istore 4, 2) := by decide +kernel
theorem dX12_alterRow_24 : decode cX12_alterRow 24 = .ok (.aload_n 0, 1) := by decide +kernel
theorem dX12_alterRow_25 : decode cX12_alterRow 25 = .ok (.getfield 60, 3) := by decide +kernel
theorem dX12_alterRow_28 : decode cX12_alterRow 28 = .ok (.iconst 2, 1) := by decide +kernel
theorem dX12_alterRow_29 : decode cX12_alterRow 29 = .ok (.iload_n 1, 1) := by decide +kernel
theorem dX12_alterRow_30 : decode cX12_alterRow 30 = .ok (.imul, 1) := by decide +kernel
theorem dX12_alterRow_31 : decode cX12_alterRow 31 = .ok (.iload_n 2, 1) := by decide +kernel
theorem dX12_alterRow_32 : decode cX12_alterRow 32 = .ok (.iadd, 1) := by decide +kernel
theorem dX12_alterRow_33 : decode cX12_alterRow 33 = .ok (.iload_n 3, 1) := by decide +kernel
theorem dX12_alterRow_34 : decode cX12_alterRow 34 = .ok (.iastore, 1) := by decide +kernel
theorem dX12_alterRow_35 : decode cX12_alterRow 35 = .ok (.iload 4, 2) := by decide +kernel
theorem dX12_alterRow_37 : decode cX12_alterRow 37 = .ok (.ireturn, 1) := by decide +kernel
theorem dX12_judge_0 : decode cX12_judge 0 = .ok (.aload_n 0, 1) := by decide +kernel
theorem dX12_judge_1 : decode cX12_judge 1 = .ok (.aload_n 0, 1) := by decide +kernel
theorem dX12_judge_2 : decode cX12_judge 2 = .ok (.getfield 230, 3) := by decide +kernel
theorem dX12_judge_5 : decode cX12_judge 5 = .ok (.invokevirtual 356, 3) := by decide +kernel
theorem dX12_judge_8 : decode cX12_judge 8 = .ok (.iconst 0, 1) := by decide +kernel
theorem dX12_judge_9 : decode cX12_judge 9 = .ok (.istore_n 1, 1) := by decide +kernel
theorem dX12_judge_10 : decode cX12_judge 10 = .ok (.iload_n 1, 1) := by decide +kernel
theorem dX12_judge_11 : decode cX12_judge 11 = .ok (.iconst 2, 1) := by decide +kernel
theorem dX12_judge_12 : decode cX12_judge 12 = .ok (.aload_n 0, 1) := by decide +kernel
theorem dX12_judge_13 : decode cX12_judge 13 = .ok (.getfield 230, 3) := by decide +kernel
theorem dX12_judge_16 : decode cX12_judge 16 = .ok (.imul, 1) := by decide +kernel
theorem dX12_judge_17 : decode cX12_judge 17 = .ok (.if_icmp .ge 30, 3) := by decide +kernel
theorem dX12_judge_20 : decode cX12_judge 20 = .ok (.aload_n 0, 1) := by decide +kernel
theorem dX12_judge_21 : decode cX12_judge 21 = .ok (.getfield 60, 3) := by decide +kernel
theorem dX12_judge_24 : decode cX12_judge 24 = .ok (.iload_n 1, 1) := by decide +kernel
theorem dX12_judge_25 : decode cX12_judge 25 = .ok (.iaload, 1) := by decide +kernel
theorem dX12_judge_26 : decode cX12_judge 26 = .ok (.aload_n 0, 1) := by decide +kernel
theorem dX12_judge_27 : decode cX12_judge 27 = .ok (.getfield 63, 3) := by decide +kernel
theorem dX12_judge_30 : decode cX12_judge 30 = .ok (.iload_n 1, 1) := by decide +kernel
theorem dX12_judge_31 : decode cX12_judge 31 = .ok (.iaload, 1) := by decide +kernel
theorem dX12_judge_32 : decode cX12_judge 32 = .ok (.if_icmp .eq 9, 3) := by decide +kernel
theorem dX12_judge_35 : decode cX12_judge 35 = .ok (.iload_n 1, 1) := by decide +kernel
theorem dX12_judge_36 : decode cX12_judge 36 = .ok (.iconst 2, 1) := by decide +kernel
theorem dX12_judge_37 : decode cX12_judge 37 = .ok (.idiv, 1) := by decide +kernel
theorem dX12_judge_38 : decode cX12_judge 38 = .ok (.iconst 1, 1) := by decide +kernel
theorem dX12_judge_39 : decode cX12_judge 39 = .ok (.iadd, 1) := by decide +kernel
theorem dX12_judge_40 : decode cX12_judge 40 = .ok (.ireturn, 1) := by decide +kernel
theorem dX12_judge_41 : decode cX12_judge 41 = .ok (.iinc 1 1, 3) := by decide +kernel
theorem dX12_judge_44 : decode cX12_judge 44 = .ok (.goto (-34), 3) := by decide +kernel
theorem dX12_judge_47 : decode cX12_judge 47 = .ok (.iconst 0, 1) := by decide +kernel
theorem dX12_judge_48 : decode cX12_judge 48 = .ok (.ireturn, 1) := by decide +kernel
theorem dX12_lays_0 : decode cX12_lays 0 = .ok (.iload_n 1, 1) := by decide +kernel
theorem dX12_lays_1 : decode cX12_lays 1 = .ok (.invokestatic 362, 3) := by decide +kernel
theorem dX12_lays_4 : decode cX12_lays 4 = .ok (.ifCond .ne 5, 3) := by decide +kernel
theorem dX12_lays_7 : decode cX12_lays 7 = .ok (.iconst (-1), 1) := by decide +kernel
theorem dX12_lays_8 : decode cX12_lays 8 = .ok (.ireturn, 1) := by decide +kernel
theorem dX12_lays_9 : decode cX12_lays 9 = .ok (.aload_n 0, 1) := by decide +kernel
theorem dX12_lays_10 : decode cX12_lays 10 = .ok (.iload_n 1, 1) := by decide +kernel
theorem dX12_lays_11 : decode cX12_lays 11 = .ok (.iconst 2, 1) := by decide +kernel
theorem dX12_lays_12 : decode cX12_lays 12 = .ok (.invokevirtual 365, 3) := by decide +kernel
theorem dX12_lays_15 : decode cX12_lays 15 = .ok (.istore_n 2, 1) := by decide +kernel
theorem dX12_lays_16 : decode cX12_lays 16 = .ok (.iload_n 2, 1) := by decide +kernel
theorem dX12_lays_17 : decode cX12_lays 17 = .ok (.ifCond .eq 5, 3) := by decide +kernel
theorem dX12_lays_20 : decode cX12_lays 20 = .ok (.iload_n 2, 1) := by decide +kernel
theorem dX12_lays_21 : decode cX12_lays 21 = .ok (.ireturn, 1) := by decide +kernel
theorem dX12_lays_22 : decode cX12_lays 22 = .ok (.aload_n 0, 1) := by decide +kernel
theorem dX12_lays_23 : decode cX12_lays 23 = .ok (.getfield 69, 3) := by decide +kernel
theorem dX12_lays_26 : decode cX12_lays 26 = .ok (.iload_n 1, 1) := by decide +kernel
theorem dX12_lays_27 : decode cX12_lays 27 = .ok (.iaload, 1) := by decide +kernel
theorem dX12_lays_28 : decode cX12_lays 28 = .ok (.aload_n 0, 1) := by decide +kernel
theorem dX12_lays_29 : decode cX12_lays 29 = .ok (.getfield 97, 3) := by decide +kernel
theorem dX12_lays_32 : decode cX12_lays 32 = .ok (.if_icmp .ge 12, 3) := by decide +kernel
theorem dX12_lays_35 : decode cX12_lays 35 = .ok (.aload_n 0, 1) := by decide +kernel
theorem dX12_lays_36 : decode cX12_lays 36 = .ok (.getfield 69, 3) := by decide +kernel
theorem dX12_lays_39 : decode cX12_lays 39 = .ok (.iload_n 1, 1) := by decide +kernel
theorem dX12_lays_40 : decode cX12_lays 40 = .ok (.iaload, 1) := by decide +kernel
theorem dX12_lays_41 : decode cX12_lays 41 = .ok (.goto 7, 3) := by decide +kernel
theorem dX12_lays_44 : decode cX12_lays 44 = .ok (.aload_n 0, 1) := by decide +kernel
theorem dX12_lays_45 : decode cX12_lays 45 = .ok (.getfield 97, 3) := by decide +kernel
theorem dX12_lays_48 : decode cX12_lays 48 = .ok (.istore_n 3, 1) := by decide +kernel
theorem dX12_lays_49 : decode cX12_lays 49 = .ok (.iconst 0, 1) := by decide +kernel
theorem dX12_lays_50 : decode cX12_lays 50 = .ok (.istore 4, 2) := by decide +kernel
theorem dX12_lays_52 : decode cX12_lays 52 = .ok (.iload 4, 2) := by decide +kernel
theorem dX12_lays_54 : decode cX12_lays 54 = .ok (.iload_n 3, 1) := by decide +kernel
theorem dX12_lays_55 : decode cX12_lays 55 = .ok (.if_icmp .ge 62, 3) := by decide +kernel
theorem dX12_lays_58 : decode cX12_lays 58 = .ok (.aload_n 0, 1) := by decide +kernel
theorem dX12_lays_59 : decode cX12_lays 59 = .ok (.getfield 72, 3) := by decide +kernel
theorem dX12_lays_62 : decode cX12_lays 62 = .ok (.bipush 40, 2) := by decide +kernel
theorem dX12_lays_64 : decode cX12_lays 64 = .ok (.iload_n 1, 1) := by decide +kernel
theorem dX12_lays_65 : decode cX12_lays 65 = .ok (.imul, 1) := by decide +kernel
theorem dX12_lays_66 : decode cX12_lays 66 = .ok (.iload 4, 2) := by decide +kernel
theorem dX12_lays_68 : decode cX12_lays 68 = .ok (.iadd, 1) := by decide +kernel
theorem dX12_lays_69 : decode cX12_lays 69 = .ok (.laload, 1) := by decide +kernel
theorem dX12_lays_70 : decode cX12_lays 70 = .ok (.lstore 5, 2) := by decide +kernel
theorem dX12_lays_72 : decode cX12_lays 72 = .ok (.aload_n 0, 1) := by decide +kernel
theorem dX12_lays_73 : decode cX12_lays 73 = .ok (.getfield 7, 3) := by decide +kernel
theorem dX12_lays_76 : decode cX12_lays 76 = .ok (.iconst 5, 1) := by decide +kernel
theorem dX12_lays_77 : decode cX12_lays 77 = .ok (.iload 4, 2) := by decide +kernel
theorem dX12_lays_79 : decode cX12_lays 79 = .ok (.imul, 1) := by decide +kernel
theorem dX12_lays_80 : decode cX12_lays 80 = .ok (.iconst 3, 1) := by decide +kernel
theorem dX12_lays_81 : decode cX12_lays 81 = .ok (.iadd, 1) := by decide +kernel
theorem dX12_lays_82 : decode cX12_lays 82 = .ok (.lload 5, 2) := by decide +kernel
theorem dX12_lays_84 : decode cX12_lays 84 = .ok (.lconst 0, 1) := by decide +kernel
theorem dX12_lays_85 : decode cX12_lays 85 = .ok (.lcmp, 1) := by decide +kernel
theorem dX12_lays_86 : decode cX12_lays 86 = .ok (.ifCond .ge 7, 3) := by decide +kernel
theorem dX12_lays_89 : decode cX12_lays 89 = .ok (.iconst 0, 1) := by decide +kernel
theorem dX12_lays_90 : decode cX12_lays 90 = .ok (.goto 20, 3) := by decide +kernel
theorem dX12_lays_93 : decode cX12_lays 93 = .ok (.lload 5, 2) := by decide +kernel
theorem dX12_lays_95 : decode cX12_lays 95 = .ok (.ldc2_w 328, 3) := by decide +kernel
theorem dX12_lays_98 : decode cX12_lays 98 = .ok (.lcmp, 1) := by decide +kernel
theorem dX12_lays_99 : decode cX12_lays 99 = .ok (.ifCond .le 8, 3) := by decide +kernel
theorem dX12_lays_102 : decode cX12_lays 102 = .ok (.bipush 8, 2) := by decide +kernel
theorem dX12_lays_104 : decode cX12_lays 104 = .ok (.goto 6, 3) := by decide +kernel
theorem dX12_lays_107 : decode cX12_lays 107 = .ok (.lload 5, 2) := by decide +kernel
theorem dX12_lays_109 : decode cX12_lays 109 = .ok (.l2i, 1) := by decide +kernel
theorem dX12_lays_110 : decode cX12_lays 110 = .ok (.iastore, 1) := by decide +kernel
theorem dX12_lays_111 : decode cX12_lays 111 = .ok (.iinc 4 1, 3) := by decide +kernel
theorem dX12_lays_114 : decode cX12_lays 114 = .ok (.goto (-62), 3) := by decide +kernel
theorem dX12_lays_117 : decode cX12_lays 117 = .ok (.iload_n 3, 1) := by decide +kernel
theorem dX12_lays_118 : decode cX12_lays 118 = .ok (.ireturn, 1) := by decide +kernel
theorem dX12_isShelf_0 : decode cX12_isShelf 0 = .ok (.iload_n 0, 1) := by decide +kernel
theorem dX12_isShelf_1 : decode cX12_isShelf 1 = .ok (.iconst 0, 1) := by decide +kernel
theorem dX12_isShelf_2 : decode cX12_isShelf 2 = .ok (.iconst 3, 1) := by decide +kernel
theorem dX12_isShelf_3 : decode cX12_isShelf 3 = .ok (.invokestatic 93, 3) := by decide +kernel
theorem dX12_isShelf_6 : decode cX12_isShelf 6 = .ok (.ireturn, 1) := by decide +kernel
theorem dX12_sheet_0 : decode cX12_sheet 0 = .ok (.iload_n 1, 1) := by decide +kernel
theorem dX12_sheet_1 : decode cX12_sheet 1 = .ok (.invokestatic 362, 3) := by decide +kernel
theorem dX12_sheet_4 : decode cX12_sheet 4 = .ok (.ifCond .eq 22, 3) := by decide +kernel
theorem dX12_sheet_7 : decode cX12_sheet 7 = .ok (.iload_n 2, 1) := by decide +kernel
theorem dX12_sheet_8 : decode cX12_sheet 8 = .ok (.iconst (-1), 1) := by decide +kernel
theorem dX12_sheet_9 : decode cX12_sheet 9 = .ok (.iconst 3, 1) := by decide +kernel
theorem dX12_sheet_10 : decode cX12_sheet 10 = .ok (.invokestatic 93, 3) := by decide +kernel
theorem dX12_sheet_13 : decode cX12_sheet 13 = .ok (.ifCond .eq 13, 3) := by decide +kernel
theorem dX12_sheet_16 : decode cX12_sheet 16 = .ok (.iload_n 2, 1) := by decide +kernel
theorem dX12_sheet_17 : decode cX12_sheet 17 = .ok (.ifCond .lt 11, 3) := by decide +kernel
theorem dX12_sheet_20 : decode cX12_sheet 20 = .ok (.iload_n 3, 1) := by decide +kernel
theorem dX12_sheet_21 : decode cX12_sheet 21 = .ok (.bipush 40, 2) := by decide +kernel
theorem dX12_sheet_23 : decode cX12_sheet 23 = .ok (.if_icmp .le 5, 3) := by decide +kernel
theorem dX12_sheet_26 : decode cX12_sheet 26 = .ok (.iconst (-1), 1) := by decide +kernel
theorem dX12_sheet_27 : decode cX12_sheet 27 = .ok (.ireturn, 1) := by decide +kernel
theorem dX12_sheet_28 : decode cX12_sheet 28 = .ok (.iload_n 2, 1) := by decide +kernel
theorem dX12_sheet_29 : decode cX12_sheet 29 = .ok (.ifCond .lt 10, 3) := by decide +kernel
theorem dX12_sheet_32 : decode cX12_sheet 32 = .ok (.iload_n 3, 1) := by decide +kernel
theorem dX12_sheet_33 : decode cX12_sheet 33 = .ok (.ifCond .ge 6, 3) := by decide +kernel
theorem dX12_sheet_36 : decode cX12_sheet 36 = .ok (.bipush (-14), 2) := by decide +kernel
theorem dX12_sheet_38 : decode cX12_sheet 38 = .ok (.ireturn, 1) := by decide +kernel
theorem dX12_sheet_39 : decode cX12_sheet 39 = .ok (.aload_n 0, 1) := by decide +kernel
theorem dX12_sheet_40 : decode cX12_sheet 40 = .ok (.getfield 66, 3) := by decide +kernel
theorem dX12_sheet_43 : decode cX12_sheet 43 = .ok (.iload_n 1, 1) := by decide +kernel
theorem dX12_sheet_44 : decode cX12_sheet 44 = .ok (.iload_n 2, 1) := by decide +kernel
theorem dX12_sheet_45 : decode cX12_sheet 45 = .ok (.iastore, 1) := by decide +kernel
theorem dX12_sheet_46 : decode cX12_sheet 46 = .ok (.aload_n 0, 1) := by decide +kernel
theorem dX12_sheet_47 : decode cX12_sheet 47 = .ok (.getfield 69, 3) := by decide +kernel
theorem dX12_sheet_50 : decode cX12_sheet 50 = .ok (.iload_n 1, 1) := by decide +kernel
theorem dX12_sheet_51 : decode cX12_sheet 51 = .ok (.iload_n 2, 1) := by decide +kernel
theorem dX12_sheet_52 : decode cX12_sheet 52 = .ok (.ifCond .ge 7, 3) := by decide +kernel
theorem dX12_sheet_55 : decode cX12_sheet 55 = .ok (.iconst 0, 1) := by decide +kernel
theorem dX12_sheet_56 : decode cX12_sheet 56 = .ok (.goto 4, 3) := by decide +kernel
theorem dX12_sheet_59 : decode cX12_sheet 59 = .ok (.iload_n 3, 1) := by decide +kernel
theorem dX12_sheet_60 : decode cX12_sheet 60 = .ok (.iastore, 1) := by decide +kernel
theorem dX12_sheet_61 : decode cX12_sheet 61 = .ok (.iconst 0, 1) := by decide +kernel
theorem dX12_sheet_62 : decode cX12_sheet 62 = .ok (.istore 4, 2) := by decide +kernel
theorem dX12_sheet_64 : decode cX12_sheet 64 = .ok (.iload 4, 2) := by decide +kernel
theorem dX12_sheet_66 : decode cX12_sheet 66 = .ok (.bipush 40, 2) := by decide +kernel
theorem dX12_sheet_68 : decode cX12_sheet 68 = .ok (.if_icmp .ge 22, 3) := by decide +kernel
theorem dX12_sheet_71 : decode cX12_sheet 71 = .ok (.aload_n 0, 1) := by decide +kernel
theorem dX12_sheet_72 : decode cX12_sheet 72 = .ok (.getfield 72, 3) := by decide +kernel
theorem dX12_sheet_75 : decode cX12_sheet 75 = .ok (.bipush 40, 2) := by decide +kernel
theorem dX12_sheet_77 : decode cX12_sheet 77 = .ok (.iload_n 1, 1) := by decide +kernel
theorem dX12_sheet_78 : decode cX12_sheet 78 = .ok (.imul, 1) := by decide +kernel
theorem dX12_sheet_79 : decode cX12_sheet 79 = .ok (.iload 4, 2) := by decide +kernel
theorem dX12_sheet_81 : decode cX12_sheet 81 = .ok (.iadd, 1) := by decide +kernel
theorem dX12_sheet_82 : decode cX12_sheet 82 = .ok (.lconst 0, 1) := by decide +kernel
theorem dX12_sheet_83 : decode cX12_sheet 83 = .ok (.lastore, 1) := by decide +kernel
theorem dX12_sheet_84 : decode cX12_sheet 84 = .ok (.iinc 4 1, 3) := by decide +kernel
theorem dX12_sheet_87 : decode cX12_sheet 87 = .ok (.goto (-23), 3) := by decide +kernel
theorem dX12_sheet_90 : decode cX12_sheet 90 = .ok (.iconst 1, 1) := by decide +kernel
theorem dX12_sheet_91 : decode cX12_sheet 91 = .ok (.ireturn, 1) := by decide +kernel
theorem dX12_write_0 : decode cX12_write 0 = .ok (.iload_n 1, 1) := by decide +kernel
theorem dX12_write_1 : decode cX12_write 1 = .ok (.invokestatic 362, 3) := by decide +kernel
theorem dX12_write_4 : decode cX12_write 4 = .ok (.ifCond .ne 5, 3) := by decide +kernel
theorem dX12_write_7 : decode cX12_write 7 = .ok (.iconst (-1), 1) := by decide +kernel
theorem dX12_write_8 : decode cX12_write 8 = .ok (.ireturn, 1) := by decide +kernel
theorem dX12_write_9 : decode cX12_write 9 = .ok (.aload_n 0, 1) := by decide +kernel
theorem dX12_write_10 : decode cX12_write 10 = .ok (.getfield 66, 3) := by decide +kernel
theorem dX12_write_13 : decode cX12_write 13 = .ok (.iload_n 1, 1) := by decide +kernel
theorem dX12_write_14 : decode cX12_write 14 = .ok (.iaload, 1) := by decide +kernel
theorem dX12_write_15 : decode cX12_write 15 = .ok (.ifCond .ge 6, 3) := by decide +kernel
theorem dX12_write_18 : decode cX12_write 18 = .ok (.bipush (-11), 2) := by decide +kernel
theorem dX12_write_20 : decode cX12_write 20 = .ok (.ireturn, 1) := by decide +kernel
theorem dX12_write_21 : decode cX12_write 21 = .ok (.iload_n 2, 1) := by decide +kernel
theorem dX12_write_22 : decode cX12_write 22 = .ok (.iconst 0, 1) := by decide +kernel
theorem dX12_write_23 : decode cX12_write 23 = .ok (.aload_n 0, 1) := by decide +kernel
theorem dX12_write_24 : decode cX12_write 24 = .ok (.getfield 69, 3) := by decide +kernel
theorem dX12_write_27 : decode cX12_write 27 = .ok (.iload_n 1, 1) := by decide +kernel
theorem dX12_write_28 : decode cX12_write 28 = .ok (.iaload, 1) := by decide +kernel
theorem dX12_write_29 : decode cX12_write 29 = .ok (.iconst 1, 1) := by decide +kernel
theorem dX12_write_30 : decode cX12_write 30 = .ok (.isub, 1) := by decide +kernel
theorem dX12_write_31 : decode cX12_write 31 = .ok (.invokestatic 93, 3) := by decide +kernel
theorem dX12_write_34 : decode cX12_write 34 = .ok (.ifCond .ne 6, 3) := by decide +kernel
theorem dX12_write_37 : decode cX12_write 37 = .ok (.bipush (-12), 2) := by decide +kernel
theorem dX12_write_39 : decode cX12_write 39 = .ok (.ireturn, 1) := by decide +kernel
theorem dX12_write_40 : decode cX12_write 40 = .ok (.aload_n 0, 1) := by decide +kernel
theorem dX12_write_41 : decode cX12_write 41 = .ok (.getfield 72, 3) := by decide +kernel
theorem dX12_write_44 : decode cX12_write 44 = .ok (.bipush 40, 2) := by decide +kernel
theorem dX12_write_46 : decode cX12_write 46 = .ok (.iload_n 1, 1) := by decide +kernel
theorem dX12_write_47 : decode cX12_write 47 = .ok (.imul, 1) := by decide +kernel
theorem dX12_write_48 : decode cX12_write 48 = .ok (.iload_n 2, 1) := by decide +kernel
theorem dX12_write_49 : decode cX12_write 49 = .ok (.iadd, 1) := by decide +kernel
theorem dX12_write_50 : decode cX12_write 50 = .ok (.aload_n 0, 1) := by decide +kernel
theorem dX12_write_51 : decode cX12_write 51 = .ok (.getfield 66, 3) := by decide +kernel
theorem dX12_write_54 : decode cX12_write 54 = .ok (.iload_n 1, 1) := by decide +kernel
theorem dX12_write_55 : decode cX12_write 55 = .ok (.iaload, 1) := by decide +kernel
theorem dX12_write_56 : decode cX12_write 56 = .ok (.ifCond .ne 9, 3) := by decide +kernel
theorem dX12_write_59 : decode cX12_write 59 = .ok (.iload_n 3, 1) := by decide +kernel
theorem dX12_write_60 : decode cX12_write 60 = .ok (.i2b, 1) := by decide +kernel
theorem dX12_write_61 : decode cX12_write 61 = .ok (.i2l, 1) := by decide +kernel
theorem dX12_write_62 : decode cX12_write 62 = .ok (.goto 21, 3) := by decide +kernel
theorem dX12_write_65 : decode cX12_write 65 = .ok (.aload_n 0, 1) := by decide +kernel
theorem dX12_write_66 : decode cX12_write 66 = .ok (.getfield 66, 3) := by decide +kernel
theorem dX12_write_69 : decode cX12_write 69 = .ok (.iload_n 1, 1) := by decide +kernel
theorem dX12_write_70 : decode cX12_write 70 = .ok (.iaload, 1) := by decide +kernel
theorem dX12_write_71 : decode cX12_write 71 = .ok (.iconst 1, 1) := by decide +kernel
theorem dX12_write_72 : decode cX12_write 72 = .ok (.if_icmp .ne 9, 3) := by decide +kernel
theorem dX12_write_75 : decode cX12_write 75 = .ok (.iload_n 3, 1) := by decide +kernel
theorem dX12_write_76 : decode cX12_write 76 = .ok (.i2s, 1) := by decide +kernel
theorem dX12_write_77 : decode cX12_write 77 = .ok (.i2l, 1) := by decide +kernel
theorem dX12_write_78 : decode cX12_write 78 = .ok (.goto 5, 3) := by decide +kernel
theorem dX12_write_81 : decode cX12_write 81 = .ok (.iload_n 3, 1) := by decide +kernel
theorem dX12_write_82 : decode cX12_write 82 = .ok (.i2l, 1) := by decide +kernel
theorem dX12_write_83 : decode cX12_write 83 = .ok (.lastore, 1) := by decide +kernel
theorem dX12_write_84 : decode cX12_write 84 = .ok (.iconst 1, 1) := by decide +kernel
theorem dX12_write_85 : decode cX12_write 85 = .ok (.ireturn, 1) := by decide +kernel
theorem dX12_lacksSort_0 : decode cX12_lacksSort 0 = .ok (.aload_n 0, 1) := by decide +kernel
theorem dX12_lacksSort_1 : decode cX12_lacksSort 1 = .ok (.getfield 66, 3) := by decide +kernel
theorem dX12_lacksSort_4 : decode cX12_lacksSort 4 = .ok (.iload_n 1, 1) := by decide +kernel
theorem dX12_lacksSort_5 : decode cX12_lacksSort 5 = .ok (.iaload, 1) := by decide +kernel
theorem dX12_lacksSort_6 : decode cX12_lacksSort 6 = .ok (.ifCond .ge 8, 3) := by decide +kernel
theorem dX12_lacksSort_9 : decode cX12_lacksSort 9 = .ok (.bipush (-11), 2) := by decide +kernel
theorem dX12_lacksSort_11 : decode cX12_lacksSort 11 = .ok (.goto 19, 3) := by decide +kernel
theorem dX12_lacksSort_14 : decode cX12_lacksSort 14 = .ok (.aload_n 0, 1) := by decide +kernel
theorem dX12_lacksSort_15 : decode cX12_lacksSort 15 = .ok (.getfield 66, 3) := by decide +kernel
theorem dX12_lacksSort_18 : decode cX12_lacksSort 18 = .ok (.iload_n 1, 1) := by decide +kernel
theorem dX12_lacksSort_19 : decode cX12_lacksSort 19 = .ok (.iaload, 1) := by decide +kernel
theorem dX12_lacksSort_20 : decode cX12_lacksSort 20 = .ok (.iload_n 2, 1) := by decide +kernel
theorem dX12_lacksSort_21 : decode cX12_lacksSort 21 = .ok (.if_icmp .eq 8, 3) := by decide +kernel
theorem dX12_lacksSort_24 : decode cX12_lacksSort 24 = .ok (.bipush (-13), 2) := by decide +kernel
theorem dX12_lacksSort_26 : decode cX12_lacksSort 26 = .ok (.goto 4, 3) := by decide +kernel
theorem dX12_lacksSort_29 : decode cX12_lacksSort 29 = .ok (.iconst 0, 1) := by decide +kernel
theorem dX12_lacksSort_30 : decode cX12_lacksSort 30 = .ok (.ireturn, 1) := by decide +kernel
theorem dX12_item_0 : decode cX12_item 0 = .ok (.iload_n 1, 1) := by decide +kernel
theorem dX12_item_1 : decode cX12_item 1 = .ok (.invokestatic 362, 3) := by decide +kernel
theorem dX12_item_4 : decode cX12_item 4 = .ok (.ifCond .eq 12, 3) := by decide +kernel
theorem dX12_item_7 : decode cX12_item 7 = .ok (.iload_n 2, 1) := by decide +kernel
theorem dX12_item_8 : decode cX12_item 8 = .ok (.iconst 0, 1) := by decide +kernel
theorem dX12_item_9 : decode cX12_item 9 = .ok (.iconst 3, 1) := by decide +kernel
theorem dX12_item_10 : decode cX12_item 10 = .ok (.invokestatic 93, 3) := by decide +kernel
theorem dX12_item_13 : decode cX12_item 13 = .ok (.ifCond .ne 5, 3) := by decide +kernel
theorem dX12_item_16 : decode cX12_item 16 = .ok (.iconst (-1), 1) := by decide +kernel
theorem dX12_item_17 : decode cX12_item 17 = .ok (.ireturn, 1) := by decide +kernel
theorem dX12_item_18 : decode cX12_item 18 = .ok (.aload_n 0, 1) := by decide +kernel
theorem dX12_item_19 : decode cX12_item 19 = .ok (.iload_n 1, 1) := by decide +kernel
theorem dX12_item_20 : decode cX12_item 20 = .ok (.iload_n 2, 1) := by decide +kernel
theorem dX12_item_21 : decode cX12_item 21 = .ok (.invokevirtual 365, 3) := by decide +kernel
theorem dX12_item_24 : decode cX12_item 24 = .ok (.istore 4, 2) := by decide +kernel
theorem dX12_item_26 : decode cX12_item 26 = .ok (.iload 4, 2) := by decide +kernel
theorem dX12_item_28 : decode cX12_item 28 = .ok (.ifCond .eq 6, 3) := by decide +kernel
theorem dX12_item_31 : decode cX12_item 31 = .ok (.iload 4, 2) := by decide +kernel
theorem dX12_item_33 : decode cX12_item 33 = .ok (.ireturn, 1) := by decide +kernel
theorem dX12_item_34 : decode cX12_item 34 = .ok (.iload_n 3, 1) := by decide +kernel
theorem dX12_item_35 : decode cX12_item 35 = .ok (.iconst 0, 1) := by decide +kernel
theorem dX12_item_36 : decode cX12_item 36 = .ok (.aload_n 0, 1) := by decide +kernel
theorem dX12_item_37 : decode cX12_item 37 = .ok (.getfield 69, 3) := by decide +kernel
theorem dX12_item_40 : decode cX12_item 40 = .ok (.iload_n 1, 1) := by decide +kernel
theorem dX12_item_41 : decode cX12_item 41 = .ok (.iaload, 1) := by decide +kernel
theorem dX12_item_42 : decode cX12_item 42 = .ok (.iconst 1, 1) := by decide +kernel
theorem dX12_item_43 : decode cX12_item 43 = .ok (.isub, 1) := by decide +kernel
theorem dX12_item_44 : decode cX12_item 44 = .ok (.invokestatic 93, 3) := by decide +kernel
theorem dX12_item_47 : decode cX12_item 47 = .ok (.ifCond .eq 18, 3) := by decide +kernel
theorem dX12_item_50 : decode cX12_item 50 = .ok (.aload_n 0, 1) := by decide +kernel
theorem dX12_item_51 : decode cX12_item 51 = .ok (.getfield 72, 3) := by decide +kernel
theorem dX12_item_54 : decode cX12_item 54 = .ok (.bipush 40, 2) := by decide +kernel
theorem dX12_item_56 : decode cX12_item 56 = .ok (.iload_n 1, 1) := by decide +kernel
theorem dX12_item_57 : decode cX12_item 57 = .ok (.imul, 1) := by decide +kernel
theorem dX12_item_58 : decode cX12_item 58 = .ok (.iload_n 3, 1) := by decide +kernel
theorem dX12_item_59 : decode cX12_item 59 = .ok (.iadd, 1) := by decide +kernel
theorem dX12_item_60 : decode cX12_item 60 = .ok (.laload, 1) := by decide +kernel
theorem dX12_item_61 : decode cX12_item 61 = .ok (.l2i, 1) := by decide +kernel
theorem dX12_item_62 : decode cX12_item 62 = .ok (.goto 5, 3) := by decide +kernel
theorem dX12_item_65 : decode cX12_item 65 = .ok (.bipush (-12), 2) := by decide +kernel
theorem dX12_item_67 : decode cX12_item 67 = .ok (.ireturn, 1) := by decide +kernel
theorem dX12_isHeld_0 : decode cX12_isHeld 0 = .ok (.iload_n 1, 1) := by decide +kernel
theorem dX12_isHeld_1 : decode cX12_isHeld 1 = .ok (.ifCond .ne 11, 3) := by decide +kernel
theorem dX12_isHeld_4 : decode cX12_isHeld 4 = .ok (.aload_n 0, 1) := by decide +kernel
theorem dX12_isHeld_5 : decode cX12_isHeld 5 = .ok (.iload_n 2, 1) := by decide +kernel
theorem dX12_isHeld_6 : decode cX12_isHeld 6 = .ok (.invokevirtual 246, 3) := by decide +kernel
theorem dX12_isHeld_9 : decode cX12_isHeld 9 = .ok (.goto 25, 3) := by decide +kernel
theorem dX12_isHeld_12 : decode cX12_isHeld 12 = .ok (.iload_n 1, 1) := by decide +kernel
theorem dX12_isHeld_13 : decode cX12_isHeld 13 = .ok (.iconst 1, 1) := by decide +kernel
theorem dX12_isHeld_14 : decode cX12_isHeld 14 = .ok (.if_icmp .ne 10, 3) := by decide +kernel
theorem dX12_isHeld_17 : decode cX12_isHeld 17 = .ok (.iload_n 2, 1) := by decide +kernel
theorem dX12_isHeld_18 : decode cX12_isHeld 18 = .ok (.invokestatic 362, 3) := by decide +kernel
theorem dX12_isHeld_21 : decode cX12_isHeld 21 = .ok (.goto 13, 3) := by decide +kernel
theorem dX12_isHeld_24 : decode cX12_isHeld 24 = .ok (.iload_n 1, 1) := by decide +kernel
theorem dX12_isHeld_25 : decode cX12_isHeld 25 = .ok (.iconst 2, 1) := by decide +kernel
theorem dX12_isHeld_26 : decode cX12_isHeld 26 = .ok (.if_icmp .ne 7, 3) := by decide +kernel
theorem dX12_isHeld_29 : decode cX12_isHeld 29 = .ok (.iconst 1, 1) := by decide +kernel
theorem dX12_isHeld_30 : decode cX12_isHeld 30 = .ok (.goto 4, 3) := by decide +kernel
theorem dX12_isHeld_33 : decode cX12_isHeld 33 = .ok (.iconst 0, 1) := by decide +kernel
theorem dX12_isHeld_34 : decode cX12_isHeld 34 = .ok (.ireturn, 1) := by decide +kernel
theorem dX12_shelf_0 : decode cX12_shelf 0 = .ok (.iload_n 1, 1) := by decide +kernel
theorem dX12_shelf_1 : decode cX12_shelf 1 = .ok (.invokestatic 362, 3) := by decide +kernel
theorem dX12_shelf_4 : decode cX12_shelf 4 = .ok (.ifCond .eq 12, 3) := by decide +kernel
theorem dX12_shelf_7 : decode cX12_shelf 7 = .ok (.aload_n 0, 1) := by decide +kernel
theorem dX12_shelf_8 : decode cX12_shelf 8 = .ok (.iload_n 2, 1) := by decide +kernel
theorem dX12_shelf_9 : decode cX12_shelf 9 = .ok (.iload_n 3, 1) := by decide +kernel
theorem dX12_shelf_10 : decode cX12_shelf 10 = .ok (.invokevirtual 368, 3) := by decide +kernel
theorem dX12_shelf_13 : decode cX12_shelf 13 = .ok (.ifCond .ne 5, 3) := by decide +kernel
theorem dX12_shelf_16 : decode cX12_shelf 16 = .ok (.iconst (-1), 1) := by decide +kernel
theorem dX12_shelf_17 : decode cX12_shelf 17 = .ok (.ireturn, 1) := by decide +kernel
theorem dX12_shelf_18 : decode cX12_shelf 18 = .ok (.aload_n 0, 1) := by decide +kernel
theorem dX12_shelf_19 : decode cX12_shelf 19 = .ok (.getfield 75, 3) := by decide +kernel
theorem dX12_shelf_22 : decode cX12_shelf 22 = .ok (.iload_n 1, 1) := by decide +kernel
theorem dX12_shelf_23 : decode cX12_shelf 23 = .ok (.iload_n 2, 1) := by decide +kernel
theorem dX12_shelf_24 : decode cX12_shelf 24 = .ok (.iconst 2, 1) := by decide +kernel
theorem dX12_shelf_25 : decode cX12_shelf 25 = .ok (.if_icmp .eq 17, 3) := by decide +kernel
theorem dX12_shelf_28 : decode cX12_shelf 28 = .ok (.iload_n 2, 1) := by decide +kernel
theorem dX12_shelf_29 : decode cX12_shelf 29 = .ok (.iconst 1, 1) := by decide +kernel
theorem dX12_shelf_30 : decode cX12_shelf 30 = .ok (.if_icmp .ne 16, 3) := by decide +kernel
theorem dX12_shelf_33 : decode cX12_shelf 33 = .ok (.aload_n 0, 1) := by decide +kernel
theorem dX12_shelf_34 : decode cX12_shelf 34 = .ok (.getfield 66, 3) := by decide +kernel
theorem dX12_shelf_37 : decode cX12_shelf 37 = .ok (.iload_n 3, 1) := by decide +kernel
theorem dX12_shelf_38 : decode cX12_shelf 38 = .ok (.iaload, 1) := by decide +kernel
theorem dX12_shelf_39 : decode cX12_shelf 39 = .ok (.ifCond .ge 7, 3) := by decide +kernel
theorem dX12_shelf_42 : decode cX12_shelf 42 = .ok (.iconst (-1), 1) := by decide +kernel
theorem dX12_shelf_43 : decode cX12_shelf 43 = .ok (.goto 4, 3) := by decide +kernel
theorem dX12_shelf_46 : decode cX12_shelf 46 = .ok (.iload_n 2, 1) := by decide +kernel
theorem dX12_shelf_47 : decode cX12_shelf 47 = .ok (.iastore, 1) := by decide +kernel
theorem dX12_shelf_48 : decode cX12_shelf 48 = .ok (.aload_n 0, 1) := by decide +kernel
theorem dX12_shelf_49 : decode cX12_shelf 49 = .ok (.getfield 78, 3) := by decide +kernel
theorem dX12_shelf_52 : decode cX12_shelf 52 = .ok (.iload_n 1, 1) := by decide +kernel
theorem dX12_shelf_53 : decode cX12_shelf 53 = .ok (.iload_n 2, 1) := by decide +kernel
theorem dX12_shelf_54 : decode cX12_shelf 54 = .ok (.iconst 1, 1) := by decide +kernel
theorem dX12_shelf_55 : decode cX12_shelf 55 = .ok (.if_icmp .ne 12, 3) := by decide +kernel
theorem dX12_shelf_58 : decode cX12_shelf 58 = .ok (.aload_n 0, 1) := by decide +kernel
theorem dX12_shelf_59 : decode cX12_shelf 59 = .ok (.getfield 66, 3) := by decide +kernel
theorem dX12_shelf_62 : decode cX12_shelf 62 = .ok (.iload_n 3, 1) := by decide +kernel
theorem dX12_shelf_63 : decode cX12_shelf 63 = .ok (.iaload, 1) := by decide +kernel
theorem dX12_shelf_64 : decode cX12_shelf 64 = .ok (.goto 4, 3) := by decide +kernel
theorem dX12_shelf_67 : decode cX12_shelf 67 = .ok (.iload_n 3, 1) := by decide +kernel
theorem dX12_shelf_68 : decode cX12_shelf 68 = .ok (.iastore, 1) := by decide +kernel
theorem dX12_shelf_69 : decode cX12_shelf 69 = .ok (.aload_n 0, 1) := by decide +kernel
theorem dX12_shelf_70 : decode cX12_shelf 70 = .ok (.getfield 81, 3) := by decide +kernel
theorem dX12_shelf_73 : decode cX12_shelf 73 = .ok (.iload_n 1, 1) := by decide +kernel
theorem dX12_shelf_74 : decode cX12_shelf 74 = .ok (.iload_n 2, 1) := by decide +kernel
theorem dX12_shelf_75 : decode cX12_shelf 75 = .ok (.iconst 1, 1) := by decide +kernel
theorem dX12_shelf_76 : decode cX12_shelf 76 = .ok (.if_icmp .ne 12, 3) := by decide +kernel
theorem dX12_shelf_79 : decode cX12_shelf 79 = .ok (.aload_n 0, 1) := by decide +kernel
theorem dX12_shelf_80 : decode cX12_shelf 80 = .ok (.getfield 69, 3) := by decide +kernel
theorem dX12_shelf_83 : decode cX12_shelf 83 = .ok (.iload_n 3, 1) := by decide +kernel
theorem dX12_shelf_84 : decode cX12_shelf 84 = .ok (.iaload, 1) := by decide +kernel
theorem dX12_shelf_85 : decode cX12_shelf 85 = .ok (.goto 4, 3) := by decide +kernel
theorem dX12_shelf_88 : decode cX12_shelf 88 = .ok (.iconst 0, 1) := by decide +kernel
theorem dX12_shelf_89 : decode cX12_shelf 89 = .ok (.iastore, 1) := by decide +kernel
theorem dX12_shelf_90 : decode cX12_shelf 90 = .ok (.iconst 1, 1) := by decide +kernel
theorem dX12_shelf_91 : decode cX12_shelf 91 = .ok (.ireturn, 1) := by decide +kernel
theorem dX12_kindOn_0 : decode cX12_kindOn 0 = .ok (.aload_n 0, 1) := by decide +kernel
theorem dX12_kindOn_1 : decode cX12_kindOn 1 = .ok (.getfield 75, 3) := by decide +kernel
theorem dX12_kindOn_4 : decode cX12_kindOn 4 = .ok (.iload_n 1, 1) := by decide +kernel
theorem dX12_kindOn_5 : decode cX12_kindOn 5 = .ok (.iaload, 1) := by decide +kernel
theorem dX12_kindOn_6 : decode cX12_kindOn 6 = .ok (.ifCond .eq 19, 3) := by decide +kernel
theorem dX12_kindOn_9 : decode cX12_kindOn 9 = .ok (.aload_n 0, 1) := by decide +kernel
theorem dX12_kindOn_10 : decode cX12_kindOn 10 = .ok (.getfield 75, 3) := by decide +kernel
theorem dX12_kindOn_13 : decode cX12_kindOn 13 = .ok (.iload_n 1, 1) := by decide +kernel
theorem dX12_kindOn_14 : decode cX12_kindOn 14 = .ok (.iaload, 1) := by decide +kernel
theorem dX12_kindOn_15 : decode cX12_kindOn 15 = .ok (.ifCond .ge 7, 3) := by decide +kernel
theorem dX12_kindOn_18 : decode cX12_kindOn 18 = .ok (.iconst (-1), 1) := by decide +kernel
theorem dX12_kindOn_19 : decode cX12_kindOn 19 = .ok (.goto 5, 3) := by decide +kernel
theorem dX12_kindOn_22 : decode cX12_kindOn 22 = .ok (.bipush 9, 2) := by decide +kernel
theorem dX12_kindOn_24 : decode cX12_kindOn 24 = .ok (.ireturn, 1) := by decide +kernel
theorem dX12_kindOn_25 : decode cX12_kindOn 25 = .ok (.aload_n 0, 1) := by decide +kernel
theorem dX12_kindOn_26 : decode cX12_kindOn 26 = .ok (.aload_n 0, 1) := by decide +kernel
theorem dX12_kindOn_27 : decode cX12_kindOn 27 = .ok (.getfield 78, 3) := by decide +kernel
theorem dX12_kindOn_30 : decode cX12_kindOn 30 = .ok (.iload_n 1, 1) := by decide +kernel
theorem dX12_kindOn_31 : decode cX12_kindOn 31 = .ok (.iaload, 1) := by decide +kernel
theorem dX12_kindOn_32 : decode cX12_kindOn 32 = .ok (.invokevirtual 246, 3) := by decide +kernel
theorem dX12_kindOn_35 : decode cX12_kindOn 35 = .ok (.ifCond .eq 17, 3) := by decide +kernel
theorem dX12_kindOn_38 : decode cX12_kindOn 38 = .ok (.aload_n 0, 1) := by decide +kernel
theorem dX12_kindOn_39 : decode cX12_kindOn 39 = .ok (.aload_n 0, 1) := by decide +kernel
theorem dX12_kindOn_40 : decode cX12_kindOn 40 = .ok (.getfield 78, 3) := by decide +kernel
theorem dX12_kindOn_43 : decode cX12_kindOn 43 = .ok (.iload_n 1, 1) := by decide +kernel
theorem dX12_kindOn_44 : decode cX12_kindOn 44 = .ok (.iaload, 1) := by decide +kernel
theorem dX12_kindOn_45 : decode cX12_kindOn 45 = .ok (.iconst 0, 1) := by decide +kernel
theorem dX12_kindOn_46 : decode cX12_kindOn 46 = .ok (.invokevirtual 106, 3) := by decide +kernel
theorem dX12_kindOn_49 : decode cX12_kindOn 49 = .ok (.goto 4, 3) := by decide +kernel
theorem dX12_kindOn_52 : decode cX12_kindOn 52 = .ok (.iconst (-1), 1) := by decide +kernel
theorem dX12_kindOn_53 : decode cX12_kindOn 53 = .ok (.ireturn, 1) := by decide +kernel
theorem dX12_isUnder_0 : decode cX12_isUnder 0 = .ok (.iload_n 1, 1) := by decide +kernel
theorem dX12_isUnder_1 : decode cX12_isUnder 1 = .ok (.ifCond .eq 23, 3) := by decide +kernel
theorem dX12_isUnder_4 : decode cX12_isUnder 4 = .ok (.iload_n 1, 1) := by decide +kernel
theorem dX12_isUnder_5 : decode cX12_isUnder 5 = .ok (.iload_n 0, 1) := by decide +kernel
theorem dX12_isUnder_6 : decode cX12_isUnder 6 = .ok (.if_icmp .eq 18, 3) := by decide +kernel
theorem dX12_isUnder_9 : decode cX12_isUnder 9 = .ok (.iload_n 1, 1) := by decide +kernel
theorem dX12_isUnder_10 : decode cX12_isUnder 10 = .ok (.iconst 1, 1) := by decide +kernel
theorem dX12_isUnder_11 : decode cX12_isUnder 11 = .ok (.if_icmp .ne 17, 3) := by decide +kernel
theorem dX12_isUnder_14 : decode cX12_isUnder 14 = .ok (.iload_n 0, 1) := by decide +kernel
theorem dX12_isUnder_15 : decode cX12_isUnder 15 = .ok (.iconst 3, 1) := by decide +kernel
theorem dX12_isUnder_16 : decode cX12_isUnder 16 = .ok (.if_icmp .eq 8, 3) := by decide +kernel
theorem dX12_isUnder_19 : decode cX12_isUnder 19 = .ok (.iload_n 0, 1) := by decide +kernel
theorem dX12_isUnder_20 : decode cX12_isUnder 20 = .ok (.iconst 4, 1) := by decide +kernel
theorem dX12_isUnder_21 : decode cX12_isUnder 21 = .ok (.if_icmp .ne 7, 3) := by decide +kernel
theorem dX12_isUnder_24 : decode cX12_isUnder 24 = .ok (.iconst 1, 1) := by decide +kernel
theorem dX12_isUnder_25 : decode cX12_isUnder 25 = .ok (.goto 4, 3) := by decide +kernel
theorem dX12_isUnder_28 : decode cX12_isUnder 28 = .ok (.iconst 0, 1) := by decide +kernel
theorem dX12_isUnder_29 : decode cX12_isUnder 29 = .ok (.ireturn, 1) := by decide +kernel
theorem dX12_taken_0 : decode cX12_taken 0 = .ok (.iload_n 1, 1) := by decide +kernel
theorem dX12_taken_1 : decode cX12_taken 1 = .ok (.invokestatic 362, 3) := by decide +kernel
theorem dX12_taken_4 : decode cX12_taken 4 = .ok (.ifCond .eq 23, 3) := by decide +kernel
theorem dX12_taken_7 : decode cX12_taken 7 = .ok (.iload_n 2, 1) := by decide +kernel
theorem dX12_taken_8 : decode cX12_taken 8 = .ok (.iconst 0, 1) := by decide +kernel
theorem dX12_taken_9 : decode cX12_taken 9 = .ok (.iconst 5, 1) := by decide +kernel
theorem dX12_taken_10 : decode cX12_taken 10 = .ok (.invokestatic 93, 3) := by decide +kernel
theorem dX12_taken_13 : decode cX12_taken 13 = .ok (.ifCond .ne 16, 3) := by decide +kernel
theorem dX12_taken_16 : decode cX12_taken 16 = .ok (.iload_n 2, 1) := by decide +kernel
theorem dX12_taken_17 : decode cX12_taken 17 = .ok (.bipush 10, 2) := by decide +kernel
theorem dX12_taken_19 : decode cX12_taken 19 = .ok (.bipush 13, 2) := by decide +kernel
theorem dX12_taken_21 : decode cX12_taken 21 = .ok (.invokestatic 93, 3) := by decide +kernel
theorem dX12_taken_24 : decode cX12_taken 24 = .ok (.ifCond .ne 5, 3) := by decide +kernel
theorem dX12_taken_27 : decode cX12_taken 27 = .ok (.iconst (-1), 1) := by decide +kernel
theorem dX12_taken_28 : decode cX12_taken 28 = .ok (.ireturn, 1) := by decide +kernel
theorem dX12_taken_29 : decode cX12_taken 29 = .ok (.aload_n 0, 1) := by decide +kernel
theorem dX12_taken_30 : decode cX12_taken 30 = .ok (.iload_n 1, 1) := by decide +kernel
theorem dX12_taken_31 : decode cX12_taken 31 = .ok (.invokevirtual 371, 3) := by decide +kernel
theorem dX12_taken_34 : decode cX12_taken 34 = .ok (.istore_n 3, 1) := by decide +kernel
theorem dX12_taken_35 : decode cX12_taken 35 = .ok (.iload_n 3, 1) := by decide +kernel
theorem dX12_taken_36 : decode cX12_taken 36 = .ok (.ifCond .ge 6, 3) := by decide +kernel
theorem dX12_taken_39 : decode cX12_taken 39 = .ok (.bipush (-11), 2) := by decide +kernel
theorem dX12_taken_41 : decode cX12_taken 41 = .ok (.ireturn, 1) := by decide +kernel
theorem dX12_taken_42 : decode cX12_taken 42 = .ok (.iload_n 3, 1) := by decide +kernel
theorem dX12_taken_43 : decode cX12_taken 43 = .ok (.bipush 9, 2) := by decide +kernel
theorem dX12_taken_45 : decode cX12_taken 45 = .ok (.if_icmp .ne 28, 3) := by decide +kernel
theorem dX12_taken_48 : decode cX12_taken 48 = .ok (.iload_n 2, 1) := by decide +kernel
theorem dX12_taken_49 : decode cX12_taken 49 = .ok (.bipush 10, 2) := by decide +kernel
theorem dX12_taken_51 : decode cX12_taken 51 = .ok (.aload_n 0, 1) := by decide +kernel
theorem dX12_taken_52 : decode cX12_taken 52 = .ok (.getfield 78, 3) := by decide +kernel
theorem dX12_taken_55 : decode cX12_taken 55 = .ok (.iload_n 1, 1) := by decide +kernel
theorem dX12_taken_56 : decode cX12_taken 56 = .ok (.iaload, 1) := by decide +kernel
theorem dX12_taken_57 : decode cX12_taken 57 = .ok (.iadd, 1) := by decide +kernel
theorem dX12_taken_58 : decode cX12_taken 58 = .ok (.if_icmp .ne 12, 3) := by decide +kernel
theorem dX12_taken_61 : decode cX12_taken 61 = .ok (.aload_n 0, 1) := by decide +kernel
theorem dX12_taken_62 : decode cX12_taken 62 = .ok (.getfield 81, 3) := by decide +kernel
theorem dX12_taken_65 : decode cX12_taken 65 = .ok (.iload_n 1, 1) := by decide +kernel
theorem dX12_taken_66 : decode cX12_taken 66 = .ok (.iaload, 1) := by decide +kernel
theorem dX12_taken_67 : decode cX12_taken 67 = .ok (.goto 5, 3) := by decide +kernel
theorem dX12_taken_70 : decode cX12_taken 70 = .ok (.bipush (-13), 2) := by decide +kernel
theorem dX12_taken_72 : decode cX12_taken 72 = .ok (.ireturn, 1) := by decide +kernel
theorem dX12_taken_73 : decode cX12_taken 73 = .ok (.iload_n 2, 1) := by decide +kernel
theorem dX12_taken_74 : decode cX12_taken 74 = .ok (.bipush 10, 2) := by decide +kernel
theorem dX12_taken_76 : decode cX12_taken 76 = .ok (.if_icmp .ge 20, 3) := by decide +kernel
theorem dX12_taken_79 : decode cX12_taken 79 = .ok (.iload_n 3, 1) := by decide +kernel
theorem dX12_taken_80 : decode cX12_taken 80 = .ok (.iload_n 2, 1) := by decide +kernel
theorem dX12_taken_81 : decode cX12_taken 81 = .ok (.invokestatic 374, 3) := by decide +kernel
theorem dX12_taken_84 : decode cX12_taken 84 = .ok (.ifCond .eq 12, 3) := by decide +kernel
theorem dX12_taken_87 : decode cX12_taken 87 = .ok (.aload_n 0, 1) := by decide +kernel
theorem dX12_taken_88 : decode cX12_taken 88 = .ok (.getfield 78, 3) := by decide +kernel
theorem dX12_taken_91 : decode cX12_taken 91 = .ok (.iload_n 1, 1) := by decide +kernel
theorem dX12_taken_92 : decode cX12_taken 92 = .ok (.iaload, 1) := by decide +kernel
theorem dX12_taken_93 : decode cX12_taken 93 = .ok (.goto 5, 3) := by decide +kernel
theorem dX12_taken_96 : decode cX12_taken 96 = .ok (.bipush (-13), 2) := by decide +kernel
theorem dX12_taken_98 : decode cX12_taken 98 = .ok (.ireturn, 1) := by decide +kernel
theorem dX12_ran_0 : decode cX12_ran 0 = .ok (.aload_n 0, 1) := by decide +kernel
theorem dX12_ran_1 : decode cX12_ran 1 = .ok (.getfield 377, 3) := by decide +kernel
theorem dX12_ran_4 : decode cX12_ran 4 = .ok (.bipush 30, 2) := by decide +kernel
theorem dX12_ran_6 : decode cX12_ran 6 = .ok (.if_icmp .ge 23, 3) := by decide +kernel
theorem dX12_ran_9 : decode cX12_ran 9 = .ok (.aload_n 0, 1) := by decide +kernel
theorem dX12_ran_10 : decode cX12_ran 10 = .ok (.getfield 84, 3) := by decide +kernel
theorem dX12_ran_13 : decode cX12_ran 13 = .ok (.aload_n 0, 1) := by decide +kernel
theorem dX12_ran_14 : decode cX12_ran 14 = .ok (.getfield 377, 3) := by decide +kernel
theorem dX12_ran_17 : decode cX12_ran 17 = .ok (.iload_n 1, 1) := by decide +kernel
theorem dX12_ran_18 : decode cX12_ran 18 = .ok (.iastore, 1) := by decide +kernel
theorem dX12_ran_19 : decode cX12_ran 19 = .ok (.aload_n 0, 1) := by decide +kernel
theorem dX12_ran_20 : decode cX12_ran 20 = .ok (.dup, 1) := by decide +kernel
theorem dX12_ran_21 : decode cX12_ran 21 = .ok (.getfield 377, 3) := by decide +kernel
theorem dX12_ran_24 : decode cX12_ran 24 = .ok (.iconst 1, 1) := by decide +kernel
theorem dX12_ran_25 : decode cX12_ran 25 = .ok (.iadd, 1) := by decide +kernel
theorem dX12_ran_26 : decode cX12_ran 26 = .ok (.putfield 377, 3) := by decide +kernel
theorem dX12_ran_29 : decode cX12_ran 29 = .ok (.return_, 1) := by decide +kernel
theorem dX12_plainLeads_0 : decode cX12_plainLeads 0 = .ok (.aload_n 0, 1) := by decide +kernel
theorem dX12_plainLeads_1 : decode cX12_plainLeads 1 = .ok (.bipush 10, 2) := by decide +kernel
theorem dX12_plainLeads_3 : decode cX12_plainLeads 3 = .ok (.invokevirtual 380, 3) := by decide +kernel
theorem dX12_plainLeads_6 : decode cX12_plainLeads 6 = .ok (.iload_n 1, 1) := by decide +kernel
theorem dX12_plainLeads_7 : decode cX12_plainLeads 7 = .ok (.aload_n 0, 1) := by decide +kernel
theorem dX12_plainLeads_8 : decode cX12_plainLeads 8 = .ok (.getfield 383, 3) := by decide +kernel
theorem dX12_plainLeads_11 : decode cX12_plainLeads 11 = .ok (.iadd, 1) := by decide +kernel
theorem dX12_plainLeads_12 : decode cX12_plainLeads 12 = .ok (.ireturn, 1) := by decide +kernel
theorem dX12_leadsIt_0 : decode cX12_leadsIt 0 = .ok (.aload_n 0, 1) := by decide +kernel
theorem dX12_leadsIt_1 : decode cX12_leadsIt 1 = .ok (.getfield 386, 3) := by decide +kernel
theorem dX12_leadsIt_4 : decode cX12_leadsIt 4 = .ok (.tableswitch 73 2 4 #[28, 42, 56], 28) := by decide +kernel
theorem dX12_leadsIt_32 : decode cX12_leadsIt 32 = .ok (.aload_n 0, 1) := by decide +kernel
theorem dX12_leadsIt_33 : decode cX12_leadsIt 33 = .ok (.bipush 30, 2) := by decide +kernel
theorem dX12_leadsIt_35 : decode cX12_leadsIt 35 = .ok (.invokevirtual 380, 3) := by decide +kernel
theorem dX12_leadsIt_38 : decode cX12_leadsIt 38 = .ok (.aload_n 0, 1) := by decide +kernel
theorem dX12_leadsIt_39 : decode cX12_leadsIt 39 = .ok (.iload_n 1, 1) := by decide +kernel
theorem dX12_leadsIt_40 : decode cX12_leadsIt 40 = .ok (.invokevirtual 389, 3) := by decide +kernel
theorem dX12_leadsIt_43 : decode cX12_leadsIt 43 = .ok (.iconst 3, 1) := by decide +kernel
theorem dX12_leadsIt_44 : decode cX12_leadsIt 44 = .ok (.imul, 1) := by decide +kernel
theorem dX12_leadsIt_45 : decode cX12_leadsIt 45 = .ok (.ireturn, 1) := by decide +kernel
theorem dX12_leadsIt_46 : decode cX12_leadsIt 46 = .ok (.aload_n 0, 1) := by decide +kernel
theorem dX12_leadsIt_47 : decode cX12_leadsIt 47 = .ok (.bipush 40, 2) := by decide +kernel
theorem dX12_leadsIt_49 : decode cX12_leadsIt 49 = .ok (.invokevirtual 380, 3) := by decide +kernel
theorem dX12_leadsIt_52 : decode cX12_leadsIt 52 = .ok (.iconst 0, 1) := by decide +kernel
theorem dX12_leadsIt_53 : decode cX12_leadsIt 53 = .ok (.aload_n 0, 1) := by decide +kernel
theorem dX12_leadsIt_54 : decode cX12_leadsIt 54 = .ok (.iload_n 1, 1) := by decide +kernel
theorem dX12_leadsIt_55 : decode cX12_leadsIt 55 = .ok (.invokevirtual 389, 3) := by decide +kernel
theorem dX12_leadsIt_58 : decode cX12_leadsIt 58 = .ok (.isub, 1) := by decide +kernel
theorem dX12_leadsIt_59 : decode cX12_leadsIt 59 = .ok (.ireturn, 1) := by decide +kernel
theorem dX12_leadsIt_60 : decode cX12_leadsIt 60 = .ok (.aload_n 0, 1) := by decide +kernel
theorem dX12_leadsIt_61 : decode cX12_leadsIt 61 = .ok (.bipush 51, 2) := by decide +kernel
theorem dX12_leadsIt_63 : decode cX12_leadsIt 63 = .ok (.invokevirtual 380, 3) := by decide +kernel
theorem dX12_leadsIt_66 : decode cX12_leadsIt 66 = .ok (.aload_n 0, 1) := by decide +kernel
theorem dX12_leadsIt_67 : decode cX12_leadsIt 67 = .ok (.iload_n 1, 1) := by decide +kernel
theorem dX12_leadsIt_68 : decode cX12_leadsIt 68 = .ok (.invokevirtual 389, 3) := by decide +kernel
theorem dX12_leadsIt_71 : decode cX12_leadsIt 71 = .ok (.aload_n 0, 1) := by decide +kernel
theorem dX12_leadsIt_72 : decode cX12_leadsIt 72 = .ok (.getfield 383, 3) := by decide +kernel
theorem dX12_leadsIt_75 : decode cX12_leadsIt 75 = .ok (.isub, 1) := by decide +kernel
theorem dX12_leadsIt_76 : decode cX12_leadsIt 76 = .ok (.ireturn, 1) := by decide +kernel
theorem dX12_leadsIt_77 : decode cX12_leadsIt 77 = .ok (.aload_n 0, 1) := by decide +kernel
theorem dX12_leadsIt_78 : decode cX12_leadsIt 78 = .ok (.iload_n 1, 1) := by decide +kernel
theorem dX12_leadsIt_79 : decode cX12_leadsIt 79 = .ok (.invokevirtual 389, 3) := by decide +kernel
theorem dX12_leadsIt_82 : decode cX12_leadsIt 82 = .ok (.ireturn, 1) := by decide +kernel
theorem dX12_plainStays_0 : decode cX12_plainStays 0 = .ok (.aload_n 0, 1) := by decide +kernel
theorem dX12_plainStays_1 : decode cX12_plainStays 1 = .ok (.bipush 11, 2) := by decide +kernel
theorem dX12_plainStays_3 : decode cX12_plainStays 3 = .ok (.invokevirtual 380, 3) := by decide +kernel
theorem dX12_plainStays_6 : decode cX12_plainStays 6 = .ok (.aload_n 0, 1) := by decide +kernel
theorem dX12_plainStays_7 : decode cX12_plainStays 7 = .ok (.iload_n 1, 1) := by decide +kernel
theorem dX12_plainStays_8 : decode cX12_plainStays 8 = .ok (.invokevirtual 392, 3) := by decide +kernel
theorem dX12_plainStays_11 : decode cX12_plainStays 11 = .ok (.iconst 2, 1) := by decide +kernel
theorem dX12_plainStays_12 : decode cX12_plainStays 12 = .ok (.imul, 1) := by decide +kernel
theorem dX12_plainStays_13 : decode cX12_plainStays 13 = .ok (.ireturn, 1) := by decide +kernel
theorem dX12_trackStays_0 : decode cX12_trackStays 0 = .ok (.aload_n 0, 1) := by decide +kernel
theorem dX12_trackStays_1 : decode cX12_trackStays 1 = .ok (.bipush 20, 2) := by decide +kernel
theorem dX12_trackStays_3 : decode cX12_trackStays 3 = .ok (.invokevirtual 380, 3) := by decide +kernel
theorem dX12_trackStays_6 : decode cX12_trackStays 6 = .ok (.aload_n 0, 1) := by decide +kernel
theorem dX12_trackStays_7 : decode cX12_trackStays 7 = .ok (.iload_n 1, 1) := by decide +kernel
theorem dX12_trackStays_8 : decode cX12_trackStays 8 = .ok (.invokevirtual 395, 3) := by decide +kernel
theorem dX12_trackStays_11 : decode cX12_trackStays 11 = .ok (.aload_n 0, 1) := by decide +kernel
theorem dX12_trackStays_12 : decode cX12_trackStays 12 = .ok (.getfield 398, 3) := by decide +kernel
theorem dX12_trackStays_15 : decode cX12_trackStays 15 = .ok (.isub, 1) := by decide +kernel
theorem dX12_trackStays_16 : decode cX12_trackStays 16 = .ok (.ireturn, 1) := by decide +kernel
theorem dX12_staysIt_0 : decode cX12_staysIt 0 = .ok (.aload_n 0, 1) := by decide +kernel
theorem dX12_staysIt_1 : decode cX12_staysIt 1 = .ok (.getfield 386, 3) := by decide +kernel
theorem dX12_staysIt_4 : decode cX12_staysIt 4 = .ok (.iconst 3, 1) := by decide +kernel
theorem dX12_staysIt_5 : decode cX12_staysIt 5 = .ok (.if_icmp .ne 26, 3) := by decide +kernel
theorem dX12_staysIt_8 : decode cX12_staysIt 8 = .ok (.aload_n 0, 1) := by decide +kernel
theorem dX12_staysIt_9 : decode cX12_staysIt 9 = .ok (.bipush 41, 2) := by decide +kernel
theorem dX12_staysIt_11 : decode cX12_staysIt 11 = .ok (.invokevirtual 380, 3) := by decide +kernel
theorem dX12_staysIt_14 : decode cX12_staysIt 14 = .ok (.aload_n 0, 1) := by decide +kernel
theorem dX12_staysIt_15 : decode cX12_staysIt 15 = .ok (.iload_n 1, 1) := by decide +kernel
theorem dX12_staysIt_16 : decode cX12_staysIt 16 = .ok (.invokevirtual 401, 3) := by decide +kernel
theorem dX12_staysIt_19 : decode cX12_staysIt 19 = .ok (.istore_n 2, 1) := by decide +kernel
theorem dX12_staysIt_20 : decode cX12_staysIt 20 = .ok (.iload_n 2, 1) := by decide +kernel
theorem dX12_staysIt_21 : decode cX12_staysIt 21 = .ok (.aload_n 0, 1) := by decide +kernel
theorem dX12_staysIt_22 : decode cX12_staysIt 22 = .ok (.aload_n 0, 1) := by decide +kernel
theorem dX12_staysIt_23 : decode cX12_staysIt 23 = .ok (.getfield 383, 3) := by decide +kernel
theorem dX12_staysIt_26 : decode cX12_staysIt 26 = .ok (.invokevirtual 392, 3) := by decide +kernel
theorem dX12_staysIt_29 : decode cX12_staysIt 29 = .ok (.iadd, 1) := by decide +kernel
theorem dX12_staysIt_30 : decode cX12_staysIt 30 = .ok (.ireturn, 1) := by decide +kernel
theorem dX12_staysIt_31 : decode cX12_staysIt 31 = .ok (.aload_n 0, 1) := by decide +kernel
theorem dX12_staysIt_32 : decode cX12_staysIt 32 = .ok (.getfield 386, 3) := by decide +kernel
theorem dX12_staysIt_35 : decode cX12_staysIt 35 = .ok (.iconst 1, 1) := by decide +kernel
theorem dX12_staysIt_36 : decode cX12_staysIt 36 = .ok (.if_icmp .eq 11, 3) := by decide +kernel
theorem dX12_staysIt_39 : decode cX12_staysIt 39 = .ok (.aload_n 0, 1) := by decide +kernel
theorem dX12_staysIt_40 : decode cX12_staysIt 40 = .ok (.getfield 386, 3) := by decide +kernel
theorem dX12_staysIt_43 : decode cX12_staysIt 43 = .ok (.iconst 4, 1) := by decide +kernel
theorem dX12_staysIt_44 : decode cX12_staysIt 44 = .ok (.if_icmp .ne 11, 3) := by decide +kernel
theorem dX12_staysIt_47 : decode cX12_staysIt 47 = .ok (.aload_n 0, 1) := by decide +kernel
theorem dX12_staysIt_48 : decode cX12_staysIt 48 = .ok (.iload_n 1, 1) := by decide +kernel
theorem dX12_staysIt_49 : decode cX12_staysIt 49 = .ok (.invokevirtual 401, 3) := by decide +kernel
theorem dX12_staysIt_52 : decode cX12_staysIt 52 = .ok (.goto 8, 3) := by decide +kernel
theorem dX12_staysIt_55 : decode cX12_staysIt 55 = .ok (.aload_n 0, 1) := by decide +kernel
theorem dX12_staysIt_56 : decode cX12_staysIt 56 = .ok (.iload_n 1, 1) := by decide +kernel
theorem dX12_staysIt_57 : decode cX12_staysIt 57 = .ok (.invokevirtual 395, 3) := by decide +kernel
theorem dX12_staysIt_60 : decode cX12_staysIt 60 = .ok (.ireturn, 1) := by decide +kernel
theorem dX12_plainShares_0 : decode cX12_plainShares 0 = .ok (.aload_n 0, 1) := by decide +kernel
theorem dX12_plainShares_1 : decode cX12_plainShares 1 = .ok (.bipush 12, 2) := by decide +kernel
theorem dX12_plainShares_3 : decode cX12_plainShares 3 = .ok (.invokevirtual 380, 3) := by decide +kernel
theorem dX12_plainShares_6 : decode cX12_plainShares 6 = .ok (.aload_n 0, 1) := by decide +kernel
theorem dX12_plainShares_7 : decode cX12_plainShares 7 = .ok (.getfield 398, 3) := by decide +kernel
theorem dX12_plainShares_10 : decode cX12_plainShares 10 = .ok (.aload_n 0, 1) := by decide +kernel
theorem dX12_plainShares_11 : decode cX12_plainShares 11 = .ok (.getfield 383, 3) := by decide +kernel
theorem dX12_plainShares_14 : decode cX12_plainShares 14 = .ok (.if_icmp .ne 10, 3) := by decide +kernel
theorem dX12_plainShares_17 : decode cX12_plainShares 17 = .ok (.aload_n 0, 1) := by decide +kernel
theorem dX12_plainShares_18 : decode cX12_plainShares 18 = .ok (.iconst 1, 1) := by decide +kernel
theorem dX12_plainShares_19 : decode cX12_plainShares 19 = .ok (.putfield 404, 3) := by decide +kernel
theorem dX12_plainShares_22 : decode cX12_plainShares 22 = .ok (.iconst 0, 1) := by decide +kernel
theorem dX12_plainShares_23 : decode cX12_plainShares 23 = .ok (.ireturn, 1) := by decide +kernel
theorem dX12_plainShares_24 : decode cX12_plainShares 24 = .ok (.iload_n 1, 1) := by decide +kernel
theorem dX12_plainShares_25 : decode cX12_plainShares 25 = .ok (.aload_n 0, 1) := by decide +kernel
theorem dX12_plainShares_26 : decode cX12_plainShares 26 = .ok (.getfield 398, 3) := by decide +kernel
theorem dX12_plainShares_29 : decode cX12_plainShares 29 = .ok (.aload_n 0, 1) := by decide +kernel
theorem dX12_plainShares_30 : decode cX12_plainShares 30 = .ok (.getfield 383, 3) := by decide +kernel
theorem dX12_plainShares_33 : decode cX12_plainShares 33 = .ok (.isub, 1) := by decide +kernel
theorem dX12_plainShares_34 : decode cX12_plainShares 34 = .ok (.idiv, 1) := by decide +kernel
theorem dX12_plainShares_35 : decode cX12_plainShares 35 = .ok (.ireturn, 1) := by decide +kernel
theorem dX12_sharesIt_0 : decode cX12_sharesIt 0 = .ok (.aload_n 0, 1) := by decide +kernel
theorem dX12_sharesIt_1 : decode cX12_sharesIt 1 = .ok (.getfield 386, 3) := by decide +kernel
theorem dX12_sharesIt_4 : decode cX12_sharesIt 4 = .ok (.iconst 4, 1) := by decide +kernel
theorem dX12_sharesIt_5 : decode cX12_sharesIt 5 = .ok (.if_icmp .ne 19, 3) := by decide +kernel
theorem dX12_sharesIt_8 : decode cX12_sharesIt 8 = .ok (.aload_n 0, 1) := by decide +kernel
theorem dX12_sharesIt_9 : decode cX12_sharesIt 9 = .ok (.bipush 50, 2) := by decide +kernel
theorem dX12_sharesIt_11 : decode cX12_sharesIt 11 = .ok (.invokevirtual 380, 3) := by decide +kernel
theorem dX12_sharesIt_14 : decode cX12_sharesIt 14 = .ok (.aload_n 0, 1) := by decide +kernel
theorem dX12_sharesIt_15 : decode cX12_sharesIt 15 = .ok (.iload_n 1, 1) := by decide +kernel
theorem dX12_sharesIt_16 : decode cX12_sharesIt 16 = .ok (.iconst 2, 1) := by decide +kernel
theorem dX12_sharesIt_17 : decode cX12_sharesIt 17 = .ok (.iadd, 1) := by decide +kernel
theorem dX12_sharesIt_18 : decode cX12_sharesIt 18 = .ok (.invokevirtual 407, 3) := by decide +kernel
theorem dX12_sharesIt_21 : decode cX12_sharesIt 21 = .ok (.iconst 1, 1) := by decide +kernel
theorem dX12_sharesIt_22 : decode cX12_sharesIt 22 = .ok (.ixor, 1) := by decide +kernel
theorem dX12_sharesIt_23 : decode cX12_sharesIt 23 = .ok (.ireturn, 1) := by decide +kernel
theorem dX12_sharesIt_24 : decode cX12_sharesIt 24 = .ok (.aload_n 0, 1) := by decide +kernel
theorem dX12_sharesIt_25 : decode cX12_sharesIt 25 = .ok (.getfield 386, 3) := by decide +kernel
theorem dX12_sharesIt_28 : decode cX12_sharesIt 28 = .ok (.iconst 5, 1) := by decide +kernel
theorem dX12_sharesIt_29 : decode cX12_sharesIt 29 = .ok (.if_icmp .ne 37, 3) := by decide +kernel
theorem dX12_sharesIt_32 : decode cX12_sharesIt 32 = .ok (.aload_n 0, 1) := by decide +kernel
theorem dX12_sharesIt_33 : decode cX12_sharesIt 33 = .ok (.bipush 61, 2) := by decide +kernel
theorem dX12_sharesIt_35 : decode cX12_sharesIt 35 = .ok (.invokevirtual 380, 3) := by decide +kernel
theorem dX12_sharesIt_38 : decode cX12_sharesIt 38 = .ok (.aload_n 0, 1) := by decide +kernel
theorem dX12_sharesIt_39 : decode cX12_sharesIt 39 = .ok (.iload_n 1, 1) := by decide +kernel
theorem dX12_sharesIt_40 : decode cX12_sharesIt 40 = .ok (.invokevirtual 407, 3) := by decide +kernel
theorem dX12_sharesIt_43 : decode cX12_sharesIt 43 = .ok (.istore_n 2, 1) := by decide +kernel
theorem dX12_sharesIt_44 : decode cX12_sharesIt 44 = .ok (.aload_n 0, 1) := by decide +kernel
theorem dX12_sharesIt_45 : decode cX12_sharesIt 45 = .ok (.getfield 404, 3) := by decide +kernel
theorem dX12_sharesIt_48 : decode cX12_sharesIt 48 = .ok (.ifCond .eq 7, 3) := by decide +kernel
theorem dX12_sharesIt_51 : decode cX12_sharesIt 51 = .ok (.iconst 0, 1) := by decide +kernel
theorem dX12_sharesIt_52 : decode cX12_sharesIt 52 = .ok (.goto 13, 3) := by decide +kernel
theorem dX12_sharesIt_55 : decode cX12_sharesIt 55 = .ok (.iload_n 2, 1) := by decide +kernel
theorem dX12_sharesIt_56 : decode cX12_sharesIt 56 = .ok (.aload_n 0, 1) := by decide +kernel
theorem dX12_sharesIt_57 : decode cX12_sharesIt 57 = .ok (.aload_n 0, 1) := by decide +kernel
theorem dX12_sharesIt_58 : decode cX12_sharesIt 58 = .ok (.getfield 398, 3) := by decide +kernel
theorem dX12_sharesIt_61 : decode cX12_sharesIt 61 = .ok (.invokevirtual 392, 3) := by decide +kernel
theorem dX12_sharesIt_64 : decode cX12_sharesIt 64 = .ok (.iadd, 1) := by decide +kernel
theorem dX12_sharesIt_65 : decode cX12_sharesIt 65 = .ok (.ireturn, 1) := by decide +kernel
theorem dX12_sharesIt_66 : decode cX12_sharesIt 66 = .ok (.aload_n 0, 1) := by decide +kernel
theorem dX12_sharesIt_67 : decode cX12_sharesIt 67 = .ok (.iload_n 1, 1) := by decide +kernel
theorem dX12_sharesIt_68 : decode cX12_sharesIt 68 = .ok (.invokevirtual 407, 3) := by decide +kernel
theorem dX12_sharesIt_71 : decode cX12_sharesIt 71 = .ok (.ireturn, 1) := by decide +kernel
theorem dX12_plainTells_0 : decode cX12_plainTells 0 = .ok (.aload_n 0, 1) := by decide +kernel
theorem dX12_plainTells_1 : decode cX12_plainTells 1 = .ok (.bipush 13, 2) := by decide +kernel
theorem dX12_plainTells_3 : decode cX12_plainTells 3 = .ok (.invokevirtual 380, 3) := by decide +kernel
theorem dX12_plainTells_6 : decode cX12_plainTells 6 = .ok (.aload_n 0, 1) := by decide +kernel
theorem dX12_plainTells_7 : decode cX12_plainTells 7 = .ok (.iload_n 1, 1) := by decide +kernel
theorem dX12_plainTells_8 : decode cX12_plainTells 8 = .ok (.invokevirtual 410, 3) := by decide +kernel
theorem dX12_plainTells_11 : decode cX12_plainTells 11 = .ok (.aload_n 0, 1) := by decide +kernel
theorem dX12_plainTells_12 : decode cX12_plainTells 12 = .ok (.getfield 398, 3) := by decide +kernel
theorem dX12_plainTells_15 : decode cX12_plainTells 15 = .ok (.ixor, 1) := by decide +kernel
theorem dX12_plainTells_16 : decode cX12_plainTells 16 = .ok (.ireturn, 1) := by decide +kernel
theorem dX12_tellsIt_0 : decode cX12_tellsIt 0 = .ok (.aload_n 0, 1) := by decide +kernel
theorem dX12_tellsIt_1 : decode cX12_tellsIt 1 = .ok (.getfield 386, 3) := by decide +kernel
theorem dX12_tellsIt_4 : decode cX12_tellsIt 4 = .ok (.iconst 2, 1) := by decide +kernel
theorem dX12_tellsIt_5 : decode cX12_tellsIt 5 = .ok (.if_icmp .ne 26, 3) := by decide +kernel
theorem dX12_tellsIt_8 : decode cX12_tellsIt 8 = .ok (.aload_n 0, 1) := by decide +kernel
theorem dX12_tellsIt_9 : decode cX12_tellsIt 9 = .ok (.bipush 31, 2) := by decide +kernel
theorem dX12_tellsIt_11 : decode cX12_tellsIt 11 = .ok (.invokevirtual 380, 3) := by decide +kernel
theorem dX12_tellsIt_14 : decode cX12_tellsIt 14 = .ok (.aload_n 0, 1) := by decide +kernel
theorem dX12_tellsIt_15 : decode cX12_tellsIt 15 = .ok (.iload_n 1, 1) := by decide +kernel
theorem dX12_tellsIt_16 : decode cX12_tellsIt 16 = .ok (.invokevirtual 413, 3) := by decide +kernel
theorem dX12_tellsIt_19 : decode cX12_tellsIt 19 = .ok (.istore_n 2, 1) := by decide +kernel
theorem dX12_tellsIt_20 : decode cX12_tellsIt 20 = .ok (.iload_n 2, 1) := by decide +kernel
theorem dX12_tellsIt_21 : decode cX12_tellsIt 21 = .ok (.aload_n 0, 1) := by decide +kernel
theorem dX12_tellsIt_22 : decode cX12_tellsIt 22 = .ok (.aload_n 0, 1) := by decide +kernel
theorem dX12_tellsIt_23 : decode cX12_tellsIt 23 = .ok (.getfield 383, 3) := by decide +kernel
theorem dX12_tellsIt_26 : decode cX12_tellsIt 26 = .ok (.invokevirtual 416, 3) := by decide +kernel
theorem dX12_tellsIt_29 : decode cX12_tellsIt 29 = .ok (.iadd, 1) := by decide +kernel
theorem dX12_tellsIt_30 : decode cX12_tellsIt 30 = .ok (.ireturn, 1) := by decide +kernel
theorem dX12_tellsIt_31 : decode cX12_tellsIt 31 = .ok (.aload_n 0, 1) := by decide +kernel
theorem dX12_tellsIt_32 : decode cX12_tellsIt 32 = .ok (.getfield 386, 3) := by decide +kernel
theorem dX12_tellsIt_35 : decode cX12_tellsIt 35 = .ok (.iconst 5, 1) := by decide +kernel
theorem dX12_tellsIt_36 : decode cX12_tellsIt 36 = .ok (.if_icmp .ne 17, 3) := by decide +kernel
theorem dX12_tellsIt_39 : decode cX12_tellsIt 39 = .ok (.aload_n 0, 1) := by decide +kernel
theorem dX12_tellsIt_40 : decode cX12_tellsIt 40 = .ok (.bipush 60, 2) := by decide +kernel
theorem dX12_tellsIt_42 : decode cX12_tellsIt 42 = .ok (.invokevirtual 380, 3) := by decide +kernel
theorem dX12_tellsIt_45 : decode cX12_tellsIt 45 = .ok (.aload_n 0, 1) := by decide +kernel
theorem dX12_tellsIt_46 : decode cX12_tellsIt 46 = .ok (.iload_n 1, 1) := by decide +kernel
theorem dX12_tellsIt_47 : decode cX12_tellsIt 47 = .ok (.invokevirtual 413, 3) := by decide +kernel
theorem dX12_tellsIt_50 : decode cX12_tellsIt 50 = .ok (.iconst 2, 1) := by decide +kernel
theorem dX12_tellsIt_51 : decode cX12_tellsIt 51 = .ok (.imul, 1) := by decide +kernel
theorem dX12_tellsIt_52 : decode cX12_tellsIt 52 = .ok (.ireturn, 1) := by decide +kernel
theorem dX12_tellsIt_53 : decode cX12_tellsIt 53 = .ok (.aload_n 0, 1) := by decide +kernel
theorem dX12_tellsIt_54 : decode cX12_tellsIt 54 = .ok (.iload_n 1, 1) := by decide +kernel
theorem dX12_tellsIt_55 : decode cX12_tellsIt 55 = .ok (.invokevirtual 413, 3) := by decide +kernel
theorem dX12_tellsIt_58 : decode cX12_tellsIt 58 = .ok (.ireturn, 1) := by decide +kernel
theorem dX12_act_0 : decode cX12_act 0 = .ok (.aload_n 0, 1) := by decide +kernel
theorem dX12_act_1 : decode cX12_act 1 = .ok (.iconst 0, 1) := by decide +kernel
theorem dX12_act_2 : decode cX12_act 2 = .ok (.putfield 377, 3) := by decide +kernel
theorem dX12_act_5 : decode cX12_act 5 = .ok (.iload_n 1, 1) := by decide +kernel
theorem dX12_act_6 : decode cX12_act 6 = .ok (.invokestatic 362, 3) := by decide +kernel
theorem dX12_act_9 : decode cX12_act 9 = .ok (.ifCond .eq 11, 3) := by decide +kernel
theorem dX12_act_12 : decode cX12_act 12 = .ok (.aload_n 0, 1) := by decide +kernel
theorem dX12_act_13 : decode cX12_act 13 = .ok (.iload_n 1, 1) := by decide +kernel
theorem dX12_act_14 : decode cX12_act 14 = .ok (.invokevirtual 371, 3) := by decide +kernel
theorem dX12_act_17 : decode cX12_act 17 = .ok (.goto 4, 3) := by decide +kernel
theorem dX12_act_20 : decode cX12_act 20 = .ok (.iconst (-1), 1) := by decide +kernel
theorem dX12_act_21 : decode cX12_act 21 = .ok (.istore 4, 2) := by decide +kernel
theorem dX12_act_23 : decode cX12_act 23 = .ok (.iload_n 2, 1) := by decide +kernel
theorem dX12_act_24 : decode cX12_act 24 = .ok (.iconst 0, 1) := by decide +kernel
theorem dX12_act_25 : decode cX12_act 25 = .ok (.iconst 3, 1) := by decide +kernel
theorem dX12_act_26 : decode cX12_act 26 = .ok (.invokestatic 93, 3) := by decide +kernel
theorem dX12_act_29 : decode cX12_act 29 = .ok (.ifCond .eq 13, 3) := by decide +kernel
theorem dX12_act_32 : decode cX12_act 32 = .ok (.iload 4, 2) := by decide +kernel
theorem dX12_act_34 : decode cX12_act 34 = .ok (.iconst 0, 1) := by decide +kernel
theorem dX12_act_35 : decode cX12_act 35 = .ok (.iconst 5, 1) := by decide +kernel
theorem dX12_act_36 : decode cX12_act 36 = .ok (.invokestatic 93, 3) := by decide +kernel
theorem dX12_act_39 : decode cX12_act 39 = .ok (.ifCond .ne 5, 3) := by decide +kernel
theorem dX12_act_42 : decode cX12_act 42 = .ok (.iconst 0, 1) := by decide +kernel
theorem dX12_act_43 : decode cX12_act 43 = .ok (.ireturn, 1) := by decide +kernel
theorem dX12_act_44 : decode cX12_act 44 = .ok (.aload_n 0, 1) := by decide +kernel
theorem dX12_act_45 : decode cX12_act 45 = .ok (.iload 4, 2) := by decide +kernel
theorem dX12_act_47 : decode cX12_act 47 = .ok (.putfield 386, 3) := by decide +kernel
theorem dX12_act_50 : decode cX12_act 50 = .ok (.aload_n 0, 1) := by decide +kernel
theorem dX12_act_51 : decode cX12_act 51 = .ok (.aload_n 0, 1) := by decide +kernel
theorem dX12_act_52 : decode cX12_act 52 = .ok (.getfield 78, 3) := by decide +kernel
theorem dX12_act_55 : decode cX12_act 55 = .ok (.iload_n 1, 1) := by decide +kernel
theorem dX12_act_56 : decode cX12_act 56 = .ok (.iaload, 1) := by decide +kernel
theorem dX12_act_57 : decode cX12_act 57 = .ok (.putfield 383, 3) := by decide +kernel
theorem dX12_act_60 : decode cX12_act 60 = .ok (.aload_n 0, 1) := by decide +kernel
theorem dX12_act_61 : decode cX12_act 61 = .ok (.aload_n 0, 1) := by decide +kernel
theorem dX12_act_62 : decode cX12_act 62 = .ok (.aload_n 0, 1) := by decide +kernel
theorem dX12_act_63 : decode cX12_act 63 = .ok (.getfield 383, 3) := by decide +kernel
theorem dX12_act_66 : decode cX12_act 66 = .ok (.iconst 3, 1) := by decide +kernel
theorem dX12_act_67 : decode cX12_act 67 = .ok (.invokevirtual 106, 3) := by decide +kernel
theorem dX12_act_70 : decode cX12_act 70 = .ok (.putfield 398, 3) := by decide +kernel
theorem dX12_act_73 : decode cX12_act 73 = .ok (.aload_n 0, 1) := by decide +kernel
theorem dX12_act_74 : decode cX12_act 74 = .ok (.iconst 0, 1) := by decide +kernel
theorem dX12_act_75 : decode cX12_act 75 = .ok (.putfield 404, 3) := by decide +kernel
theorem dX12_act_78 : decode cX12_act 78 = .ok (.iload_n 2, 1) := by decide +kernel
theorem dX12_act_79 : decode cX12_act 79 = .ok (.ifCond .ne 11, 3) := by decide +kernel
theorem dX12_act_82 : decode cX12_act 82 = .ok (.aload_n 0, 1) := by decide +kernel
theorem dX12_act_83 : decode cX12_act 83 = .ok (.iload_n 3, 1) := by decide +kernel
theorem dX12_act_84 : decode cX12_act 84 = .ok (.invokevirtual 392, 3) := by decide +kernel
theorem dX12_act_87 : decode cX12_act 87 = .ok (.goto 34, 3) := by decide +kernel
theorem dX12_act_90 : decode cX12_act 90 = .ok (.iload_n 2, 1) := by decide +kernel
theorem dX12_act_91 : decode cX12_act 91 = .ok (.iconst 1, 1) := by decide +kernel
theorem dX12_act_92 : decode cX12_act 92 = .ok (.if_icmp .ne 11, 3) := by decide +kernel
theorem dX12_act_95 : decode cX12_act 95 = .ok (.aload_n 0, 1) := by decide +kernel
theorem dX12_act_96 : decode cX12_act 96 = .ok (.iload_n 3, 1) := by decide +kernel
theorem dX12_act_97 : decode cX12_act 97 = .ok (.invokevirtual 410, 3) := by decide +kernel
theorem dX12_act_100 : decode cX12_act 100 = .ok (.goto 21, 3) := by decide +kernel
theorem dX12_act_103 : decode cX12_act 103 = .ok (.iload_n 2, 1) := by decide +kernel
theorem dX12_act_104 : decode cX12_act 104 = .ok (.iconst 2, 1) := by decide +kernel
theorem dX12_act_105 : decode cX12_act 105 = .ok (.if_icmp .ne 11, 3) := by decide +kernel
theorem dX12_act_108 : decode cX12_act 108 = .ok (.aload_n 0, 1) := by decide +kernel
theorem dX12_act_109 : decode cX12_act 109 = .ok (.iload_n 3, 1) := by decide +kernel
theorem dX12_act_110 : decode cX12_act 110 = .ok (.invokevirtual 416, 3) := by decide +kernel
theorem dX12_act_113 : decode cX12_act 113 = .ok (.goto 8, 3) := by decide +kernel
theorem dX12_act_116 : decode cX12_act 116 = .ok (.aload_n 0, 1) := by decide +kernel
theorem dX12_act_117 : decode cX12_act 117 = .ok (.iload_n 3, 1) := by decide +kernel
theorem dX12_act_118 : decode cX12_act 118 = .ok (.invokevirtual 419, 3) := by decide +kernel
theorem dX12_act_121 : decode cX12_act 121 = .ok (.istore 5, 2) := by decide +kernel
theorem dX12_act_123 : decode cX12_act 123 = .ok (.aload_n 0, 1) := by decide +kernel
theorem dX12_act_124 : decode cX12_act 124 = .ok (.getfield 404, 3) := by decide +kernel
theorem dX12_act_127 : decode cX12_act 127 = .ok (.ifCond .eq 8, 3) := by decide +kernel
theorem dX12_act_130 : decode cX12_act 130 = .ok (.bipush (-15), 2) := by decide +kernel
theorem dX12_act_132 : decode cX12_act 132 = .ok (.goto 5, 3) := by decide +kernel
theorem dX12_act_135 : decode cX12_act 135 = .ok (.iload 5, 2) := by decide +kernel
theorem dX12_act_137 : decode cX12_act 137 = .ok (.ireturn, 1) := by decide +kernel
theorem dX12_trace_0 : decode cX12_trace 0 = .ok (.iload_n 1, 1) := by decide +kernel
theorem dX12_trace_1 : decode cX12_trace 1 = .ok (.iconst 0, 1) := by decide +kernel
theorem dX12_trace_2 : decode cX12_trace 2 = .ok (.aload_n 0, 1) := by decide +kernel
theorem dX12_trace_3 : decode cX12_trace 3 = .ok (.getfield 377, 3) := by decide +kernel
theorem dX12_trace_6 : decode cX12_trace 6 = .ok (.iconst 1, 1) := by decide +kernel
theorem dX12_trace_7 : decode cX12_trace 7 = .ok (.isub, 1) := by decide +kernel
theorem dX12_trace_8 : decode cX12_trace 8 = .ok (.invokestatic 93, 3) := by decide +kernel
theorem dX12_trace_11 : decode cX12_trace 11 = .ok (.ifCond .eq 12, 3) := by decide +kernel
theorem dX12_trace_14 : decode cX12_trace 14 = .ok (.aload_n 0, 1) := by decide +kernel
theorem dX12_trace_15 : decode cX12_trace 15 = .ok (.getfield 84, 3) := by decide +kernel
theorem dX12_trace_18 : decode cX12_trace 18 = .ok (.iload_n 1, 1) := by decide +kernel
theorem dX12_trace_19 : decode cX12_trace 19 = .ok (.iaload, 1) := by decide +kernel
theorem dX12_trace_20 : decode cX12_trace 20 = .ok (.goto 5, 3) := by decide +kernel
theorem dX12_trace_23 : decode cX12_trace 23 = .ok (.bipush (-3), 2) := by decide +kernel
theorem dX12_trace_25 : decode cX12_trace 25 = .ok (.ireturn, 1) := by decide +kernel
theorem dX12_many_0 : decode cX12_many 0 = .ok (.iload_n 1, 1) := by decide +kernel
theorem dX12_many_1 : decode cX12_many 1 = .ok (.tableswitch 69 0 5 #[39, 44, 49, 54, 59, 64], 39) := by decide +kernel
theorem dX12_many_40 : decode cX12_many 40 = .ok (.aload_n 0, 1) := by decide +kernel
theorem dX12_many_41 : decode cX12_many 41 = .ok (.getfield 97, 3) := by decide +kernel
theorem dX12_many_44 : decode cX12_many 44 = .ok (.ireturn, 1) := by decide +kernel
theorem dX12_many_45 : decode cX12_many 45 = .ok (.aload_n 0, 1) := by decide +kernel
theorem dX12_many_46 : decode cX12_many 46 = .ok (.getfield 100, 3) := by decide +kernel
theorem dX12_many_49 : decode cX12_many 49 = .ok (.ireturn, 1) := by decide +kernel
theorem dX12_many_50 : decode cX12_many 50 = .ok (.aload_n 0, 1) := by decide +kernel
theorem dX12_many_51 : decode cX12_many 51 = .ok (.getfield 339, 3) := by decide +kernel
theorem dX12_many_54 : decode cX12_many 54 = .ok (.ireturn, 1) := by decide +kernel
theorem dX12_many_55 : decode cX12_many 55 = .ok (.aload_n 0, 1) := by decide +kernel
theorem dX12_many_56 : decode cX12_many 56 = .ok (.getfield 230, 3) := by decide +kernel
theorem dX12_many_59 : decode cX12_many 59 = .ok (.ireturn, 1) := by decide +kernel
theorem dX12_many_60 : decode cX12_many 60 = .ok (.aload_n 0, 1) := by decide +kernel
theorem dX12_many_61 : decode cX12_many 61 = .ok (.getfield 110, 3) := by decide +kernel
theorem dX12_many_64 : decode cX12_many 64 = .ok (.ireturn, 1) := by decide +kernel
theorem dX12_many_65 : decode cX12_many 65 = .ok (.aload_n 0, 1) := by decide +kernel
theorem dX12_many_66 : decode cX12_many 66 = .ok (.getfield 377, 3) := by decide +kernel
theorem dX12_many_69 : decode cX12_many 69 = .ok (.ireturn, 1) := by decide +kernel
theorem dX12_many_70 : decode cX12_many 70 = .ok (.iconst (-1), 1) := by decide +kernel
theorem dX12_many_71 : decode cX12_many 71 = .ok (.ireturn, 1) := by decide +kernel
theorem dX12_moveRow_0 : decode cX12_moveRow 0 = .ok (.iconst 0, 1) := by decide +kernel
theorem dX12_moveRow_1 : decode cX12_moveRow 1 = .ok (.istore 4, 2) := by decide +kernel
theorem dX12_moveRow_3 : decode cX12_moveRow 3 = .ok (.iload 4, 2) := by decide +kernel
theorem dX12_moveRow_5 : decode cX12_moveRow 5 = .ok (.iload_n 2, 1) := by decide +kernel
theorem dX12_moveRow_6 : decode cX12_moveRow 6 = .ok (.if_icmp .ge 52, 3) := by decide +kernel
theorem dX12_moveRow_9 : decode cX12_moveRow 9 = .ok (.iload_n 3, 1) := by decide +kernel
theorem dX12_moveRow_10 : decode cX12_moveRow 10 = .ok (.ifCond .eq 19, 3) := by decide +kernel
theorem dX12_moveRow_13 : decode cX12_moveRow 13 = .ok (.aload_n 0, 1) := by decide +kernel
theorem dX12_moveRow_14 : decode cX12_moveRow 14 = .ok (.getfield 87, 3) := by decide +kernel
theorem dX12_moveRow_17 : decode cX12_moveRow 17 = .ok (.aload_n 0, 1) := by decide +kernel
theorem dX12_moveRow_18 : decode cX12_moveRow 18 = .ok (.getfield 422, 3) := by decide +kernel
theorem dX12_moveRow_21 : decode cX12_moveRow 21 = .ok (.aload_n 1, 1) := by decide +kernel
theorem dX12_moveRow_22 : decode cX12_moveRow 22 = .ok (.iload 4, 2) := by decide +kernel
theorem dX12_moveRow_24 : decode cX12_moveRow 24 = .ok (.iaload, 1) := by decide +kernel
theorem dX12_moveRow_25 : decode cX12_moveRow 25 = .ok (.iastore, 1) := by decide +kernel
theorem dX12_moveRow_26 : decode cX12_moveRow 26 = .ok (.goto 16, 3) := by decide +kernel
theorem dX12_moveRow_29 : decode cX12_moveRow 29 = .ok (.aload_n 1, 1) := by decide +kernel
theorem dX12_moveRow_30 : decode cX12_moveRow 30 = .ok (.iload 4, 2) := by decide +kernel
theorem dX12_moveRow_32 : decode cX12_moveRow 32 = .ok (.aload_n 0, 1) := by decide +kernel
theorem dX12_moveRow_33 : decode cX12_moveRow 33 = .ok (.getfield 87, 3) := by decide +kernel
theorem dX12_moveRow_36 : decode cX12_moveRow 36 = .ok (.aload_n 0, 1) := by decide +kernel
theorem dX12_moveRow_37 : decode cX12_moveRow 37 = .ok (.getfield 422, 3) := by decide +kernel
theorem dX12_moveRow_40 : decode cX12_moveRow 40 = .ok (.iaload, 1) := by decide +kernel
theorem dX12_moveRow_41 : decode cX12_moveRow 41 = .ok (.iastore, 1) := by decide +kernel
theorem dX12_moveRow_42 : decode cX12_moveRow 42 = .ok (.aload_n 0, 1) := by decide +kernel
theorem dX12_moveRow_43 : decode cX12_moveRow 43 = .ok (.dup, 1) := by decide +kernel
theorem dX12_moveRow_44 : decode cX12_moveRow 44 = .ok (.getfield 422, 3) := by decide +kernel
theorem dX12_moveRow_47 : decode cX12_moveRow 47 = .ok (.iconst 1, 1) := by decide +kernel
theorem dX12_moveRow_48 : decode cX12_moveRow 48 = .ok (.iadd, 1) := by decide +kernel
theorem dX12_moveRow_49 : decode cX12_moveRow 49 = .ok (.putfield 422, 3) := by decide +kernel
theorem dX12_moveRow_52 : decode cX12_moveRow 52 = .ok (.iinc 4 1, 3) := by decide +kernel
theorem dX12_moveRow_55 : decode cX12_moveRow 55 = .ok (.goto (-52), 3) := by decide +kernel
theorem dX12_moveRow_58 : decode cX12_moveRow 58 = .ok (.return_, 1) := by decide +kernel
theorem dX12_moveAll_0 : decode cX12_moveAll 0 = .ok (.aload_n 0, 1) := by decide +kernel
theorem dX12_moveAll_1 : decode cX12_moveAll 1 = .ok (.iconst 0, 1) := by decide +kernel
theorem dX12_moveAll_2 : decode cX12_moveAll 2 = .ok (.putfield 422, 3) := by decide +kernel
theorem dX12_moveAll_5 : decode cX12_moveAll 5 = .ok (.aload_n 0, 1) := by decide +kernel
theorem dX12_moveAll_6 : decode cX12_moveAll 6 = .ok (.getfield 90, 3) := by decide +kernel
theorem dX12_moveAll_9 : decode cX12_moveAll 9 = .ok (.iconst 0, 1) := by decide +kernel
theorem dX12_moveAll_10 : decode cX12_moveAll 10 = .ok (.aload_n 0, 1) := by decide +kernel
theorem dX12_moveAll_11 : decode cX12_moveAll 11 = .ok (.getfield 97, 3) := by decide +kernel
theorem dX12_moveAll_14 : decode cX12_moveAll 14 = .ok (.iastore, 1) := by decide +kernel
theorem dX12_moveAll_15 : decode cX12_moveAll 15 = .ok (.aload_n 0, 1) := by decide +kernel
theorem dX12_moveAll_16 : decode cX12_moveAll 16 = .ok (.getfield 90, 3) := by decide +kernel
theorem dX12_moveAll_19 : decode cX12_moveAll 19 = .ok (.iconst 1, 1) := by decide +kernel
theorem dX12_moveAll_20 : decode cX12_moveAll 20 = .ok (.aload_n 0, 1) := by decide +kernel
theorem dX12_moveAll_21 : decode cX12_moveAll 21 = .ok (.getfield 103, 3) := by decide +kernel
theorem dX12_moveAll_24 : decode cX12_moveAll 24 = .ok (.iastore, 1) := by decide +kernel
theorem dX12_moveAll_25 : decode cX12_moveAll 25 = .ok (.aload_n 0, 1) := by decide +kernel
theorem dX12_moveAll_26 : decode cX12_moveAll 26 = .ok (.getfield 90, 3) := by decide +kernel
theorem dX12_moveAll_29 : decode cX12_moveAll 29 = .ok (.iconst 2, 1) := by decide +kernel
theorem dX12_moveAll_30 : decode cX12_moveAll 30 = .ok (.aload_n 0, 1) := by decide +kernel
theorem dX12_moveAll_31 : decode cX12_moveAll 31 = .ok (.getfield 100, 3) := by decide +kernel
theorem dX12_moveAll_34 : decode cX12_moveAll 34 = .ok (.iastore, 1) := by decide +kernel
theorem dX12_moveAll_35 : decode cX12_moveAll 35 = .ok (.aload_n 0, 1) := by decide +kernel
theorem dX12_moveAll_36 : decode cX12_moveAll 36 = .ok (.getfield 90, 3) := by decide +kernel
theorem dX12_moveAll_39 : decode cX12_moveAll 39 = .ok (.iconst 3, 1) := by decide +kernel
theorem dX12_moveAll_40 : decode cX12_moveAll 40 = .ok (.aload_n 0, 1) := by decide +kernel
theorem dX12_moveAll_41 : decode cX12_moveAll 41 = .ok (.getfield 224, 3) := by decide +kernel
theorem dX12_moveAll_44 : decode cX12_moveAll 44 = .ok (.ifCond .eq 7, 3) := by decide +kernel
theorem dX12_moveAll_47 : decode cX12_moveAll 47 = .ok (.iconst 1, 1) := by decide +kernel
theorem dX12_moveAll_48 : decode cX12_moveAll 48 = .ok (.goto 4, 3) := by decide +kernel
theorem dX12_moveAll_51 : decode cX12_moveAll 51 = .ok (.iconst 0, 1) := by decide +kernel
theorem dX12_moveAll_52 : decode cX12_moveAll 52 = .ok (.iastore, 1) := by decide +kernel
theorem dX12_moveAll_53 : decode cX12_moveAll 53 = .ok (.aload_n 0, 1) := by decide +kernel
theorem dX12_moveAll_54 : decode cX12_moveAll 54 = .ok (.getfield 90, 3) := by decide +kernel
theorem dX12_moveAll_57 : decode cX12_moveAll 57 = .ok (.iconst 4, 1) := by decide +kernel
theorem dX12_moveAll_58 : decode cX12_moveAll 58 = .ok (.aload_n 0, 1) := by decide +kernel
theorem dX12_moveAll_59 : decode cX12_moveAll 59 = .ok (.getfield 227, 3) := by decide +kernel
theorem dX12_moveAll_62 : decode cX12_moveAll 62 = .ok (.iastore, 1) := by decide +kernel
theorem dX12_moveAll_63 : decode cX12_moveAll 63 = .ok (.aload_n 0, 1) := by decide +kernel
theorem dX12_moveAll_64 : decode cX12_moveAll 64 = .ok (.getfield 90, 3) := by decide +kernel
theorem dX12_moveAll_67 : decode cX12_moveAll 67 = .ok (.iconst 5, 1) := by decide +kernel
theorem dX12_moveAll_68 : decode cX12_moveAll 68 = .ok (.aload_n 0, 1) := by decide +kernel
theorem dX12_moveAll_69 : decode cX12_moveAll 69 = .ok (.getfield 25, 3) := by decide +kernel
theorem dX12_moveAll_72 : decode cX12_moveAll 72 = .ok (.iastore, 1) := by decide +kernel
theorem dX12_moveAll_73 : decode cX12_moveAll 73 = .ok (.aload_n 0, 1) := by decide +kernel
theorem dX12_moveAll_74 : decode cX12_moveAll 74 = .ok (.getfield 90, 3) := by decide +kernel
theorem dX12_moveAll_77 : decode cX12_moveAll 77 = .ok (.bipush 6, 2) := by decide +kernel
theorem dX12_moveAll_79 : decode cX12_moveAll 79 = .ok (.aload_n 0, 1) := by decide +kernel
theorem dX12_moveAll_80 : decode cX12_moveAll 80 = .ok (.getfield 339, 3) := by decide +kernel
theorem dX12_moveAll_83 : decode cX12_moveAll 83 = .ok (.iastore, 1) := by decide +kernel
theorem dX12_moveAll_84 : decode cX12_moveAll 84 = .ok (.aload_n 0, 1) := by decide +kernel
theorem dX12_moveAll_85 : decode cX12_moveAll 85 = .ok (.aload_n 0, 1) := by decide +kernel
theorem dX12_moveAll_86 : decode cX12_moveAll 86 = .ok (.getfield 90, 3) := by decide +kernel
theorem dX12_moveAll_89 : decode cX12_moveAll 89 = .ok (.bipush 7, 2) := by decide +kernel
theorem dX12_moveAll_91 : decode cX12_moveAll 91 = .ok (.iload_n 1, 1) := by decide +kernel
theorem dX12_moveAll_92 : decode cX12_moveAll 92 = .ok (.invokevirtual 425, 3) := by decide +kernel
theorem dX12_moveAll_95 : decode cX12_moveAll 95 = .ok (.aload_n 0, 1) := by decide +kernel
theorem dX12_moveAll_96 : decode cX12_moveAll 96 = .ok (.aload_n 0, 1) := by decide +kernel
theorem dX12_moveAll_97 : decode cX12_moveAll 97 = .ok (.getfield 7, 3) := by decide +kernel
theorem dX12_moveAll_100 : decode cX12_moveAll 100 = .ok (.bipush 40, 2) := by decide +kernel
theorem dX12_moveAll_102 : decode cX12_moveAll 102 = .ok (.iload_n 1, 1) := by decide +kernel
theorem dX12_moveAll_103 : decode cX12_moveAll 103 = .ok (.invokevirtual 425, 3) := by decide +kernel
theorem dX12_moveAll_106 : decode cX12_moveAll 106 = .ok (.aload_n 0, 1) := by decide +kernel
theorem dX12_moveAll_107 : decode cX12_moveAll 107 = .ok (.aload_n 0, 1) := by decide +kernel
theorem dX12_moveAll_108 : decode cX12_moveAll 108 = .ok (.getfield 13, 3) := by decide +kernel
theorem dX12_moveAll_111 : decode cX12_moveAll 111 = .ok (.iconst 4, 1) := by decide +kernel
theorem dX12_moveAll_112 : decode cX12_moveAll 112 = .ok (.iload_n 1, 1) := by decide +kernel
theorem dX12_moveAll_113 : decode cX12_moveAll 113 = .ok (.invokevirtual 425, 3) := by decide +kernel
theorem dX12_moveAll_116 : decode cX12_moveAll 116 = .ok (.aload_n 0, 1) := by decide +kernel
theorem dX12_moveAll_117 : decode cX12_moveAll 117 = .ok (.aload_n 0, 1) := by decide +kernel
theorem dX12_moveAll_118 : decode cX12_moveAll 118 = .ok (.getfield 16, 3) := by decide +kernel
theorem dX12_moveAll_121 : decode cX12_moveAll 121 = .ok (.iconst 4, 1) := by decide +kernel
theorem dX12_moveAll_122 : decode cX12_moveAll 122 = .ok (.iload_n 1, 1) := by decide +kernel
theorem dX12_moveAll_123 : decode cX12_moveAll 123 = .ok (.invokevirtual 425, 3) := by decide +kernel
theorem dX12_moveAll_126 : decode cX12_moveAll 126 = .ok (.aload_n 0, 1) := by decide +kernel
theorem dX12_moveAll_127 : decode cX12_moveAll 127 = .ok (.aload_n 0, 1) := by decide +kernel
theorem dX12_moveAll_128 : decode cX12_moveAll 128 = .ok (.getfield 19, 3) := by decide +kernel
theorem dX12_moveAll_131 : decode cX12_moveAll 131 = .ok (.iconst 4, 1) := by decide +kernel
theorem dX12_moveAll_132 : decode cX12_moveAll 132 = .ok (.iload_n 1, 1) := by decide +kernel
theorem dX12_moveAll_133 : decode cX12_moveAll 133 = .ok (.invokevirtual 425, 3) := by decide +kernel
theorem dX12_moveAll_136 : decode cX12_moveAll 136 = .ok (.aload_n 0, 1) := by decide +kernel
theorem dX12_moveAll_137 : decode cX12_moveAll 137 = .ok (.aload_n 0, 1) := by decide +kernel
theorem dX12_moveAll_138 : decode cX12_moveAll 138 = .ok (.getfield 22, 3) := by decide +kernel
theorem dX12_moveAll_141 : decode cX12_moveAll 141 = .ok (.bipush 8, 2) := by decide +kernel
theorem dX12_moveAll_143 : decode cX12_moveAll 143 = .ok (.iload_n 1, 1) := by decide +kernel
theorem dX12_moveAll_144 : decode cX12_moveAll 144 = .ok (.invokevirtual 425, 3) := by decide +kernel
theorem dX12_moveAll_147 : decode cX12_moveAll 147 = .ok (.aload_n 0, 1) := by decide +kernel
theorem dX12_moveAll_148 : decode cX12_moveAll 148 = .ok (.aload_n 0, 1) := by decide +kernel
theorem dX12_moveAll_149 : decode cX12_moveAll 149 = .ok (.getfield 29, 3) := by decide +kernel
theorem dX12_moveAll_152 : decode cX12_moveAll 152 = .ok (.bipush 8, 2) := by decide +kernel
theorem dX12_moveAll_154 : decode cX12_moveAll 154 = .ok (.iload_n 1, 1) := by decide +kernel
theorem dX12_moveAll_155 : decode cX12_moveAll 155 = .ok (.invokevirtual 425, 3) := by decide +kernel
theorem dX12_moveAll_158 : decode cX12_moveAll 158 = .ok (.return_, 1) := by decide +kernel
theorem dX12_keep_0 : decode cX12_keep 0 = .ok (.aload_n 0, 1) := by decide +kernel
theorem dX12_keep_1 : decode cX12_keep 1 = .ok (.iconst 1, 1) := by decide +kernel
theorem dX12_keep_2 : decode cX12_keep 2 = .ok (.invokevirtual 429, 3) := by decide +kernel
theorem dX12_keep_5 : decode cX12_keep 5 = .ok (.aload_n 0, 1) := by decide +kernel
theorem dX12_keep_6 : decode cX12_keep 6 = .ok (.iconst 1, 1) := by decide +kernel
theorem dX12_keep_7 : decode cX12_keep 7 = .ok (.putfield 433, 3) := by decide +kernel
theorem dX12_keep_10 : decode cX12_keep 10 = .ok (.iconst 1, 1) := by decide +kernel
theorem dX12_keep_11 : decode cX12_keep 11 = .ok (.ireturn, 1) := by decide +kernel
theorem dX12_again_0 : decode cX12_again 0 = .ok (.aload_n 0, 1) := by decide +kernel
theorem dX12_again_1 : decode cX12_again 1 = .ok (.getfield 433, 3) := by decide +kernel
theorem dX12_again_4 : decode cX12_again 4 = .ok (.ifCond .ne 6, 3) := by decide +kernel
theorem dX12_again_7 : decode cX12_again 7 = .ok (.bipush (-3), 2) := by decide +kernel
theorem dX12_again_9 : decode cX12_again 9 = .ok (.ireturn, 1) := by decide +kernel
theorem dX12_again_10 : decode cX12_again 10 = .ok (.aload_n 0, 1) := by decide +kernel
theorem dX12_again_11 : decode cX12_again 11 = .ok (.iconst 0, 1) := by decide +kernel
theorem dX12_again_12 : decode cX12_again 12 = .ok (.invokevirtual 429, 3) := by decide +kernel
theorem dX12_again_15 : decode cX12_again 15 = .ok (.aload_n 0, 1) := by decide +kernel
theorem dX12_again_16 : decode cX12_again 16 = .ok (.aload_n 0, 1) := by decide +kernel
theorem dX12_again_17 : decode cX12_again 17 = .ok (.getfield 90, 3) := by decide +kernel
theorem dX12_again_20 : decode cX12_again 20 = .ok (.iconst 0, 1) := by decide +kernel
theorem dX12_again_21 : decode cX12_again 21 = .ok (.iaload, 1) := by decide +kernel
theorem dX12_again_22 : decode cX12_again 22 = .ok (.putfield 97, 3) := by decide +kernel
theorem dX12_again_25 : decode cX12_again 25 = .ok (.aload_n 0, 1) := by decide +kernel
theorem dX12_again_26 : decode cX12_again 26 = .ok (.aload_n 0, 1) := by decide +kernel
theorem dX12_again_27 : decode cX12_again 27 = .ok (.getfield 90, 3) := by decide +kernel
theorem dX12_again_30 : decode cX12_again 30 = .ok (.iconst 1, 1) := by decide +kernel
theorem dX12_again_31 : decode cX12_again 31 = .ok (.iaload, 1) := by decide +kernel
theorem dX12_again_32 : decode cX12_again 32 = .ok (.putfield 103, 3) := by decide +kernel
theorem dX12_again_35 : decode cX12_again 35 = .ok (.aload_n 0, 1) := by decide +kernel
theorem dX12_again_36 : decode cX12_again 36 = .ok (.aload_n 0, 1) := by decide +kernel
theorem dX12_again_37 : decode cX12_again 37 = .ok (.getfield 90, 3) := by decide +kernel
theorem dX12_again_40 : decode cX12_again 40 = .ok (.iconst 2, 1) := by decide +kernel
theorem dX12_again_41 : decode cX12_again 41 = .ok (.iaload, 1) := by decide +kernel
theorem dX12_again_42 : decode cX12_again 42 = .ok (.putfield 100, 3) := by decide +kernel
theorem dX12_again_45 : decode cX12_again 45 = .ok (.aload_n 0, 1) := by decide +kernel
theorem dX12_again_46 : decode cX12_again 46 = .ok (.aload_n 0, 1) := by decide +kernel
theorem dX12_again_47 : decode cX12_again 47 = .ok (.getfield 90, 3) := by decide +kernel
theorem dX12_again_50 : decode cX12_again 50 = .ok (.iconst 3, 1) := by decide +kernel
theorem dX12_again_51 : decode cX12_again 51 = .ok (.iaload, 1) := by decide +kernel
theorem dX12_again_52 : decode cX12_again 52 = .ok (.iconst 1, 1) := by decide +kernel
theorem dX12_again_53 : decode cX12_again 53 = .ok (.if_icmp .ne 7, 3) := by decide +kernel
theorem dX12_again_56 : decode cX12_again 56 = .ok (.iconst 1, 1) := by decide +kernel
theorem dX12_again_57 : decode cX12_again 57 = .ok (.goto 4, 3) := by decide +kernel
theorem dX12_again_60 : decode cX12_again 60 = .ok (.iconst 0, 1) := by decide +kernel
theorem dX12_again_61 : decode cX12_again 61 = .ok (.putfield 224, 3) := by decide +kernel
theorem dX12_again_64 : decode cX12_again 64 = .ok (.aload_n 0, 1) := by decide +kernel
theorem dX12_again_65 : decode cX12_again 65 = .ok (.aload_n 0, 1) := by decide +kernel
theorem dX12_again_66 : decode cX12_again 66 = .ok (.getfield 90, 3) := by decide +kernel
theorem dX12_again_69 : decode cX12_again 69 = .ok (.iconst 4, 1) := by decide +kernel
theorem dX12_again_70 : decode cX12_again 70 = .ok (.iaload, 1) := by decide +kernel
theorem dX12_again_71 : decode cX12_again 71 = .ok (.putfield 227, 3) := by decide +kernel
theorem dX12_again_74 : decode cX12_again 74 = .ok (.aload_n 0, 1) := by decide +kernel
theorem dX12_again_75 : decode cX12_again 75 = .ok (.aload_n 0, 1) := by decide +kernel
theorem dX12_again_76 : decode cX12_again 76 = .ok (.getfield 90, 3) := by decide +kernel
theorem dX12_again_79 : decode cX12_again 79 = .ok (.iconst 5, 1) := by decide +kernel
theorem dX12_again_80 : decode cX12_again 80 = .ok (.iaload, 1) := by decide +kernel
theorem dX12_again_81 : decode cX12_again 81 = .ok (.putfield 25, 3) := by decide +kernel
theorem dX12_again_84 : decode cX12_again 84 = .ok (.aload_n 0, 1) := by decide +kernel
theorem dX12_again_85 : decode cX12_again 85 = .ok (.aload_n 0, 1) := by decide +kernel
theorem dX12_again_86 : decode cX12_again 86 = .ok (.getfield 90, 3) := by decide +kernel
theorem dX12_again_89 : decode cX12_again 89 = .ok (.bipush 6, 2) := by decide +kernel
theorem dX12_again_91 : decode cX12_again 91 = .ok (.iaload, 1) := by decide +kernel
theorem dX12_again_92 : decode cX12_again 92 = .ok (.putfield 339, 3) := by decide +kernel
theorem dX12_again_95 : decode cX12_again 95 = .ok (.aload_n 0, 1) := by decide +kernel
theorem dX12_again_96 : decode cX12_again 96 = .ok (.getfield 97, 3) := by decide +kernel
theorem dX12_again_99 : decode cX12_again 99 = .ok (.ireturn, 1) := by decide +kernel
theorem dJ6_bitCount_0f7a4_0 : decode cJ6_bitCount_0f7a4 0 = .ok (.iload_n 0, 1) := by decide +kernel
theorem dJ6_bitCount_0f7a4_1 : decode cJ6_bitCount_0f7a4 1 = .ok (.iload_n 0, 1) := by decide +kernel
theorem dJ6_bitCount_0f7a4_2 : decode cJ6_bitCount_0f7a4 2 = .ok (.iconst 1, 1) := by decide +kernel
theorem dJ6_bitCount_0f7a4_3 : decode cJ6_bitCount_0f7a4 3 = .ok (.iushr, 1) := by decide +kernel
theorem dJ6_bitCount_0f7a4_4 : decode cJ6_bitCount_0f7a4 4 = .ok (.ldc_w 265, 3) := by decide +kernel
theorem dJ6_bitCount_0f7a4_7 : decode cJ6_bitCount_0f7a4 7 = .ok (.iand, 1) := by decide +kernel
theorem dJ6_bitCount_0f7a4_8 : decode cJ6_bitCount_0f7a4 8 = .ok (.isub, 1) := by decide +kernel
theorem dJ6_bitCount_0f7a4_9 : decode cJ6_bitCount_0f7a4 9 = .ok (.istore_n 0, 1) := by decide +kernel
theorem dJ6_bitCount_0f7a4_10 : decode cJ6_bitCount_0f7a4 10 = .ok (.iload_n 0, 1) := by decide +kernel
theorem dJ6_bitCount_0f7a4_11 : decode cJ6_bitCount_0f7a4 11 = .ok (.ldc_w 266, 3) := by decide +kernel
theorem dJ6_bitCount_0f7a4_14 : decode cJ6_bitCount_0f7a4 14 = .ok (.iand, 1) := by decide +kernel
theorem dJ6_bitCount_0f7a4_15 : decode cJ6_bitCount_0f7a4 15 = .ok (.iload_n 0, 1) := by decide +kernel
theorem dJ6_bitCount_0f7a4_16 : decode cJ6_bitCount_0f7a4 16 = .ok (.iconst 2, 1) := by decide +kernel
theorem dJ6_bitCount_0f7a4_17 : decode cJ6_bitCount_0f7a4 17 = .ok (.iushr, 1) := by decide +kernel
theorem dJ6_bitCount_0f7a4_18 : decode cJ6_bitCount_0f7a4 18 = .ok (.ldc_w 266, 3) := by decide +kernel
theorem dJ6_bitCount_0f7a4_21 : decode cJ6_bitCount_0f7a4 21 = .ok (.iand, 1) := by decide +kernel
theorem dJ6_bitCount_0f7a4_22 : decode cJ6_bitCount_0f7a4 22 = .ok (.iadd, 1) := by decide +kernel
theorem dJ6_bitCount_0f7a4_23 : decode cJ6_bitCount_0f7a4 23 = .ok (.istore_n 0, 1) := by decide +kernel
theorem dJ6_bitCount_0f7a4_24 : decode cJ6_bitCount_0f7a4 24 = .ok (.iload_n 0, 1) := by decide +kernel
theorem dJ6_bitCount_0f7a4_25 : decode cJ6_bitCount_0f7a4 25 = .ok (.iload_n 0, 1) := by decide +kernel
theorem dJ6_bitCount_0f7a4_26 : decode cJ6_bitCount_0f7a4 26 = .ok (.iconst 4, 1) := by decide +kernel
theorem dJ6_bitCount_0f7a4_27 : decode cJ6_bitCount_0f7a4 27 = .ok (.iushr, 1) := by decide +kernel
theorem dJ6_bitCount_0f7a4_28 : decode cJ6_bitCount_0f7a4 28 = .ok (.iadd, 1) := by decide +kernel
theorem dJ6_bitCount_0f7a4_29 : decode cJ6_bitCount_0f7a4 29 = .ok (.ldc_w 267, 3) := by decide +kernel
theorem dJ6_bitCount_0f7a4_32 : decode cJ6_bitCount_0f7a4 32 = .ok (.iand, 1) := by decide +kernel
theorem dJ6_bitCount_0f7a4_33 : decode cJ6_bitCount_0f7a4 33 = .ok (.istore_n 0, 1) := by decide +kernel
theorem dJ6_bitCount_0f7a4_34 : decode cJ6_bitCount_0f7a4 34 = .ok (.iload_n 0, 1) := by decide +kernel
theorem dJ6_bitCount_0f7a4_35 : decode cJ6_bitCount_0f7a4 35 = .ok (.iload_n 0, 1) := by decide +kernel
theorem dJ6_bitCount_0f7a4_36 : decode cJ6_bitCount_0f7a4 36 = .ok (.bipush 8, 2) := by decide +kernel
theorem dJ6_bitCount_0f7a4_38 : decode cJ6_bitCount_0f7a4 38 = .ok (.iushr, 1) := by decide +kernel
theorem dJ6_bitCount_0f7a4_39 : decode cJ6_bitCount_0f7a4 39 = .ok (.iadd, 1) := by decide +kernel
theorem dJ6_bitCount_0f7a4_40 : decode cJ6_bitCount_0f7a4 40 = .ok (.istore_n 0, 1) := by decide +kernel
theorem dJ6_bitCount_0f7a4_41 : decode cJ6_bitCount_0f7a4 41 = .ok (.iload_n 0, 1) := by decide +kernel
theorem dJ6_bitCount_0f7a4_42 : decode cJ6_bitCount_0f7a4 42 = .ok (.iload_n 0, 1) := by decide +kernel
theorem dJ6_bitCount_0f7a4_43 : decode cJ6_bitCount_0f7a4 43 = .ok (.bipush 16, 2) := by decide +kernel
theorem dJ6_bitCount_0f7a4_45 : decode cJ6_bitCount_0f7a4 45 = .ok (.iushr, 1) := by decide +kernel
theorem dJ6_bitCount_0f7a4_46 : decode cJ6_bitCount_0f7a4 46 = .ok (.iadd, 1) := by decide +kernel
theorem dJ6_bitCount_0f7a4_47 : decode cJ6_bitCount_0f7a4 47 = .ok (.istore_n 0, 1) := by decide +kernel
theorem dJ6_bitCount_0f7a4_48 : decode cJ6_bitCount_0f7a4 48 = .ok (.iload_n 0, 1) := by decide +kernel
theorem dJ6_bitCount_0f7a4_49 : decode cJ6_bitCount_0f7a4 49 = .ok (.bipush 63, 2) := by decide +kernel
theorem dJ6_bitCount_0f7a4_51 : decode cJ6_bitCount_0f7a4 51 = .ok (.iand, 1) := by decide +kernel
theorem dJ6_bitCount_0f7a4_52 : decode cJ6_bitCount_0f7a4 52 = .ok (.ireturn, 1) := by decide +kernel
theorem dJ9_max_7cf53_0 : decode cJ9_max_7cf53 0 = .ok (.iload_n 0, 1) := by decide +kernel
theorem dJ9_max_7cf53_1 : decode cJ9_max_7cf53 1 = .ok (.iload_n 1, 1) := by decide +kernel
theorem dJ9_max_7cf53_2 : decode cJ9_max_7cf53 2 = .ok (.if_icmp .lt 7, 3) := by decide +kernel
theorem dJ9_max_7cf53_5 : decode cJ9_max_7cf53 5 = .ok (.iload_n 0, 1) := by decide +kernel
theorem dJ9_max_7cf53_6 : decode cJ9_max_7cf53 6 = .ok (.goto 4, 3) := by decide +kernel
theorem dJ9_max_7cf53_9 : decode cJ9_max_7cf53 9 = .ok (.iload_n 1, 1) := by decide +kernel
theorem dJ9_max_7cf53_10 : decode cJ9_max_7cf53 10 = .ok (.ireturn, 1) := by decide +kernel
theorem dJ9_max_f86c9_0 : decode cJ9_max_f86c9 0 = .ok (.lload_n 0, 1) := by decide +kernel
theorem dJ9_max_f86c9_1 : decode cJ9_max_f86c9 1 = .ok (.lload_n 2, 1) := by decide +kernel
theorem dJ9_max_f86c9_2 : decode cJ9_max_f86c9 2 = .ok (.lcmp, 1) := by decide +kernel
theorem dJ9_max_f86c9_3 : decode cJ9_max_f86c9 3 = .ok (.ifCond .lt 7, 3) := by decide +kernel
theorem dJ9_max_f86c9_6 : decode cJ9_max_f86c9 6 = .ok (.lload_n 0, 1) := by decide +kernel
theorem dJ9_max_f86c9_7 : decode cJ9_max_f86c9 7 = .ok (.goto 4, 3) := by decide +kernel
theorem dJ9_max_f86c9_10 : decode cJ9_max_f86c9 10 = .ok (.lload_n 2, 1) := by decide +kernel
theorem dJ9_max_f86c9_11 : decode cJ9_max_f86c9 11 = .ok (.lreturn, 1) := by decide +kernel
theorem dJ9_min_7cf53_0 : decode cJ9_min_7cf53 0 = .ok (.iload_n 0, 1) := by decide +kernel
theorem dJ9_min_7cf53_1 : decode cJ9_min_7cf53 1 = .ok (.iload_n 1, 1) := by decide +kernel
theorem dJ9_min_7cf53_2 : decode cJ9_min_7cf53 2 = .ok (.if_icmp .gt 7, 3) := by decide +kernel
theorem dJ9_min_7cf53_5 : decode cJ9_min_7cf53 5 = .ok (.iload_n 0, 1) := by decide +kernel
theorem dJ9_min_7cf53_6 : decode cJ9_min_7cf53 6 = .ok (.goto 4, 3) := by decide +kernel
theorem dJ9_min_7cf53_9 : decode cJ9_min_7cf53 9 = .ok (.iload_n 1, 1) := by decide +kernel
theorem dJ9_min_7cf53_10 : decode cJ9_min_7cf53 10 = .ok (.ireturn, 1) := by decide +kernel
theorem dJ9_min_f86c9_0 : decode cJ9_min_f86c9 0 = .ok (.lload_n 0, 1) := by decide +kernel
theorem dJ9_min_f86c9_1 : decode cJ9_min_f86c9 1 = .ok (.lload_n 2, 1) := by decide +kernel
theorem dJ9_min_f86c9_2 : decode cJ9_min_f86c9 2 = .ok (.lcmp, 1) := by decide +kernel
theorem dJ9_min_f86c9_3 : decode cJ9_min_f86c9 3 = .ok (.ifCond .gt 7, 3) := by decide +kernel
theorem dJ9_min_f86c9_6 : decode cJ9_min_f86c9 6 = .ok (.lload_n 0, 1) := by decide +kernel
theorem dJ9_min_f86c9_7 : decode cJ9_min_f86c9 7 = .ok (.goto 4, 3) := by decide +kernel
theorem dJ9_min_f86c9_10 : decode cJ9_min_f86c9 10 = .ok (.lload_n 2, 1) := by decide +kernel
theorem dJ9_min_f86c9_11 : decode cJ9_min_f86c9 11 = .ok (.lreturn, 1) := by decide +kernel
theorem dJ0_length_8abf5_0 : decode cJ0_length_8abf5 0 = .ok (.aload_n 0, 1) := by decide +kernel
theorem dJ0_length_8abf5_1 : decode cJ0_length_8abf5 1 = .ok (.getfield 9, 3) := by decide +kernel
theorem dJ0_length_8abf5_4 : decode cJ0_length_8abf5 4 = .ok (.arraylength, 1) := by decide +kernel
theorem dJ0_length_8abf5_5 : decode cJ0_length_8abf5 5 = .ok (.aload_n 0, 1) := by decide +kernel
theorem dJ0_length_8abf5_6 : decode cJ0_length_8abf5 6 = .ok (.invokevirtual 335, 3) := by decide +kernel
theorem dJ0_length_8abf5_9 : decode cJ0_length_8abf5 9 = .ok (.ishr, 1) := by decide +kernel
theorem dJ0_length_8abf5_10 : decode cJ0_length_8abf5 10 = .ok (.ireturn, 1) := by decide +kernel
theorem dJ0_charAt_5068e_0 : decode cJ0_charAt_5068e 0 = .ok (.aload_n 0, 1) := by decide +kernel
theorem dJ0_charAt_5068e_1 : decode cJ0_charAt_5068e 1 = .ok (.invokevirtual 492, 3) := by decide +kernel
theorem dJ0_charAt_5068e_4 : decode cJ0_charAt_5068e 4 = .ok (.ifCond .eq 12, 3) := by decide +kernel
theorem dJ0_charAt_5068e_7 : decode cJ0_charAt_5068e 7 = .ok (.aload_n 0, 1) := by decide +kernel
theorem dJ0_charAt_5068e_8 : decode cJ0_charAt_5068e 8 = .ok (.getfield 9, 3) := by decide +kernel
theorem dJ0_charAt_5068e_11 : decode cJ0_charAt_5068e 11 = .ok (.iload_n 1, 1) := by decide +kernel
theorem dJ0_charAt_5068e_12 : decode cJ0_charAt_5068e 12 = .ok (.invokestatic 495, 3) := by decide +kernel
theorem dJ0_charAt_5068e_15 : decode cJ0_charAt_5068e 15 = .ok (.ireturn, 1) := by decide +kernel
theorem dJ0_charAt_5068e_16 : decode cJ0_charAt_5068e 16 = .ok (.aload_n 0, 1) := by decide +kernel
theorem dJ0_charAt_5068e_17 : decode cJ0_charAt_5068e 17 = .ok (.getfield 9, 3) := by decide +kernel
theorem dJ0_charAt_5068e_20 : decode cJ0_charAt_5068e 20 = .ok (.iload_n 1, 1) := by decide +kernel
theorem dJ0_charAt_5068e_21 : decode cJ0_charAt_5068e 21 = .ok (.invokestatic 498, 3) := by decide +kernel
theorem dJ0_charAt_5068e_24 : decode cJ0_charAt_5068e 24 = .ok (.ireturn, 1) := by decide +kernel
theorem dJ0_coder_7d493_0 : decode cJ0_coder_7d493 0 = .ok (.getstatic 38, 3) := by decide +kernel
theorem dJ0_coder_7d493_3 : decode cJ0_coder_7d493 3 = .ok (.ifCond .eq 10, 3) := by decide +kernel
theorem dJ0_coder_7d493_6 : decode cJ0_coder_7d493 6 = .ok (.aload_n 0, 1) := by decide +kernel
theorem dJ0_coder_7d493_7 : decode cJ0_coder_7d493 7 = .ok (.getfield 15, 3) := by decide +kernel
theorem dJ0_coder_7d493_10 : decode cJ0_coder_7d493 10 = .ok (.goto 4, 3) := by decide +kernel
theorem dJ0_coder_7d493_13 : decode cJ0_coder_7d493 13 = .ok (.iconst 1, 1) := by decide +kernel
theorem dJ0_coder_7d493_14 : decode cJ0_coder_7d493 14 = .ok (.ireturn, 1) := by decide +kernel
theorem dJ0_isLatin1_aae02_0 : decode cJ0_isLatin1_aae02 0 = .ok (.getstatic 38, 3) := by decide +kernel
theorem dJ0_isLatin1_aae02_3 : decode cJ0_isLatin1_aae02 3 = .ok (.ifCond .eq 14, 3) := by decide +kernel
theorem dJ0_isLatin1_aae02_6 : decode cJ0_isLatin1_aae02 6 = .ok (.aload_n 0, 1) := by decide +kernel
theorem dJ0_isLatin1_aae02_7 : decode cJ0_isLatin1_aae02 7 = .ok (.getfield 15, 3) := by decide +kernel
theorem dJ0_isLatin1_aae02_10 : decode cJ0_isLatin1_aae02 10 = .ok (.ifCond .ne 7, 3) := by decide +kernel
theorem dJ0_isLatin1_aae02_13 : decode cJ0_isLatin1_aae02 13 = .ok (.iconst 1, 1) := by decide +kernel
theorem dJ0_isLatin1_aae02_14 : decode cJ0_isLatin1_aae02 14 = .ok (.goto 4, 3) := by decide +kernel
theorem dJ0_isLatin1_aae02_17 : decode cJ0_isLatin1_aae02 17 = .ok (.iconst 0, 1) := by decide +kernel
theorem dJ0_isLatin1_aae02_18 : decode cJ0_isLatin1_aae02 18 = .ok (.ireturn, 1) := by decide +kernel
theorem dJ0_checkIndex_df160_0 : decode cJ0_checkIndex_df160 0 = .ok (.iload_n 0, 1) := by decide +kernel
theorem dJ0_checkIndex_df160_1 : decode cJ0_checkIndex_df160 1 = .ok (.iload_n 1, 1) := by decide +kernel
theorem dJ0_checkIndex_df160_2 : decode cJ0_checkIndex_df160 2 = .ok (.getstatic 1053, 3) := by decide +kernel
theorem dJ0_checkIndex_df160_5 : decode cJ0_checkIndex_df160 5 = .ok (.invokestatic 1059, 3) := by decide +kernel
theorem dJ0_checkIndex_df160_8 : decode cJ0_checkIndex_df160 8 = .ok (.pop, 1) := by decide +kernel
theorem dJ0_checkIndex_df160_9 : decode cJ0_checkIndex_df160 9 = .ok (.return_, 1) := by decide +kernel
theorem dJ1_charAt_3b067_0 : decode cJ1_charAt_3b067 0 = .ok (.iload_n 1, 1) := by decide +kernel
theorem dJ1_charAt_3b067_1 : decode cJ1_charAt_3b067 1 = .ok (.aload_n 0, 1) := by decide +kernel
theorem dJ1_charAt_3b067_2 : decode cJ1_charAt_3b067 2 = .ok (.arraylength, 1) := by decide +kernel
theorem dJ1_charAt_3b067_3 : decode cJ1_charAt_3b067 3 = .ok (.invokestatic 9, 3) := by decide +kernel
theorem dJ1_charAt_3b067_6 : decode cJ1_charAt_3b067 6 = .ok (.aload_n 0, 1) := by decide +kernel
theorem dJ1_charAt_3b067_7 : decode cJ1_charAt_3b067 7 = .ok (.iload_n 1, 1) := by decide +kernel
theorem dJ1_charAt_3b067_8 : decode cJ1_charAt_3b067 8 = .ok (.baload, 1) := by decide +kernel
theorem dJ1_charAt_3b067_9 : decode cJ1_charAt_3b067 9 = .ok (.sipush 255, 3) := by decide +kernel
theorem dJ1_charAt_3b067_12 : decode cJ1_charAt_3b067 12 = .ok (.iand, 1) := by decide +kernel
theorem dJ1_charAt_3b067_13 : decode cJ1_charAt_3b067 13 = .ok (.i2c, 1) := by decide +kernel
theorem dJ1_charAt_3b067_14 : decode cJ1_charAt_3b067 14 = .ok (.ireturn, 1) := by decide +kernel
theorem dJ2_getChar_3b067_0 : decode cJ2_getChar_3b067 0 = .ok (.getstatic 44, 3) := by decide +kernel
theorem dJ2_getChar_3b067_3 : decode cJ2_getChar_3b067 3 = .ok (.ifCond .ne 25, 3) := by decide +kernel
theorem dJ2_getChar_3b067_6 : decode cJ2_getChar_3b067 6 = .ok (.iload_n 1, 1) := by decide +kernel
theorem dJ2_getChar_3b067_7 : decode cJ2_getChar_3b067 7 = .ok (.ifCond .lt 11, 3) := by decide +kernel
theorem dJ2_getChar_3b067_10 : decode cJ2_getChar_3b067 10 = .ok (.iload_n 1, 1) := by decide +kernel
theorem dJ2_getChar_3b067_11 : decode cJ2_getChar_3b067 11 = .ok (.aload_n 0, 1) := by decide +kernel
theorem dJ2_getChar_3b067_12 : decode cJ2_getChar_3b067 12 = .ok (.invokestatic 48, 3) := by decide +kernel
theorem dJ2_getChar_3b067_15 : decode cJ2_getChar_3b067 15 = .ok (.if_icmp .lt 13, 3) := by decide +kernel
theorem dJ2_getChar_3b067_18 : decode cJ2_getChar_3b067 18 = .ok (.new 52, 3) := by decide +kernel
theorem dJ2_getChar_3b067_21 : decode cJ2_getChar_3b067 21 = .ok (.dup, 1) := by decide +kernel
theorem dJ2_getChar_3b067_22 : decode cJ2_getChar_3b067 22 = .ok (.ldc 54, 2) := by decide +kernel
theorem dJ2_getChar_3b067_24 : decode cJ2_getChar_3b067 24 = .ok (.invokespecial 56, 3) := by decide +kernel
theorem dJ2_getChar_3b067_27 : decode cJ2_getChar_3b067 27 = .ok (.athrow, 1) := by decide +kernel
theorem dJ2_getChar_3b067_28 : decode cJ2_getChar_3b067 28 = .ok (.iload_n 1, 1) := by decide +kernel
theorem dJ2_getChar_3b067_29 : decode cJ2_getChar_3b067 29 = .ok (.iconst 1, 1) := by decide +kernel
theorem dJ2_getChar_3b067_30 : decode cJ2_getChar_3b067 30 = .ok (.ishl, 1) := by decide +kernel
theorem dJ2_getChar_3b067_31 : decode cJ2_getChar_3b067 31 = .ok (.istore_n 1, 1) := by decide +kernel
theorem dJ2_getChar_3b067_32 : decode cJ2_getChar_3b067 32 = .ok (.aload_n 0, 1) := by decide +kernel
theorem dJ2_getChar_3b067_33 : decode cJ2_getChar_3b067 33 = .ok (.iload_n 1, 1) := by decide +kernel
theorem dJ2_getChar_3b067_34 : decode cJ2_getChar_3b067 34 = .ok (.iinc 1 1, 3) := by decide +kernel
theorem dJ2_getChar_3b067_37 : decode cJ2_getChar_3b067 37 = .ok (.baload, 1) := by decide +kernel
theorem dJ2_getChar_3b067_38 : decode cJ2_getChar_3b067 38 = .ok (.sipush 255, 3) := by decide +kernel
theorem dJ2_getChar_3b067_41 : decode cJ2_getChar_3b067 41 = .ok (.iand, 1) := by decide +kernel
theorem dJ2_getChar_3b067_42 : decode cJ2_getChar_3b067 42 = .ok (.getstatic 59, 3) := by decide +kernel
theorem dJ2_getChar_3b067_45 : decode cJ2_getChar_3b067 45 = .ok (.ishl, 1) := by decide +kernel
theorem dJ2_getChar_3b067_46 : decode cJ2_getChar_3b067 46 = .ok (.aload_n 0, 1) := by decide +kernel
theorem dJ2_getChar_3b067_47 : decode cJ2_getChar_3b067 47 = .ok (.iload_n 1, 1) := by decide +kernel
theorem dJ2_getChar_3b067_48 : decode cJ2_getChar_3b067 48 = .ok (.baload, 1) := by decide +kernel
theorem dJ2_getChar_3b067_49 : decode cJ2_getChar_3b067 49 = .ok (.sipush 255, 3) := by decide +kernel
theorem dJ2_getChar_3b067_52 : decode cJ2_getChar_3b067 52 = .ok (.iand, 1) := by decide +kernel
theorem dJ2_getChar_3b067_53 : decode cJ2_getChar_3b067 53 = .ok (.getstatic 63, 3) := by decide +kernel
theorem dJ2_getChar_3b067_56 : decode cJ2_getChar_3b067 56 = .ok (.ishl, 1) := by decide +kernel
theorem dJ2_getChar_3b067_57 : decode cJ2_getChar_3b067 57 = .ok (.ior, 1) := by decide +kernel
theorem dJ2_getChar_3b067_58 : decode cJ2_getChar_3b067 58 = .ok (.i2c, 1) := by decide +kernel
theorem dJ2_getChar_3b067_59 : decode cJ2_getChar_3b067 59 = .ok (.ireturn, 1) := by decide +kernel
theorem dJ2_length_9d52b_0 : decode cJ2_length_9d52b 0 = .ok (.aload_n 0, 1) := by decide +kernel
theorem dJ2_length_9d52b_1 : decode cJ2_length_9d52b 1 = .ok (.arraylength, 1) := by decide +kernel
theorem dJ2_length_9d52b_2 : decode cJ2_length_9d52b 2 = .ok (.iconst 1, 1) := by decide +kernel
theorem dJ2_length_9d52b_3 : decode cJ2_length_9d52b 3 = .ok (.ishr, 1) := by decide +kernel
theorem dJ2_length_9d52b_4 : decode cJ2_length_9d52b 4 = .ok (.ireturn, 1) := by decide +kernel
theorem dJ2_charAt_3b067_0 : decode cJ2_charAt_3b067 0 = .ok (.iload_n 1, 1) := by decide +kernel
theorem dJ2_charAt_3b067_1 : decode cJ2_charAt_3b067 1 = .ok (.aload_n 0, 1) := by decide +kernel
theorem dJ2_charAt_3b067_2 : decode cJ2_charAt_3b067 2 = .ok (.invokestatic 67, 3) := by decide +kernel
theorem dJ2_charAt_3b067_5 : decode cJ2_charAt_3b067 5 = .ok (.aload_n 0, 1) := by decide +kernel
theorem dJ2_charAt_3b067_6 : decode cJ2_charAt_3b067 6 = .ok (.iload_n 1, 1) := by decide +kernel
theorem dJ2_charAt_3b067_7 : decode cJ2_charAt_3b067 7 = .ok (.invokestatic 71, 3) := by decide +kernel
theorem dJ2_charAt_3b067_10 : decode cJ2_charAt_3b067 10 = .ok (.ireturn, 1) := by decide +kernel
theorem dJ2_checkIndex_2214a_0 : decode cJ2_checkIndex_2214a 0 = .ok (.iload_n 0, 1) := by decide +kernel
theorem dJ2_checkIndex_2214a_1 : decode cJ2_checkIndex_2214a 1 = .ok (.aload_n 1, 1) := by decide +kernel
theorem dJ2_checkIndex_2214a_2 : decode cJ2_checkIndex_2214a 2 = .ok (.invokestatic 48, 3) := by decide +kernel
theorem dJ2_checkIndex_2214a_5 : decode cJ2_checkIndex_2214a 5 = .ok (.invokestatic 414, 3) := by decide +kernel
theorem dJ2_checkIndex_2214a_8 : decode cJ2_checkIndex_2214a 8 = .ok (.return_, 1) := by decide +kernel
theorem dJ7_fill_53178_0 : decode cJ7_fill_53178 0 = .ok (.iconst 0, 1) := by decide +kernel
theorem dJ7_fill_53178_1 : decode cJ7_fill_53178 1 = .ok (.istore_n 2, 1) := by decide +kernel
theorem dJ7_fill_53178_2 : decode cJ7_fill_53178 2 = .ok (.aload_n 0, 1) := by decide +kernel
theorem dJ7_fill_53178_3 : decode cJ7_fill_53178 3 = .ok (.arraylength, 1) := by decide +kernel
theorem dJ7_fill_53178_4 : decode cJ7_fill_53178 4 = .ok (.istore_n 3, 1) := by decide +kernel
theorem dJ7_fill_53178_5 : decode cJ7_fill_53178 5 = .ok (.iload_n 2, 1) := by decide +kernel
theorem dJ7_fill_53178_6 : decode cJ7_fill_53178 6 = .ok (.iload_n 3, 1) := by decide +kernel
theorem dJ7_fill_53178_7 : decode cJ7_fill_53178 7 = .ok (.if_icmp .ge 13, 3) := by decide +kernel
theorem dJ7_fill_53178_10 : decode cJ7_fill_53178 10 = .ok (.aload_n 0, 1) := by decide +kernel
theorem dJ7_fill_53178_11 : decode cJ7_fill_53178 11 = .ok (.iload_n 2, 1) := by decide +kernel
theorem dJ7_fill_53178_12 : decode cJ7_fill_53178 12 = .ok (.iload_n 1, 1) := by decide +kernel
theorem dJ7_fill_53178_13 : decode cJ7_fill_53178 13 = .ok (.iastore, 1) := by decide +kernel
theorem dJ7_fill_53178_14 : decode cJ7_fill_53178 14 = .ok (.iinc 2 1, 3) := by decide +kernel
theorem dJ7_fill_53178_17 : decode cJ7_fill_53178 17 = .ok (.goto (-12), 3) := by decide +kernel
theorem dJ7_fill_53178_20 : decode cJ7_fill_53178 20 = .ok (.return_, 1) := by decide +kernel
theorem dJ3_checkIndex_8e157_0 : decode cJ3_checkIndex_8e157 0 = .ok (.iload_n 0, 1) := by decide +kernel
theorem dJ3_checkIndex_8e157_1 : decode cJ3_checkIndex_8e157 1 = .ok (.ifCond .lt 8, 3) := by decide +kernel
theorem dJ3_checkIndex_8e157_4 : decode cJ3_checkIndex_8e157 4 = .ok (.iload_n 0, 1) := by decide +kernel
theorem dJ3_checkIndex_8e157_5 : decode cJ3_checkIndex_8e157 5 = .ok (.iload_n 1, 1) := by decide +kernel
theorem dJ3_checkIndex_8e157_6 : decode cJ3_checkIndex_8e157 6 = .ok (.if_icmp .lt 10, 3) := by decide +kernel
theorem dJ3_checkIndex_8e157_9 : decode cJ3_checkIndex_8e157 9 = .ok (.aload_n 2, 1) := by decide +kernel
theorem dJ3_checkIndex_8e157_10 : decode cJ3_checkIndex_8e157 10 = .ok (.iload_n 0, 1) := by decide +kernel
theorem dJ3_checkIndex_8e157_11 : decode cJ3_checkIndex_8e157 11 = .ok (.iload_n 1, 1) := by decide +kernel
theorem dJ3_checkIndex_8e157_12 : decode cJ3_checkIndex_8e157 12 = .ok (.invokestatic 95, 3) := by decide +kernel
theorem dJ3_checkIndex_8e157_15 : decode cJ3_checkIndex_8e157 15 = .ok (.athrow, 1) := by decide +kernel
theorem dJ3_checkIndex_8e157_16 : decode cJ3_checkIndex_8e157 16 = .ok (.iload_n 0, 1) := by decide +kernel
theorem dJ3_checkIndex_8e157_17 : decode cJ3_checkIndex_8e157 17 = .ok (.ireturn, 1) := by decide +kernel
