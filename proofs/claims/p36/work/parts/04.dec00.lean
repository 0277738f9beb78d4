theorem dX0_init_0 : decode cX0_init 0 = .ok (.aload_n 0, 1) := by decide +kernel
theorem dX0_init_1 : decode cX0_init 1 = .ok (.invokespecial 1, 3) := by decide +kernel
theorem dX0_init_4 : decode cX0_init 4 = .ok (.aload_n 0, 1) := by decide +kernel
theorem dX0_init_5 : decode cX0_init 5 = .ok (.aload_n 1, 1) := by decide +kernel
theorem dX0_init_6 : decode cX0_init 6 = .ok (.putfield 7, 3) := by decide +kernel
theorem dX0_init_9 : decode cX0_init 9 = .ok (.aload_n 0, 1) := by decide +kernel
theorem dX0_init_10 : decode cX0_init 10 = .ok (.iload_n 2, 1) := by decide +kernel
theorem dX0_init_11 : decode cX0_init 11 = .ok (.putfield 13, 3) := by decide +kernel
theorem dX0_init_14 : decode cX0_init 14 = .ok (.aload_n 0, 1) := by decide +kernel
theorem dX0_init_15 : decode cX0_init 15 = .ok (.iload_n 3, 1) := by decide +kernel
theorem dX0_init_16 : decode cX0_init 16 = .ok (.putfield 17, 3) := by decide +kernel
theorem dX0_init_19 : decode cX0_init 19 = .ok (.aload_n 0, 1) := by decide +kernel
theorem dX0_init_20 : decode cX0_init 20 = .ok (.iload 4, 2) := by decide +kernel
theorem dX0_init_22 : decode cX0_init 22 = .ok (.putfield 20, 3) := by decide +kernel
theorem dX0_init_25 : decode cX0_init 25 = .ok (.return_, 1) := by decide +kernel
theorem dX1_init_0 : decode cX1_init 0 = .ok (.aload_n 0, 1) := by decide +kernel
theorem dX1_init_1 : decode cX1_init 1 = .ok (.invokespecial 1, 3) := by decide +kernel
theorem dX1_init_4 : decode cX1_init 4 = .ok (.aload_n 0, 1) := by decide +kernel
theorem dX1_init_5 : decode cX1_init 5 = .ok (.iload_n 1, 1) := by decide +kernel
theorem dX1_init_6 : decode cX1_init 6 = .ok (.putfield 7, 3) := by decide +kernel
theorem dX1_init_9 : decode cX1_init 9 = .ok (.aload_n 0, 1) := by decide +kernel
theorem dX1_init_10 : decode cX1_init 10 = .ok (.aload_n 2, 1) := by decide +kernel
theorem dX1_init_11 : decode cX1_init 11 = .ok (.putfield 13, 3) := by decide +kernel
theorem dX1_init_14 : decode cX1_init 14 = .ok (.aload_n 0, 1) := by decide +kernel
theorem dX1_init_15 : decode cX1_init 15 = .ok (.aload_n 3, 1) := by decide +kernel
theorem dX1_init_16 : decode cX1_init 16 = .ok (.putfield 17, 3) := by decide +kernel
theorem dX1_init_19 : decode cX1_init 19 = .ok (.aload_n 0, 1) := by decide +kernel
theorem dX1_init_20 : decode cX1_init 20 = .ok (.iload 4, 2) := by decide +kernel
theorem dX1_init_22 : decode cX1_init 22 = .ok (.putfield 20, 3) := by decide +kernel
theorem dX1_init_25 : decode cX1_init 25 = .ok (.aload_n 0, 1) := by decide +kernel
theorem dX1_init_26 : decode cX1_init 26 = .ok (.iload 5, 2) := by decide +kernel
theorem dX1_init_28 : decode cX1_init 28 = .ok (.putfield 23, 3) := by decide +kernel
theorem dX1_init_31 : decode cX1_init 31 = .ok (.aload_n 0, 1) := by decide +kernel
theorem dX1_init_32 : decode cX1_init 32 = .ok (.iload 6, 2) := by decide +kernel
theorem dX1_init_34 : decode cX1_init 34 = .ok (.putfield 26, 3) := by decide +kernel
theorem dX1_init_37 : decode cX1_init 37 = .ok (.aload_n 0, 1) := by decide +kernel
theorem dX1_init_38 : decode cX1_init 38 = .ok (.iload 7, 2) := by decide +kernel
theorem dX1_init_40 : decode cX1_init 40 = .ok (.putfield 29, 3) := by decide +kernel
theorem dX1_init_43 : decode cX1_init 43 = .ok (.return_, 1) := by decide +kernel
theorem dX1_owed_0 : decode cX1_owed 0 = .ok (.aload_n 0, 1) := by decide +kernel
theorem dX1_owed_1 : decode cX1_owed 1 = .ok (.getfield 32, 3) := by decide +kernel
theorem dX1_owed_4 : decode cX1_owed 4 = .ok (.ifCond .eq 5, 3) := by decide +kernel
theorem dX1_owed_7 : decode cX1_owed 7 = .ok (.iconst 0, 1) := by decide +kernel
theorem dX1_owed_8 : decode cX1_owed 8 = .ok (.ireturn, 1) := by decide +kernel
theorem dX1_owed_9 : decode cX1_owed 9 = .ok (.aload_n 0, 1) := by decide +kernel
theorem dX1_owed_10 : decode cX1_owed 10 = .ok (.getfield 20, 3) := by decide +kernel
theorem dX1_owed_13 : decode cX1_owed 13 = .ok (.i2l, 1) := by decide +kernel
theorem dX1_owed_14 : decode cX1_owed 14 = .ok (.aload_n 0, 1) := by decide +kernel
theorem dX1_owed_15 : decode cX1_owed 15 = .ok (.getfield 23, 3) := by decide +kernel
theorem dX1_owed_18 : decode cX1_owed 18 = .ok (.i2l, 1) := by decide +kernel
theorem dX1_owed_19 : decode cX1_owed 19 = .ok (.lmul, 1) := by decide +kernel
theorem dX1_owed_20 : decode cX1_owed 20 = .ok (.iload_n 1, 1) := by decide +kernel
theorem dX1_owed_21 : decode cX1_owed 21 = .ok (.aload_n 0, 1) := by decide +kernel
theorem dX1_owed_22 : decode cX1_owed 22 = .ok (.getfield 26, 3) := by decide +kernel
theorem dX1_owed_25 : decode cX1_owed 25 = .ok (.isub, 1) := by decide +kernel
theorem dX1_owed_26 : decode cX1_owed 26 = .ok (.i2l, 1) := by decide +kernel
theorem dX1_owed_27 : decode cX1_owed 27 = .ok (.lmul, 1) := by decide +kernel
theorem dX1_owed_28 : decode cX1_owed 28 = .ok (.ldc2_w 36, 3) := by decide +kernel
theorem dX1_owed_31 : decode cX1_owed 31 = .ok (.ldiv, 1) := by decide +kernel
theorem dX1_owed_32 : decode cX1_owed 32 = .ok (.lstore_n 2, 1) := by decide +kernel
theorem dX1_owed_33 : decode cX1_owed 33 = .ok (.aload_n 0, 1) := by decide +kernel
theorem dX1_owed_34 : decode cX1_owed 34 = .ok (.getfield 20, 3) := by decide +kernel
theorem dX1_owed_37 : decode cX1_owed 37 = .ok (.lload_n 2, 1) := by decide +kernel
theorem dX1_owed_38 : decode cX1_owed 38 = .ok (.l2i, 1) := by decide +kernel
theorem dX1_owed_39 : decode cX1_owed 39 = .ok (.iadd, 1) := by decide +kernel
theorem dX1_owed_40 : decode cX1_owed 40 = .ok (.ireturn, 1) := by decide +kernel
theorem dX2_init_0 : decode cX2_init 0 = .ok (.aload_n 0, 1) := by decide +kernel
theorem dX2_init_1 : decode cX2_init 1 = .ok (.invokespecial 3, 3) := by decide +kernel
theorem dX2_init_4 : decode cX2_init 4 = .ok (.aload_n 0, 1) := by decide +kernel
theorem dX2_init_5 : decode cX2_init 5 = .ok (.iload_n 1, 1) := by decide +kernel
theorem dX2_init_6 : decode cX2_init 6 = .ok (.putfield 9, 3) := by decide +kernel
theorem dX2_init_9 : decode cX2_init 9 = .ok (.aload_n 0, 1) := by decide +kernel
theorem dX2_init_10 : decode cX2_init 10 = .ok (.aload_n 2, 1) := by decide +kernel
theorem dX2_init_11 : decode cX2_init 11 = .ok (.putfield 15, 3) := by decide +kernel
theorem dX2_init_14 : decode cX2_init 14 = .ok (.aload_n 0, 1) := by decide +kernel
theorem dX2_init_15 : decode cX2_init 15 = .ok (.aload_n 3, 1) := by decide +kernel
theorem dX2_init_16 : decode cX2_init 16 = .ok (.putfield 19, 3) := by decide +kernel
theorem dX2_init_19 : decode cX2_init 19 = .ok (.aload_n 0, 1) := by decide +kernel
theorem dX2_init_20 : decode cX2_init 20 = .ok (.iload 4, 2) := by decide +kernel
theorem dX2_init_22 : decode cX2_init 22 = .ok (.putfield 23, 3) := by decide +kernel
theorem dX2_init_25 : decode cX2_init 25 = .ok (.aload_n 0, 1) := by decide +kernel
theorem dX2_init_26 : decode cX2_init 26 = .ok (.aload 5, 2) := by decide +kernel
theorem dX2_init_28 : decode cX2_init 28 = .ok (.putfield 26, 3) := by decide +kernel
theorem dX2_init_31 : decode cX2_init 31 = .ok (.aload_n 0, 1) := by decide +kernel
theorem dX2_init_32 : decode cX2_init 32 = .ok (.aload 6, 2) := by decide +kernel
theorem dX2_init_34 : decode cX2_init 34 = .ok (.putfield 30, 3) := by decide +kernel
theorem dX2_init_37 : decode cX2_init 37 = .ok (.aload_n 0, 1) := by decide +kernel
theorem dX2_init_38 : decode cX2_init 38 = .ok (.aload 7, 2) := by decide +kernel
theorem dX2_init_40 : decode cX2_init 40 = .ok (.putfield 34, 3) := by decide +kernel
theorem dX2_init_43 : decode cX2_init 43 = .ok (.return_, 1) := by decide +kernel
theorem dX2_dealer_0 : decode cX2_dealer 0 = .ok (.aload_n 0, 1) := by decide +kernel
theorem dX2_dealer_1 : decode cX2_dealer 1 = .ok (.getfield 38, 3) := by decide +kernel
theorem dX2_dealer_4 : decode cX2_dealer 4 = .ok (.ifnonnull 7, 3) := by decide +kernel
theorem dX2_dealer_7 : decode cX2_dealer 7 = .ok (.aconst_null, 1) := by decide +kernel
theorem dX2_dealer_8 : decode cX2_dealer 8 = .ok (.goto 10, 3) := by decide +kernel
theorem dX2_dealer_11 : decode cX2_dealer 11 = .ok (.aload_n 0, 1) := by decide +kernel
theorem dX2_dealer_12 : decode cX2_dealer 12 = .ok (.getfield 38, 3) := by decide +kernel
theorem dX2_dealer_15 : decode cX2_dealer 15 = .ok (.getfield 42, 3) := by decide +kernel
theorem dX2_dealer_18 : decode cX2_dealer 18 = .ok (.areturn, 1) := by decide +kernel
theorem dX2_isHeldByArtist_0 : decode cX2_isHeldByArtist 0 = .ok (.aload_n 0, 1) := by decide +kernel
theorem dX2_isHeldByArtist_1 : decode cX2_isHeldByArtist 1 = .ok (.getfield 19, 3) := by decide +kernel
theorem dX2_isHeldByArtist_4 : decode cX2_isHeldByArtist 4 = .ok (.aload_n 0, 1) := by decide +kernel
theorem dX2_isHeldByArtist_5 : decode cX2_isHeldByArtist 5 = .ok (.getfield 15, 3) := by decide +kernel
theorem dX2_isHeldByArtist_8 : decode cX2_isHeldByArtist 8 = .ok (.getfield 47, 3) := by decide +kernel
theorem dX2_isHeldByArtist_11 : decode cX2_isHeldByArtist 11 = .ok (.if_acmp .ne 7, 3) := by decide +kernel
theorem dX2_isHeldByArtist_14 : decode cX2_isHeldByArtist 14 = .ok (.iconst 1, 1) := by decide +kernel
theorem dX2_isHeldByArtist_15 : decode cX2_isHeldByArtist 15 = .ok (.goto 4, 3) := by decide +kernel
theorem dX2_isHeldByArtist_18 : decode cX2_isHeldByArtist 18 = .ok (.iconst 0, 1) := by decide +kernel
theorem dX2_isHeldByArtist_19 : decode cX2_isHeldByArtist 19 = .ok (.ireturn, 1) := by decide +kernel
theorem dX2_isFlippedOn_0 : decode cX2_isFlippedOn 0 = .ok (.aload_n 0, 1) := by decide +kernel
theorem dX2_isFlippedOn_1 : decode cX2_isFlippedOn 1 = .ok (.invokevirtual 52, 3) := by decide +kernel
theorem dX2_isFlippedOn_4 : decode cX2_isFlippedOn 4 = .ok (.ifCond .ne 38, 3) := by decide +kernel
theorem dX2_isFlippedOn_7 : decode cX2_isFlippedOn 7 = .ok (.aload_n 0, 1) := by decide +kernel
theorem dX2_isFlippedOn_8 : decode cX2_isFlippedOn 8 = .ok (.getfield 34, 3) := by decide +kernel
theorem dX2_isFlippedOn_11 : decode cX2_isFlippedOn 11 = .ok (.ifnull 31, 3) := by decide +kernel
theorem dX2_isFlippedOn_14 : decode cX2_isFlippedOn 14 = .ok (.aload_n 0, 1) := by decide +kernel
theorem dX2_isFlippedOn_15 : decode cX2_isFlippedOn 15 = .ok (.getfield 34, 3) := by decide +kernel
theorem dX2_isFlippedOn_18 : decode cX2_isFlippedOn 18 = .ok (.getfield 56, 3) := by decide +kernel
theorem dX2_isFlippedOn_21 : decode cX2_isFlippedOn 21 = .ok (.ifCond .eq 21, 3) := by decide +kernel
theorem dX2_isFlippedOn_24 : decode cX2_isFlippedOn 24 = .ok (.iload_n 1, 1) := by decide +kernel
theorem dX2_isFlippedOn_25 : decode cX2_isFlippedOn 25 = .ok (.aload_n 0, 1) := by decide +kernel
theorem dX2_isFlippedOn_26 : decode cX2_isFlippedOn 26 = .ok (.getfield 34, 3) := by decide +kernel
theorem dX2_isFlippedOn_29 : decode cX2_isFlippedOn 29 = .ok (.getfield 62, 3) := by decide +kernel
theorem dX2_isFlippedOn_32 : decode cX2_isFlippedOn 32 = .ok (.isub, 1) := by decide +kernel
theorem dX2_isFlippedOn_33 : decode cX2_isFlippedOn 33 = .ok (.bipush 100, 2) := by decide +kernel
theorem dX2_isFlippedOn_35 : decode cX2_isFlippedOn 35 = .ok (.if_icmp .gt 7, 3) := by decide +kernel
theorem dX2_isFlippedOn_38 : decode cX2_isFlippedOn 38 = .ok (.iconst 1, 1) := by decide +kernel
theorem dX2_isFlippedOn_39 : decode cX2_isFlippedOn 39 = .ok (.goto 4, 3) := by decide +kernel
theorem dX2_isFlippedOn_42 : decode cX2_isFlippedOn 42 = .ok (.iconst 0, 1) := by decide +kernel
theorem dX2_isFlippedOn_43 : decode cX2_isFlippedOn 43 = .ok (.ireturn, 1) := by decide +kernel
theorem dX2_takeOver_0 : decode cX2_takeOver 0 = .ok (.aload_n 0, 1) := by decide +kernel
theorem dX2_takeOver_1 : decode cX2_takeOver 1 = .ok (.aload_n 1, 1) := by decide +kernel
theorem dX2_takeOver_2 : decode cX2_takeOver 2 = .ok (.putfield 19, 3) := by decide +kernel
theorem dX2_takeOver_5 : decode cX2_takeOver 5 = .ok (.aload_n 0, 1) := by decide +kernel
theorem dX2_takeOver_6 : decode cX2_takeOver 6 = .ok (.aconst_null, 1) := by decide +kernel
theorem dX2_takeOver_7 : decode cX2_takeOver 7 = .ok (.putfield 38, 3) := by decide +kernel
theorem dX2_takeOver_10 : decode cX2_takeOver 10 = .ok (.aload_n 0, 1) := by decide +kernel
theorem dX2_takeOver_11 : decode cX2_takeOver 11 = .ok (.aconst_null, 1) := by decide +kernel
theorem dX2_takeOver_12 : decode cX2_takeOver 12 = .ok (.putfield 34, 3) := by decide +kernel
theorem dX2_takeOver_15 : decode cX2_takeOver 15 = .ok (.return_, 1) := by decide +kernel
theorem dX2_worth_0 : decode cX2_worth 0 = .ok (.aload_n 0, 1) := by decide +kernel
theorem dX2_worth_1 : decode cX2_worth 1 = .ok (.getfield 15, 3) := by decide +kernel
theorem dX2_worth_4 : decode cX2_worth 4 = .ok (.iload_n 1, 1) := by decide +kernel
theorem dX2_worth_5 : decode cX2_worth 5 = .ok (.invokevirtual 65, 3) := by decide +kernel
theorem dX2_worth_8 : decode cX2_worth 8 = .ok (.aload_n 0, 1) := by decide +kernel
theorem dX2_worth_9 : decode cX2_worth 9 = .ok (.getfield 23, 3) := by decide +kernel
theorem dX2_worth_12 : decode cX2_worth 12 = .ok (.imul, 1) := by decide +kernel
theorem dX2_worth_13 : decode cX2_worth 13 = .ok (.bipush 60, 2) := by decide +kernel
theorem dX2_worth_15 : decode cX2_worth 15 = .ok (.idiv, 1) := by decide +kernel
theorem dX2_worth_16 : decode cX2_worth 16 = .ok (.ireturn, 1) := by decide +kernel
theorem dX2_saleAhead_0 : decode cX2_saleAhead 0 = .ok (.aload_n 0, 1) := by decide +kernel
theorem dX2_saleAhead_1 : decode cX2_saleAhead 1 = .ok (.getfield 30, 3) := by decide +kernel
theorem dX2_saleAhead_4 : decode cX2_saleAhead 4 = .ok (.ifnonnull 7, 3) := by decide +kernel
theorem dX2_saleAhead_7 : decode cX2_saleAhead 7 = .ok (.aconst_null, 1) := by decide +kernel
theorem dX2_saleAhead_8 : decode cX2_saleAhead 8 = .ok (.goto 10, 3) := by decide +kernel
theorem dX2_saleAhead_11 : decode cX2_saleAhead 11 = .ok (.aload_n 0, 1) := by decide +kernel
theorem dX2_saleAhead_12 : decode cX2_saleAhead 12 = .ok (.getfield 30, 3) := by decide +kernel
theorem dX2_saleAhead_15 : decode cX2_saleAhead 15 = .ok (.getfield 34, 3) := by decide +kernel
theorem dX2_saleAhead_18 : decode cX2_saleAhead 18 = .ok (.areturn, 1) := by decide +kernel
theorem dX2_chain_0 : decode cX2_chain 0 = .ok (.iconst 0, 1) := by decide +kernel
theorem dX2_chain_1 : decode cX2_chain 1 = .ok (.istore_n 1, 1) := by decide +kernel
theorem dX2_chain_2 : decode cX2_chain 2 = .ok (.aload_n 0, 1) := by decide +kernel
theorem dX2_chain_3 : decode cX2_chain 3 = .ok (.astore_n 2, 1) := by decide +kernel
theorem dX2_chain_4 : decode cX2_chain 4 = .ok (.aload_n 2, 1) := by decide +kernel
theorem dX2_chain_5 : decode cX2_chain 5 = .ok (.ifnull 63, 3) := by decide +kernel
theorem dX2_chain_8 : decode cX2_chain 8 = .ok (.aload_n 2, 1) := by decide +kernel
theorem dX2_chain_9 : decode cX2_chain 9 = .ok (.getfield 34, 3) := by decide +kernel
theorem dX2_chain_12 : decode cX2_chain 12 = .ok (.ifnull 56, 3) := by decide +kernel
theorem dX2_chain_15 : decode cX2_chain 15 = .ok (.iinc 1 1, 3) := by decide +kernel
theorem dX2_chain_18 : decode cX2_chain 18 = .ok (.aload_n 2, 1) := by decide +kernel
theorem dX2_chain_19 : decode cX2_chain 19 = .ok (.invokevirtual 69, 3) := by decide +kernel
theorem dX2_chain_22 : decode cX2_chain 22 = .ok (.astore_n 3, 1) := by decide +kernel
theorem dX2_chain_23 : decode cX2_chain 23 = .ok (.aload_n 3, 1) := by decide +kernel
theorem dX2_chain_24 : decode cX2_chain 24 = .ok (.ifnull 24, 3) := by decide +kernel
theorem dX2_chain_27 : decode cX2_chain 27 = .ok (.aload_n 2, 1) := by decide +kernel
theorem dX2_chain_28 : decode cX2_chain 28 = .ok (.getfield 34, 3) := by decide +kernel
theorem dX2_chain_31 : decode cX2_chain 31 = .ok (.getfield 62, 3) := by decide +kernel
theorem dX2_chain_34 : decode cX2_chain 34 = .ok (.aload_n 3, 1) := by decide +kernel
theorem dX2_chain_35 : decode cX2_chain 35 = .ok (.getfield 62, 3) := by decide +kernel
theorem dX2_chain_38 : decode cX2_chain 38 = .ok (.isub, 1) := by decide +kernel
theorem dX2_chain_39 : decode cX2_chain 39 = .ok (.bipush 7, 2) := by decide +kernel
theorem dX2_chain_41 : decode cX2_chain 41 = .ok (.if_icmp .gt 7, 3) := by decide +kernel
theorem dX2_chain_44 : decode cX2_chain 44 = .ok (.iconst 1, 1) := by decide +kernel
theorem dX2_chain_45 : decode cX2_chain 45 = .ok (.goto 4, 3) := by decide +kernel
theorem dX2_chain_48 : decode cX2_chain 48 = .ok (.iconst 0, 1) := by decide +kernel
theorem dX2_chain_49 : decode cX2_chain 49 = .ok (.istore 4, 2) := by decide +kernel
theorem dX2_chain_51 : decode cX2_chain 51 = .ok (.iload 4, 2) := by decide +kernel
theorem dX2_chain_53 : decode cX2_chain 53 = .ok (.ifCond .eq 10, 3) := by decide +kernel
theorem dX2_chain_56 : decode cX2_chain 56 = .ok (.aload_n 2, 1) := by decide +kernel
theorem dX2_chain_57 : decode cX2_chain 57 = .ok (.getfield 30, 3) := by decide +kernel
theorem dX2_chain_60 : decode cX2_chain 60 = .ok (.goto 4, 3) := by decide +kernel
theorem dX2_chain_63 : decode cX2_chain 63 = .ok (.aconst_null, 1) := by decide +kernel
theorem dX2_chain_64 : decode cX2_chain 64 = .ok (.astore_n 2, 1) := by decide +kernel
theorem dX2_chain_65 : decode cX2_chain 65 = .ok (.goto (-61), 3) := by decide +kernel
theorem dX2_chain_68 : decode cX2_chain 68 = .ok (.iload_n 1, 1) := by decide +kernel
theorem dX2_chain_69 : decode cX2_chain 69 = .ok (.ireturn, 1) := by decide +kernel
theorem dX3_init_0 : decode cX3_init 0 = .ok (.aload_n 0, 1) := by decide +kernel
theorem dX3_init_1 : decode cX3_init 1 = .ok (.invokespecial 1, 3) := by decide +kernel
theorem dX3_init_4 : decode cX3_init 4 = .ok (.aload_n 0, 1) := by decide +kernel
theorem dX3_init_5 : decode cX3_init 5 = .ok (.iload_n 1, 1) := by decide +kernel
theorem dX3_init_6 : decode cX3_init 6 = .ok (.putfield 7, 3) := by decide +kernel
theorem dX3_init_9 : decode cX3_init 9 = .ok (.aload_n 0, 1) := by decide +kernel
theorem dX3_init_10 : decode cX3_init 10 = .ok (.iload_n 2, 1) := by decide +kernel
theorem dX3_init_11 : decode cX3_init 11 = .ok (.putfield 13, 3) := by decide +kernel
theorem dX3_init_14 : decode cX3_init 14 = .ok (.aload_n 0, 1) := by decide +kernel
theorem dX3_init_15 : decode cX3_init 15 = .ok (.iload_n 3, 1) := by decide +kernel
theorem dX3_init_16 : decode cX3_init 16 = .ok (.putfield 16, 3) := by decide +kernel
theorem dX3_init_19 : decode cX3_init 19 = .ok (.return_, 1) := by decide +kernel
theorem dX3_punishBy_0 : decode cX3_punishBy 0 = .ok (.aload_n 0, 1) := by decide +kernel
theorem dX3_punishBy_1 : decode cX3_punishBy 1 = .ok (.dup, 1) := by decide +kernel
theorem dX3_punishBy_2 : decode cX3_punishBy 2 = .ok (.getfield 19, 3) := by decide +kernel
theorem dX3_punishBy_5 : decode cX3_punishBy 5 = .ok (.iconst 1, 1) := by decide +kernel
theorem dX3_punishBy_6 : decode cX3_punishBy 6 = .ok (.aload_n 1, 1) := by decide +kernel
theorem dX3_punishBy_7 : decode cX3_punishBy 7 = .ok (.getfield 7, 3) := by decide +kernel
theorem dX3_punishBy_10 : decode cX3_punishBy 10 = .ok (.ishl, 1) := by decide +kernel
theorem dX3_punishBy_11 : decode cX3_punishBy 11 = .ok (.ior, 1) := by decide +kernel
theorem dX3_punishBy_12 : decode cX3_punishBy 12 = .ok (.putfield 19, 3) := by decide +kernel
theorem dX3_punishBy_15 : decode cX3_punishBy 15 = .ok (.return_, 1) := by decide +kernel
theorem dX3_isPunishedBy_0 : decode cX3_isPunishedBy 0 = .ok (.aload_n 0, 1) := by decide +kernel
theorem dX3_isPunishedBy_1 : decode cX3_isPunishedBy 1 = .ok (.getfield 19, 3) := by decide +kernel
theorem dX3_isPunishedBy_4 : decode cX3_isPunishedBy 4 = .ok (.iconst 1, 1) := by decide +kernel
theorem dX3_isPunishedBy_5 : decode cX3_isPunishedBy 5 = .ok (.aload_n 1, 1) := by decide +kernel
theorem dX3_isPunishedBy_6 : decode cX3_isPunishedBy 6 = .ok (.getfield 7, 3) := by decide +kernel
theorem dX3_isPunishedBy_9 : decode cX3_isPunishedBy 9 = .ok (.ishl, 1) := by decide +kernel
theorem dX3_isPunishedBy_10 : decode cX3_isPunishedBy 10 = .ok (.iand, 1) := by decide +kernel
theorem dX3_isPunishedBy_11 : decode cX3_isPunishedBy 11 = .ok (.ifCond .eq 7, 3) := by decide +kernel
theorem dX3_isPunishedBy_14 : decode cX3_isPunishedBy 14 = .ok (.iconst 1, 1) := by decide +kernel
theorem dX3_isPunishedBy_15 : decode cX3_isPunishedBy 15 = .ok (.goto 4, 3) := by decide +kernel
theorem dX3_isPunishedBy_18 : decode cX3_isPunishedBy 18 = .ok (.iconst 0, 1) := by decide +kernel
theorem dX3_isPunishedBy_19 : decode cX3_isPunishedBy 19 = .ok (.ireturn, 1) := by decide +kernel
theorem dX4_init_0 : decode cX4_init 0 = .ok (.aload_n 0, 1) := by decide +kernel
theorem dX4_init_1 : decode cX4_init 1 = .ok (.invokespecial 1, 3) := by decide +kernel
theorem dX4_init_4 : decode cX4_init 4 = .ok (.aload_n 0, 1) := by decide +kernel
theorem dX4_init_5 : decode cX4_init 5 = .ok (.iload_n 1, 1) := by decide +kernel
theorem dX4_init_6 : decode cX4_init 6 = .ok (.putfield 7, 3) := by decide +kernel
theorem dX4_init_9 : decode cX4_init 9 = .ok (.aload_n 0, 1) := by decide +kernel
theorem dX4_init_10 : decode cX4_init 10 = .ok (.iload_n 2, 1) := by decide +kernel
theorem dX4_init_11 : decode cX4_init 11 = .ok (.putfield 13, 3) := by decide +kernel
theorem dX4_init_14 : decode cX4_init 14 = .ok (.aload_n 0, 1) := by decide +kernel
theorem dX4_init_15 : decode cX4_init 15 = .ok (.iload_n 3, 1) := by decide +kernel
theorem dX4_init_16 : decode cX4_init 16 = .ok (.putfield 16, 3) := by decide +kernel
theorem dX4_init_19 : decode cX4_init 19 = .ok (.aload_n 0, 1) := by decide +kernel
theorem dX4_init_20 : decode cX4_init 20 = .ok (.iload 4, 2) := by decide +kernel
theorem dX4_init_22 : decode cX4_init 22 = .ok (.putfield 19, 3) := by decide +kernel
theorem dX4_init_25 : decode cX4_init 25 = .ok (.return_, 1) := by decide +kernel
theorem dX4_learn_0 : decode cX4_learn 0 = .ok (.aload_n 0, 1) := by decide +kernel
theorem dX4_learn_1 : decode cX4_learn 1 = .ok (.dup, 1) := by decide +kernel
theorem dX4_learn_2 : decode cX4_learn 2 = .ok (.getfield 23, 3) := by decide +kernel
theorem dX4_learn_5 : decode cX4_learn 5 = .ok (.iconst 1, 1) := by decide +kernel
theorem dX4_learn_6 : decode cX4_learn 6 = .ok (.aload_n 1, 1) := by decide +kernel
theorem dX4_learn_7 : decode cX4_learn 7 = .ok (.getfield 26, 3) := by decide +kernel
theorem dX4_learn_10 : decode cX4_learn 10 = .ok (.ishl, 1) := by decide +kernel
theorem dX4_learn_11 : decode cX4_learn 11 = .ok (.ior, 1) := by decide +kernel
theorem dX4_learn_12 : decode cX4_learn 12 = .ok (.putfield 23, 3) := by decide +kernel
theorem dX4_learn_15 : decode cX4_learn 15 = .ok (.return_, 1) := by decide +kernel
theorem dX4_isKnownTo_0 : decode cX4_isKnownTo 0 = .ok (.aload_n 0, 1) := by decide +kernel
theorem dX4_isKnownTo_1 : decode cX4_isKnownTo 1 = .ok (.getfield 23, 3) := by decide +kernel
theorem dX4_isKnownTo_4 : decode cX4_isKnownTo 4 = .ok (.iconst 1, 1) := by decide +kernel
theorem dX4_isKnownTo_5 : decode cX4_isKnownTo 5 = .ok (.aload_n 1, 1) := by decide +kernel
theorem dX4_isKnownTo_6 : decode cX4_isKnownTo 6 = .ok (.getfield 26, 3) := by decide +kernel
theorem dX4_isKnownTo_9 : decode cX4_isKnownTo 9 = .ok (.ishl, 1) := by decide +kernel
theorem dX4_isKnownTo_10 : decode cX4_isKnownTo 10 = .ok (.iand, 1) := by decide +kernel
theorem dX4_isKnownTo_11 : decode cX4_isKnownTo 11 = .ok (.ifCond .eq 7, 3) := by decide +kernel
theorem dX4_isKnownTo_14 : decode cX4_isKnownTo 14 = .ok (.iconst 1, 1) := by decide +kernel
theorem dX4_isKnownTo_15 : decode cX4_isKnownTo 15 = .ok (.goto 4, 3) := by decide +kernel
theorem dX4_isKnownTo_18 : decode cX4_isKnownTo 18 = .ok (.iconst 0, 1) := by decide +kernel
theorem dX4_isKnownTo_19 : decode cX4_isKnownTo 19 = .ok (.ireturn, 1) := by decide +kernel
theorem dX4_riseSince_0 : decode cX4_riseSince 0 = .ok (.aload_n 1, 1) := by decide +kernel
theorem dX4_riseSince_1 : decode cX4_riseSince 1 = .ok (.getfield 13, 3) := by decide +kernel
theorem dX4_riseSince_4 : decode cX4_riseSince 4 = .ok (.i2l, 1) := by decide +kernel
theorem dX4_riseSince_5 : decode cX4_riseSince 5 = .ok (.aload_n 0, 1) := by decide +kernel
theorem dX4_riseSince_6 : decode cX4_riseSince 6 = .ok (.getfield 16, 3) := by decide +kernel
theorem dX4_riseSince_9 : decode cX4_riseSince 9 = .ok (.i2l, 1) := by decide +kernel
theorem dX4_riseSince_10 : decode cX4_riseSince 10 = .ok (.lmul, 1) := by decide +kernel
theorem dX4_riseSince_11 : decode cX4_riseSince 11 = .ok (.lstore_n 2, 1) := by decide +kernel
theorem dX4_riseSince_12 : decode cX4_riseSince 12 = .ok (.lload_n 2, 1) := by decide +kernel
theorem dX4_riseSince_13 : decode cX4_riseSince 13 = .ok (.lconst 0, 1) := by decide +kernel
theorem dX4_riseSince_14 : decode cX4_riseSince 14 = .ok (.lcmp, 1) := by decide +kernel
theorem dX4_riseSince_15 : decode cX4_riseSince 15 = .ok (.ifCond .ne 7, 3) := by decide +kernel
theorem dX4_riseSince_18 : decode cX4_riseSince 18 = .ok (.lconst 0, 1) := by decide +kernel
theorem dX4_riseSince_19 : decode cX4_riseSince 19 = .ok (.goto 20, 3) := by decide +kernel
theorem dX4_riseSince_22 : decode cX4_riseSince 22 = .ok (.ldc2_w 31, 3) := by decide +kernel
theorem dX4_riseSince_25 : decode cX4_riseSince 25 = .ok (.aload_n 0, 1) := by decide +kernel
theorem dX4_riseSince_26 : decode cX4_riseSince 26 = .ok (.getfield 13, 3) := by decide +kernel
theorem dX4_riseSince_29 : decode cX4_riseSince 29 = .ok (.i2l, 1) := by decide +kernel
theorem dX4_riseSince_30 : decode cX4_riseSince 30 = .ok (.lmul, 1) := by decide +kernel
theorem dX4_riseSince_31 : decode cX4_riseSince 31 = .ok (.aload_n 1, 1) := by decide +kernel
theorem dX4_riseSince_32 : decode cX4_riseSince 32 = .ok (.getfield 16, 3) := by decide +kernel
theorem dX4_riseSince_35 : decode cX4_riseSince 35 = .ok (.i2l, 1) := by decide +kernel
theorem dX4_riseSince_36 : decode cX4_riseSince 36 = .ok (.lmul, 1) := by decide +kernel
theorem dX4_riseSince_37 : decode cX4_riseSince 37 = .ok (.lload_n 2, 1) := by decide +kernel
theorem dX4_riseSince_38 : decode cX4_riseSince 38 = .ok (.ldiv, 1) := by decide +kernel
theorem dX4_riseSince_39 : decode cX4_riseSince 39 = .ok (.lreturn, 1) := by decide +kernel
theorem dX5_init_0 : decode cX5_init 0 = .ok (.aload_n 0, 1) := by decide +kernel
theorem dX5_init_1 : decode cX5_init 1 = .ok (.invokespecial 1, 3) := by decide +kernel
theorem dX5_init_4 : decode cX5_init 4 = .ok (.aload_n 0, 1) := by decide +kernel
theorem dX5_init_5 : decode cX5_init 5 = .ok (.aload_n 1, 1) := by decide +kernel
theorem dX5_init_6 : decode cX5_init 6 = .ok (.putfield 7, 3) := by decide +kernel
theorem dX5_init_9 : decode cX5_init 9 = .ok (.aload_n 0, 1) := by decide +kernel
theorem dX5_init_10 : decode cX5_init 10 = .ok (.iload_n 2, 1) := by decide +kernel
theorem dX5_init_11 : decode cX5_init 11 = .ok (.putfield 13, 3) := by decide +kernel
theorem dX5_init_14 : decode cX5_init 14 = .ok (.aload_n 0, 1) := by decide +kernel
theorem dX5_init_15 : decode cX5_init 15 = .ok (.iload_n 3, 1) := by decide +kernel
theorem dX5_init_16 : decode cX5_init 16 = .ok (.putfield 17, 3) := by decide +kernel
theorem dX5_init_19 : decode cX5_init 19 = .ok (.return_, 1) := by decide +kernel
theorem dX6_init_0 : decode cX6_init 0 = .ok (.aload_n 0, 1) := by decide +kernel
theorem dX6_init_1 : decode cX6_init 1 = .ok (.invokespecial 3, 3) := by decide +kernel
theorem dX6_init_4 : decode cX6_init 4 = .ok (.aload_n 0, 1) := by decide +kernel
theorem dX6_init_5 : decode cX6_init 5 = .ok (.bipush 50, 2) := by decide +kernel
theorem dX6_init_7 : decode cX6_init 7 = .ok (.anewarray 9, 3) := by decide +kernel
theorem dX6_init_10 : decode cX6_init 10 = .ok (.putfield 11, 3) := by decide +kernel
theorem dX6_init_13 : decode cX6_init 13 = .ok (.aload_n 0, 1) := by decide +kernel
theorem dX6_init_14 : decode cX6_init 14 = .ok (.bipush 101, 2) := by decide +kernel
theorem dX6_init_16 : decode cX6_init 16 = .ok (.newarray .boolean, 2) := by decide +kernel
theorem dX6_init_18 : decode cX6_init 18 = .ok (.putfield 17, 3) := by decide +kernel
theorem dX6_init_21 : decode cX6_init 21 = .ok (.aload_n 0, 1) := by decide +kernel
theorem dX6_init_22 : decode cX6_init 22 = .ok (.iconst (-1), 1) := by decide +kernel
theorem dX6_init_23 : decode cX6_init 23 = .ok (.putfield 21, 3) := by decide +kernel
theorem dX6_init_26 : decode cX6_init 26 = .ok (.aload_n 0, 1) := by decide +kernel
theorem dX6_init_27 : decode cX6_init 27 = .ok (.iload_n 1, 1) := by decide +kernel
theorem dX6_init_28 : decode cX6_init 28 = .ok (.putfield 25, 3) := by decide +kernel
theorem dX6_init_31 : decode cX6_init 31 = .ok (.aload_n 0, 1) := by decide +kernel
theorem dX6_init_32 : decode cX6_init 32 = .ok (.aload_n 2, 1) := by decide +kernel
theorem dX6_init_33 : decode cX6_init 33 = .ok (.putfield 28, 3) := by decide +kernel
theorem dX6_init_36 : decode cX6_init 36 = .ok (.aload_n 0, 1) := by decide +kernel
theorem dX6_init_37 : decode cX6_init 37 = .ok (.iload_n 3, 1) := by decide +kernel
theorem dX6_init_38 : decode cX6_init 38 = .ok (.putfield 32, 3) := by decide +kernel
theorem dX6_init_41 : decode cX6_init 41 = .ok (.aload_n 0, 1) := by decide +kernel
theorem dX6_init_42 : decode cX6_init 42 = .ok (.aload_n 2, 1) := by decide +kernel
theorem dX6_init_43 : decode cX6_init 43 = .ok (.getfield 35, 3) := by decide +kernel
theorem dX6_init_46 : decode cX6_init 46 = .ok (.putfield 40, 3) := by decide +kernel
theorem dX6_init_49 : decode cX6_init 49 = .ok (.return_, 1) := by decide +kernel
theorem dX6_barDaysLeft_0 : decode cX6_barDaysLeft 0 = .ok (.iconst 0, 1) := by decide +kernel
theorem dX6_barDaysLeft_1 : decode cX6_barDaysLeft 1 = .ok (.aload_n 0, 1) := by decide +kernel
theorem dX6_barDaysLeft_2 : decode cX6_barDaysLeft 2 = .ok (.getfield 41, 3) := by decide +kernel
theorem dX6_barDaysLeft_5 : decode cX6_barDaysLeft 5 = .ok (.iload_n 1, 1) := by decide +kernel
theorem dX6_barDaysLeft_6 : decode cX6_barDaysLeft 6 = .ok (.isub, 1) := by decide +kernel
theorem dX6_barDaysLeft_7 : decode cX6_barDaysLeft 7 = .ok (.invokestatic 44, 3) := by decide +kernel
theorem dX6_barDaysLeft_10 : decode cX6_barDaysLeft 10 = .ok (.ireturn, 1) := by decide +kernel
theorem dX6_valueOn_0 : decode cX6_valueOn 0 = .ok (.aload_n 0, 1) := by decide +kernel
theorem dX6_valueOn_1 : decode cX6_valueOn 1 = .ok (.iload_n 1, 1) := by decide +kernel
theorem dX6_valueOn_2 : decode cX6_valueOn 2 = .ok (.invokevirtual 50, 3) := by decide +kernel
theorem dX6_valueOn_5 : decode cX6_valueOn 5 = .ok (.ifCond .le 13, 3) := by decide +kernel
theorem dX6_valueOn_8 : decode cX6_valueOn 8 = .ok (.aload_n 0, 1) := by decide +kernel
theorem dX6_valueOn_9 : decode cX6_valueOn 9 = .ok (.getfield 32, 3) := by decide +kernel
theorem dX6_valueOn_12 : decode cX6_valueOn 12 = .ok (.bipush 10, 2) := by decide +kernel
theorem dX6_valueOn_14 : decode cX6_valueOn 14 = .ok (.idiv, 1) := by decide +kernel
theorem dX6_valueOn_15 : decode cX6_valueOn 15 = .ok (.goto 7, 3) := by decide +kernel
theorem dX6_valueOn_18 : decode cX6_valueOn 18 = .ok (.aload_n 0, 1) := by decide +kernel
theorem dX6_valueOn_19 : decode cX6_valueOn 19 = .ok (.getfield 32, 3) := by decide +kernel
theorem dX6_valueOn_22 : decode cX6_valueOn 22 = .ok (.ireturn, 1) := by decide +kernel
theorem dX6_doubtOn_0 : decode cX6_doubtOn 0 = .ok (.iconst 0, 1) := by decide +kernel
theorem dX6_doubtOn_1 : decode cX6_doubtOn 1 = .ok (.istore_n 2, 1) := by decide +kernel
theorem dX6_doubtOn_2 : decode cX6_doubtOn 2 = .ok (.iconst 0, 1) := by decide +kernel
theorem dX6_doubtOn_3 : decode cX6_doubtOn 3 = .ok (.istore_n 3, 1) := by decide +kernel
theorem dX6_doubtOn_4 : decode cX6_doubtOn 4 = .ok (.aload_n 0, 1) := by decide +kernel
theorem dX6_doubtOn_5 : decode cX6_doubtOn 5 = .ok (.getfield 54, 3) := by decide +kernel
theorem dX6_doubtOn_8 : decode cX6_doubtOn 8 = .ok (.iconst 1, 1) := by decide +kernel
theorem dX6_doubtOn_9 : decode cX6_doubtOn 9 = .ok (.isub, 1) := by decide +kernel
theorem dX6_doubtOn_10 : decode cX6_doubtOn 10 = .ok (.istore 4, 2) := by decide +kernel
theorem dX6_doubtOn_12 : decode cX6_doubtOn 12 = .ok (.iload 4, 2) := by decide +kernel
theorem dX6_doubtOn_14 : decode cX6_doubtOn 14 = .ok (.ifCond .lt 82, 3) := by decide +kernel
theorem dX6_doubtOn_17 : decode cX6_doubtOn 17 = .ok (.aload_n 0, 1) := by decide +kernel
theorem dX6_doubtOn_18 : decode cX6_doubtOn 18 = .ok (.getfield 11, 3) := by decide +kernel
theorem dX6_doubtOn_21 : decode cX6_doubtOn 21 = .ok (.iload 4, 2) := by decide +kernel
theorem dX6_doubtOn_23 : decode cX6_doubtOn 23 = .ok (.aaload, 1) := by decide +kernel
theorem dX6_doubtOn_24 : decode cX6_doubtOn 24 = .ok (.astore 5, 2) := by decide +kernel
theorem dX6_doubtOn_26 : decode cX6_doubtOn 26 = .ok (.iconst 1, 1) := by decide +kernel
theorem dX6_doubtOn_27 : decode cX6_doubtOn 27 = .ok (.aload 5, 2) := by decide +kernel
theorem dX6_doubtOn_29 : decode cX6_doubtOn 29 = .ok (.getfield 57, 3) := by decide +kernel
theorem dX6_doubtOn_32 : decode cX6_doubtOn 32 = .ok (.getfield 60, 3) := by decide +kernel
theorem dX6_doubtOn_35 : decode cX6_doubtOn 35 = .ok (.ishl, 1) := by decide +kernel
theorem dX6_doubtOn_36 : decode cX6_doubtOn 36 = .ok (.istore 6, 2) := by decide +kernel
theorem dX6_doubtOn_38 : decode cX6_doubtOn 38 = .ok (.aload 5, 2) := by decide +kernel
theorem dX6_doubtOn_40 : decode cX6_doubtOn 40 = .ok (.getfield 61, 3) := by decide +kernel
theorem dX6_doubtOn_43 : decode cX6_doubtOn 43 = .ok (.iload_n 1, 1) := by decide +kernel
theorem dX6_doubtOn_44 : decode cX6_doubtOn 44 = .ok (.if_icmp .gt 46, 3) := by decide +kernel
theorem dX6_doubtOn_47 : decode cX6_doubtOn 47 = .ok (.iload_n 3, 1) := by decide +kernel
theorem dX6_doubtOn_48 : decode cX6_doubtOn 48 = .ok (.iload 6, 2) := by decide +kernel
theorem dX6_doubtOn_50 : decode cX6_doubtOn 50 = .ok (.iand, 1) := by decide +kernel
theorem dX6_doubtOn_51 : decode cX6_doubtOn 51 = .ok (.ifCond .ne 39, 3) := by decide +kernel
theorem dX6_doubtOn_54 : decode cX6_doubtOn 54 = .ok (.iload_n 3, 1) := by decide +kernel
theorem dX6_doubtOn_55 : decode cX6_doubtOn 55 = .ok (.iload 6, 2) := by decide +kernel
theorem dX6_doubtOn_57 : decode cX6_doubtOn 57 = .ok (.ior, 1) := by decide +kernel
theorem dX6_doubtOn_58 : decode cX6_doubtOn 58 = .ok (.istore_n 3, 1) := by decide +kernel
theorem dX6_doubtOn_59 : decode cX6_doubtOn 59 = .ok (.iload_n 2, 1) := by decide +kernel
theorem dX6_doubtOn_60 : decode cX6_doubtOn 60 = .ok (.aload 5, 2) := by decide +kernel
theorem dX6_doubtOn_62 : decode cX6_doubtOn 62 = .ok (.getfield 64, 3) := by decide +kernel
theorem dX6_doubtOn_65 : decode cX6_doubtOn 65 = .ok (.ifCond .eq 15, 3) := by decide +kernel
theorem dX6_doubtOn_68 : decode cX6_doubtOn 68 = .ok (.aload 5, 2) := by decide +kernel
theorem dX6_doubtOn_70 : decode cX6_doubtOn 70 = .ok (.getfield 57, 3) := by decide +kernel
theorem dX6_doubtOn_73 : decode cX6_doubtOn 73 = .ok (.getfield 68, 3) := by decide +kernel
theorem dX6_doubtOn_76 : decode cX6_doubtOn 76 = .ok (.ineg, 1) := by decide +kernel
theorem dX6_doubtOn_77 : decode cX6_doubtOn 77 = .ok (.goto 11, 3) := by decide +kernel
theorem dX6_doubtOn_80 : decode cX6_doubtOn 80 = .ok (.aload 5, 2) := by decide +kernel
theorem dX6_doubtOn_82 : decode cX6_doubtOn 82 = .ok (.getfield 57, 3) := by decide +kernel
theorem dX6_doubtOn_85 : decode cX6_doubtOn 85 = .ok (.getfield 68, 3) := by decide +kernel
theorem dX6_doubtOn_88 : decode cX6_doubtOn 88 = .ok (.iadd, 1) := by decide +kernel
theorem dX6_doubtOn_89 : decode cX6_doubtOn 89 = .ok (.istore_n 2, 1) := by decide +kernel
theorem dX6_doubtOn_90 : decode cX6_doubtOn 90 = .ok (.iinc 4 (-1), 3) := by decide +kernel
theorem dX6_doubtOn_93 : decode cX6_doubtOn 93 = .ok (.goto (-81), 3) := by decide +kernel
theorem dX6_doubtOn_96 : decode cX6_doubtOn 96 = .ok (.iload_n 2, 1) := by decide +kernel
theorem dX6_doubtOn_97 : decode cX6_doubtOn 97 = .ok (.ireturn, 1) := by decide +kernel
theorem dX7_init_0 : decode cX7_init 0 = .ok (.aload_n 0, 1) := by decide +kernel
theorem dX7_init_1 : decode cX7_init 1 = .ok (.invokespecial 1, 3) := by decide +kernel
theorem dX7_init_4 : decode cX7_init 4 = .ok (.aload_n 0, 1) := by decide +kernel
theorem dX7_init_5 : decode cX7_init 5 = .ok (.bipush 10, 2) := by decide +kernel
theorem dX7_init_7 : decode cX7_init 7 = .ok (.anewarray 9, 3) := by decide +kernel
theorem dX7_init_10 : decode cX7_init 10 = .ok (.putfield 11, 3) := by decide +kernel
theorem dX7_init_13 : decode cX7_init 13 = .ok (.aload_n 0, 1) := by decide +kernel
theorem dX7_init_14 : decode cX7_init 14 = .ok (.bipush 12, 2) := by decide +kernel
theorem dX7_init_16 : decode cX7_init 16 = .ok (.anewarray 15, 3) := by decide +kernel
theorem dX7_init_19 : decode cX7_init 19 = .ok (.putfield 17, 3) := by decide +kernel
theorem dX7_init_22 : decode cX7_init 22 = .ok (.aload_n 0, 1) := by decide +kernel
theorem dX7_init_23 : decode cX7_init 23 = .ok (.bipush 60, 2) := by decide +kernel
theorem dX7_init_25 : decode cX7_init 25 = .ok (.anewarray 21, 3) := by decide +kernel
theorem dX7_init_28 : decode cX7_init 28 = .ok (.putfield 23, 3) := by decide +kernel
theorem dX7_init_31 : decode cX7_init 31 = .ok (.aload_n 0, 1) := by decide +kernel
theorem dX7_init_32 : decode cX7_init 32 = .ok (.bipush 20, 2) := by decide +kernel
theorem dX7_init_34 : decode cX7_init 34 = .ok (.anewarray 27, 3) := by decide +kernel
theorem dX7_init_37 : decode cX7_init 37 = .ok (.putfield 29, 3) := by decide +kernel
theorem dX7_init_40 : decode cX7_init 40 = .ok (.aload_n 0, 1) := by decide +kernel
theorem dX7_init_41 : decode cX7_init 41 = .ok (.iconst 4, 1) := by decide +kernel
theorem dX7_init_42 : decode cX7_init 42 = .ok (.newarray .int, 2) := by decide +kernel
theorem dX7_init_44 : decode cX7_init 44 = .ok (.putfield 33, 3) := by decide +kernel
theorem dX7_init_47 : decode cX7_init 47 = .ok (.return_, 1) := by decide +kernel
theorem dX7_party_0 : decode cX7_party 0 = .ok (.iload_n 2, 1) := by decide +kernel
theorem dX7_party_1 : decode cX7_party 1 = .ok (.invokestatic 37, 3) := by decide +kernel
theorem dX7_party_4 : decode cX7_party 4 = .ok (.iload_n 1, 1) := by decide +kernel
theorem dX7_party_5 : decode cX7_party 5 = .ok (.iconst 0, 1) := by decide +kernel
theorem dX7_party_6 : decode cX7_party 6 = .ok (.ldc 41, 2) := by decide +kernel
theorem dX7_party_8 : decode cX7_party 8 = .ok (.invokestatic 42, 3) := by decide +kernel
theorem dX7_party_11 : decode cX7_party 11 = .ok (.aload_n 0, 1) := by decide +kernel
theorem dX7_party_12 : decode cX7_party 12 = .ok (.getfield 46, 3) := by decide +kernel
theorem dX7_party_15 : decode cX7_party 15 = .ok (.bipush 10, 2) := by decide +kernel
theorem dX7_party_17 : decode cX7_party 17 = .ok (.if_icmp .ge 7, 3) := by decide +kernel
theorem dX7_party_20 : decode cX7_party 20 = .ok (.iconst 1, 1) := by decide +kernel
theorem dX7_party_21 : decode cX7_party 21 = .ok (.goto 4, 3) := by decide +kernel
theorem dX7_party_24 : decode cX7_party 24 = .ok (.iconst 0, 1) := by decide +kernel
theorem dX7_party_25 : decode cX7_party 25 = .ok (.invokestatic 50, 3) := by decide +kernel
theorem dX7_party_28 : decode cX7_party 28 = .ok (.new 9, 3) := by decide +kernel
theorem dX7_party_31 : decode cX7_party 31 = .ok (.dup, 1) := by decide +kernel
theorem dX7_party_32 : decode cX7_party 32 = .ok (.aload_n 0, 1) := by decide +kernel
theorem dX7_party_33 : decode cX7_party 33 = .ok (.getfield 46, 3) := by decide +kernel
theorem dX7_party_36 : decode cX7_party 36 = .ok (.iload_n 2, 1) := by decide +kernel
theorem dX7_party_37 : decode cX7_party 37 = .ok (.iload_n 1, 1) := by decide +kernel
theorem dX7_party_38 : decode cX7_party 38 = .ok (.invokespecial 54, 3) := by decide +kernel
theorem dX7_party_41 : decode cX7_party 41 = .ok (.astore_n 3, 1) := by decide +kernel
theorem dX7_party_42 : decode cX7_party 42 = .ok (.aload_n 0, 1) := by decide +kernel
theorem dX7_party_43 : decode cX7_party 43 = .ok (.getfield 11, 3) := by decide +kernel
theorem dX7_party_46 : decode cX7_party 46 = .ok (.aload_n 0, 1) := by decide +kernel
theorem dX7_party_47 : decode cX7_party 47 = .ok (.getfield 46, 3) := by decide +kernel
theorem dX7_party_50 : decode cX7_party 50 = .ok (.aload_n 3, 1) := by decide +kernel
theorem dX7_party_51 : decode cX7_party 51 = .ok (.aastore, 1) := by decide +kernel
theorem dX7_party_52 : decode cX7_party 52 = .ok (.aload_n 0, 1) := by decide +kernel
theorem dX7_party_53 : decode cX7_party 53 = .ok (.dup, 1) := by decide +kernel
theorem dX7_party_54 : decode cX7_party 54 = .ok (.getfield 46, 3) := by decide +kernel
theorem dX7_party_57 : decode cX7_party 57 = .ok (.iconst 1, 1) := by decide +kernel
theorem dX7_party_58 : decode cX7_party 58 = .ok (.iadd, 1) := by decide +kernel
theorem dX7_party_59 : decode cX7_party 59 = .ok (.putfield 46, 3) := by decide +kernel
theorem dX7_party_62 : decode cX7_party 62 = .ok (.aload_n 3, 1) := by decide +kernel
theorem dX7_party_63 : decode cX7_party 63 = .ok (.getfield 56, 3) := by decide +kernel
theorem dX7_party_66 : decode cX7_party 66 = .ok (.ireturn, 1) := by decide +kernel
theorem dX7_work_0 : decode cX7_work 0 = .ok (.aload_n 0, 1) := by decide +kernel
theorem dX7_work_1 : decode cX7_work 1 = .ok (.iload_n 1, 1) := by decide +kernel
theorem dX7_work_2 : decode cX7_work 2 = .ok (.invokevirtual 59, 3) := by decide +kernel
theorem dX7_work_5 : decode cX7_work 5 = .ok (.astore_n 3, 1) := by decide +kernel
theorem dX7_work_6 : decode cX7_work 6 = .ok (.iload_n 2, 1) := by decide +kernel
theorem dX7_work_7 : decode cX7_work 7 = .ok (.iconst 0, 1) := by decide +kernel
theorem dX7_work_8 : decode cX7_work 8 = .ok (.ldc 41, 2) := by decide +kernel
theorem dX7_work_10 : decode cX7_work 10 = .ok (.invokestatic 42, 3) := by decide +kernel
theorem dX7_work_13 : decode cX7_work 13 = .ok (.aload_n 0, 1) := by decide +kernel
theorem dX7_work_14 : decode cX7_work 14 = .ok (.getfield 63, 3) := by decide +kernel
theorem dX7_work_17 : decode cX7_work 17 = .ok (.bipush 12, 2) := by decide +kernel
theorem dX7_work_19 : decode cX7_work 19 = .ok (.if_icmp .ge 16, 3) := by decide +kernel
theorem dX7_work_22 : decode cX7_work 22 = .ok (.aload_n 0, 1) := by decide +kernel
theorem dX7_work_23 : decode cX7_work 23 = .ok (.getfield 66, 3) := by decide +kernel
theorem dX7_work_26 : decode cX7_work 26 = .ok (.bipush 60, 2) := by decide +kernel
theorem dX7_work_28 : decode cX7_work 28 = .ok (.if_icmp .ge 7, 3) := by decide +kernel
theorem dX7_work_31 : decode cX7_work 31 = .ok (.iconst 1, 1) := by decide +kernel
theorem dX7_work_32 : decode cX7_work 32 = .ok (.goto 4, 3) := by decide +kernel
theorem dX7_work_35 : decode cX7_work 35 = .ok (.iconst 0, 1) := by decide +kernel
theorem dX7_work_36 : decode cX7_work 36 = .ok (.invokestatic 50, 3) := by decide +kernel
theorem dX7_work_39 : decode cX7_work 39 = .ok (.new 15, 3) := by decide +kernel
theorem dX7_work_42 : decode cX7_work 42 = .ok (.dup, 1) := by decide +kernel
theorem dX7_work_43 : decode cX7_work 43 = .ok (.aload_n 0, 1) := by decide +kernel
theorem dX7_work_44 : decode cX7_work 44 = .ok (.getfield 63, 3) := by decide +kernel
theorem dX7_work_47 : decode cX7_work 47 = .ok (.aload_n 3, 1) := by decide +kernel
theorem dX7_work_48 : decode cX7_work 48 = .ok (.iload_n 2, 1) := by decide +kernel
theorem dX7_work_49 : decode cX7_work 49 = .ok (.invokespecial 69, 3) := by decide +kernel
theorem dX7_work_52 : decode cX7_work 52 = .ok (.astore 4, 2) := by decide +kernel
theorem dX7_work_54 : decode cX7_work 54 = .ok (.aload_n 0, 1) := by decide +kernel
theorem dX7_work_55 : decode cX7_work 55 = .ok (.getfield 17, 3) := by decide +kernel
theorem dX7_work_58 : decode cX7_work 58 = .ok (.aload_n 0, 1) := by decide +kernel
theorem dX7_work_59 : decode cX7_work 59 = .ok (.getfield 63, 3) := by decide +kernel
theorem dX7_work_62 : decode cX7_work 62 = .ok (.aload 4, 2) := by decide +kernel
theorem dX7_work_64 : decode cX7_work 64 = .ok (.aastore, 1) := by decide +kernel
theorem dX7_work_65 : decode cX7_work 65 = .ok (.aload_n 0, 1) := by decide +kernel
theorem dX7_work_66 : decode cX7_work 66 = .ok (.dup, 1) := by decide +kernel
theorem dX7_work_67 : decode cX7_work 67 = .ok (.getfield 63, 3) := by decide +kernel
theorem dX7_work_70 : decode cX7_work 70 = .ok (.iconst 1, 1) := by decide +kernel
theorem dX7_work_71 : decode cX7_work 71 = .ok (.iadd, 1) := by decide +kernel
theorem dX7_work_72 : decode cX7_work 72 = .ok (.putfield 63, 3) := by decide +kernel
theorem dX7_work_75 : decode cX7_work 75 = .ok (.aload_n 0, 1) := by decide +kernel
theorem dX7_work_76 : decode cX7_work 76 = .ok (.new 21, 3) := by decide +kernel
theorem dX7_work_79 : decode cX7_work 79 = .ok (.dup, 1) := by decide +kernel
theorem dX7_work_80 : decode cX7_work 80 = .ok (.aload_n 0, 1) := by decide +kernel
theorem dX7_work_81 : decode cX7_work 81 = .ok (.getfield 66, 3) := by decide +kernel
theorem dX7_work_84 : decode cX7_work 84 = .ok (.aload 4, 2) := by decide +kernel
theorem dX7_work_86 : decode cX7_work 86 = .ok (.aload_n 3, 1) := by decide +kernel
theorem dX7_work_87 : decode cX7_work 87 = .ok (.bipush 60, 2) := by decide +kernel
theorem dX7_work_89 : decode cX7_work 89 = .ok (.aconst_null, 1) := by decide +kernel
theorem dX7_work_90 : decode cX7_work 90 = .ok (.aconst_null, 1) := by decide +kernel
theorem dX7_work_91 : decode cX7_work 91 = .ok (.aconst_null, 1) := by decide +kernel
theorem dX7_work_92 : decode cX7_work 92 = .ok (.invokespecial 72, 3) := by decide +kernel
theorem dX7_work_95 : decode cX7_work 95 = .ok (.invokevirtual 75, 3) := by decide +kernel
theorem dX7_work_98 : decode cX7_work 98 = .ok (.pop, 1) := by decide +kernel
theorem dX7_work_99 : decode cX7_work 99 = .ok (.aload 4, 2) := by decide +kernel
theorem dX7_work_101 : decode cX7_work 101 = .ok (.getfield 79, 3) := by decide +kernel
theorem dX7_work_104 : decode cX7_work 104 = .ok (.ireturn, 1) := by decide +kernel
theorem dX7_value_0 : decode cX7_value 0 = .ok (.aload_n 0, 1) := by decide +kernel
theorem dX7_value_1 : decode cX7_value 1 = .ok (.iload_n 1, 1) := by decide +kernel
theorem dX7_value_2 : decode cX7_value 2 = .ok (.invokevirtual 80, 3) := by decide +kernel
theorem dX7_value_5 : decode cX7_value 5 = .ok (.astore_n 3, 1) := by decide +kernel
theorem dX7_value_6 : decode cX7_value 6 = .ok (.iload_n 2, 1) := by decide +kernel
theorem dX7_value_7 : decode cX7_value 7 = .ok (.iconst 0, 1) := by decide +kernel
theorem dX7_value_8 : decode cX7_value 8 = .ok (.ldc 41, 2) := by decide +kernel
theorem dX7_value_10 : decode cX7_value 10 = .ok (.invokestatic 42, 3) := by decide +kernel
theorem dX7_value_13 : decode cX7_value 13 = .ok (.aload_n 3, 1) := by decide +kernel
theorem dX7_value_14 : decode cX7_value 14 = .ok (.getfield 84, 3) := by decide +kernel
theorem dX7_value_17 : decode cX7_value 17 = .ok (.istore 4, 2) := by decide +kernel
theorem dX7_value_19 : decode cX7_value 19 = .ok (.aload_n 3, 1) := by decide +kernel
theorem dX7_value_20 : decode cX7_value 20 = .ok (.iload_n 2, 1) := by decide +kernel
theorem dX7_value_21 : decode cX7_value 21 = .ok (.putfield 84, 3) := by decide +kernel
theorem dX7_value_24 : decode cX7_value 24 = .ok (.iload 4, 2) := by decide +kernel
theorem dX7_value_26 : decode cX7_value 26 = .ok (.ireturn, 1) := by decide +kernel
theorem dX7_pass_0 : decode cX7_pass 0 = .ok (.iload_n 1, 1) := by decide +kernel
theorem dX7_pass_1 : decode cX7_pass 1 = .ok (.iconst 1, 1) := by decide +kernel
theorem dX7_pass_2 : decode cX7_pass 2 = .ok (.sipush 1000, 3) := by decide +kernel
theorem dX7_pass_5 : decode cX7_pass 5 = .ok (.invokestatic 42, 3) := by decide +kernel
theorem dX7_pass_8 : decode cX7_pass 8 = .ok (.aload_n 0, 1) := by decide +kernel
theorem dX7_pass_9 : decode cX7_pass 9 = .ok (.getfield 87, 3) := by decide +kernel
theorem dX7_pass_12 : decode cX7_pass 12 = .ok (.iload_n 1, 1) := by decide +kernel
theorem dX7_pass_13 : decode cX7_pass 13 = .ok (.iadd, 1) := by decide +kernel
theorem dX7_pass_14 : decode cX7_pass 14 = .ok (.sipush 20000, 3) := by decide +kernel
theorem dX7_pass_17 : decode cX7_pass 17 = .ok (.if_icmp .gt 7, 3) := by decide +kernel
theorem dX7_pass_20 : decode cX7_pass 20 = .ok (.iconst 1, 1) := by decide +kernel
theorem dX7_pass_21 : decode cX7_pass 21 = .ok (.goto 4, 3) := by decide +kernel
theorem dX7_pass_24 : decode cX7_pass 24 = .ok (.iconst 0, 1) := by decide +kernel
theorem dX7_pass_25 : decode cX7_pass 25 = .ok (.invokestatic 50, 3) := by decide +kernel
theorem dX7_pass_28 : decode cX7_pass 28 = .ok (.aload_n 0, 1) := by decide +kernel
theorem dX7_pass_29 : decode cX7_pass 29 = .ok (.dup, 1) := by decide +kernel
theorem dX7_pass_30 : decode cX7_pass 30 = .ok (.getfield 87, 3) := by decide +kernel
theorem dX7_pass_33 : decode cX7_pass 33 = .ok (.iload_n 1, 1) := by decide +kernel
theorem dX7_pass_34 : decode cX7_pass 34 = .ok (.iadd, 1) := by decide +kernel
theorem dX7_pass_35 : decode cX7_pass 35 = .ok (.putfield 87, 3) := by decide +kernel
theorem dX7_pass_38 : decode cX7_pass 38 = .ok (.aload_n 0, 1) := by decide +kernel
theorem dX7_pass_39 : decode cX7_pass 39 = .ok (.getfield 87, 3) := by decide +kernel
theorem dX7_pass_42 : decode cX7_pass 42 = .ok (.ireturn, 1) := by decide +kernel
theorem dX7_weight_0 : decode cX7_weight 0 = .ok (.aload_n 0, 1) := by decide +kernel
theorem dX7_weight_1 : decode cX7_weight 1 = .ok (.iload_n 1, 1) := by decide +kernel
theorem dX7_weight_2 : decode cX7_weight 2 = .ok (.invokevirtual 59, 3) := by decide +kernel
theorem dX7_weight_5 : decode cX7_weight 5 = .ok (.astore_n 3, 1) := by decide +kernel
theorem dX7_weight_6 : decode cX7_weight 6 = .ok (.iload_n 2, 1) := by decide +kernel
theorem dX7_weight_7 : decode cX7_weight 7 = .ok (.iconst 0, 1) := by decide +kernel
theorem dX7_weight_8 : decode cX7_weight 8 = .ok (.bipush 9, 2) := by decide +kernel
theorem dX7_weight_10 : decode cX7_weight 10 = .ok (.invokestatic 42, 3) := by decide +kernel
theorem dX7_weight_13 : decode cX7_weight 13 = .ok (.aload_n 3, 1) := by decide +kernel
theorem dX7_weight_14 : decode cX7_weight 14 = .ok (.getfield 90, 3) := by decide +kernel
theorem dX7_weight_17 : decode cX7_weight 17 = .ok (.istore 4, 2) := by decide +kernel
theorem dX7_weight_19 : decode cX7_weight 19 = .ok (.aload_n 3, 1) := by decide +kernel
theorem dX7_weight_20 : decode cX7_weight 20 = .ok (.iload_n 2, 1) := by decide +kernel
theorem dX7_weight_21 : decode cX7_weight 21 = .ok (.putfield 90, 3) := by decide +kernel
theorem dX7_weight_24 : decode cX7_weight 24 = .ok (.iload 4, 2) := by decide +kernel
theorem dX7_weight_26 : decode cX7_weight 26 = .ok (.ireturn, 1) := by decide +kernel
theorem dX7_word_0 : decode cX7_word 0 = .ok (.aload_n 0, 1) := by decide +kernel
theorem dX7_word_1 : decode cX7_word 1 = .ok (.iload_n 1, 1) := by decide +kernel
theorem dX7_word_2 : decode cX7_word 2 = .ok (.invokevirtual 59, 3) := by decide +kernel
theorem dX7_word_5 : decode cX7_word 5 = .ok (.astore 4, 2) := by decide +kernel
theorem dX7_word_7 : decode cX7_word 7 = .ok (.aload_n 0, 1) := by decide +kernel
theorem dX7_word_8 : decode cX7_word 8 = .ok (.iload_n 2, 1) := by decide +kernel
theorem dX7_word_9 : decode cX7_word 9 = .ok (.invokevirtual 80, 3) := by decide +kernel
theorem dX7_word_12 : decode cX7_word 12 = .ok (.astore 5, 2) := by decide +kernel
theorem dX7_word_14 : decode cX7_word 14 = .ok (.aload 5, 2) := by decide +kernel
theorem dX7_word_16 : decode cX7_word 16 = .ok (.getfield 93, 3) := by decide +kernel
theorem dX7_word_19 : decode cX7_word 19 = .ok (.bipush 50, 2) := by decide +kernel
theorem dX7_word_21 : decode cX7_word 21 = .ok (.if_icmp .ge 7, 3) := by decide +kernel
theorem dX7_word_24 : decode cX7_word 24 = .ok (.iconst 1, 1) := by decide +kernel
theorem dX7_word_25 : decode cX7_word 25 = .ok (.goto 4, 3) := by decide +kernel
theorem dX7_word_28 : decode cX7_word 28 = .ok (.iconst 0, 1) := by decide +kernel
theorem dX7_word_29 : decode cX7_word 29 = .ok (.invokestatic 50, 3) := by decide +kernel
theorem dX7_word_32 : decode cX7_word 32 = .ok (.aload 5, 2) := by decide +kernel
theorem dX7_word_34 : decode cX7_word 34 = .ok (.getfield 96, 3) := by decide +kernel
theorem dX7_word_37 : decode cX7_word 37 = .ok (.aload 5, 2) := by decide +kernel
theorem dX7_word_39 : decode cX7_word 39 = .ok (.getfield 93, 3) := by decide +kernel
theorem dX7_word_42 : decode cX7_word 42 = .ok (.new 100, 3) := by decide +kernel
theorem dX7_word_45 : decode cX7_word 45 = .ok (.dup, 1) := by decide +kernel
theorem dX7_word_46 : decode cX7_word 46 = .ok (.aload 4, 2) := by decide +kernel
theorem dX7_word_48 : decode cX7_word 48 = .ok (.aload_n 0, 1) := by decide +kernel
theorem dX7_word_49 : decode cX7_word 49 = .ok (.getfield 87, 3) := by decide +kernel
theorem dX7_word_52 : decode cX7_word 52 = .ok (.iload_n 3, 1) := by decide +kernel
theorem dX7_word_53 : decode cX7_word 53 = .ok (.invokespecial 102, 3) := by decide +kernel
theorem dX7_word_56 : decode cX7_word 56 = .ok (.aastore, 1) := by decide +kernel
theorem dX7_word_57 : decode cX7_word 57 = .ok (.aload 5, 2) := by decide +kernel
theorem dX7_word_59 : decode cX7_word 59 = .ok (.dup, 1) := by decide +kernel
theorem dX7_word_60 : decode cX7_word 60 = .ok (.getfield 93, 3) := by decide +kernel
theorem dX7_word_63 : decode cX7_word 63 = .ok (.iconst 1, 1) := by decide +kernel
theorem dX7_word_64 : decode cX7_word 64 = .ok (.iadd, 1) := by decide +kernel
theorem dX7_word_65 : decode cX7_word 65 = .ok (.putfield 93, 3) := by decide +kernel
theorem dX7_word_68 : decode cX7_word 68 = .ok (.aload 5, 2) := by decide +kernel
theorem dX7_word_70 : decode cX7_word 70 = .ok (.getfield 93, 3) := by decide +kernel
theorem dX7_word_73 : decode cX7_word 73 = .ok (.ireturn, 1) := by decide +kernel
theorem dX7_paper_0 : decode cX7_paper 0 = .ok (.aload_n 0, 1) := by decide +kernel
theorem dX7_paper_1 : decode cX7_paper 1 = .ok (.iload_n 1, 1) := by decide +kernel
theorem dX7_paper_2 : decode cX7_paper 2 = .ok (.invokevirtual 80, 3) := by decide +kernel
theorem dX7_paper_5 : decode cX7_paper 5 = .ok (.astore 4, 2) := by decide +kernel
theorem dX7_paper_7 : decode cX7_paper 7 = .ok (.iload_n 2, 1) := by decide +kernel
theorem dX7_paper_8 : decode cX7_paper 8 = .ok (.iload_n 3, 1) := by decide +kernel
theorem dX7_paper_9 : decode cX7_paper 9 = .ok (.invokestatic 105, 3) := by decide +kernel
theorem dX7_paper_12 : decode cX7_paper 12 = .ok (.iload_n 2, 1) := by decide +kernel
theorem dX7_paper_13 : decode cX7_paper 13 = .ok (.istore 5, 2) := by decide +kernel
theorem dX7_paper_15 : decode cX7_paper 15 = .ok (.iload 5, 2) := by decide +kernel
theorem dX7_paper_17 : decode cX7_paper 17 = .ok (.iload_n 3, 1) := by decide +kernel
theorem dX7_paper_18 : decode cX7_paper 18 = .ok (.if_icmp .gt 22, 3) := by decide +kernel
theorem dX7_paper_21 : decode cX7_paper 21 = .ok (.aload 4, 2) := by decide +kernel
theorem dX7_paper_23 : decode cX7_paper 23 = .ok (.getfield 109, 3) := by decide +kernel
theorem dX7_paper_26 : decode cX7_paper 26 = .ok (.iload 5, 2) := by decide +kernel
theorem dX7_paper_28 : decode cX7_paper 28 = .ok (.sipush 1900, 3) := by decide +kernel
theorem dX7_paper_31 : decode cX7_paper 31 = .ok (.isub, 1) := by decide +kernel
theorem dX7_paper_32 : decode cX7_paper 32 = .ok (.iconst 1, 1) := by decide +kernel
theorem dX7_paper_33 : decode cX7_paper 33 = .ok (.bastore, 1) := by decide +kernel
theorem dX7_paper_34 : decode cX7_paper 34 = .ok (.iinc 5 1, 3) := by decide +kernel
theorem dX7_paper_37 : decode cX7_paper 37 = .ok (.goto (-22), 3) := by decide +kernel
theorem dX7_paper_40 : decode cX7_paper 40 = .ok (.return_, 1) := by decide +kernel
theorem dX7_right_0 : decode cX7_right 0 = .ok (.iload_n 1, 1) := by decide +kernel
theorem dX7_right_1 : decode cX7_right 1 = .ok (.invokestatic 37, 3) := by decide +kernel
theorem dX7_right_4 : decode cX7_right 4 = .ok (.iload_n 2, 1) := by decide +kernel
theorem dX7_right_5 : decode cX7_right 5 = .ok (.iconst 0, 1) := by decide +kernel
theorem dX7_right_6 : decode cX7_right 6 = .ok (.bipush 20, 2) := by decide +kernel
theorem dX7_right_8 : decode cX7_right 8 = .ok (.invokestatic 42, 3) := by decide +kernel
theorem dX7_right_11 : decode cX7_right 11 = .ok (.aload_n 0, 1) := by decide +kernel
theorem dX7_right_12 : decode cX7_right 12 = .ok (.getfield 33, 3) := by decide +kernel
theorem dX7_right_15 : decode cX7_right 15 = .ok (.iload_n 1, 1) := by decide +kernel
theorem dX7_right_16 : decode cX7_right 16 = .ok (.iaload, 1) := by decide +kernel
theorem dX7_right_17 : decode cX7_right 17 = .ok (.istore_n 3, 1) := by decide +kernel
theorem dX7_right_18 : decode cX7_right 18 = .ok (.aload_n 0, 1) := by decide +kernel
theorem dX7_right_19 : decode cX7_right 19 = .ok (.getfield 33, 3) := by decide +kernel
theorem dX7_right_22 : decode cX7_right 22 = .ok (.iload_n 1, 1) := by decide +kernel
theorem dX7_right_23 : decode cX7_right 23 = .ok (.iload_n 2, 1) := by decide +kernel
theorem dX7_right_24 : decode cX7_right 24 = .ok (.iastore, 1) := by decide +kernel
theorem dX7_right_25 : decode cX7_right 25 = .ok (.iload_n 3, 1) := by decide +kernel
theorem dX7_right_26 : decode cX7_right 26 = .ok (.ireturn, 1) := by decide +kernel
theorem dX7_bar_0 : decode cX7_bar 0 = .ok (.aload_n 0, 1) := by decide +kernel
theorem dX7_bar_1 : decode cX7_bar 1 = .ok (.iload_n 1, 1) := by decide +kernel
theorem dX7_bar_2 : decode cX7_bar 2 = .ok (.invokevirtual 80, 3) := by decide +kernel
theorem dX7_bar_5 : decode cX7_bar 5 = .ok (.astore_n 3, 1) := by decide +kernel
theorem dX7_bar_6 : decode cX7_bar 6 = .ok (.iload_n 2, 1) := by decide +kernel
theorem dX7_bar_7 : decode cX7_bar 7 = .ok (.iconst 0, 1) := by decide +kernel
theorem dX7_bar_8 : decode cX7_bar 8 = .ok (.sipush 1000, 3) := by decide +kernel
theorem dX7_bar_11 : decode cX7_bar 11 = .ok (.invokestatic 42, 3) := by decide +kernel
theorem dX7_bar_14 : decode cX7_bar 14 = .ok (.aload_n 3, 1) := by decide +kernel
theorem dX7_bar_15 : decode cX7_bar 15 = .ok (.aload_n 0, 1) := by decide +kernel
theorem dX7_bar_16 : decode cX7_bar 16 = .ok (.getfield 87, 3) := by decide +kernel
theorem dX7_bar_19 : decode cX7_bar 19 = .ok (.invokevirtual 113, 3) := by decide +kernel
theorem dX7_bar_22 : decode cX7_bar 22 = .ok (.istore 4, 2) := by decide +kernel
theorem dX7_bar_24 : decode cX7_bar 24 = .ok (.aload_n 3, 1) := by decide +kernel
theorem dX7_bar_25 : decode cX7_bar 25 = .ok (.aload_n 0, 1) := by decide +kernel
theorem dX7_bar_26 : decode cX7_bar 26 = .ok (.getfield 87, 3) := by decide +kernel
theorem dX7_bar_29 : decode cX7_bar 29 = .ok (.iload_n 2, 1) := by decide +kernel
theorem dX7_bar_30 : decode cX7_bar 30 = .ok (.iadd, 1) := by decide +kernel
theorem dX7_bar_31 : decode cX7_bar 31 = .ok (.putfield 117, 3) := by decide +kernel
theorem dX7_bar_34 : decode cX7_bar 34 = .ok (.iload 4, 2) := by decide +kernel
theorem dX7_bar_36 : decode cX7_bar 36 = .ok (.ireturn, 1) := by decide +kernel
theorem dX7_seal_0 : decode cX7_seal 0 = .ok (.aload_n 0, 1) := by decide +kernel
theorem dX7_seal_1 : decode cX7_seal 1 = .ok (.iload_n 1, 1) := by decide +kernel
theorem dX7_seal_2 : decode cX7_seal 2 = .ok (.invokevirtual 80, 3) := by decide +kernel
theorem dX7_seal_5 : decode cX7_seal 5 = .ok (.astore_n 3, 1) := by decide +kernel
theorem dX7_seal_6 : decode cX7_seal 6 = .ok (.iload_n 2, 1) := by decide +kernel
theorem dX7_seal_7 : decode cX7_seal 7 = .ok (.ifCond .eq 10, 3) := by decide +kernel
theorem dX7_seal_10 : decode cX7_seal 10 = .ok (.aload_n 3, 1) := by decide +kernel
theorem dX7_seal_11 : decode cX7_seal 11 = .ok (.getfield 120, 3) := by decide +kernel
theorem dX7_seal_14 : decode cX7_seal 14 = .ok (.ifCond .ne 7, 3) := by decide +kernel
theorem dX7_seal_17 : decode cX7_seal 17 = .ok (.iconst 1, 1) := by decide +kernel
theorem dX7_seal_18 : decode cX7_seal 18 = .ok (.goto 4, 3) := by decide +kernel
theorem dX7_seal_21 : decode cX7_seal 21 = .ok (.iconst 0, 1) := by decide +kernel
theorem dX7_seal_22 : decode cX7_seal 22 = .ok (.invokestatic 50, 3) := by decide +kernel
theorem dX7_seal_25 : decode cX7_seal 25 = .ok (.aload_n 3, 1) := by decide +kernel
theorem dX7_seal_26 : decode cX7_seal 26 = .ok (.getfield 123, 3) := by decide +kernel
theorem dX7_seal_29 : decode cX7_seal 29 = .ok (.istore 4, 2) := by decide +kernel
theorem dX7_seal_31 : decode cX7_seal 31 = .ok (.aload_n 3, 1) := by decide +kernel
theorem dX7_seal_32 : decode cX7_seal 32 = .ok (.iload_n 2, 1) := by decide +kernel
theorem dX7_seal_33 : decode cX7_seal 33 = .ok (.putfield 123, 3) := by decide +kernel
theorem dX7_seal_36 : decode cX7_seal 36 = .ok (.iload 4, 2) := by decide +kernel
theorem dX7_seal_38 : decode cX7_seal 38 = .ok (.ireturn, 1) := by decide +kernel
theorem dX7_bring_0 : decode cX7_bring 0 = .ok (.aload_n 0, 1) := by decide +kernel
theorem dX7_bring_1 : decode cX7_bring 1 = .ok (.iload_n 1, 1) := by decide +kernel
theorem dX7_bring_2 : decode cX7_bring 2 = .ok (.invokevirtual 80, 3) := by decide +kernel
theorem dX7_bring_5 : decode cX7_bring 5 = .ok (.astore_n 3, 1) := by decide +kernel
theorem dX7_bring_6 : decode cX7_bring 6 = .ok (.iload_n 2, 1) := by decide +kernel
theorem dX7_bring_7 : decode cX7_bring 7 = .ok (.invokestatic 37, 3) := by decide +kernel
theorem dX7_bring_10 : decode cX7_bring 10 = .ok (.aload_n 3, 1) := by decide +kernel
theorem dX7_bring_11 : decode cX7_bring 11 = .ok (.getfield 123, 3) := by decide +kernel
theorem dX7_bring_14 : decode cX7_bring 14 = .ok (.ifCond .ne 14, 3) := by decide +kernel
theorem dX7_bring_17 : decode cX7_bring 17 = .ok (.aload_n 3, 1) := by decide +kernel
theorem dX7_bring_18 : decode cX7_bring 18 = .ok (.aload_n 0, 1) := by decide +kernel
theorem dX7_bring_19 : decode cX7_bring 19 = .ok (.getfield 87, 3) := by decide +kernel
theorem dX7_bring_22 : decode cX7_bring 22 = .ok (.invokevirtual 113, 3) := by decide +kernel
theorem dX7_bring_25 : decode cX7_bring 25 = .ok (.ifCond .le 7, 3) := by decide +kernel
theorem dX7_bring_28 : decode cX7_bring 28 = .ok (.iconst 1, 1) := by decide +kernel
theorem dX7_bring_29 : decode cX7_bring 29 = .ok (.goto 4, 3) := by decide +kernel
theorem dX7_bring_32 : decode cX7_bring 32 = .ok (.iconst 0, 1) := by decide +kernel
theorem dX7_bring_33 : decode cX7_bring 33 = .ok (.istore 4, 2) := by decide +kernel
theorem dX7_bring_35 : decode cX7_bring 35 = .ok (.iload_n 2, 1) := by decide +kernel
theorem dX7_bring_36 : decode cX7_bring 36 = .ok (.aload_n 3, 1) := by decide +kernel
theorem dX7_bring_37 : decode cX7_bring 37 = .ok (.getfield 120, 3) := by decide +kernel
theorem dX7_bring_40 : decode cX7_bring 40 = .ok (.if_icmp .eq 8, 3) := by decide +kernel
theorem dX7_bring_43 : decode cX7_bring 43 = .ok (.iload 4, 2) := by decide +kernel
theorem dX7_bring_45 : decode cX7_bring 45 = .ok (.ifCond .ne 7, 3) := by decide +kernel
theorem dX7_bring_48 : decode cX7_bring 48 = .ok (.iconst 1, 1) := by decide +kernel
theorem dX7_bring_49 : decode cX7_bring 49 = .ok (.goto 4, 3) := by decide +kernel
theorem dX7_bring_52 : decode cX7_bring 52 = .ok (.iconst 0, 1) := by decide +kernel
theorem dX7_bring_53 : decode cX7_bring 53 = .ok (.invokestatic 50, 3) := by decide +kernel
theorem dX7_bring_56 : decode cX7_bring 56 = .ok (.aload_n 3, 1) := by decide +kernel
theorem dX7_bring_57 : decode cX7_bring 57 = .ok (.getfield 120, 3) := by decide +kernel
theorem dX7_bring_60 : decode cX7_bring 60 = .ok (.istore 5, 2) := by decide +kernel
theorem dX7_bring_62 : decode cX7_bring 62 = .ok (.aload_n 3, 1) := by decide +kernel
theorem dX7_bring_63 : decode cX7_bring 63 = .ok (.iload_n 2, 1) := by decide +kernel
theorem dX7_bring_64 : decode cX7_bring 64 = .ok (.putfield 120, 3) := by decide +kernel
theorem dX7_bring_67 : decode cX7_bring 67 = .ok (.iload 5, 2) := by decide +kernel
theorem dX7_bring_69 : decode cX7_bring 69 = .ok (.ireturn, 1) := by decide +kernel
theorem dX7_list_0 : decode cX7_list 0 = .ok (.aload_n 0, 1) := by decide +kernel
theorem dX7_list_1 : decode cX7_list 1 = .ok (.iload_n 1, 1) := by decide +kernel
theorem dX7_list_2 : decode cX7_list 2 = .ok (.invokevirtual 80, 3) := by decide +kernel
theorem dX7_list_5 : decode cX7_list 5 = .ok (.astore_n 2, 1) := by decide +kernel
theorem dX7_list_6 : decode cX7_list 6 = .ok (.aload_n 2, 1) := by decide +kernel
theorem dX7_list_7 : decode cX7_list 7 = .ok (.getfield 127, 3) := by decide +kernel
theorem dX7_list_10 : decode cX7_list 10 = .ok (.iconst (-1), 1) := by decide +kernel
theorem dX7_list_11 : decode cX7_list 11 = .ok (.if_icmp .ne 7, 3) := by decide +kernel
theorem dX7_list_14 : decode cX7_list 14 = .ok (.iconst 1, 1) := by decide +kernel
theorem dX7_list_15 : decode cX7_list 15 = .ok (.goto 4, 3) := by decide +kernel
theorem dX7_list_18 : decode cX7_list 18 = .ok (.iconst 0, 1) := by decide +kernel
theorem dX7_list_19 : decode cX7_list 19 = .ok (.invokestatic 50, 3) := by decide +kernel
theorem dX7_list_22 : decode cX7_list 22 = .ok (.aload_n 2, 1) := by decide +kernel
theorem dX7_list_23 : decode cX7_list 23 = .ok (.aload_n 0, 1) := by decide +kernel
theorem dX7_list_24 : decode cX7_list 24 = .ok (.getfield 87, 3) := by decide +kernel
theorem dX7_list_27 : decode cX7_list 27 = .ok (.putfield 127, 3) := by decide +kernel
theorem dX7_list_30 : decode cX7_list 30 = .ok (.return_, 1) := by decide +kernel
theorem dX7_fail_0 : decode cX7_fail 0 = .ok (.aload_n 0, 1) := by decide +kernel
theorem dX7_fail_1 : decode cX7_fail 1 = .ok (.iload_n 1, 1) := by decide +kernel
theorem dX7_fail_2 : decode cX7_fail 2 = .ok (.invokevirtual 59, 3) := by decide +kernel
theorem dX7_fail_5 : decode cX7_fail 5 = .ok (.astore_n 2, 1) := by decide +kernel
theorem dX7_fail_6 : decode cX7_fail 6 = .ok (.aload_n 2, 1) := by decide +kernel
theorem dX7_fail_7 : decode cX7_fail 7 = .ok (.getfield 130, 3) := by decide +kernel
theorem dX7_fail_10 : decode cX7_fail 10 = .ok (.ifCond .ne 7, 3) := by decide +kernel
theorem dX7_fail_13 : decode cX7_fail 13 = .ok (.iconst 1, 1) := by decide +kernel
theorem dX7_fail_14 : decode cX7_fail 14 = .ok (.goto 4, 3) := by decide +kernel
theorem dX7_fail_17 : decode cX7_fail 17 = .ok (.iconst 0, 1) := by decide +kernel
theorem dX7_fail_18 : decode cX7_fail 18 = .ok (.invokestatic 50, 3) := by decide +kernel
theorem dX7_fail_21 : decode cX7_fail 21 = .ok (.aload_n 2, 1) := by decide +kernel
theorem dX7_fail_22 : decode cX7_fail 22 = .ok (.iconst 1, 1) := by decide +kernel
theorem dX7_fail_23 : decode cX7_fail 23 = .ok (.putfield 130, 3) := by decide +kernel
theorem dX7_fail_26 : decode cX7_fail 26 = .ok (.iconst 0, 1) := by decide +kernel
theorem dX7_fail_27 : decode cX7_fail 27 = .ok (.istore_n 3, 1) := by decide +kernel
theorem dX7_fail_28 : decode cX7_fail 28 = .ok (.iconst 0, 1) := by decide +kernel
theorem dX7_fail_29 : decode cX7_fail 29 = .ok (.istore 4, 2) := by decide +kernel
theorem dX7_fail_31 : decode cX7_fail 31 = .ok (.iload 4, 2) := by decide +kernel
theorem dX7_fail_33 : decode cX7_fail 33 = .ok (.aload_n 0, 1) := by decide +kernel
theorem dX7_fail_34 : decode cX7_fail 34 = .ok (.getfield 66, 3) := by decide +kernel
theorem dX7_fail_37 : decode cX7_fail 37 = .ok (.if_icmp .ge 37, 3) := by decide +kernel
theorem dX7_fail_40 : decode cX7_fail 40 = .ok (.aload_n 0, 1) := by decide +kernel
theorem dX7_fail_41 : decode cX7_fail 41 = .ok (.getfield 23, 3) := by decide +kernel
theorem dX7_fail_44 : decode cX7_fail 44 = .ok (.iload 4, 2) := by decide +kernel
theorem dX7_fail_46 : decode cX7_fail 46 = .ok (.aaload, 1) := by decide +kernel
theorem dX7_fail_47 : decode cX7_fail 47 = .ok (.invokevirtual 133, 3) := by decide +kernel
theorem dX7_fail_50 : decode cX7_fail 50 = .ok (.aload_n 2, 1) := by decide +kernel
theorem dX7_fail_51 : decode cX7_fail 51 = .ok (.if_acmp .ne 17, 3) := by decide +kernel
theorem dX7_fail_54 : decode cX7_fail 54 = .ok (.aload_n 0, 1) := by decide +kernel
theorem dX7_fail_55 : decode cX7_fail 55 = .ok (.getfield 23, 3) := by decide +kernel
theorem dX7_fail_58 : decode cX7_fail 58 = .ok (.iload 4, 2) := by decide +kernel
theorem dX7_fail_60 : decode cX7_fail 60 = .ok (.aaload, 1) := by decide +kernel
theorem dX7_fail_61 : decode cX7_fail 61 = .ok (.aconst_null, 1) := by decide +kernel
theorem dX7_fail_62 : decode cX7_fail 62 = .ok (.putfield 137, 3) := by decide +kernel
theorem dX7_fail_65 : decode cX7_fail 65 = .ok (.iinc 3 1, 3) := by decide +kernel
theorem dX7_fail_68 : decode cX7_fail 68 = .ok (.iinc 4 1, 3) := by decide +kernel
theorem dX7_fail_71 : decode cX7_fail 71 = .ok (.goto (-40), 3) := by decide +kernel
theorem dX7_fail_74 : decode cX7_fail 74 = .ok (.iload_n 3, 1) := by decide +kernel
theorem dX7_fail_75 : decode cX7_fail 75 = .ok (.ireturn, 1) := by decide +kernel
