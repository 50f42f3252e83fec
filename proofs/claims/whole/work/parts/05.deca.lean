theorem dX0_init_0 : decode cX0_init 0 = .ok (.aload_n 0, 1) := by decide +kernel
theorem dX0_init_1 : decode cX0_init 1 = .ok (.invokespecial 3, 3) := by decide +kernel
theorem dX0_init_4 : decode cX0_init 4 = .ok (.aload_n 0, 1) := by decide +kernel
theorem dX0_init_5 : decode cX0_init 5 = .ok (.bipush 40, 2) := by decide +kernel
theorem dX0_init_7 : decode cX0_init 7 = .ok (.newarray .int, 2) := by decide +kernel
theorem dX0_init_9 : decode cX0_init 9 = .ok (.putfield 9, 3) := by decide +kernel
theorem dX0_init_12 : decode cX0_init 12 = .ok (.return_, 1) := by decide +kernel
theorem dX0_isMissing_0 : decode cX0_isMissing 0 = .ok (.aload_n 0, 1) := by decide +kernel
theorem dX0_isMissing_1 : decode cX0_isMissing 1 = .ok (.getfield 15, 3) := by decide +kernel
theorem dX0_isMissing_4 : decode cX0_isMissing 4 = .ok (.ifCond .ne 7, 3) := by decide +kernel
theorem dX0_isMissing_7 : decode cX0_isMissing 7 = .ok (.iconst 1, 1) := by decide +kernel
theorem dX0_isMissing_8 : decode cX0_isMissing 8 = .ok (.goto 4, 3) := by decide +kernel
theorem dX0_isMissing_11 : decode cX0_isMissing 11 = .ok (.iconst 0, 1) := by decide +kernel
theorem dX0_isMissing_12 : decode cX0_isMissing 12 = .ok (.ireturn, 1) := by decide +kernel
theorem dX0_begin_0 : decode cX0_begin 0 = .ok (.aload_n 0, 1) := by decide +kernel
theorem dX0_begin_1 : decode cX0_begin 1 = .ok (.iload_n 1, 1) := by decide +kernel
theorem dX0_begin_2 : decode cX0_begin 2 = .ok (.putfield 15, 3) := by decide +kernel
theorem dX0_begin_5 : decode cX0_begin 5 = .ok (.aload_n 0, 1) := by decide +kernel
theorem dX0_begin_6 : decode cX0_begin 6 = .ok (.iload_n 1, 1) := by decide +kernel
theorem dX0_begin_7 : decode cX0_begin 7 = .ok (.ifCond .ne 7, 3) := by decide +kernel
theorem dX0_begin_10 : decode cX0_begin 10 = .ok (.iconst 0, 1) := by decide +kernel
theorem dX0_begin_11 : decode cX0_begin 11 = .ok (.goto 4, 3) := by decide +kernel
theorem dX0_begin_14 : decode cX0_begin 14 = .ok (.iload_n 2, 1) := by decide +kernel
theorem dX0_begin_15 : decode cX0_begin 15 = .ok (.putfield 19, 3) := by decide +kernel
theorem dX0_begin_18 : decode cX0_begin 18 = .ok (.iconst 0, 1) := by decide +kernel
theorem dX0_begin_19 : decode cX0_begin 19 = .ok (.istore_n 3, 1) := by decide +kernel
theorem dX0_begin_20 : decode cX0_begin 20 = .ok (.iload_n 3, 1) := by decide +kernel
theorem dX0_begin_21 : decode cX0_begin 21 = .ok (.bipush 40, 2) := by decide +kernel
theorem dX0_begin_23 : decode cX0_begin 23 = .ok (.if_icmp .ge 16, 3) := by decide +kernel
theorem dX0_begin_26 : decode cX0_begin 26 = .ok (.aload_n 0, 1) := by decide +kernel
theorem dX0_begin_27 : decode cX0_begin 27 = .ok (.getfield 9, 3) := by decide +kernel
theorem dX0_begin_30 : decode cX0_begin 30 = .ok (.iload_n 3, 1) := by decide +kernel
theorem dX0_begin_31 : decode cX0_begin 31 = .ok (.iconst 0, 1) := by decide +kernel
theorem dX0_begin_32 : decode cX0_begin 32 = .ok (.iastore, 1) := by decide +kernel
theorem dX0_begin_33 : decode cX0_begin 33 = .ok (.iinc 3 1, 3) := by decide +kernel
theorem dX0_begin_36 : decode cX0_begin 36 = .ok (.goto (-16), 3) := by decide +kernel
theorem dX0_begin_39 : decode cX0_begin 39 = .ok (.return_, 1) := by decide +kernel
theorem dX0_put_0 : decode cX0_put 0 = .ok (.aload_n 0, 1) := by decide +kernel
theorem dX0_put_1 : decode cX0_put 1 = .ok (.getfield 15, 3) := by decide +kernel
theorem dX0_put_4 : decode cX0_put 4 = .ok (.bipush 8, 2) := by decide +kernel
theorem dX0_put_6 : decode cX0_put 6 = .ok (.if_icmp .ne 14, 3) := by decide +kernel
theorem dX0_put_9 : decode cX0_put 9 = .ok (.aload_n 0, 1) := by decide +kernel
theorem dX0_put_10 : decode cX0_put 10 = .ok (.getfield 9, 3) := by decide +kernel
theorem dX0_put_13 : decode cX0_put 13 = .ok (.iload_n 1, 1) := by decide +kernel
theorem dX0_put_14 : decode cX0_put 14 = .ok (.iload_n 2, 1) := by decide +kernel
theorem dX0_put_15 : decode cX0_put 15 = .ok (.i2b, 1) := by decide +kernel
theorem dX0_put_16 : decode cX0_put 16 = .ok (.iastore, 1) := by decide +kernel
theorem dX0_put_17 : decode cX0_put 17 = .ok (.goto 30, 3) := by decide +kernel
theorem dX0_put_20 : decode cX0_put 20 = .ok (.aload_n 0, 1) := by decide +kernel
theorem dX0_put_21 : decode cX0_put 21 = .ok (.getfield 15, 3) := by decide +kernel
theorem dX0_put_24 : decode cX0_put 24 = .ok (.bipush 16, 2) := by decide +kernel
theorem dX0_put_26 : decode cX0_put 26 = .ok (.if_icmp .ne 14, 3) := by decide +kernel
theorem dX0_put_29 : decode cX0_put 29 = .ok (.aload_n 0, 1) := by decide +kernel
theorem dX0_put_30 : decode cX0_put 30 = .ok (.getfield 9, 3) := by decide +kernel
theorem dX0_put_33 : decode cX0_put 33 = .ok (.iload_n 1, 1) := by decide +kernel
theorem dX0_put_34 : decode cX0_put 34 = .ok (.iload_n 2, 1) := by decide +kernel
theorem dX0_put_35 : decode cX0_put 35 = .ok (.i2s, 1) := by decide +kernel
theorem dX0_put_36 : decode cX0_put 36 = .ok (.iastore, 1) := by decide +kernel
theorem dX0_put_37 : decode cX0_put 37 = .ok (.goto 10, 3) := by decide +kernel
theorem dX0_put_40 : decode cX0_put 40 = .ok (.aload_n 0, 1) := by decide +kernel
theorem dX0_put_41 : decode cX0_put 41 = .ok (.getfield 9, 3) := by decide +kernel
theorem dX0_put_44 : decode cX0_put 44 = .ok (.iload_n 1, 1) := by decide +kernel
theorem dX0_put_45 : decode cX0_put 45 = .ok (.iload_n 2, 1) := by decide +kernel
theorem dX0_put_46 : decode cX0_put 46 = .ok (.iastore, 1) := by decide +kernel
theorem dX0_put_47 : decode cX0_put 47 = .ok (.return_, 1) := by decide +kernel
theorem dX0_hasFrom_0 : decode cX0_hasFrom 0 = .ok (.iload_n 1, 1) := by decide +kernel
theorem dX0_hasFrom_1 : decode cX0_hasFrom 1 = .ok (.ifCond .lt 29, 3) := by decide +kernel
theorem dX0_hasFrom_4 : decode cX0_hasFrom 4 = .ok (.iload_n 2, 1) := by decide +kernel
theorem dX0_hasFrom_5 : decode cX0_hasFrom 5 = .ok (.ifCond .lt 25, 3) := by decide +kernel
theorem dX0_hasFrom_8 : decode cX0_hasFrom 8 = .ok (.iload_n 1, 1) := by decide +kernel
theorem dX0_hasFrom_9 : decode cX0_hasFrom 9 = .ok (.aload_n 0, 1) := by decide +kernel
theorem dX0_hasFrom_10 : decode cX0_hasFrom 10 = .ok (.getfield 19, 3) := by decide +kernel
theorem dX0_hasFrom_13 : decode cX0_hasFrom 13 = .ok (.if_icmp .gt 17, 3) := by decide +kernel
theorem dX0_hasFrom_16 : decode cX0_hasFrom 16 = .ok (.iload_n 2, 1) := by decide +kernel
theorem dX0_hasFrom_17 : decode cX0_hasFrom 17 = .ok (.aload_n 0, 1) := by decide +kernel
theorem dX0_hasFrom_18 : decode cX0_hasFrom 18 = .ok (.getfield 19, 3) := by decide +kernel
theorem dX0_hasFrom_21 : decode cX0_hasFrom 21 = .ok (.iload_n 1, 1) := by decide +kernel
theorem dX0_hasFrom_22 : decode cX0_hasFrom 22 = .ok (.isub, 1) := by decide +kernel
theorem dX0_hasFrom_23 : decode cX0_hasFrom 23 = .ok (.if_icmp .gt 7, 3) := by decide +kernel
theorem dX0_hasFrom_26 : decode cX0_hasFrom 26 = .ok (.iconst 1, 1) := by decide +kernel
theorem dX0_hasFrom_27 : decode cX0_hasFrom 27 = .ok (.goto 4, 3) := by decide +kernel
theorem dX0_hasFrom_30 : decode cX0_hasFrom 30 = .ok (.iconst 0, 1) := by decide +kernel
theorem dX0_hasFrom_31 : decode cX0_hasFrom 31 = .ok (.ireturn, 1) := by decide +kernel
theorem dX0_earsAreCells_0 : decode cX0_earsAreCells 0 = .ok (.iconst 0, 1) := by decide +kernel
theorem dX0_earsAreCells_1 : decode cX0_earsAreCells 1 = .ok (.istore_n 1, 1) := by decide +kernel
theorem dX0_earsAreCells_2 : decode cX0_earsAreCells 2 = .ok (.iload_n 1, 1) := by decide +kernel
theorem dX0_earsAreCells_3 : decode cX0_earsAreCells 3 = .ok (.iconst 1, 1) := by decide +kernel
theorem dX0_earsAreCells_4 : decode cX0_earsAreCells 4 = .ok (.iadd, 1) := by decide +kernel
theorem dX0_earsAreCells_5 : decode cX0_earsAreCells 5 = .ok (.aload_n 0, 1) := by decide +kernel
theorem dX0_earsAreCells_6 : decode cX0_earsAreCells 6 = .ok (.getfield 19, 3) := by decide +kernel
theorem dX0_earsAreCells_9 : decode cX0_earsAreCells 9 = .ok (.if_icmp .ge 23, 3) := by decide +kernel
theorem dX0_earsAreCells_12 : decode cX0_earsAreCells 12 = .ok (.aload_n 0, 1) := by decide +kernel
theorem dX0_earsAreCells_13 : decode cX0_earsAreCells 13 = .ok (.getfield 9, 3) := by decide +kernel
theorem dX0_earsAreCells_16 : decode cX0_earsAreCells 16 = .ok (.iload_n 1, 1) := by decide +kernel
theorem dX0_earsAreCells_17 : decode cX0_earsAreCells 17 = .ok (.iaload, 1) := by decide +kernel
theorem dX0_earsAreCells_18 : decode cX0_earsAreCells 18 = .ok (.invokestatic 22, 3) := by decide +kernel
theorem dX0_earsAreCells_21 : decode cX0_earsAreCells 21 = .ok (.ifCond .ne 5, 3) := by decide +kernel
theorem dX0_earsAreCells_24 : decode cX0_earsAreCells 24 = .ok (.iconst 0, 1) := by decide +kernel
theorem dX0_earsAreCells_25 : decode cX0_earsAreCells 25 = .ok (.ireturn, 1) := by decide +kernel
theorem dX0_earsAreCells_26 : decode cX0_earsAreCells 26 = .ok (.iinc 1 2, 3) := by decide +kernel
theorem dX0_earsAreCells_29 : decode cX0_earsAreCells 29 = .ok (.goto (-27), 3) := by decide +kernel
theorem dX0_earsAreCells_32 : decode cX0_earsAreCells 32 = .ok (.iconst 1, 1) := by decide +kernel
theorem dX0_earsAreCells_33 : decode cX0_earsAreCells 33 = .ok (.ireturn, 1) := by decide +kernel
theorem dX0_tellsLoud_0 : decode cX0_tellsLoud 0 = .ok (.iconst 0, 1) := by decide +kernel
theorem dX0_tellsLoud_1 : decode cX0_tellsLoud 1 = .ok (.istore_n 3, 1) := by decide +kernel
theorem dX0_tellsLoud_2 : decode cX0_tellsLoud 2 = .ok (.iload_n 3, 1) := by decide +kernel
theorem dX0_tellsLoud_3 : decode cX0_tellsLoud 3 = .ok (.iconst 1, 1) := by decide +kernel
theorem dX0_tellsLoud_4 : decode cX0_tellsLoud 4 = .ok (.iadd, 1) := by decide +kernel
theorem dX0_tellsLoud_5 : decode cX0_tellsLoud 5 = .ok (.aload_n 0, 1) := by decide +kernel
theorem dX0_tellsLoud_6 : decode cX0_tellsLoud 6 = .ok (.getfield 19, 3) := by decide +kernel
theorem dX0_tellsLoud_9 : decode cX0_tellsLoud 9 = .ok (.if_icmp .ge 36, 3) := by decide +kernel
theorem dX0_tellsLoud_12 : decode cX0_tellsLoud 12 = .ok (.iload_n 1, 1) := by decide +kernel
theorem dX0_tellsLoud_13 : decode cX0_tellsLoud 13 = .ok (.iload_n 2, 1) := by decide +kernel
theorem dX0_tellsLoud_14 : decode cX0_tellsLoud 14 = .ok (.aload_n 0, 1) := by decide +kernel
theorem dX0_tellsLoud_15 : decode cX0_tellsLoud 15 = .ok (.getfield 9, 3) := by decide +kernel
theorem dX0_tellsLoud_18 : decode cX0_tellsLoud 18 = .ok (.iload_n 3, 1) := by decide +kernel
theorem dX0_tellsLoud_19 : decode cX0_tellsLoud 19 = .ok (.iaload, 1) := by decide +kernel
theorem dX0_tellsLoud_20 : decode cX0_tellsLoud 20 = .ok (.invokestatic 26, 3) := by decide +kernel
theorem dX0_tellsLoud_23 : decode cX0_tellsLoud 23 = .ok (.invokestatic 30, 3) := by decide +kernel
theorem dX0_tellsLoud_26 : decode cX0_tellsLoud 26 = .ok (.aload_n 0, 1) := by decide +kernel
theorem dX0_tellsLoud_27 : decode cX0_tellsLoud 27 = .ok (.getfield 9, 3) := by decide +kernel
theorem dX0_tellsLoud_30 : decode cX0_tellsLoud 30 = .ok (.iload_n 3, 1) := by decide +kernel
theorem dX0_tellsLoud_31 : decode cX0_tellsLoud 31 = .ok (.iconst 1, 1) := by decide +kernel
theorem dX0_tellsLoud_32 : decode cX0_tellsLoud 32 = .ok (.iadd, 1) := by decide +kernel
theorem dX0_tellsLoud_33 : decode cX0_tellsLoud 33 = .ok (.iaload, 1) := by decide +kernel
theorem dX0_tellsLoud_34 : decode cX0_tellsLoud 34 = .ok (.if_icmp .eq 5, 3) := by decide +kernel
theorem dX0_tellsLoud_37 : decode cX0_tellsLoud 37 = .ok (.iconst 0, 1) := by decide +kernel
theorem dX0_tellsLoud_38 : decode cX0_tellsLoud 38 = .ok (.ireturn, 1) := by decide +kernel
theorem dX0_tellsLoud_39 : decode cX0_tellsLoud 39 = .ok (.iinc 3 2, 3) := by decide +kernel
theorem dX0_tellsLoud_42 : decode cX0_tellsLoud 42 = .ok (.goto (-40), 3) := by decide +kernel
theorem dX0_tellsLoud_45 : decode cX0_tellsLoud 45 = .ok (.iconst 1, 1) := by decide +kernel
theorem dX0_tellsLoud_46 : decode cX0_tellsLoud 46 = .ok (.ireturn, 1) := by decide +kernel
theorem dX1_init_0 : decode cX1_init 0 = .ok (.aload_n 0, 1) := by decide +kernel
theorem dX1_init_1 : decode cX1_init 1 = .ok (.invokespecial 3, 3) := by decide +kernel
theorem dX1_init_4 : decode cX1_init 4 = .ok (.aload_n 0, 1) := by decide +kernel
theorem dX1_init_5 : decode cX1_init 5 = .ok (.bipush 120, 2) := by decide +kernel
theorem dX1_init_7 : decode cX1_init 7 = .ok (.newarray .int, 2) := by decide +kernel
theorem dX1_init_9 : decode cX1_init 9 = .ok (.putfield 9, 3) := by decide +kernel
theorem dX1_init_12 : decode cX1_init 12 = .ok (.return_, 1) := by decide +kernel
theorem dX1_append_0 : decode cX1_append 0 = .ok (.aload_n 0, 1) := by decide +kernel
theorem dX1_append_1 : decode cX1_append 1 = .ok (.getfield 15, 3) := by decide +kernel
theorem dX1_append_4 : decode cX1_append 4 = .ok (.bipush 120, 2) := by decide +kernel
theorem dX1_append_6 : decode cX1_append 6 = .ok (.if_icmp .ge 27, 3) := by decide +kernel
theorem dX1_append_9 : decode cX1_append 9 = .ok (.aload_n 0, 1) := by decide +kernel
theorem dX1_append_10 : decode cX1_append 10 = .ok (.getfield 9, 3) := by decide +kernel
theorem dX1_append_13 : decode cX1_append 13 = .ok (.aload_n 0, 1) := by decide +kernel
theorem dX1_append_14 : decode cX1_append 14 = .ok (.getfield 15, 3) := by decide +kernel
theorem dX1_append_17 : decode cX1_append 17 = .ok (.iload_n 1, 1) := by decide +kernel
theorem dX1_append_18 : decode cX1_append 18 = .ok (.sipush 255, 3) := by decide +kernel
theorem dX1_append_21 : decode cX1_append 21 = .ok (.iand, 1) := by decide +kernel
theorem dX1_append_22 : decode cX1_append 22 = .ok (.iastore, 1) := by decide +kernel
theorem dX1_append_23 : decode cX1_append 23 = .ok (.aload_n 0, 1) := by decide +kernel
theorem dX1_append_24 : decode cX1_append 24 = .ok (.dup, 1) := by decide +kernel
theorem dX1_append_25 : decode cX1_append 25 = .ok (.getfield 15, 3) := by decide +kernel
theorem dX1_append_28 : decode cX1_append 28 = .ok (.iconst 1, 1) := by decide +kernel
theorem dX1_append_29 : decode cX1_append 29 = .ok (.iadd, 1) := by decide +kernel
theorem dX1_append_30 : decode cX1_append 30 = .ok (.putfield 15, 3) := by decide +kernel
theorem dX1_append_33 : decode cX1_append 33 = .ok (.return_, 1) := by decide +kernel
theorem dX1_readInto_0 : decode cX1_readInto 0 = .ok (.aload_n 0, 1) := by decide +kernel
theorem dX1_readInto_1 : decode cX1_readInto 1 = .ok (.iconst (-1), 1) := by decide +kernel
theorem dX1_readInto_2 : decode cX1_readInto 2 = .ok (.putfield 19, 3) := by decide +kernel
theorem dX1_readInto_5 : decode cX1_readInto 5 = .ok (.aload_n 0, 1) := by decide +kernel
theorem dX1_readInto_6 : decode cX1_readInto 6 = .ok (.iconst 0, 1) := by decide +kernel
theorem dX1_readInto_7 : decode cX1_readInto 7 = .ok (.putfield 22, 3) := by decide +kernel
theorem dX1_readInto_10 : decode cX1_readInto 10 = .ok (.aload_n 0, 1) := by decide +kernel
theorem dX1_readInto_11 : decode cX1_readInto 11 = .ok (.invokevirtual 25, 3) := by decide +kernel
theorem dX1_readInto_14 : decode cX1_readInto 14 = .ok (.iconst 0, 1) := by decide +kernel
theorem dX1_readInto_15 : decode cX1_readInto 15 = .ok (.istore_n 2, 1) := by decide +kernel
theorem dX1_readInto_16 : decode cX1_readInto 16 = .ok (.iconst 1, 1) := by decide +kernel
theorem dX1_readInto_17 : decode cX1_readInto 17 = .ok (.istore_n 3, 1) := by decide +kernel
theorem dX1_readInto_18 : decode cX1_readInto 18 = .ok (.iconst 0, 1) := by decide +kernel
theorem dX1_readInto_19 : decode cX1_readInto 19 = .ok (.istore 4, 2) := by decide +kernel
theorem dX1_readInto_21 : decode cX1_readInto 21 = .ok (.iload 4, 2) := by decide +kernel
theorem dX1_readInto_23 : decode cX1_readInto 23 = .ok (.bipush 120, 2) := by decide +kernel
theorem dX1_readInto_25 : decode cX1_readInto 25 = .ok (.if_icmp .gt 50, 3) := by decide +kernel
theorem dX1_readInto_28 : decode cX1_readInto 28 = .ok (.iload_n 3, 1) := by decide +kernel
theorem dX1_readInto_29 : decode cX1_readInto 29 = .ok (.ifCond .eq 46, 3) := by decide +kernel
theorem dX1_readInto_32 : decode cX1_readInto 32 = .ok (.aload_n 0, 1) := by decide +kernel
theorem dX1_readInto_33 : decode cX1_readInto 33 = .ok (.aload_n 1, 1) := by decide +kernel
theorem dX1_readInto_34 : decode cX1_readInto 34 = .ok (.invokevirtual 28, 3) := by decide +kernel
theorem dX1_readInto_37 : decode cX1_readInto 37 = .ok (.iinc 2 1, 3) := by decide +kernel
theorem dX1_readInto_40 : decode cX1_readInto 40 = .ok (.aload_n 0, 1) := by decide +kernel
theorem dX1_readInto_41 : decode cX1_readInto 41 = .ok (.getfield 19, 3) := by decide +kernel
theorem dX1_readInto_44 : decode cX1_readInto 44 = .ok (.ifCond .ge 15, 3) := by decide +kernel
theorem dX1_readInto_47 : decode cX1_readInto 47 = .ok (.aload_n 0, 1) := by decide +kernel
theorem dX1_readInto_48 : decode cX1_readInto 48 = .ok (.getfield 32, 3) := by decide +kernel
theorem dX1_readInto_51 : decode cX1_readInto 51 = .ok (.iconst 3, 1) := by decide +kernel
theorem dX1_readInto_52 : decode cX1_readInto 52 = .ok (.if_icmp .ne 7, 3) := by decide +kernel
theorem dX1_readInto_55 : decode cX1_readInto 55 = .ok (.iconst 1, 1) := by decide +kernel
theorem dX1_readInto_56 : decode cX1_readInto 56 = .ok (.goto 4, 3) := by decide +kernel
theorem dX1_readInto_59 : decode cX1_readInto 59 = .ok (.iconst 0, 1) := by decide +kernel
theorem dX1_readInto_60 : decode cX1_readInto 60 = .ok (.istore_n 3, 1) := by decide +kernel
theorem dX1_readInto_61 : decode cX1_readInto 61 = .ok (.iload_n 3, 1) := by decide +kernel
theorem dX1_readInto_62 : decode cX1_readInto 62 = .ok (.ifCond .eq 7, 3) := by decide +kernel
theorem dX1_readInto_65 : decode cX1_readInto 65 = .ok (.aload_n 0, 1) := by decide +kernel
theorem dX1_readInto_66 : decode cX1_readInto 66 = .ok (.invokevirtual 25, 3) := by decide +kernel
theorem dX1_readInto_69 : decode cX1_readInto 69 = .ok (.iinc 4 1, 3) := by decide +kernel
theorem dX1_readInto_72 : decode cX1_readInto 72 = .ok (.goto (-51), 3) := by decide +kernel
theorem dX1_readInto_75 : decode cX1_readInto 75 = .ok (.aload_n 0, 1) := by decide +kernel
theorem dX1_readInto_76 : decode cX1_readInto 76 = .ok (.getfield 19, 3) := by decide +kernel
theorem dX1_readInto_79 : decode cX1_readInto 79 = .ok (.ifCond .ge 18, 3) := by decide +kernel
theorem dX1_readInto_82 : decode cX1_readInto 82 = .ok (.aload_n 0, 1) := by decide +kernel
theorem dX1_readInto_83 : decode cX1_readInto 83 = .ok (.getfield 32, 3) := by decide +kernel
theorem dX1_readInto_86 : decode cX1_readInto 86 = .ok (.ifCond .eq 11, 3) := by decide +kernel
theorem dX1_readInto_89 : decode cX1_readInto 89 = .ok (.aload_n 0, 1) := by decide +kernel
theorem dX1_readInto_90 : decode cX1_readInto 90 = .ok (.aload_n 0, 1) := by decide +kernel
theorem dX1_readInto_91 : decode cX1_readInto 91 = .ok (.getfield 35, 3) := by decide +kernel
theorem dX1_readInto_94 : decode cX1_readInto 94 = .ok (.putfield 19, 3) := by decide +kernel
theorem dX1_readInto_97 : decode cX1_readInto 97 = .ok (.aload_n 0, 1) := by decide +kernel
theorem dX1_readInto_98 : decode cX1_readInto 98 = .ok (.getfield 19, 3) := by decide +kernel
theorem dX1_readInto_101 : decode cX1_readInto 101 = .ok (.ifCond .ge 7, 3) := by decide +kernel
theorem dX1_readInto_104 : decode cX1_readInto 104 = .ok (.iload_n 2, 1) := by decide +kernel
theorem dX1_readInto_105 : decode cX1_readInto 105 = .ok (.goto 9, 3) := by decide +kernel
theorem dX1_readInto_108 : decode cX1_readInto 108 = .ok (.iconst (-1), 1) := by decide +kernel
theorem dX1_readInto_109 : decode cX1_readInto 109 = .ok (.aload_n 0, 1) := by decide +kernel
theorem dX1_readInto_110 : decode cX1_readInto 110 = .ok (.getfield 19, 3) := by decide +kernel
theorem dX1_readInto_113 : decode cX1_readInto 113 = .ok (.isub, 1) := by decide +kernel
theorem dX1_readInto_114 : decode cX1_readInto 114 = .ok (.ireturn, 1) := by decide +kernel
theorem dX1_advance_0 : decode cX1_advance 0 = .ok (.aload_n 0, 1) := by decide +kernel
theorem dX1_advance_1 : decode cX1_advance 1 = .ok (.aload_n 0, 1) := by decide +kernel
theorem dX1_advance_2 : decode cX1_advance 2 = .ok (.getfield 22, 3) := by decide +kernel
theorem dX1_advance_5 : decode cX1_advance 5 = .ok (.putfield 35, 3) := by decide +kernel
theorem dX1_advance_8 : decode cX1_advance 8 = .ok (.aload_n 0, 1) := by decide +kernel
theorem dX1_advance_9 : decode cX1_advance 9 = .ok (.getfield 35, 3) := by decide +kernel
theorem dX1_advance_12 : decode cX1_advance 12 = .ok (.aload_n 0, 1) := by decide +kernel
theorem dX1_advance_13 : decode cX1_advance 13 = .ok (.getfield 15, 3) := by decide +kernel
theorem dX1_advance_16 : decode cX1_advance 16 = .ok (.if_icmp .ge 30, 3) := by decide +kernel
theorem dX1_advance_19 : decode cX1_advance 19 = .ok (.aload_n 0, 1) := by decide +kernel
theorem dX1_advance_20 : decode cX1_advance 20 = .ok (.getfield 9, 3) := by decide +kernel
theorem dX1_advance_23 : decode cX1_advance 23 = .ok (.aload_n 0, 1) := by decide +kernel
theorem dX1_advance_24 : decode cX1_advance 24 = .ok (.getfield 35, 3) := by decide +kernel
theorem dX1_advance_27 : decode cX1_advance 27 = .ok (.iaload, 1) := by decide +kernel
theorem dX1_advance_28 : decode cX1_advance 28 = .ok (.bipush 32, 2) := by decide +kernel
theorem dX1_advance_30 : decode cX1_advance 30 = .ok (.if_icmp .ne 16, 3) := by decide +kernel
theorem dX1_advance_33 : decode cX1_advance 33 = .ok (.aload_n 0, 1) := by decide +kernel
theorem dX1_advance_34 : decode cX1_advance 34 = .ok (.dup, 1) := by decide +kernel
theorem dX1_advance_35 : decode cX1_advance 35 = .ok (.getfield 35, 3) := by decide +kernel
theorem dX1_advance_38 : decode cX1_advance 38 = .ok (.iconst 1, 1) := by decide +kernel
theorem dX1_advance_39 : decode cX1_advance 39 = .ok (.iadd, 1) := by decide +kernel
theorem dX1_advance_40 : decode cX1_advance 40 = .ok (.putfield 35, 3) := by decide +kernel
theorem dX1_advance_43 : decode cX1_advance 43 = .ok (.goto (-35), 3) := by decide +kernel
theorem dX1_advance_46 : decode cX1_advance 46 = .ok (.aload_n 0, 1) := by decide +kernel
theorem dX1_advance_47 : decode cX1_advance 47 = .ok (.aload_n 0, 1) := by decide +kernel
theorem dX1_advance_48 : decode cX1_advance 48 = .ok (.getfield 35, 3) := by decide +kernel
theorem dX1_advance_51 : decode cX1_advance 51 = .ok (.putfield 22, 3) := by decide +kernel
theorem dX1_advance_54 : decode cX1_advance 54 = .ok (.aload_n 0, 1) := by decide +kernel
theorem dX1_advance_55 : decode cX1_advance 55 = .ok (.getfield 35, 3) := by decide +kernel
theorem dX1_advance_58 : decode cX1_advance 58 = .ok (.aload_n 0, 1) := by decide +kernel
theorem dX1_advance_59 : decode cX1_advance 59 = .ok (.getfield 15, 3) := by decide +kernel
theorem dX1_advance_62 : decode cX1_advance 62 = .ok (.if_icmp .ge 15, 3) := by decide +kernel
theorem dX1_advance_65 : decode cX1_advance 65 = .ok (.aload_n 0, 1) := by decide +kernel
theorem dX1_advance_66 : decode cX1_advance 66 = .ok (.getfield 9, 3) := by decide +kernel
theorem dX1_advance_69 : decode cX1_advance 69 = .ok (.aload_n 0, 1) := by decide +kernel
theorem dX1_advance_70 : decode cX1_advance 70 = .ok (.getfield 35, 3) := by decide +kernel
theorem dX1_advance_73 : decode cX1_advance 73 = .ok (.iaload, 1) := by decide +kernel
theorem dX1_advance_74 : decode cX1_advance 74 = .ok (.goto 4, 3) := by decide +kernel
theorem dX1_advance_77 : decode cX1_advance 77 = .ok (.iconst (-1), 1) := by decide +kernel
theorem dX1_advance_78 : decode cX1_advance 78 = .ok (.istore_n 1, 1) := by decide +kernel
theorem dX1_advance_79 : decode cX1_advance 79 = .ok (.iload_n 1, 1) := by decide +kernel
theorem dX1_advance_80 : decode cX1_advance 80 = .ok (.ifCond .ge 11, 3) := by decide +kernel
theorem dX1_advance_83 : decode cX1_advance 83 = .ok (.aload_n 0, 1) := by decide +kernel
theorem dX1_advance_84 : decode cX1_advance 84 = .ok (.iconst 0, 1) := by decide +kernel
theorem dX1_advance_85 : decode cX1_advance 85 = .ok (.putfield 32, 3) := by decide +kernel
theorem dX1_advance_88 : decode cX1_advance 88 = .ok (.goto 211, 3) := by decide +kernel
theorem dX1_advance_91 : decode cX1_advance 91 = .ok (.iload_n 1, 1) := by decide +kernel
theorem dX1_advance_92 : decode cX1_advance 92 = .ok (.bipush 97, 2) := by decide +kernel
theorem dX1_advance_94 : decode cX1_advance 94 = .ok (.if_icmp .lt 66, 3) := by decide +kernel
theorem dX1_advance_97 : decode cX1_advance 97 = .ok (.iload_n 1, 1) := by decide +kernel
theorem dX1_advance_98 : decode cX1_advance 98 = .ok (.bipush 122, 2) := by decide +kernel
theorem dX1_advance_100 : decode cX1_advance 100 = .ok (.if_icmp .gt 60, 3) := by decide +kernel
theorem dX1_advance_103 : decode cX1_advance 103 = .ok (.aload_n 0, 1) := by decide +kernel
theorem dX1_advance_104 : decode cX1_advance 104 = .ok (.iconst 1, 1) := by decide +kernel
theorem dX1_advance_105 : decode cX1_advance 105 = .ok (.putfield 32, 3) := by decide +kernel
theorem dX1_advance_108 : decode cX1_advance 108 = .ok (.aload_n 0, 1) := by decide +kernel
theorem dX1_advance_109 : decode cX1_advance 109 = .ok (.getfield 22, 3) := by decide +kernel
theorem dX1_advance_112 : decode cX1_advance 112 = .ok (.aload_n 0, 1) := by decide +kernel
theorem dX1_advance_113 : decode cX1_advance 113 = .ok (.getfield 15, 3) := by decide +kernel
theorem dX1_advance_116 : decode cX1_advance 116 = .ok (.if_icmp .ge 183, 3) := by decide +kernel
theorem dX1_advance_119 : decode cX1_advance 119 = .ok (.aload_n 0, 1) := by decide +kernel
theorem dX1_advance_120 : decode cX1_advance 120 = .ok (.getfield 9, 3) := by decide +kernel
theorem dX1_advance_123 : decode cX1_advance 123 = .ok (.aload_n 0, 1) := by decide +kernel
theorem dX1_advance_124 : decode cX1_advance 124 = .ok (.getfield 22, 3) := by decide +kernel
theorem dX1_advance_127 : decode cX1_advance 127 = .ok (.iaload, 1) := by decide +kernel
theorem dX1_advance_128 : decode cX1_advance 128 = .ok (.bipush 97, 2) := by decide +kernel
theorem dX1_advance_130 : decode cX1_advance 130 = .ok (.if_icmp .lt 169, 3) := by decide +kernel
theorem dX1_advance_133 : decode cX1_advance 133 = .ok (.aload_n 0, 1) := by decide +kernel
theorem dX1_advance_134 : decode cX1_advance 134 = .ok (.getfield 9, 3) := by decide +kernel
theorem dX1_advance_137 : decode cX1_advance 137 = .ok (.aload_n 0, 1) := by decide +kernel
theorem dX1_advance_138 : decode cX1_advance 138 = .ok (.getfield 22, 3) := by decide +kernel
theorem dX1_advance_141 : decode cX1_advance 141 = .ok (.iaload, 1) := by decide +kernel
theorem dX1_advance_142 : decode cX1_advance 142 = .ok (.bipush 122, 2) := by decide +kernel
theorem dX1_advance_144 : decode cX1_advance 144 = .ok (.if_icmp .gt 155, 3) := by decide +kernel
theorem dX1_advance_147 : decode cX1_advance 147 = .ok (.aload_n 0, 1) := by decide +kernel
theorem dX1_advance_148 : decode cX1_advance 148 = .ok (.dup, 1) := by decide +kernel
theorem dX1_advance_149 : decode cX1_advance 149 = .ok (.getfield 22, 3) := by decide +kernel
theorem dX1_advance_152 : decode cX1_advance 152 = .ok (.iconst 1, 1) := by decide +kernel
theorem dX1_advance_153 : decode cX1_advance 153 = .ok (.iadd, 1) := by decide +kernel
theorem dX1_advance_154 : decode cX1_advance 154 = .ok (.putfield 22, 3) := by decide +kernel
theorem dX1_advance_157 : decode cX1_advance 157 = .ok (.goto (-49), 3) := by decide +kernel
theorem dX1_advance_160 : decode cX1_advance 160 = .ok (.iload_n 1, 1) := by decide +kernel
theorem dX1_advance_161 : decode cX1_advance 161 = .ok (.bipush 48, 2) := by decide +kernel
theorem dX1_advance_163 : decode cX1_advance 163 = .ok (.if_icmp .lt 111, 3) := by decide +kernel
theorem dX1_advance_166 : decode cX1_advance 166 = .ok (.iload_n 1, 1) := by decide +kernel
theorem dX1_advance_167 : decode cX1_advance 167 = .ok (.bipush 57, 2) := by decide +kernel
theorem dX1_advance_169 : decode cX1_advance 169 = .ok (.if_icmp .gt 105, 3) := by decide +kernel
theorem dX1_advance_172 : decode cX1_advance 172 = .ok (.aload_n 0, 1) := by decide +kernel
theorem dX1_advance_173 : decode cX1_advance 173 = .ok (.iconst 2, 1) := by decide +kernel
theorem dX1_advance_174 : decode cX1_advance 174 = .ok (.putfield 32, 3) := by decide +kernel
theorem dX1_advance_177 : decode cX1_advance 177 = .ok (.aload_n 0, 1) := by decide +kernel
theorem dX1_advance_178 : decode cX1_advance 178 = .ok (.iconst 0, 1) := by decide +kernel
theorem dX1_advance_179 : decode cX1_advance 179 = .ok (.putfield 38, 3) := by decide +kernel
theorem dX1_advance_182 : decode cX1_advance 182 = .ok (.aload_n 0, 1) := by decide +kernel
theorem dX1_advance_183 : decode cX1_advance 183 = .ok (.getfield 22, 3) := by decide +kernel
theorem dX1_advance_186 : decode cX1_advance 186 = .ok (.aload_n 0, 1) := by decide +kernel
theorem dX1_advance_187 : decode cX1_advance 187 = .ok (.getfield 15, 3) := by decide +kernel
theorem dX1_advance_190 : decode cX1_advance 190 = .ok (.if_icmp .ge 109, 3) := by decide +kernel
theorem dX1_advance_193 : decode cX1_advance 193 = .ok (.aload_n 0, 1) := by decide +kernel
theorem dX1_advance_194 : decode cX1_advance 194 = .ok (.getfield 9, 3) := by decide +kernel
theorem dX1_advance_197 : decode cX1_advance 197 = .ok (.aload_n 0, 1) := by decide +kernel
theorem dX1_advance_198 : decode cX1_advance 198 = .ok (.getfield 22, 3) := by decide +kernel
theorem dX1_advance_201 : decode cX1_advance 201 = .ok (.iaload, 1) := by decide +kernel
theorem dX1_advance_202 : decode cX1_advance 202 = .ok (.bipush 48, 2) := by decide +kernel
theorem dX1_advance_204 : decode cX1_advance 204 = .ok (.if_icmp .lt 95, 3) := by decide +kernel
theorem dX1_advance_207 : decode cX1_advance 207 = .ok (.aload_n 0, 1) := by decide +kernel
theorem dX1_advance_208 : decode cX1_advance 208 = .ok (.getfield 9, 3) := by decide +kernel
theorem dX1_advance_211 : decode cX1_advance 211 = .ok (.aload_n 0, 1) := by decide +kernel
theorem dX1_advance_212 : decode cX1_advance 212 = .ok (.getfield 22, 3) := by decide +kernel
theorem dX1_advance_215 : decode cX1_advance 215 = .ok (.iaload, 1) := by decide +kernel
theorem dX1_advance_216 : decode cX1_advance 216 = .ok (.bipush 57, 2) := by decide +kernel
theorem dX1_advance_218 : decode cX1_advance 218 = .ok (.if_icmp .gt 81, 3) := by decide +kernel
theorem dX1_advance_221 : decode cX1_advance 221 = .ok (.aload_n 0, 1) := by decide +kernel
theorem dX1_advance_222 : decode cX1_advance 222 = .ok (.aload_n 0, 1) := by decide +kernel
theorem dX1_advance_223 : decode cX1_advance 223 = .ok (.getfield 38, 3) := by decide +kernel
theorem dX1_advance_226 : decode cX1_advance 226 = .ok (.sipush 1000, 3) := by decide +kernel
theorem dX1_advance_229 : decode cX1_advance 229 = .ok (.if_icmp .ge 26, 3) := by decide +kernel
theorem dX1_advance_232 : decode cX1_advance 232 = .ok (.aload_n 0, 1) := by decide +kernel
theorem dX1_advance_233 : decode cX1_advance 233 = .ok (.getfield 38, 3) := by decide +kernel
theorem dX1_advance_236 : decode cX1_advance 236 = .ok (.bipush 10, 2) := by decide +kernel
theorem dX1_advance_238 : decode cX1_advance 238 = .ok (.imul, 1) := by decide +kernel
theorem dX1_advance_239 : decode cX1_advance 239 = .ok (.aload_n 0, 1) := by decide +kernel
theorem dX1_advance_240 : decode cX1_advance 240 = .ok (.getfield 9, 3) := by decide +kernel
theorem dX1_advance_243 : decode cX1_advance 243 = .ok (.aload_n 0, 1) := by decide +kernel
theorem dX1_advance_244 : decode cX1_advance 244 = .ok (.getfield 22, 3) := by decide +kernel
theorem dX1_advance_247 : decode cX1_advance 247 = .ok (.iaload, 1) := by decide +kernel
theorem dX1_advance_248 : decode cX1_advance 248 = .ok (.iadd, 1) := by decide +kernel
theorem dX1_advance_249 : decode cX1_advance 249 = .ok (.bipush 48, 2) := by decide +kernel
theorem dX1_advance_251 : decode cX1_advance 251 = .ok (.isub, 1) := by decide +kernel
theorem dX1_advance_252 : decode cX1_advance 252 = .ok (.goto 6, 3) := by decide +kernel
theorem dX1_advance_255 : decode cX1_advance 255 = .ok (.sipush 1000, 3) := by decide +kernel
theorem dX1_advance_258 : decode cX1_advance 258 = .ok (.putfield 38, 3) := by decide +kernel
theorem dX1_advance_261 : decode cX1_advance 261 = .ok (.aload_n 0, 1) := by decide +kernel
theorem dX1_advance_262 : decode cX1_advance 262 = .ok (.dup, 1) := by decide +kernel
theorem dX1_advance_263 : decode cX1_advance 263 = .ok (.getfield 22, 3) := by decide +kernel
theorem dX1_advance_266 : decode cX1_advance 266 = .ok (.iconst 1, 1) := by decide +kernel
theorem dX1_advance_267 : decode cX1_advance 267 = .ok (.iadd, 1) := by decide +kernel
theorem dX1_advance_268 : decode cX1_advance 268 = .ok (.putfield 22, 3) := by decide +kernel
theorem dX1_advance_271 : decode cX1_advance 271 = .ok (.goto (-89), 3) := by decide +kernel
theorem dX1_advance_274 : decode cX1_advance 274 = .ok (.aload_n 0, 1) := by decide +kernel
theorem dX1_advance_275 : decode cX1_advance 275 = .ok (.iload_n 1, 1) := by decide +kernel
theorem dX1_advance_276 : decode cX1_advance 276 = .ok (.bipush 59, 2) := by decide +kernel
theorem dX1_advance_278 : decode cX1_advance 278 = .ok (.if_icmp .ne 7, 3) := by decide +kernel
theorem dX1_advance_281 : decode cX1_advance 281 = .ok (.iconst 3, 1) := by decide +kernel
theorem dX1_advance_282 : decode cX1_advance 282 = .ok (.goto 4, 3) := by decide +kernel
theorem dX1_advance_285 : decode cX1_advance 285 = .ok (.iconst 4, 1) := by decide +kernel
theorem dX1_advance_286 : decode cX1_advance 286 = .ok (.putfield 32, 3) := by decide +kernel
theorem dX1_advance_289 : decode cX1_advance 289 = .ok (.aload_n 0, 1) := by decide +kernel
theorem dX1_advance_290 : decode cX1_advance 290 = .ok (.dup, 1) := by decide +kernel
theorem dX1_advance_291 : decode cX1_advance 291 = .ok (.getfield 22, 3) := by decide +kernel
theorem dX1_advance_294 : decode cX1_advance 294 = .ok (.iconst 1, 1) := by decide +kernel
theorem dX1_advance_295 : decode cX1_advance 295 = .ok (.iadd, 1) := by decide +kernel
theorem dX1_advance_296 : decode cX1_advance 296 = .ok (.putfield 22, 3) := by decide +kernel
theorem dX1_advance_299 : decode cX1_advance 299 = .ok (.return_, 1) := by decide +kernel
theorem dX1_isWord_0 : decode cX1_isWord 0 = .ok (.aload_n 0, 1) := by decide +kernel
theorem dX1_isWord_1 : decode cX1_isWord 1 = .ok (.getfield 32, 3) := by decide +kernel
theorem dX1_isWord_4 : decode cX1_isWord 4 = .ok (.iconst 1, 1) := by decide +kernel
theorem dX1_isWord_5 : decode cX1_isWord 5 = .ok (.if_icmp .ne 19, 3) := by decide +kernel
theorem dX1_isWord_8 : decode cX1_isWord 8 = .ok (.aload_n 0, 1) := by decide +kernel
theorem dX1_isWord_9 : decode cX1_isWord 9 = .ok (.getfield 22, 3) := by decide +kernel
theorem dX1_isWord_12 : decode cX1_isWord 12 = .ok (.aload_n 0, 1) := by decide +kernel
theorem dX1_isWord_13 : decode cX1_isWord 13 = .ok (.getfield 35, 3) := by decide +kernel
theorem dX1_isWord_16 : decode cX1_isWord 16 = .ok (.isub, 1) := by decide +kernel
theorem dX1_isWord_17 : decode cX1_isWord 17 = .ok (.aload_n 1, 1) := by decide +kernel
theorem dX1_isWord_18 : decode cX1_isWord 18 = .ok (.invokevirtual 41, 3) := by decide +kernel
theorem dX1_isWord_21 : decode cX1_isWord 21 = .ok (.if_icmp .eq 5, 3) := by decide +kernel
theorem dX1_isWord_24 : decode cX1_isWord 24 = .ok (.iconst 0, 1) := by decide +kernel
theorem dX1_isWord_25 : decode cX1_isWord 25 = .ok (.ireturn, 1) := by decide +kernel
theorem dX1_isWord_26 : decode cX1_isWord 26 = .ok (.iconst 0, 1) := by decide +kernel
theorem dX1_isWord_27 : decode cX1_isWord 27 = .ok (.istore_n 2, 1) := by decide +kernel
theorem dX1_isWord_28 : decode cX1_isWord 28 = .ok (.iload_n 2, 1) := by decide +kernel
theorem dX1_isWord_29 : decode cX1_isWord 29 = .ok (.aload_n 1, 1) := by decide +kernel
theorem dX1_isWord_30 : decode cX1_isWord 30 = .ok (.invokevirtual 41, 3) := by decide +kernel
theorem dX1_isWord_33 : decode cX1_isWord 33 = .ok (.if_icmp .ge 30, 3) := by decide +kernel
theorem dX1_isWord_36 : decode cX1_isWord 36 = .ok (.aload_n 0, 1) := by decide +kernel
theorem dX1_isWord_37 : decode cX1_isWord 37 = .ok (.getfield 9, 3) := by decide +kernel
theorem dX1_isWord_40 : decode cX1_isWord 40 = .ok (.aload_n 0, 1) := by decide +kernel
theorem dX1_isWord_41 : decode cX1_isWord 41 = .ok (.getfield 35, 3) := by decide +kernel
theorem dX1_isWord_44 : decode cX1_isWord 44 = .ok (.iload_n 2, 1) := by decide +kernel
theorem dX1_isWord_45 : decode cX1_isWord 45 = .ok (.iadd, 1) := by decide +kernel
theorem dX1_isWord_46 : decode cX1_isWord 46 = .ok (.iaload, 1) := by decide +kernel
theorem dX1_isWord_47 : decode cX1_isWord 47 = .ok (.aload_n 1, 1) := by decide +kernel
theorem dX1_isWord_48 : decode cX1_isWord 48 = .ok (.iload_n 2, 1) := by decide +kernel
theorem dX1_isWord_49 : decode cX1_isWord 49 = .ok (.invokevirtual 47, 3) := by decide +kernel
theorem dX1_isWord_52 : decode cX1_isWord 52 = .ok (.if_icmp .eq 5, 3) := by decide +kernel
theorem dX1_isWord_55 : decode cX1_isWord 55 = .ok (.iconst 0, 1) := by decide +kernel
theorem dX1_isWord_56 : decode cX1_isWord 56 = .ok (.ireturn, 1) := by decide +kernel
theorem dX1_isWord_57 : decode cX1_isWord 57 = .ok (.iinc 2 1, 3) := by decide +kernel
theorem dX1_isWord_60 : decode cX1_isWord 60 = .ok (.goto (-32), 3) := by decide +kernel
theorem dX1_isWord_63 : decode cX1_isWord 63 = .ok (.iconst 1, 1) := by decide +kernel
theorem dX1_isWord_64 : decode cX1_isWord 64 = .ok (.ireturn, 1) := by decide +kernel
theorem dX1_readItem_0 : decode cX1_readItem 0 = .ok (.aload_n 0, 1) := by decide +kernel
theorem dX1_readItem_1 : decode cX1_readItem 1 = .ok (.invokevirtual 51, 3) := by decide +kernel
theorem dX1_readItem_4 : decode cX1_readItem 4 = .ok (.istore_n 2, 1) := by decide +kernel
theorem dX1_readItem_5 : decode cX1_readItem 5 = .ok (.iload_n 2, 1) := by decide +kernel
theorem dX1_readItem_6 : decode cX1_readItem 6 = .ok (.ifCond .lt 12, 3) := by decide +kernel
theorem dX1_readItem_9 : decode cX1_readItem 9 = .ok (.aload_n 0, 1) := by decide +kernel
theorem dX1_readItem_10 : decode cX1_readItem 10 = .ok (.aload_n 1, 1) := by decide +kernel
theorem dX1_readItem_11 : decode cX1_readItem 11 = .ok (.iload_n 2, 1) := by decide +kernel
theorem dX1_readItem_12 : decode cX1_readItem 12 = .ok (.invokevirtual 54, 3) := by decide +kernel
theorem dX1_readItem_15 : decode cX1_readItem 15 = .ok (.goto 79, 3) := by decide +kernel
theorem dX1_readItem_18 : decode cX1_readItem 18 = .ok (.aload_n 0, 1) := by decide +kernel
theorem dX1_readItem_19 : decode cX1_readItem 19 = .ok (.ldc 58, 2) := by decide +kernel
theorem dX1_readItem_21 : decode cX1_readItem 21 = .ok (.invokevirtual 60, 3) := by decide +kernel
theorem dX1_readItem_24 : decode cX1_readItem 24 = .ok (.ifCond .eq 11, 3) := by decide +kernel
theorem dX1_readItem_27 : decode cX1_readItem 27 = .ok (.aload_n 0, 1) := by decide +kernel
theorem dX1_readItem_28 : decode cX1_readItem 28 = .ok (.aload_n 1, 1) := by decide +kernel
theorem dX1_readItem_29 : decode cX1_readItem 29 = .ok (.invokevirtual 64, 3) := by decide +kernel
theorem dX1_readItem_32 : decode cX1_readItem 32 = .ok (.goto 62, 3) := by decide +kernel
theorem dX1_readItem_35 : decode cX1_readItem 35 = .ok (.aload_n 0, 1) := by decide +kernel
theorem dX1_readItem_36 : decode cX1_readItem 36 = .ok (.ldc 67, 2) := by decide +kernel
theorem dX1_readItem_38 : decode cX1_readItem 38 = .ok (.invokevirtual 60, 3) := by decide +kernel
theorem dX1_readItem_41 : decode cX1_readItem 41 = .ok (.ifCond .eq 11, 3) := by decide +kernel
theorem dX1_readItem_44 : decode cX1_readItem 44 = .ok (.aload_n 0, 1) := by decide +kernel
theorem dX1_readItem_45 : decode cX1_readItem 45 = .ok (.aload_n 1, 1) := by decide +kernel
theorem dX1_readItem_46 : decode cX1_readItem 46 = .ok (.invokevirtual 69, 3) := by decide +kernel
theorem dX1_readItem_49 : decode cX1_readItem 49 = .ok (.goto 45, 3) := by decide +kernel
theorem dX1_readItem_52 : decode cX1_readItem 52 = .ok (.aload_n 0, 1) := by decide +kernel
theorem dX1_readItem_53 : decode cX1_readItem 53 = .ok (.ldc 72, 2) := by decide +kernel
theorem dX1_readItem_55 : decode cX1_readItem 55 = .ok (.invokevirtual 60, 3) := by decide +kernel
theorem dX1_readItem_58 : decode cX1_readItem 58 = .ok (.ifCond .eq 11, 3) := by decide +kernel
theorem dX1_readItem_61 : decode cX1_readItem 61 = .ok (.aload_n 0, 1) := by decide +kernel
theorem dX1_readItem_62 : decode cX1_readItem 62 = .ok (.aload_n 1, 1) := by decide +kernel
theorem dX1_readItem_63 : decode cX1_readItem 63 = .ok (.invokevirtual 74, 3) := by decide +kernel
theorem dX1_readItem_66 : decode cX1_readItem 66 = .ok (.goto 28, 3) := by decide +kernel
theorem dX1_readItem_69 : decode cX1_readItem 69 = .ok (.aload_n 0, 1) := by decide +kernel
theorem dX1_readItem_70 : decode cX1_readItem 70 = .ok (.ldc 77, 2) := by decide +kernel
theorem dX1_readItem_72 : decode cX1_readItem 72 = .ok (.invokevirtual 60, 3) := by decide +kernel
theorem dX1_readItem_75 : decode cX1_readItem 75 = .ok (.ifCond .eq 11, 3) := by decide +kernel
theorem dX1_readItem_78 : decode cX1_readItem 78 = .ok (.aload_n 0, 1) := by decide +kernel
theorem dX1_readItem_79 : decode cX1_readItem 79 = .ok (.aload_n 1, 1) := by decide +kernel
theorem dX1_readItem_80 : decode cX1_readItem 80 = .ok (.invokevirtual 79, 3) := by decide +kernel
theorem dX1_readItem_83 : decode cX1_readItem 83 = .ok (.goto 11, 3) := by decide +kernel
theorem dX1_readItem_86 : decode cX1_readItem 86 = .ok (.aload_n 0, 1) := by decide +kernel
theorem dX1_readItem_87 : decode cX1_readItem 87 = .ok (.aload_n 0, 1) := by decide +kernel
theorem dX1_readItem_88 : decode cX1_readItem 88 = .ok (.getfield 35, 3) := by decide +kernel
theorem dX1_readItem_91 : decode cX1_readItem 91 = .ok (.putfield 19, 3) := by decide +kernel
theorem dX1_readItem_94 : decode cX1_readItem 94 = .ok (.return_, 1) := by decide +kernel
theorem dX1_kindOfWord_0 : decode cX1_kindOfWord 0 = .ok (.iconst 0, 1) := by decide +kernel
theorem dX1_kindOfWord_1 : decode cX1_kindOfWord 1 = .ok (.istore_n 1, 1) := by decide +kernel
theorem dX1_kindOfWord_2 : decode cX1_kindOfWord 2 = .ok (.iload_n 1, 1) := by decide +kernel
theorem dX1_kindOfWord_3 : decode cX1_kindOfWord 3 = .ok (.bipush 7, 2) := by decide +kernel
theorem dX1_kindOfWord_5 : decode cX1_kindOfWord 5 = .ok (.if_icmp .ge 22, 3) := by decide +kernel
theorem dX1_kindOfWord_8 : decode cX1_kindOfWord 8 = .ok (.aload_n 0, 1) := by decide +kernel
theorem dX1_kindOfWord_9 : decode cX1_kindOfWord 9 = .ok (.iload_n 1, 1) := by decide +kernel
theorem dX1_kindOfWord_10 : decode cX1_kindOfWord 10 = .ok (.invokestatic 82, 3) := by decide +kernel
theorem dX1_kindOfWord_13 : decode cX1_kindOfWord 13 = .ok (.invokevirtual 60, 3) := by decide +kernel
theorem dX1_kindOfWord_16 : decode cX1_kindOfWord 16 = .ok (.ifCond .eq 5, 3) := by decide +kernel
theorem dX1_kindOfWord_19 : decode cX1_kindOfWord 19 = .ok (.iload_n 1, 1) := by decide +kernel
theorem dX1_kindOfWord_20 : decode cX1_kindOfWord 20 = .ok (.ireturn, 1) := by decide +kernel
theorem dX1_kindOfWord_21 : decode cX1_kindOfWord 21 = .ok (.iinc 1 1, 3) := by decide +kernel
theorem dX1_kindOfWord_24 : decode cX1_kindOfWord 24 = .ok (.goto (-22), 3) := by decide +kernel
theorem dX1_kindOfWord_27 : decode cX1_kindOfWord 27 = .ok (.iconst (-1), 1) := by decide +kernel
theorem dX1_kindOfWord_28 : decode cX1_kindOfWord 28 = .ok (.ireturn, 1) := by decide +kernel
theorem dX1_wordOfKind_0 : decode cX1_wordOfKind 0 = .ok (.iload_n 0, 1) := by decide +kernel
theorem dX1_wordOfKind_1 : decode cX1_wordOfKind 1 = .ok (.tableswitch 57 1 6 #[39, 42, 45, 48, 51, 54], 39) := by decide +kernel
theorem dX1_wordOfKind_40 : decode cX1_wordOfKind 40 = .ok (.ldc 86, 2) := by decide +kernel
theorem dX1_wordOfKind_42 : decode cX1_wordOfKind 42 = .ok (.areturn, 1) := by decide +kernel
theorem dX1_wordOfKind_43 : decode cX1_wordOfKind 43 = .ok (.ldc 88, 2) := by decide +kernel
theorem dX1_wordOfKind_45 : decode cX1_wordOfKind 45 = .ok (.areturn, 1) := by decide +kernel
theorem dX1_wordOfKind_46 : decode cX1_wordOfKind 46 = .ok (.ldc 90, 2) := by decide +kernel
theorem dX1_wordOfKind_48 : decode cX1_wordOfKind 48 = .ok (.areturn, 1) := by decide +kernel
theorem dX1_wordOfKind_49 : decode cX1_wordOfKind 49 = .ok (.ldc 92, 2) := by decide +kernel
theorem dX1_wordOfKind_51 : decode cX1_wordOfKind 51 = .ok (.areturn, 1) := by decide +kernel
theorem dX1_wordOfKind_52 : decode cX1_wordOfKind 52 = .ok (.ldc 94, 2) := by decide +kernel
theorem dX1_wordOfKind_54 : decode cX1_wordOfKind 54 = .ok (.areturn, 1) := by decide +kernel
theorem dX1_wordOfKind_55 : decode cX1_wordOfKind 55 = .ok (.ldc 96, 2) := by decide +kernel
theorem dX1_wordOfKind_57 : decode cX1_wordOfKind 57 = .ok (.areturn, 1) := by decide +kernel
theorem dX1_wordOfKind_58 : decode cX1_wordOfKind 58 = .ok (.ldc 98, 2) := by decide +kernel
theorem dX1_wordOfKind_60 : decode cX1_wordOfKind 60 = .ok (.areturn, 1) := by decide +kernel
theorem dX1_readBell_0 : decode cX1_readBell 0 = .ok (.aload_n 1, 1) := by decide +kernel
theorem dX1_readBell_1 : decode cX1_readBell 1 = .ok (.getfield 100, 3) := by decide +kernel
theorem dX1_readBell_4 : decode cX1_readBell 4 = .ok (.bipush 8, 2) := by decide +kernel
theorem dX1_readBell_6 : decode cX1_readBell 6 = .ok (.if_icmp .lt 12, 3) := by decide +kernel
theorem dX1_readBell_9 : decode cX1_readBell 9 = .ok (.aload_n 0, 1) := by decide +kernel
theorem dX1_readBell_10 : decode cX1_readBell 10 = .ok (.aload_n 0, 1) := by decide +kernel
theorem dX1_readBell_11 : decode cX1_readBell 11 = .ok (.getfield 35, 3) := by decide +kernel
theorem dX1_readBell_14 : decode cX1_readBell 14 = .ok (.putfield 19, 3) := by decide +kernel
theorem dX1_readBell_17 : decode cX1_readBell 17 = .ok (.return_, 1) := by decide +kernel
theorem dX1_readBell_18 : decode cX1_readBell 18 = .ok (.aload_n 0, 1) := by decide +kernel
theorem dX1_readBell_19 : decode cX1_readBell 19 = .ok (.invokevirtual 25, 3) := by decide +kernel
theorem dX1_readBell_22 : decode cX1_readBell 22 = .ok (.aload_n 0, 1) := by decide +kernel
theorem dX1_readBell_23 : decode cX1_readBell 23 = .ok (.ldc 105, 2) := by decide +kernel
theorem dX1_readBell_25 : decode cX1_readBell 25 = .ok (.iconst 0, 1) := by decide +kernel
theorem dX1_readBell_26 : decode cX1_readBell 26 = .ok (.bipush 63, 2) := by decide +kernel
theorem dX1_readBell_28 : decode cX1_readBell 28 = .ok (.iconst 0, 1) := by decide +kernel
theorem dX1_readBell_29 : decode cX1_readBell 29 = .ok (.invokevirtual 107, 3) := by decide +kernel
theorem dX1_readBell_32 : decode cX1_readBell 32 = .ok (.istore_n 3, 1) := by decide +kernel
theorem dX1_readBell_33 : decode cX1_readBell 33 = .ok (.aload_n 0, 1) := by decide +kernel
theorem dX1_readBell_34 : decode cX1_readBell 34 = .ok (.ldc 111, 2) := by decide +kernel
theorem dX1_readBell_36 : decode cX1_readBell 36 = .ok (.iconst 0, 1) := by decide +kernel
theorem dX1_readBell_37 : decode cX1_readBell 37 = .ok (.bipush 11, 2) := by decide +kernel
theorem dX1_readBell_39 : decode cX1_readBell 39 = .ok (.iconst 0, 1) := by decide +kernel
theorem dX1_readBell_40 : decode cX1_readBell 40 = .ok (.invokevirtual 107, 3) := by decide +kernel
theorem dX1_readBell_43 : decode cX1_readBell 43 = .ok (.istore 4, 2) := by decide +kernel
theorem dX1_readBell_45 : decode cX1_readBell 45 = .ok (.aload_n 0, 1) := by decide +kernel
theorem dX1_readBell_46 : decode cX1_readBell 46 = .ok (.ldc 113, 2) := by decide +kernel
theorem dX1_readBell_48 : decode cX1_readBell 48 = .ok (.iconst 1, 1) := by decide +kernel
theorem dX1_readBell_49 : decode cX1_readBell 49 = .ok (.bipush 99, 2) := by decide +kernel
theorem dX1_readBell_51 : decode cX1_readBell 51 = .ok (.bipush 10, 2) := by decide +kernel
theorem dX1_readBell_53 : decode cX1_readBell 53 = .ok (.invokevirtual 107, 3) := by decide +kernel
theorem dX1_readBell_56 : decode cX1_readBell 56 = .ok (.istore 5, 2) := by decide +kernel
theorem dX1_readBell_58 : decode cX1_readBell 58 = .ok (.aload_n 0, 1) := by decide +kernel
theorem dX1_readBell_59 : decode cX1_readBell 59 = .ok (.getfield 19, 3) := by decide +kernel
theorem dX1_readBell_62 : decode cX1_readBell 62 = .ok (.ifCond .ge 29, 3) := by decide +kernel
theorem dX1_readBell_65 : decode cX1_readBell 65 = .ok (.aload_n 1, 1) := by decide +kernel
theorem dX1_readBell_66 : decode cX1_readBell 66 = .ok (.iload_n 2, 1) := by decide +kernel
theorem dX1_readBell_67 : decode cX1_readBell 67 = .ok (.iload_n 3, 1) := by decide +kernel
theorem dX1_readBell_68 : decode cX1_readBell 68 = .ok (.invokevirtual 115, 3) := by decide +kernel
theorem dX1_readBell_71 : decode cX1_readBell 71 = .ok (.istore 6, 2) := by decide +kernel
theorem dX1_readBell_73 : decode cX1_readBell 73 = .ok (.aload_n 1, 1) := by decide +kernel
theorem dX1_readBell_74 : decode cX1_readBell 74 = .ok (.getfield 119, 3) := by decide +kernel
theorem dX1_readBell_77 : decode cX1_readBell 77 = .ok (.iload 6, 2) := by decide +kernel
theorem dX1_readBell_79 : decode cX1_readBell 79 = .ok (.iload 4, 2) := by decide +kernel
theorem dX1_readBell_81 : decode cX1_readBell 81 = .ok (.iastore, 1) := by decide +kernel
theorem dX1_readBell_82 : decode cX1_readBell 82 = .ok (.aload_n 1, 1) := by decide +kernel
theorem dX1_readBell_83 : decode cX1_readBell 83 = .ok (.getfield 121, 3) := by decide +kernel
theorem dX1_readBell_86 : decode cX1_readBell 86 = .ok (.iload 6, 2) := by decide +kernel
theorem dX1_readBell_88 : decode cX1_readBell 88 = .ok (.iload 5, 2) := by decide +kernel
theorem dX1_readBell_90 : decode cX1_readBell 90 = .ok (.iastore, 1) := by decide +kernel
theorem dX1_readBell_91 : decode cX1_readBell 91 = .ok (.return_, 1) := by decide +kernel
theorem dX1_readNet_0 : decode cX1_readNet 0 = .ok (.aload_n 0, 1) := by decide +kernel
theorem dX1_readNet_1 : decode cX1_readNet 1 = .ok (.invokevirtual 25, 3) := by decide +kernel
theorem dX1_readNet_4 : decode cX1_readNet 4 = .ok (.aload_n 0, 1) := by decide +kernel
theorem dX1_readNet_5 : decode cX1_readNet 5 = .ok (.iconst 0, 1) := by decide +kernel
theorem dX1_readNet_6 : decode cX1_readNet 6 = .ok (.bipush 63, 2) := by decide +kernel
theorem dX1_readNet_8 : decode cX1_readNet 8 = .ok (.invokevirtual 123, 3) := by decide +kernel
theorem dX1_readNet_11 : decode cX1_readNet 11 = .ok (.istore_n 2, 1) := by decide +kernel
theorem dX1_readNet_12 : decode cX1_readNet 12 = .ok (.aload_n 0, 1) := by decide +kernel
theorem dX1_readNet_13 : decode cX1_readNet 13 = .ok (.getfield 19, 3) := by decide +kernel
theorem dX1_readNet_16 : decode cX1_readNet 16 = .ok (.ifCond .ge 9, 3) := by decide +kernel
theorem dX1_readNet_19 : decode cX1_readNet 19 = .ok (.aload_n 1, 1) := by decide +kernel
theorem dX1_readNet_20 : decode cX1_readNet 20 = .ok (.iload_n 2, 1) := by decide +kernel
theorem dX1_readNet_21 : decode cX1_readNet 21 = .ok (.iconst 1, 1) := by decide +kernel
theorem dX1_readNet_22 : decode cX1_readNet 22 = .ok (.invokevirtual 126, 3) := by decide +kernel
theorem dX1_readNet_25 : decode cX1_readNet 25 = .ok (.return_, 1) := by decide +kernel
theorem dX1_readThick_0 : decode cX1_readThick 0 = .ok (.aload_n 0, 1) := by decide +kernel
theorem dX1_readThick_1 : decode cX1_readThick 1 = .ok (.invokevirtual 25, 3) := by decide +kernel
theorem dX1_readThick_4 : decode cX1_readThick 4 = .ok (.aload_n 0, 1) := by decide +kernel
theorem dX1_readThick_5 : decode cX1_readThick 5 = .ok (.iconst 0, 1) := by decide +kernel
theorem dX1_readThick_6 : decode cX1_readThick 6 = .ok (.bipush 63, 2) := by decide +kernel
theorem dX1_readThick_8 : decode cX1_readThick 8 = .ok (.invokevirtual 123, 3) := by decide +kernel
theorem dX1_readThick_11 : decode cX1_readThick 11 = .ok (.istore_n 2, 1) := by decide +kernel
theorem dX1_readThick_12 : decode cX1_readThick 12 = .ok (.aload_n 0, 1) := by decide +kernel
theorem dX1_readThick_13 : decode cX1_readThick 13 = .ok (.iconst 0, 1) := by decide +kernel
theorem dX1_readThick_14 : decode cX1_readThick 14 = .ok (.bipush 9, 2) := by decide +kernel
theorem dX1_readThick_16 : decode cX1_readThick 16 = .ok (.invokevirtual 123, 3) := by decide +kernel
theorem dX1_readThick_19 : decode cX1_readThick 19 = .ok (.istore_n 3, 1) := by decide +kernel
theorem dX1_readThick_20 : decode cX1_readThick 20 = .ok (.aload_n 0, 1) := by decide +kernel
theorem dX1_readThick_21 : decode cX1_readThick 21 = .ok (.getfield 19, 3) := by decide +kernel
theorem dX1_readThick_24 : decode cX1_readThick 24 = .ok (.ifCond .ge 10, 3) := by decide +kernel
theorem dX1_readThick_27 : decode cX1_readThick 27 = .ok (.aload_n 1, 1) := by decide +kernel
theorem dX1_readThick_28 : decode cX1_readThick 28 = .ok (.getfield 130, 3) := by decide +kernel
theorem dX1_readThick_31 : decode cX1_readThick 31 = .ok (.iload_n 2, 1) := by decide +kernel
theorem dX1_readThick_32 : decode cX1_readThick 32 = .ok (.iload_n 3, 1) := by decide +kernel
theorem dX1_readThick_33 : decode cX1_readThick 33 = .ok (.iastore, 1) := by decide +kernel
theorem dX1_readThick_34 : decode cX1_readThick 34 = .ok (.return_, 1) := by decide +kernel
theorem dX1_readHunter_0 : decode cX1_readHunter 0 = .ok (.aload_n 0, 1) := by decide +kernel
theorem dX1_readHunter_1 : decode cX1_readHunter 1 = .ok (.invokevirtual 25, 3) := by decide +kernel
theorem dX1_readHunter_4 : decode cX1_readHunter 4 = .ok (.aload_n 0, 1) := by decide +kernel
theorem dX1_readHunter_5 : decode cX1_readHunter 5 = .ok (.iconst 0, 1) := by decide +kernel
theorem dX1_readHunter_6 : decode cX1_readHunter 6 = .ok (.iconst 3, 1) := by decide +kernel
theorem dX1_readHunter_7 : decode cX1_readHunter 7 = .ok (.invokevirtual 123, 3) := by decide +kernel
theorem dX1_readHunter_10 : decode cX1_readHunter 10 = .ok (.istore_n 2, 1) := by decide +kernel
theorem dX1_readHunter_11 : decode cX1_readHunter 11 = .ok (.aload_n 0, 1) := by decide +kernel
theorem dX1_readHunter_12 : decode cX1_readHunter 12 = .ok (.ldc 105, 2) := by decide +kernel
theorem dX1_readHunter_14 : decode cX1_readHunter 14 = .ok (.iconst 0, 1) := by decide +kernel
theorem dX1_readHunter_15 : decode cX1_readHunter 15 = .ok (.bipush 63, 2) := by decide +kernel
theorem dX1_readHunter_17 : decode cX1_readHunter 17 = .ok (.iconst (-1), 1) := by decide +kernel
theorem dX1_readHunter_18 : decode cX1_readHunter 18 = .ok (.invokevirtual 107, 3) := by decide +kernel
theorem dX1_readHunter_21 : decode cX1_readHunter 21 = .ok (.istore_n 3, 1) := by decide +kernel
theorem dX1_readHunter_22 : decode cX1_readHunter 22 = .ok (.aload_n 0, 1) := by decide +kernel
theorem dX1_readHunter_23 : decode cX1_readHunter 23 = .ok (.getfield 19, 3) := by decide +kernel
theorem dX1_readHunter_26 : decode cX1_readHunter 26 = .ok (.ifCond .ge 10, 3) := by decide +kernel
theorem dX1_readHunter_29 : decode cX1_readHunter 29 = .ok (.aload_n 1, 1) := by decide +kernel
theorem dX1_readHunter_30 : decode cX1_readHunter 30 = .ok (.getfield 133, 3) := by decide +kernel
theorem dX1_readHunter_33 : decode cX1_readHunter 33 = .ok (.iload_n 2, 1) := by decide +kernel
theorem dX1_readHunter_34 : decode cX1_readHunter 34 = .ok (.iload_n 3, 1) := by decide +kernel
theorem dX1_readHunter_35 : decode cX1_readHunter 35 = .ok (.iastore, 1) := by decide +kernel
theorem dX1_readHunter_36 : decode cX1_readHunter 36 = .ok (.return_, 1) := by decide +kernel
theorem dX1_readFear_0 : decode cX1_readFear 0 = .ok (.aload_n 0, 1) := by decide +kernel
theorem dX1_readFear_1 : decode cX1_readFear 1 = .ok (.invokevirtual 25, 3) := by decide +kernel
theorem dX1_readFear_4 : decode cX1_readFear 4 = .ok (.aload_n 0, 1) := by decide +kernel
theorem dX1_readFear_5 : decode cX1_readFear 5 = .ok (.iconst 0, 1) := by decide +kernel
theorem dX1_readFear_6 : decode cX1_readFear 6 = .ok (.bipush 9, 2) := by decide +kernel
theorem dX1_readFear_8 : decode cX1_readFear 8 = .ok (.invokevirtual 123, 3) := by decide +kernel
theorem dX1_readFear_11 : decode cX1_readFear 11 = .ok (.istore_n 2, 1) := by decide +kernel
theorem dX1_readFear_12 : decode cX1_readFear 12 = .ok (.aload_n 0, 1) := by decide +kernel
theorem dX1_readFear_13 : decode cX1_readFear 13 = .ok (.getfield 19, 3) := by decide +kernel
theorem dX1_readFear_16 : decode cX1_readFear 16 = .ok (.ifCond .ge 8, 3) := by decide +kernel
theorem dX1_readFear_19 : decode cX1_readFear 19 = .ok (.aload_n 1, 1) := by decide +kernel
theorem dX1_readFear_20 : decode cX1_readFear 20 = .ok (.iload_n 2, 1) := by decide +kernel
theorem dX1_readFear_21 : decode cX1_readFear 21 = .ok (.putfield 136, 3) := by decide +kernel
theorem dX1_readFear_24 : decode cX1_readFear 24 = .ok (.return_, 1) := by decide +kernel
theorem dX1_takeNumber_0 : decode cX1_takeNumber 0 = .ok (.aload_n 0, 1) := by decide +kernel
theorem dX1_takeNumber_1 : decode cX1_takeNumber 1 = .ok (.getfield 19, 3) := by decide +kernel
theorem dX1_takeNumber_4 : decode cX1_takeNumber 4 = .ok (.ifCond .lt 5, 3) := by decide +kernel
theorem dX1_takeNumber_7 : decode cX1_takeNumber 7 = .ok (.iconst (-1), 1) := by decide +kernel
theorem dX1_takeNumber_8 : decode cX1_takeNumber 8 = .ok (.ireturn, 1) := by decide +kernel
theorem dX1_takeNumber_9 : decode cX1_takeNumber 9 = .ok (.aload_n 0, 1) := by decide +kernel
theorem dX1_takeNumber_10 : decode cX1_takeNumber 10 = .ok (.getfield 32, 3) := by decide +kernel
theorem dX1_takeNumber_13 : decode cX1_takeNumber 13 = .ok (.iconst 2, 1) := by decide +kernel
theorem dX1_takeNumber_14 : decode cX1_takeNumber 14 = .ok (.if_icmp .ne 19, 3) := by decide +kernel
theorem dX1_takeNumber_17 : decode cX1_takeNumber 17 = .ok (.aload_n 0, 1) := by decide +kernel
theorem dX1_takeNumber_18 : decode cX1_takeNumber 18 = .ok (.getfield 38, 3) := by decide +kernel
theorem dX1_takeNumber_21 : decode cX1_takeNumber 21 = .ok (.iload_n 1, 1) := by decide +kernel
theorem dX1_takeNumber_22 : decode cX1_takeNumber 22 = .ok (.if_icmp .lt 11, 3) := by decide +kernel
theorem dX1_takeNumber_25 : decode cX1_takeNumber 25 = .ok (.aload_n 0, 1) := by decide +kernel
theorem dX1_takeNumber_26 : decode cX1_takeNumber 26 = .ok (.getfield 38, 3) := by decide +kernel
theorem dX1_takeNumber_29 : decode cX1_takeNumber 29 = .ok (.iload_n 2, 1) := by decide +kernel
theorem dX1_takeNumber_30 : decode cX1_takeNumber 30 = .ok (.if_icmp .le 13, 3) := by decide +kernel
theorem dX1_takeNumber_33 : decode cX1_takeNumber 33 = .ok (.aload_n 0, 1) := by decide +kernel
theorem dX1_takeNumber_34 : decode cX1_takeNumber 34 = .ok (.aload_n 0, 1) := by decide +kernel
theorem dX1_takeNumber_35 : decode cX1_takeNumber 35 = .ok (.getfield 35, 3) := by decide +kernel
theorem dX1_takeNumber_38 : decode cX1_takeNumber 38 = .ok (.putfield 19, 3) := by decide +kernel
theorem dX1_takeNumber_41 : decode cX1_takeNumber 41 = .ok (.iconst (-1), 1) := by decide +kernel
theorem dX1_takeNumber_42 : decode cX1_takeNumber 42 = .ok (.ireturn, 1) := by decide +kernel
theorem dX1_takeNumber_43 : decode cX1_takeNumber 43 = .ok (.aload_n 0, 1) := by decide +kernel
theorem dX1_takeNumber_44 : decode cX1_takeNumber 44 = .ok (.getfield 38, 3) := by decide +kernel
theorem dX1_takeNumber_47 : decode cX1_takeNumber 47 = .ok (.istore_n 3, 1) := by decide +kernel
theorem dX1_takeNumber_48 : decode cX1_takeNumber 48 = .ok (.aload_n 0, 1) := by decide +kernel
theorem dX1_takeNumber_49 : decode cX1_takeNumber 49 = .ok (.invokevirtual 25, 3) := by decide +kernel
theorem dX1_takeNumber_52 : decode cX1_takeNumber 52 = .ok (.iload_n 3, 1) := by decide +kernel
theorem dX1_takeNumber_53 : decode cX1_takeNumber 53 = .ok (.ireturn, 1) := by decide +kernel
theorem dX1_takePerhaps_0 : decode cX1_takePerhaps 0 = .ok (.aload_n 0, 1) := by decide +kernel
theorem dX1_takePerhaps_1 : decode cX1_takePerhaps 1 = .ok (.getfield 19, 3) := by decide +kernel
theorem dX1_takePerhaps_4 : decode cX1_takePerhaps 4 = .ok (.ifCond .ge 11, 3) := by decide +kernel
theorem dX1_takePerhaps_7 : decode cX1_takePerhaps 7 = .ok (.aload_n 0, 1) := by decide +kernel
theorem dX1_takePerhaps_8 : decode cX1_takePerhaps 8 = .ok (.aload_n 1, 1) := by decide +kernel
theorem dX1_takePerhaps_9 : decode cX1_takePerhaps 9 = .ok (.invokevirtual 60, 3) := by decide +kernel
theorem dX1_takePerhaps_12 : decode cX1_takePerhaps 12 = .ok (.ifCond .ne 6, 3) := by decide +kernel
theorem dX1_takePerhaps_15 : decode cX1_takePerhaps 15 = .ok (.iload 4, 2) := by decide +kernel
theorem dX1_takePerhaps_17 : decode cX1_takePerhaps 17 = .ok (.ireturn, 1) := by decide +kernel
theorem dX1_takePerhaps_18 : decode cX1_takePerhaps 18 = .ok (.aload_n 0, 1) := by decide +kernel
theorem dX1_takePerhaps_19 : decode cX1_takePerhaps 19 = .ok (.invokevirtual 25, 3) := by decide +kernel
theorem dX1_takePerhaps_22 : decode cX1_takePerhaps 22 = .ok (.aload_n 0, 1) := by decide +kernel
theorem dX1_takePerhaps_23 : decode cX1_takePerhaps 23 = .ok (.iload_n 2, 1) := by decide +kernel
theorem dX1_takePerhaps_24 : decode cX1_takePerhaps 24 = .ok (.iload_n 3, 1) := by decide +kernel
theorem dX1_takePerhaps_25 : decode cX1_takePerhaps 25 = .ok (.invokevirtual 123, 3) := by decide +kernel
theorem dX1_takePerhaps_28 : decode cX1_takePerhaps 28 = .ok (.ireturn, 1) := by decide +kernel
theorem dX2_init_0 : decode cX2_init 0 = .ok (.aload_n 0, 1) := by decide +kernel
theorem dX2_init_1 : decode cX2_init 1 = .ok (.invokespecial 3, 3) := by decide +kernel
theorem dX2_init_4 : decode cX2_init 4 = .ok (.aload_n 0, 1) := by decide +kernel
theorem dX2_init_5 : decode cX2_init 5 = .ok (.bipush 64, 2) := by decide +kernel
theorem dX2_init_7 : decode cX2_init 7 = .ok (.newarray .int, 2) := by decide +kernel
theorem dX2_init_9 : decode cX2_init 9 = .ok (.putfield 9, 3) := by decide +kernel
theorem dX2_init_12 : decode cX2_init 12 = .ok (.aload_n 0, 1) := by decide +kernel
theorem dX2_init_13 : decode cX2_init 13 = .ok (.iconst 4, 1) := by decide +kernel
theorem dX2_init_14 : decode cX2_init 14 = .ok (.newarray .int, 2) := by decide +kernel
theorem dX2_init_16 : decode cX2_init 16 = .ok (.putfield 15, 3) := by decide +kernel
theorem dX2_init_19 : decode cX2_init 19 = .ok (.aload_n 0, 1) := by decide +kernel
theorem dX2_init_20 : decode cX2_init 20 = .ok (.bipush 8, 2) := by decide +kernel
theorem dX2_init_22 : decode cX2_init 22 = .ok (.newarray .int, 2) := by decide +kernel
theorem dX2_init_24 : decode cX2_init 24 = .ok (.putfield 18, 3) := by decide +kernel
theorem dX2_init_27 : decode cX2_init 27 = .ok (.aload_n 0, 1) := by decide +kernel
theorem dX2_init_28 : decode cX2_init 28 = .ok (.bipush 8, 2) := by decide +kernel
theorem dX2_init_30 : decode cX2_init 30 = .ok (.newarray .int, 2) := by decide +kernel
theorem dX2_init_32 : decode cX2_init 32 = .ok (.putfield 21, 3) := by decide +kernel
theorem dX2_init_35 : decode cX2_init 35 = .ok (.aload_n 0, 1) := by decide +kernel
theorem dX2_init_36 : decode cX2_init 36 = .ok (.bipush 8, 2) := by decide +kernel
theorem dX2_init_38 : decode cX2_init 38 = .ok (.newarray .int, 2) := by decide +kernel
theorem dX2_init_40 : decode cX2_init 40 = .ok (.putfield 24, 3) := by decide +kernel
theorem dX2_init_43 : decode cX2_init 43 = .ok (.aload_n 0, 1) := by decide +kernel
theorem dX2_init_44 : decode cX2_init 44 = .ok (.bipush 8, 2) := by decide +kernel
theorem dX2_init_46 : decode cX2_init 46 = .ok (.newarray .int, 2) := by decide +kernel
theorem dX2_init_48 : decode cX2_init 48 = .ok (.putfield 27, 3) := by decide +kernel
theorem dX2_init_51 : decode cX2_init 51 = .ok (.aload_n 0, 1) := by decide +kernel
theorem dX2_init_52 : decode cX2_init 52 = .ok (.bipush 10, 2) := by decide +kernel
theorem dX2_init_54 : decode cX2_init 54 = .ok (.newarray .int, 2) := by decide +kernel
theorem dX2_init_56 : decode cX2_init 56 = .ok (.putfield 30, 3) := by decide +kernel
theorem dX2_init_59 : decode cX2_init 59 = .ok (.aload_n 0, 1) := by decide +kernel
theorem dX2_init_60 : decode cX2_init 60 = .ok (.iconst 3, 1) := by decide +kernel
theorem dX2_init_61 : decode cX2_init 61 = .ok (.putfield 33, 3) := by decide +kernel
theorem dX2_init_64 : decode cX2_init 64 = .ok (.aload_n 0, 1) := by decide +kernel
theorem dX2_init_65 : decode cX2_init 65 = .ok (.iconst 1, 1) := by decide +kernel
theorem dX2_init_66 : decode cX2_init 66 = .ok (.putfield 37, 3) := by decide +kernel
theorem dX2_init_69 : decode cX2_init 69 = .ok (.iconst 0, 1) := by decide +kernel
theorem dX2_init_70 : decode cX2_init 70 = .ok (.istore_n 1, 1) := by decide +kernel
theorem dX2_init_71 : decode cX2_init 71 = .ok (.iload_n 1, 1) := by decide +kernel
theorem dX2_init_72 : decode cX2_init 72 = .ok (.iconst 4, 1) := by decide +kernel
theorem dX2_init_73 : decode cX2_init 73 = .ok (.if_icmp .ge 16, 3) := by decide +kernel
theorem dX2_init_76 : decode cX2_init 76 = .ok (.aload_n 0, 1) := by decide +kernel
theorem dX2_init_77 : decode cX2_init 77 = .ok (.getfield 15, 3) := by decide +kernel
theorem dX2_init_80 : decode cX2_init 80 = .ok (.iload_n 1, 1) := by decide +kernel
theorem dX2_init_81 : decode cX2_init 81 = .ok (.iconst (-1), 1) := by decide +kernel
theorem dX2_init_82 : decode cX2_init 82 = .ok (.iastore, 1) := by decide +kernel
theorem dX2_init_83 : decode cX2_init 83 = .ok (.iinc 1 1, 3) := by decide +kernel
theorem dX2_init_86 : decode cX2_init 86 = .ok (.goto (-15), 3) := by decide +kernel
theorem dX2_init_89 : decode cX2_init 89 = .ok (.iconst 0, 1) := by decide +kernel
theorem dX2_init_90 : decode cX2_init 90 = .ok (.istore_n 1, 1) := by decide +kernel
theorem dX2_init_91 : decode cX2_init 91 = .ok (.iload_n 1, 1) := by decide +kernel
theorem dX2_init_92 : decode cX2_init 92 = .ok (.bipush 10, 2) := by decide +kernel
theorem dX2_init_94 : decode cX2_init 94 = .ok (.if_icmp .ge 16, 3) := by decide +kernel
theorem dX2_init_97 : decode cX2_init 97 = .ok (.aload_n 0, 1) := by decide +kernel
theorem dX2_init_98 : decode cX2_init 98 = .ok (.getfield 30, 3) := by decide +kernel
theorem dX2_init_101 : decode cX2_init 101 = .ok (.iload_n 1, 1) := by decide +kernel
theorem dX2_init_102 : decode cX2_init 102 = .ok (.iconst (-1), 1) := by decide +kernel
theorem dX2_init_103 : decode cX2_init 103 = .ok (.iastore, 1) := by decide +kernel
theorem dX2_init_104 : decode cX2_init 104 = .ok (.iinc 1 1, 3) := by decide +kernel
theorem dX2_init_107 : decode cX2_init 107 = .ok (.goto (-16), 3) := by decide +kernel
theorem dX2_init_110 : decode cX2_init 110 = .ok (.return_, 1) := by decide +kernel
theorem dX2_becomes_0 : decode cX2_becomes 0 = .ok (.aload_n 0, 1) := by decide +kernel
theorem dX2_becomes_1 : decode cX2_becomes 1 = .ok (.aload_n 1, 1) := by decide +kernel
theorem dX2_becomes_2 : decode cX2_becomes 2 = .ok (.getfield 40, 3) := by decide +kernel
theorem dX2_becomes_5 : decode cX2_becomes 5 = .ok (.putfield 40, 3) := by decide +kernel
theorem dX2_becomes_8 : decode cX2_becomes 8 = .ok (.aload_n 0, 1) := by decide +kernel
theorem dX2_becomes_9 : decode cX2_becomes 9 = .ok (.aload_n 1, 1) := by decide +kernel
theorem dX2_becomes_10 : decode cX2_becomes 10 = .ok (.getfield 43, 3) := by decide +kernel
theorem dX2_becomes_13 : decode cX2_becomes 13 = .ok (.putfield 43, 3) := by decide +kernel
theorem dX2_becomes_16 : decode cX2_becomes 16 = .ok (.aload_n 0, 1) := by decide +kernel
theorem dX2_becomes_17 : decode cX2_becomes 17 = .ok (.aload_n 1, 1) := by decide +kernel
theorem dX2_becomes_18 : decode cX2_becomes 18 = .ok (.getfield 33, 3) := by decide +kernel
theorem dX2_becomes_21 : decode cX2_becomes 21 = .ok (.putfield 33, 3) := by decide +kernel
theorem dX2_becomes_24 : decode cX2_becomes 24 = .ok (.aload_n 0, 1) := by decide +kernel
theorem dX2_becomes_25 : decode cX2_becomes 25 = .ok (.aload_n 1, 1) := by decide +kernel
theorem dX2_becomes_26 : decode cX2_becomes 26 = .ok (.getfield 47, 3) := by decide +kernel
theorem dX2_becomes_29 : decode cX2_becomes 29 = .ok (.putfield 47, 3) := by decide +kernel
theorem dX2_becomes_32 : decode cX2_becomes 32 = .ok (.aload_n 0, 1) := by decide +kernel
theorem dX2_becomes_33 : decode cX2_becomes 33 = .ok (.aload_n 1, 1) := by decide +kernel
theorem dX2_becomes_34 : decode cX2_becomes 34 = .ok (.getfield 50, 3) := by decide +kernel
theorem dX2_becomes_37 : decode cX2_becomes 37 = .ok (.putfield 50, 3) := by decide +kernel
theorem dX2_becomes_40 : decode cX2_becomes 40 = .ok (.aload_n 0, 1) := by decide +kernel
theorem dX2_becomes_41 : decode cX2_becomes 41 = .ok (.aload_n 1, 1) := by decide +kernel
theorem dX2_becomes_42 : decode cX2_becomes 42 = .ok (.getfield 37, 3) := by decide +kernel
theorem dX2_becomes_45 : decode cX2_becomes 45 = .ok (.putfield 37, 3) := by decide +kernel
theorem dX2_becomes_48 : decode cX2_becomes 48 = .ok (.aload_n 0, 1) := by decide +kernel
theorem dX2_becomes_49 : decode cX2_becomes 49 = .ok (.lconst 0, 1) := by decide +kernel
theorem dX2_becomes_50 : decode cX2_becomes 50 = .ok (.putfield 53, 3) := by decide +kernel
theorem dX2_becomes_53 : decode cX2_becomes 53 = .ok (.aload_n 1, 1) := by decide +kernel
theorem dX2_becomes_54 : decode cX2_becomes 54 = .ok (.getfield 9, 3) := by decide +kernel
theorem dX2_becomes_57 : decode cX2_becomes 57 = .ok (.iconst 0, 1) := by decide +kernel
theorem dX2_becomes_58 : decode cX2_becomes 58 = .ok (.aload_n 0, 1) := by decide +kernel
theorem dX2_becomes_59 : decode cX2_becomes 59 = .ok (.getfield 9, 3) := by decide +kernel
theorem dX2_becomes_62 : decode cX2_becomes 62 = .ok (.iconst 0, 1) := by decide +kernel
theorem dX2_becomes_63 : decode cX2_becomes 63 = .ok (.bipush 64, 2) := by decide +kernel
theorem dX2_becomes_65 : decode cX2_becomes 65 = .ok (.invokestatic 56, 3) := by decide +kernel
theorem dX2_becomes_68 : decode cX2_becomes 68 = .ok (.aload_n 1, 1) := by decide +kernel
theorem dX2_becomes_69 : decode cX2_becomes 69 = .ok (.getfield 15, 3) := by decide +kernel
theorem dX2_becomes_72 : decode cX2_becomes 72 = .ok (.iconst 0, 1) := by decide +kernel
theorem dX2_becomes_73 : decode cX2_becomes 73 = .ok (.aload_n 0, 1) := by decide +kernel
theorem dX2_becomes_74 : decode cX2_becomes 74 = .ok (.getfield 15, 3) := by decide +kernel
theorem dX2_becomes_77 : decode cX2_becomes 77 = .ok (.iconst 0, 1) := by decide +kernel
theorem dX2_becomes_78 : decode cX2_becomes 78 = .ok (.iconst 4, 1) := by decide +kernel
theorem dX2_becomes_79 : decode cX2_becomes 79 = .ok (.invokestatic 56, 3) := by decide +kernel
theorem dX2_becomes_82 : decode cX2_becomes 82 = .ok (.aload_n 1, 1) := by decide +kernel
theorem dX2_becomes_83 : decode cX2_becomes 83 = .ok (.getfield 18, 3) := by decide +kernel
theorem dX2_becomes_86 : decode cX2_becomes 86 = .ok (.iconst 0, 1) := by decide +kernel
theorem dX2_becomes_87 : decode cX2_becomes 87 = .ok (.aload_n 0, 1) := by decide +kernel
theorem dX2_becomes_88 : decode cX2_becomes 88 = .ok (.getfield 18, 3) := by decide +kernel
theorem dX2_becomes_91 : decode cX2_becomes 91 = .ok (.iconst 0, 1) := by decide +kernel
theorem dX2_becomes_92 : decode cX2_becomes 92 = .ok (.bipush 8, 2) := by decide +kernel
theorem dX2_becomes_94 : decode cX2_becomes 94 = .ok (.invokestatic 56, 3) := by decide +kernel
theorem dX2_becomes_97 : decode cX2_becomes 97 = .ok (.aload_n 1, 1) := by decide +kernel
theorem dX2_becomes_98 : decode cX2_becomes 98 = .ok (.getfield 21, 3) := by decide +kernel
theorem dX2_becomes_101 : decode cX2_becomes 101 = .ok (.iconst 0, 1) := by decide +kernel
theorem dX2_becomes_102 : decode cX2_becomes 102 = .ok (.aload_n 0, 1) := by decide +kernel
theorem dX2_becomes_103 : decode cX2_becomes 103 = .ok (.getfield 21, 3) := by decide +kernel
theorem dX2_becomes_106 : decode cX2_becomes 106 = .ok (.iconst 0, 1) := by decide +kernel
theorem dX2_becomes_107 : decode cX2_becomes 107 = .ok (.bipush 8, 2) := by decide +kernel
theorem dX2_becomes_109 : decode cX2_becomes 109 = .ok (.invokestatic 56, 3) := by decide +kernel
theorem dX2_becomes_112 : decode cX2_becomes 112 = .ok (.aload_n 1, 1) := by decide +kernel
theorem dX2_becomes_113 : decode cX2_becomes 113 = .ok (.getfield 24, 3) := by decide +kernel
theorem dX2_becomes_116 : decode cX2_becomes 116 = .ok (.iconst 0, 1) := by decide +kernel
theorem dX2_becomes_117 : decode cX2_becomes 117 = .ok (.aload_n 0, 1) := by decide +kernel
theorem dX2_becomes_118 : decode cX2_becomes 118 = .ok (.getfield 24, 3) := by decide +kernel
theorem dX2_becomes_121 : decode cX2_becomes 121 = .ok (.iconst 0, 1) := by decide +kernel
theorem dX2_becomes_122 : decode cX2_becomes 122 = .ok (.bipush 8, 2) := by decide +kernel
theorem dX2_becomes_124 : decode cX2_becomes 124 = .ok (.invokestatic 56, 3) := by decide +kernel
theorem dX2_becomes_127 : decode cX2_becomes 127 = .ok (.aload_n 1, 1) := by decide +kernel
theorem dX2_becomes_128 : decode cX2_becomes 128 = .ok (.getfield 27, 3) := by decide +kernel
theorem dX2_becomes_131 : decode cX2_becomes 131 = .ok (.iconst 0, 1) := by decide +kernel
theorem dX2_becomes_132 : decode cX2_becomes 132 = .ok (.aload_n 0, 1) := by decide +kernel
theorem dX2_becomes_133 : decode cX2_becomes 133 = .ok (.getfield 27, 3) := by decide +kernel
theorem dX2_becomes_136 : decode cX2_becomes 136 = .ok (.iconst 0, 1) := by decide +kernel
theorem dX2_becomes_137 : decode cX2_becomes 137 = .ok (.bipush 8, 2) := by decide +kernel
theorem dX2_becomes_139 : decode cX2_becomes 139 = .ok (.invokestatic 56, 3) := by decide +kernel
theorem dX2_becomes_142 : decode cX2_becomes 142 = .ok (.aload_n 1, 1) := by decide +kernel
theorem dX2_becomes_143 : decode cX2_becomes 143 = .ok (.getfield 30, 3) := by decide +kernel
theorem dX2_becomes_146 : decode cX2_becomes 146 = .ok (.iconst 0, 1) := by decide +kernel
theorem dX2_becomes_147 : decode cX2_becomes 147 = .ok (.aload_n 0, 1) := by decide +kernel
theorem dX2_becomes_148 : decode cX2_becomes 148 = .ok (.getfield 30, 3) := by decide +kernel
theorem dX2_becomes_151 : decode cX2_becomes 151 = .ok (.iconst 0, 1) := by decide +kernel
theorem dX2_becomes_152 : decode cX2_becomes 152 = .ok (.bipush 10, 2) := by decide +kernel
theorem dX2_becomes_154 : decode cX2_becomes 154 = .ok (.invokestatic 56, 3) := by decide +kernel
theorem dX2_becomes_157 : decode cX2_becomes 157 = .ok (.return_, 1) := by decide +kernel
theorem dX2_hasNet_0 : decode cX2_hasNet 0 = .ok (.aload_n 0, 1) := by decide +kernel
theorem dX2_hasNet_1 : decode cX2_hasNet 1 = .ok (.getfield 43, 3) := by decide +kernel
theorem dX2_hasNet_4 : decode cX2_hasNet 4 = .ok (.iload_n 1, 1) := by decide +kernel
theorem dX2_hasNet_5 : decode cX2_hasNet 5 = .ok (.invokestatic 62, 3) := by decide +kernel
theorem dX2_hasNet_8 : decode cX2_hasNet 8 = .ok (.ireturn, 1) := by decide +kernel
theorem dX2_setNet_0 : decode cX2_setNet 0 = .ok (.aload_n 0, 1) := by decide +kernel
theorem dX2_setNet_1 : decode cX2_setNet 1 = .ok (.iload_n 2, 1) := by decide +kernel
theorem dX2_setNet_2 : decode cX2_setNet 2 = .ok (.ifCond .eq 14, 3) := by decide +kernel
theorem dX2_setNet_5 : decode cX2_setNet 5 = .ok (.aload_n 0, 1) := by decide +kernel
theorem dX2_setNet_6 : decode cX2_setNet 6 = .ok (.getfield 43, 3) := by decide +kernel
theorem dX2_setNet_9 : decode cX2_setNet 9 = .ok (.lconst 1, 1) := by decide +kernel
theorem dX2_setNet_10 : decode cX2_setNet 10 = .ok (.iload_n 1, 1) := by decide +kernel
theorem dX2_setNet_11 : decode cX2_setNet 11 = .ok (.lshl, 1) := by decide +kernel
theorem dX2_setNet_12 : decode cX2_setNet 12 = .ok (.lor, 1) := by decide +kernel
theorem dX2_setNet_13 : decode cX2_setNet 13 = .ok (.goto 15, 3) := by decide +kernel
theorem dX2_setNet_16 : decode cX2_setNet 16 = .ok (.aload_n 0, 1) := by decide +kernel
theorem dX2_setNet_17 : decode cX2_setNet 17 = .ok (.getfield 43, 3) := by decide +kernel
theorem dX2_setNet_20 : decode cX2_setNet 20 = .ok (.lconst 1, 1) := by decide +kernel
theorem dX2_setNet_21 : decode cX2_setNet 21 = .ok (.iload_n 1, 1) := by decide +kernel
theorem dX2_setNet_22 : decode cX2_setNet 22 = .ok (.lshl, 1) := by decide +kernel
theorem dX2_setNet_23 : decode cX2_setNet 23 = .ok (.ldc2_w 66, 3) := by decide +kernel
theorem dX2_setNet_26 : decode cX2_setNet 26 = .ok (.lxor, 1) := by decide +kernel
theorem dX2_setNet_27 : decode cX2_setNet 27 = .ok (.land, 1) := by decide +kernel
theorem dX2_setNet_28 : decode cX2_setNet 28 = .ok (.putfield 43, 3) := by decide +kernel
theorem dX2_setNet_31 : decode cX2_setNet 31 = .ok (.return_, 1) := by decide +kernel
theorem dX2_addBell_0 : decode cX2_addBell 0 = .ok (.aload_n 0, 1) := by decide +kernel
theorem dX2_addBell_1 : decode cX2_addBell 1 = .ok (.getfield 47, 3) := by decide +kernel
theorem dX2_addBell_4 : decode cX2_addBell 4 = .ok (.istore_n 3, 1) := by decide +kernel
theorem dX2_addBell_5 : decode cX2_addBell 5 = .ok (.iload_n 3, 1) := by decide +kernel
theorem dX2_addBell_6 : decode cX2_addBell 6 = .ok (.bipush 8, 2) := by decide +kernel
theorem dX2_addBell_8 : decode cX2_addBell 8 = .ok (.if_icmp .ge 56, 3) := by decide +kernel
theorem dX2_addBell_11 : decode cX2_addBell 11 = .ok (.aload_n 0, 1) := by decide +kernel
theorem dX2_addBell_12 : decode cX2_addBell 12 = .ok (.getfield 18, 3) := by decide +kernel
theorem dX2_addBell_15 : decode cX2_addBell 15 = .ok (.iload_n 3, 1) := by decide +kernel
theorem dX2_addBell_16 : decode cX2_addBell 16 = .ok (.iload_n 1, 1) := by decide +kernel
theorem dX2_addBell_17 : decode cX2_addBell 17 = .ok (.iastore, 1) := by decide +kernel
theorem dX2_addBell_18 : decode cX2_addBell 18 = .ok (.aload_n 0, 1) := by decide +kernel
theorem dX2_addBell_19 : decode cX2_addBell 19 = .ok (.getfield 21, 3) := by decide +kernel
theorem dX2_addBell_22 : decode cX2_addBell 22 = .ok (.iload_n 3, 1) := by decide +kernel
theorem dX2_addBell_23 : decode cX2_addBell 23 = .ok (.iload_n 2, 1) := by decide +kernel
theorem dX2_addBell_24 : decode cX2_addBell 24 = .ok (.iastore, 1) := by decide +kernel
theorem dX2_addBell_25 : decode cX2_addBell 25 = .ok (.aload_n 0, 1) := by decide +kernel
theorem dX2_addBell_26 : decode cX2_addBell 26 = .ok (.getfield 24, 3) := by decide +kernel
theorem dX2_addBell_29 : decode cX2_addBell 29 = .ok (.iload_n 3, 1) := by decide +kernel
theorem dX2_addBell_30 : decode cX2_addBell 30 = .ok (.iconst 0, 1) := by decide +kernel
theorem dX2_addBell_31 : decode cX2_addBell 31 = .ok (.iastore, 1) := by decide +kernel
theorem dX2_addBell_32 : decode cX2_addBell 32 = .ok (.aload_n 0, 1) := by decide +kernel
theorem dX2_addBell_33 : decode cX2_addBell 33 = .ok (.getfield 27, 3) := by decide +kernel
theorem dX2_addBell_36 : decode cX2_addBell 36 = .ok (.iload_n 3, 1) := by decide +kernel
theorem dX2_addBell_37 : decode cX2_addBell 37 = .ok (.bipush 10, 2) := by decide +kernel
theorem dX2_addBell_39 : decode cX2_addBell 39 = .ok (.iastore, 1) := by decide +kernel
theorem dX2_addBell_40 : decode cX2_addBell 40 = .ok (.aload_n 0, 1) := by decide +kernel
theorem dX2_addBell_41 : decode cX2_addBell 41 = .ok (.dup, 1) := by decide +kernel
theorem dX2_addBell_42 : decode cX2_addBell 42 = .ok (.getfield 50, 3) := by decide +kernel
theorem dX2_addBell_45 : decode cX2_addBell 45 = .ok (.iconst 1, 1) := by decide +kernel
theorem dX2_addBell_46 : decode cX2_addBell 46 = .ok (.iload_n 3, 1) := by decide +kernel
theorem dX2_addBell_47 : decode cX2_addBell 47 = .ok (.ishl, 1) := by decide +kernel
theorem dX2_addBell_48 : decode cX2_addBell 48 = .ok (.iconst (-1), 1) := by decide +kernel
theorem dX2_addBell_49 : decode cX2_addBell 49 = .ok (.ixor, 1) := by decide +kernel
theorem dX2_addBell_50 : decode cX2_addBell 50 = .ok (.iand, 1) := by decide +kernel
theorem dX2_addBell_51 : decode cX2_addBell 51 = .ok (.putfield 50, 3) := by decide +kernel
theorem dX2_addBell_54 : decode cX2_addBell 54 = .ok (.aload_n 0, 1) := by decide +kernel
theorem dX2_addBell_55 : decode cX2_addBell 55 = .ok (.dup, 1) := by decide +kernel
theorem dX2_addBell_56 : decode cX2_addBell 56 = .ok (.getfield 47, 3) := by decide +kernel
theorem dX2_addBell_59 : decode cX2_addBell 59 = .ok (.iconst 1, 1) := by decide +kernel
theorem dX2_addBell_60 : decode cX2_addBell 60 = .ok (.iadd, 1) := by decide +kernel
theorem dX2_addBell_61 : decode cX2_addBell 61 = .ok (.putfield 47, 3) := by decide +kernel
theorem dX2_addBell_64 : decode cX2_addBell 64 = .ok (.iload_n 3, 1) := by decide +kernel
theorem dX2_addBell_65 : decode cX2_addBell 65 = .ok (.ireturn, 1) := by decide +kernel
theorem dX2_isFree_0 : decode cX2_isFree 0 = .ok (.aload_n 0, 1) := by decide +kernel
theorem dX2_isFree_1 : decode cX2_isFree 1 = .ok (.getfield 50, 3) := by decide +kernel
theorem dX2_isFree_4 : decode cX2_isFree 4 = .ok (.iload_n 1, 1) := by decide +kernel
theorem dX2_isFree_5 : decode cX2_isFree 5 = .ok (.iushr, 1) := by decide +kernel
theorem dX2_isFree_6 : decode cX2_isFree 6 = .ok (.iconst 1, 1) := by decide +kernel
theorem dX2_isFree_7 : decode cX2_isFree 7 = .ok (.iand, 1) := by decide +kernel
theorem dX2_isFree_8 : decode cX2_isFree 8 = .ok (.ifCond .ne 7, 3) := by decide +kernel
theorem dX2_isFree_11 : decode cX2_isFree 11 = .ok (.iconst 1, 1) := by decide +kernel
theorem dX2_isFree_12 : decode cX2_isFree 12 = .ok (.goto 4, 3) := by decide +kernel
theorem dX2_isFree_15 : decode cX2_isFree 15 = .ok (.iconst 0, 1) := by decide +kernel
theorem dX2_isFree_16 : decode cX2_isFree 16 = .ok (.ireturn, 1) := by decide +kernel
theorem dX2_trait_0 : decode cX2_trait 0 = .ok (.iload_n 2, 1) := by decide +kernel
theorem dX2_trait_1 : decode cX2_trait 1 = .ok (.tableswitch 59 0 3 #[31, 38, 45, 52], 31) := by decide +kernel
theorem dX2_trait_32 : decode cX2_trait 32 = .ok (.aload_n 0, 1) := by decide +kernel
theorem dX2_trait_33 : decode cX2_trait 33 = .ok (.getfield 18, 3) := by decide +kernel
theorem dX2_trait_36 : decode cX2_trait 36 = .ok (.iload_n 1, 1) := by decide +kernel
theorem dX2_trait_37 : decode cX2_trait 37 = .ok (.iaload, 1) := by decide +kernel
theorem dX2_trait_38 : decode cX2_trait 38 = .ok (.ireturn, 1) := by decide +kernel
theorem dX2_trait_39 : decode cX2_trait 39 = .ok (.aload_n 0, 1) := by decide +kernel
theorem dX2_trait_40 : decode cX2_trait 40 = .ok (.getfield 21, 3) := by decide +kernel
theorem dX2_trait_43 : decode cX2_trait 43 = .ok (.iload_n 1, 1) := by decide +kernel
theorem dX2_trait_44 : decode cX2_trait 44 = .ok (.iaload, 1) := by decide +kernel
theorem dX2_trait_45 : decode cX2_trait 45 = .ok (.ireturn, 1) := by decide +kernel
theorem dX2_trait_46 : decode cX2_trait 46 = .ok (.aload_n 0, 1) := by decide +kernel
theorem dX2_trait_47 : decode cX2_trait 47 = .ok (.getfield 24, 3) := by decide +kernel
theorem dX2_trait_50 : decode cX2_trait 50 = .ok (.iload_n 1, 1) := by decide +kernel
theorem dX2_trait_51 : decode cX2_trait 51 = .ok (.iaload, 1) := by decide +kernel
theorem dX2_trait_52 : decode cX2_trait 52 = .ok (.ireturn, 1) := by decide +kernel
theorem dX2_trait_53 : decode cX2_trait 53 = .ok (.aload_n 0, 1) := by decide +kernel
theorem dX2_trait_54 : decode cX2_trait 54 = .ok (.getfield 27, 3) := by decide +kernel
theorem dX2_trait_57 : decode cX2_trait 57 = .ok (.iload_n 1, 1) := by decide +kernel
theorem dX2_trait_58 : decode cX2_trait 58 = .ok (.iaload, 1) := by decide +kernel
theorem dX2_trait_59 : decode cX2_trait 59 = .ok (.ireturn, 1) := by decide +kernel
theorem dX2_trait_60 : decode cX2_trait 60 = .ok (.aload_n 0, 1) := by decide +kernel
theorem dX2_trait_61 : decode cX2_trait 61 = .ok (.iload_n 1, 1) := by decide +kernel
theorem dX2_trait_62 : decode cX2_trait 62 = .ok (.invokevirtual 68, 3) := by decide +kernel
theorem dX2_trait_65 : decode cX2_trait 65 = .ok (.ifCond .eq 7, 3) := by decide +kernel
theorem dX2_trait_68 : decode cX2_trait 68 = .ok (.iconst 0, 1) := by decide +kernel
theorem dX2_trait_69 : decode cX2_trait 69 = .ok (.goto 4, 3) := by decide +kernel
theorem dX2_trait_72 : decode cX2_trait 72 = .ok (.iconst 1, 1) := by decide +kernel
theorem dX2_trait_73 : decode cX2_trait 73 = .ok (.ireturn, 1) := by decide +kernel
theorem dX2_setTrait_0 : decode cX2_setTrait 0 = .ok (.iload_n 2, 1) := by decide +kernel
theorem dX2_setTrait_1 : decode cX2_setTrait 1 = .ok (.tableswitch 71 0 3 #[31, 41, 51, 61], 31) := by decide +kernel
theorem dX2_setTrait_32 : decode cX2_setTrait 32 = .ok (.aload_n 0, 1) := by decide +kernel
theorem dX2_setTrait_33 : decode cX2_setTrait 33 = .ok (.getfield 18, 3) := by decide +kernel
theorem dX2_setTrait_36 : decode cX2_setTrait 36 = .ok (.iload_n 1, 1) := by decide +kernel
theorem dX2_setTrait_37 : decode cX2_setTrait 37 = .ok (.iload_n 3, 1) := by decide +kernel
theorem dX2_setTrait_38 : decode cX2_setTrait 38 = .ok (.iastore, 1) := by decide +kernel
theorem dX2_setTrait_39 : decode cX2_setTrait 39 = .ok (.goto 51, 3) := by decide +kernel
theorem dX2_setTrait_42 : decode cX2_setTrait 42 = .ok (.aload_n 0, 1) := by decide +kernel
theorem dX2_setTrait_43 : decode cX2_setTrait 43 = .ok (.getfield 21, 3) := by decide +kernel
theorem dX2_setTrait_46 : decode cX2_setTrait 46 = .ok (.iload_n 1, 1) := by decide +kernel
theorem dX2_setTrait_47 : decode cX2_setTrait 47 = .ok (.iload_n 3, 1) := by decide +kernel
theorem dX2_setTrait_48 : decode cX2_setTrait 48 = .ok (.iastore, 1) := by decide +kernel
theorem dX2_setTrait_49 : decode cX2_setTrait 49 = .ok (.goto 41, 3) := by decide +kernel
theorem dX2_setTrait_52 : decode cX2_setTrait 52 = .ok (.aload_n 0, 1) := by decide +kernel
theorem dX2_setTrait_53 : decode cX2_setTrait 53 = .ok (.getfield 24, 3) := by decide +kernel
theorem dX2_setTrait_56 : decode cX2_setTrait 56 = .ok (.iload_n 1, 1) := by decide +kernel
theorem dX2_setTrait_57 : decode cX2_setTrait 57 = .ok (.iload_n 3, 1) := by decide +kernel
theorem dX2_setTrait_58 : decode cX2_setTrait 58 = .ok (.iastore, 1) := by decide +kernel
theorem dX2_setTrait_59 : decode cX2_setTrait 59 = .ok (.goto 31, 3) := by decide +kernel
theorem dX2_setTrait_62 : decode cX2_setTrait 62 = .ok (.aload_n 0, 1) := by decide +kernel
theorem dX2_setTrait_63 : decode cX2_setTrait 63 = .ok (.getfield 27, 3) := by decide +kernel
theorem dX2_setTrait_66 : decode cX2_setTrait 66 = .ok (.iload_n 1, 1) := by decide +kernel
theorem dX2_setTrait_67 : decode cX2_setTrait 67 = .ok (.iload_n 3, 1) := by decide +kernel
theorem dX2_setTrait_68 : decode cX2_setTrait 68 = .ok (.iastore, 1) := by decide +kernel
theorem dX2_setTrait_69 : decode cX2_setTrait 69 = .ok (.goto 21, 3) := by decide +kernel
theorem dX2_setTrait_72 : decode cX2_setTrait 72 = .ok (.aload_n 0, 1) := by decide +kernel
theorem dX2_setTrait_73 : decode cX2_setTrait 73 = .ok (.aload_n 0, 1) := by decide +kernel
theorem dX2_setTrait_74 : decode cX2_setTrait 74 = .ok (.getfield 50, 3) := by decide +kernel
theorem dX2_setTrait_77 : decode cX2_setTrait 77 = .ok (.iconst 1, 1) := by decide +kernel
theorem dX2_setTrait_78 : decode cX2_setTrait 78 = .ok (.iload_n 1, 1) := by decide +kernel
theorem dX2_setTrait_79 : decode cX2_setTrait 79 = .ok (.ishl, 1) := by decide +kernel
theorem dX2_setTrait_80 : decode cX2_setTrait 80 = .ok (.iconst (-1), 1) := by decide +kernel
theorem dX2_setTrait_81 : decode cX2_setTrait 81 = .ok (.ixor, 1) := by decide +kernel
theorem dX2_setTrait_82 : decode cX2_setTrait 82 = .ok (.iand, 1) := by decide +kernel
theorem dX2_setTrait_83 : decode cX2_setTrait 83 = .ok (.iload_n 3, 1) := by decide +kernel
theorem dX2_setTrait_84 : decode cX2_setTrait 84 = .ok (.iload_n 1, 1) := by decide +kernel
theorem dX2_setTrait_85 : decode cX2_setTrait 85 = .ok (.ishl, 1) := by decide +kernel
theorem dX2_setTrait_86 : decode cX2_setTrait 86 = .ok (.ior, 1) := by decide +kernel
theorem dX2_setTrait_87 : decode cX2_setTrait 87 = .ok (.putfield 50, 3) := by decide +kernel
theorem dX2_setTrait_90 : decode cX2_setTrait 90 = .ok (.return_, 1) := by decide +kernel
theorem dX2_heardAt_0 : decode cX2_heardAt 0 = .ok (.iconst 0, 1) := by decide +kernel
theorem dX2_heardAt_1 : decode cX2_heardAt 1 = .ok (.istore_n 2, 1) := by decide +kernel
theorem dX2_heardAt_2 : decode cX2_heardAt 2 = .ok (.iconst 0, 1) := by decide +kernel
theorem dX2_heardAt_3 : decode cX2_heardAt 3 = .ok (.istore_n 3, 1) := by decide +kernel
theorem dX2_heardAt_4 : decode cX2_heardAt 4 = .ok (.iload_n 3, 1) := by decide +kernel
theorem dX2_heardAt_5 : decode cX2_heardAt 5 = .ok (.aload_n 0, 1) := by decide +kernel
theorem dX2_heardAt_6 : decode cX2_heardAt 6 = .ok (.getfield 47, 3) := by decide +kernel
theorem dX2_heardAt_9 : decode cX2_heardAt 9 = .ok (.if_icmp .ge 41, 3) := by decide +kernel
theorem dX2_heardAt_12 : decode cX2_heardAt 12 = .ok (.aload_n 0, 1) := by decide +kernel
theorem dX2_heardAt_13 : decode cX2_heardAt 13 = .ok (.iload_n 3, 1) := by decide +kernel
theorem dX2_heardAt_14 : decode cX2_heardAt 14 = .ok (.invokevirtual 68, 3) := by decide +kernel
theorem dX2_heardAt_17 : decode cX2_heardAt 17 = .ok (.ifCond .eq 27, 3) := by decide +kernel
theorem dX2_heardAt_20 : decode cX2_heardAt 20 = .ok (.iload_n 2, 1) := by decide +kernel
theorem dX2_heardAt_21 : decode cX2_heardAt 21 = .ok (.aload_n 0, 1) := by decide +kernel
theorem dX2_heardAt_22 : decode cX2_heardAt 22 = .ok (.getfield 27, 3) := by decide +kernel
theorem dX2_heardAt_25 : decode cX2_heardAt 25 = .ok (.iload_n 3, 1) := by decide +kernel
theorem dX2_heardAt_26 : decode cX2_heardAt 26 = .ok (.iaload, 1) := by decide +kernel
theorem dX2_heardAt_27 : decode cX2_heardAt 27 = .ok (.aload_n 0, 1) := by decide +kernel
theorem dX2_heardAt_28 : decode cX2_heardAt 28 = .ok (.getfield 21, 3) := by decide +kernel
theorem dX2_heardAt_31 : decode cX2_heardAt 31 = .ok (.iload_n 3, 1) := by decide +kernel
theorem dX2_heardAt_32 : decode cX2_heardAt 32 = .ok (.iaload, 1) := by decide +kernel
theorem dX2_heardAt_33 : decode cX2_heardAt 33 = .ok (.iload_n 1, 1) := by decide +kernel
theorem dX2_heardAt_34 : decode cX2_heardAt 34 = .ok (.invokestatic 72, 3) := by decide +kernel
theorem dX2_heardAt_37 : decode cX2_heardAt 37 = .ok (.invokestatic 76, 3) := by decide +kernel
theorem dX2_heardAt_40 : decode cX2_heardAt 40 = .ok (.invokestatic 79, 3) := by decide +kernel
theorem dX2_heardAt_43 : decode cX2_heardAt 43 = .ok (.istore_n 2, 1) := by decide +kernel
theorem dX2_heardAt_44 : decode cX2_heardAt 44 = .ok (.iinc 3 1, 3) := by decide +kernel
theorem dX2_heardAt_47 : decode cX2_heardAt 47 = .ok (.goto (-43), 3) := by decide +kernel
theorem dX2_heardAt_50 : decode cX2_heardAt 50 = .ok (.iload_n 2, 1) := by decide +kernel
theorem dX2_heardAt_51 : decode cX2_heardAt 51 = .ok (.ireturn, 1) := by decide +kernel
theorem dX2_bellsAt_0 : decode cX2_bellsAt 0 = .ok (.iconst 0, 1) := by decide +kernel
theorem dX2_bellsAt_1 : decode cX2_bellsAt 1 = .ok (.istore_n 2, 1) := by decide +kernel
theorem dX2_bellsAt_2 : decode cX2_bellsAt 2 = .ok (.iconst 0, 1) := by decide +kernel
theorem dX2_bellsAt_3 : decode cX2_bellsAt 3 = .ok (.istore_n 3, 1) := by decide +kernel
theorem dX2_bellsAt_4 : decode cX2_bellsAt 4 = .ok (.iload_n 3, 1) := by decide +kernel
theorem dX2_bellsAt_5 : decode cX2_bellsAt 5 = .ok (.aload_n 0, 1) := by decide +kernel
theorem dX2_bellsAt_6 : decode cX2_bellsAt 6 = .ok (.getfield 47, 3) := by decide +kernel
theorem dX2_bellsAt_9 : decode cX2_bellsAt 9 = .ok (.if_icmp .ge 22, 3) := by decide +kernel
theorem dX2_bellsAt_12 : decode cX2_bellsAt 12 = .ok (.aload_n 0, 1) := by decide +kernel
theorem dX2_bellsAt_13 : decode cX2_bellsAt 13 = .ok (.getfield 21, 3) := by decide +kernel
theorem dX2_bellsAt_16 : decode cX2_bellsAt 16 = .ok (.iload_n 3, 1) := by decide +kernel
theorem dX2_bellsAt_17 : decode cX2_bellsAt 17 = .ok (.iaload, 1) := by decide +kernel
theorem dX2_bellsAt_18 : decode cX2_bellsAt 18 = .ok (.iload_n 1, 1) := by decide +kernel
theorem dX2_bellsAt_19 : decode cX2_bellsAt 19 = .ok (.if_icmp .ne 6, 3) := by decide +kernel
theorem dX2_bellsAt_22 : decode cX2_bellsAt 22 = .ok (.iinc 2 1, 3) := by decide +kernel
theorem dX2_bellsAt_25 : decode cX2_bellsAt 25 = .ok (.iinc 3 1, 3) := by decide +kernel
theorem dX2_bellsAt_28 : decode cX2_bellsAt 28 = .ok (.goto (-24), 3) := by decide +kernel
theorem dX2_bellsAt_31 : decode cX2_bellsAt 31 = .ok (.iload_n 2, 1) := by decide +kernel
theorem dX2_bellsAt_32 : decode cX2_bellsAt 32 = .ok (.ireturn, 1) := by decide +kernel
theorem dX2_weightOf_0 : decode cX2_weightOf 0 = .ok (.iconst 0, 1) := by decide +kernel
theorem dX2_weightOf_1 : decode cX2_weightOf 1 = .ok (.istore_n 2, 1) := by decide +kernel
theorem dX2_weightOf_2 : decode cX2_weightOf 2 = .ok (.iconst 0, 1) := by decide +kernel
theorem dX2_weightOf_3 : decode cX2_weightOf 3 = .ok (.istore_n 3, 1) := by decide +kernel
theorem dX2_weightOf_4 : decode cX2_weightOf 4 = .ok (.iload_n 3, 1) := by decide +kernel
theorem dX2_weightOf_5 : decode cX2_weightOf 5 = .ok (.aload_n 0, 1) := by decide +kernel
theorem dX2_weightOf_6 : decode cX2_weightOf 6 = .ok (.getfield 47, 3) := by decide +kernel
theorem dX2_weightOf_9 : decode cX2_weightOf 9 = .ok (.if_icmp .ge 27, 3) := by decide +kernel
theorem dX2_weightOf_12 : decode cX2_weightOf 12 = .ok (.iload_n 1, 1) := by decide +kernel
theorem dX2_weightOf_13 : decode cX2_weightOf 13 = .ok (.i2l, 1) := by decide +kernel
theorem dX2_weightOf_14 : decode cX2_weightOf 14 = .ok (.iload_n 3, 1) := by decide +kernel
theorem dX2_weightOf_15 : decode cX2_weightOf 15 = .ok (.invokestatic 62, 3) := by decide +kernel
theorem dX2_weightOf_18 : decode cX2_weightOf 18 = .ok (.ifCond .eq 12, 3) := by decide +kernel
theorem dX2_weightOf_21 : decode cX2_weightOf 21 = .ok (.iload_n 2, 1) := by decide +kernel
theorem dX2_weightOf_22 : decode cX2_weightOf 22 = .ok (.aload_n 0, 1) := by decide +kernel
theorem dX2_weightOf_23 : decode cX2_weightOf 23 = .ok (.getfield 27, 3) := by decide +kernel
theorem dX2_weightOf_26 : decode cX2_weightOf 26 = .ok (.iload_n 3, 1) := by decide +kernel
theorem dX2_weightOf_27 : decode cX2_weightOf 27 = .ok (.iaload, 1) := by decide +kernel
theorem dX2_weightOf_28 : decode cX2_weightOf 28 = .ok (.iadd, 1) := by decide +kernel
theorem dX2_weightOf_29 : decode cX2_weightOf 29 = .ok (.istore_n 2, 1) := by decide +kernel
theorem dX2_weightOf_30 : decode cX2_weightOf 30 = .ok (.iinc 3 1, 3) := by decide +kernel
theorem dX2_weightOf_33 : decode cX2_weightOf 33 = .ok (.goto (-29), 3) := by decide +kernel
theorem dX2_weightOf_36 : decode cX2_weightOf 36 = .ok (.iload_n 2, 1) := by decide +kernel
theorem dX2_weightOf_37 : decode cX2_weightOf 37 = .ok (.ireturn, 1) := by decide +kernel
theorem dX2_spotsHolding_0 : decode cX2_spotsHolding 0 = .ok (.iconst 0, 1) := by decide +kernel
theorem dX2_spotsHolding_1 : decode cX2_spotsHolding 1 = .ok (.istore_n 1, 1) := by decide +kernel
theorem dX2_spotsHolding_2 : decode cX2_spotsHolding 2 = .ok (.iconst 0, 1) := by decide +kernel
theorem dX2_spotsHolding_3 : decode cX2_spotsHolding 3 = .ok (.istore_n 2, 1) := by decide +kernel
theorem dX2_spotsHolding_4 : decode cX2_spotsHolding 4 = .ok (.iload_n 2, 1) := by decide +kernel
theorem dX2_spotsHolding_5 : decode cX2_spotsHolding 5 = .ok (.bipush 10, 2) := by decide +kernel
theorem dX2_spotsHolding_7 : decode cX2_spotsHolding 7 = .ok (.if_icmp .ge 21, 3) := by decide +kernel
theorem dX2_spotsHolding_10 : decode cX2_spotsHolding 10 = .ok (.aload_n 0, 1) := by decide +kernel
theorem dX2_spotsHolding_11 : decode cX2_spotsHolding 11 = .ok (.getfield 30, 3) := by decide +kernel
theorem dX2_spotsHolding_14 : decode cX2_spotsHolding 14 = .ok (.iload_n 2, 1) := by decide +kernel
theorem dX2_spotsHolding_15 : decode cX2_spotsHolding 15 = .ok (.iaload, 1) := by decide +kernel
theorem dX2_spotsHolding_16 : decode cX2_spotsHolding 16 = .ok (.ifCond .lt 6, 3) := by decide +kernel
theorem dX2_spotsHolding_19 : decode cX2_spotsHolding 19 = .ok (.iinc 1 1, 3) := by decide +kernel
theorem dX2_spotsHolding_22 : decode cX2_spotsHolding 22 = .ok (.iinc 2 1, 3) := by decide +kernel
theorem dX2_spotsHolding_25 : decode cX2_spotsHolding 25 = .ok (.goto (-21), 3) := by decide +kernel
theorem dX2_spotsHolding_28 : decode cX2_spotsHolding 28 = .ok (.iload_n 1, 1) := by decide +kernel
theorem dX2_spotsHolding_29 : decode cX2_spotsHolding 29 = .ok (.ireturn, 1) := by decide +kernel
theorem dX2_worthFor_0 : decode cX2_worthFor 0 = .ok (.bipush 10, 2) := by decide +kernel
theorem dX2_worthFor_2 : decode cX2_worthFor 2 = .ok (.aload_n 0, 1) := by decide +kernel
theorem dX2_worthFor_3 : decode cX2_worthFor 3 = .ok (.iload_n 2, 1) := by decide +kernel
theorem dX2_worthFor_4 : decode cX2_worthFor 4 = .ok (.invokevirtual 84, 3) := by decide +kernel
theorem dX2_worthFor_7 : decode cX2_worthFor 7 = .ok (.imul, 1) := by decide +kernel
theorem dX2_worthFor_8 : decode cX2_worthFor 8 = .ok (.bipush 9, 2) := by decide +kernel
theorem dX2_worthFor_10 : decode cX2_worthFor 10 = .ok (.iadd, 1) := by decide +kernel
theorem dX2_worthFor_11 : decode cX2_worthFor 11 = .ok (.aload_n 0, 1) := by decide +kernel
theorem dX2_worthFor_12 : decode cX2_worthFor 12 = .ok (.getfield 9, 3) := by decide +kernel
theorem dX2_worthFor_15 : decode cX2_worthFor 15 = .ok (.iload_n 2, 1) := by decide +kernel
theorem dX2_worthFor_16 : decode cX2_worthFor 16 = .ok (.iaload, 1) := by decide +kernel
theorem dX2_worthFor_17 : decode cX2_worthFor 17 = .ok (.isub, 1) := by decide +kernel
theorem dX2_worthFor_18 : decode cX2_worthFor 18 = .ok (.istore_n 3, 1) := by decide +kernel
theorem dX2_worthFor_19 : decode cX2_worthFor 19 = .ok (.aload_n 0, 1) := by decide +kernel
theorem dX2_worthFor_20 : decode cX2_worthFor 20 = .ok (.getfield 18, 3) := by decide +kernel
theorem dX2_worthFor_23 : decode cX2_worthFor 23 = .ok (.iload_n 1, 1) := by decide +kernel
theorem dX2_worthFor_24 : decode cX2_worthFor 24 = .ok (.iaload, 1) := by decide +kernel
theorem dX2_worthFor_25 : decode cX2_worthFor 25 = .ok (.tableswitch 139 1 6 #[39, 78, 89, 108, 129, 54], 39) := by decide +kernel
theorem dX2_worthFor_64 : decode cX2_worthFor 64 = .ok (.iload_n 3, 1) := by decide +kernel
theorem dX2_worthFor_65 : decode cX2_worthFor 65 = .ok (.bipush 20, 2) := by decide +kernel
theorem dX2_worthFor_67 : decode cX2_worthFor 67 = .ok (.iadd, 1) := by decide +kernel
theorem dX2_worthFor_68 : decode cX2_worthFor 68 = .ok (.aload_n 0, 1) := by decide +kernel
theorem dX2_worthFor_69 : decode cX2_worthFor 69 = .ok (.iload_n 1, 1) := by decide +kernel
theorem dX2_worthFor_70 : decode cX2_worthFor 70 = .ok (.iload_n 2, 1) := by decide +kernel
theorem dX2_worthFor_71 : decode cX2_worthFor 71 = .ok (.iconst 1, 1) := by decide +kernel
theorem dX2_worthFor_72 : decode cX2_worthFor 72 = .ok (.bipush 20, 2) := by decide +kernel
theorem dX2_worthFor_74 : decode cX2_worthFor 74 = .ok (.invokevirtual 88, 3) := by decide +kernel
theorem dX2_worthFor_77 : decode cX2_worthFor 77 = .ok (.isub, 1) := by decide +kernel
theorem dX2_worthFor_78 : decode cX2_worthFor 78 = .ok (.ireturn, 1) := by decide +kernel
theorem dX2_worthFor_79 : decode cX2_worthFor 79 = .ok (.iload_n 3, 1) := by decide +kernel
theorem dX2_worthFor_80 : decode cX2_worthFor 80 = .ok (.bipush 20, 2) := by decide +kernel
theorem dX2_worthFor_82 : decode cX2_worthFor 82 = .ok (.iadd, 1) := by decide +kernel
theorem dX2_worthFor_83 : decode cX2_worthFor 83 = .ok (.aload_n 0, 1) := by decide +kernel
theorem dX2_worthFor_84 : decode cX2_worthFor 84 = .ok (.iload_n 1, 1) := by decide +kernel
theorem dX2_worthFor_85 : decode cX2_worthFor 85 = .ok (.iload_n 2, 1) := by decide +kernel
theorem dX2_worthFor_86 : decode cX2_worthFor 86 = .ok (.iconst 1, 1) := by decide +kernel
theorem dX2_worthFor_87 : decode cX2_worthFor 87 = .ok (.bipush 20, 2) := by decide +kernel
theorem dX2_worthFor_89 : decode cX2_worthFor 89 = .ok (.invokevirtual 88, 3) := by decide +kernel
theorem dX2_worthFor_92 : decode cX2_worthFor 92 = .ok (.isub, 1) := by decide +kernel
theorem dX2_worthFor_93 : decode cX2_worthFor 93 = .ok (.iconst 2, 1) := by decide +kernel
theorem dX2_worthFor_94 : decode cX2_worthFor 94 = .ok (.aload_n 0, 1) := by decide +kernel
theorem dX2_worthFor_95 : decode cX2_worthFor 95 = .ok (.getfield 9, 3) := by decide +kernel
theorem dX2_worthFor_98 : decode cX2_worthFor 98 = .ok (.iload_n 2, 1) := by decide +kernel
theorem dX2_worthFor_99 : decode cX2_worthFor 99 = .ok (.iaload, 1) := by decide +kernel
theorem dX2_worthFor_100 : decode cX2_worthFor 100 = .ok (.imul, 1) := by decide +kernel
theorem dX2_worthFor_101 : decode cX2_worthFor 101 = .ok (.iadd, 1) := by decide +kernel
theorem dX2_worthFor_102 : decode cX2_worthFor 102 = .ok (.ireturn, 1) := by decide +kernel
theorem dX2_worthFor_103 : decode cX2_worthFor 103 = .ok (.iload_n 3, 1) := by decide +kernel
theorem dX2_worthFor_104 : decode cX2_worthFor 104 = .ok (.aload_n 0, 1) := by decide +kernel
theorem dX2_worthFor_105 : decode cX2_worthFor 105 = .ok (.iload_n 1, 1) := by decide +kernel
theorem dX2_worthFor_106 : decode cX2_worthFor 106 = .ok (.iload_n 2, 1) := by decide +kernel
theorem dX2_worthFor_107 : decode cX2_worthFor 107 = .ok (.iconst 0, 1) := by decide +kernel
theorem dX2_worthFor_108 : decode cX2_worthFor 108 = .ok (.iconst 0, 1) := by decide +kernel
theorem dX2_worthFor_109 : decode cX2_worthFor 109 = .ok (.invokevirtual 88, 3) := by decide +kernel
theorem dX2_worthFor_112 : decode cX2_worthFor 112 = .ok (.iadd, 1) := by decide +kernel
theorem dX2_worthFor_113 : decode cX2_worthFor 113 = .ok (.ireturn, 1) := by decide +kernel
theorem dX2_worthFor_114 : decode cX2_worthFor 114 = .ok (.iload_n 3, 1) := by decide +kernel
theorem dX2_worthFor_115 : decode cX2_worthFor 115 = .ok (.aload_n 0, 1) := by decide +kernel
theorem dX2_worthFor_116 : decode cX2_worthFor 116 = .ok (.iload_n 1, 1) := by decide +kernel
theorem dX2_worthFor_117 : decode cX2_worthFor 117 = .ok (.iload_n 2, 1) := by decide +kernel
theorem dX2_worthFor_118 : decode cX2_worthFor 118 = .ok (.iconst 0, 1) := by decide +kernel
theorem dX2_worthFor_119 : decode cX2_worthFor 119 = .ok (.iconst 0, 1) := by decide +kernel
theorem dX2_worthFor_120 : decode cX2_worthFor 120 = .ok (.invokevirtual 88, 3) := by decide +kernel
theorem dX2_worthFor_123 : decode cX2_worthFor 123 = .ok (.iadd, 1) := by decide +kernel
theorem dX2_worthFor_124 : decode cX2_worthFor 124 = .ok (.bipush 7, 2) := by decide +kernel
theorem dX2_worthFor_126 : decode cX2_worthFor 126 = .ok (.iadd, 1) := by decide +kernel
theorem dX2_worthFor_127 : decode cX2_worthFor 127 = .ok (.iload_n 2, 1) := by decide +kernel
theorem dX2_worthFor_128 : decode cX2_worthFor 128 = .ok (.bipush 8, 2) := by decide +kernel
theorem dX2_worthFor_130 : decode cX2_worthFor 130 = .ok (.idiv, 1) := by decide +kernel
theorem dX2_worthFor_131 : decode cX2_worthFor 131 = .ok (.isub, 1) := by decide +kernel
theorem dX2_worthFor_132 : decode cX2_worthFor 132 = .ok (.ireturn, 1) := by decide +kernel
theorem dX2_worthFor_133 : decode cX2_worthFor 133 = .ok (.iconst 2, 1) := by decide +kernel
theorem dX2_worthFor_134 : decode cX2_worthFor 134 = .ok (.iload_n 3, 1) := by decide +kernel
theorem dX2_worthFor_135 : decode cX2_worthFor 135 = .ok (.aload_n 0, 1) := by decide +kernel
theorem dX2_worthFor_136 : decode cX2_worthFor 136 = .ok (.iload_n 1, 1) := by decide +kernel
theorem dX2_worthFor_137 : decode cX2_worthFor 137 = .ok (.iload_n 2, 1) := by decide +kernel
theorem dX2_worthFor_138 : decode cX2_worthFor 138 = .ok (.iconst 0, 1) := by decide +kernel
theorem dX2_worthFor_139 : decode cX2_worthFor 139 = .ok (.iconst 0, 1) := by decide +kernel
theorem dX2_worthFor_140 : decode cX2_worthFor 140 = .ok (.invokevirtual 88, 3) := by decide +kernel
theorem dX2_worthFor_143 : decode cX2_worthFor 143 = .ok (.iadd, 1) := by decide +kernel
theorem dX2_worthFor_144 : decode cX2_worthFor 144 = .ok (.bipush 7, 2) := by decide +kernel
theorem dX2_worthFor_146 : decode cX2_worthFor 146 = .ok (.iadd, 1) := by decide +kernel
theorem dX2_worthFor_147 : decode cX2_worthFor 147 = .ok (.iload_n 2, 1) := by decide +kernel
theorem dX2_worthFor_148 : decode cX2_worthFor 148 = .ok (.bipush 8, 2) := by decide +kernel
theorem dX2_worthFor_150 : decode cX2_worthFor 150 = .ok (.idiv, 1) := by decide +kernel
theorem dX2_worthFor_151 : decode cX2_worthFor 151 = .ok (.isub, 1) := by decide +kernel
theorem dX2_worthFor_152 : decode cX2_worthFor 152 = .ok (.imul, 1) := by decide +kernel
theorem dX2_worthFor_153 : decode cX2_worthFor 153 = .ok (.ireturn, 1) := by decide +kernel
theorem dX2_worthFor_154 : decode cX2_worthFor 154 = .ok (.iload_n 3, 1) := by decide +kernel
theorem dX2_worthFor_155 : decode cX2_worthFor 155 = .ok (.iconst 2, 1) := by decide +kernel
theorem dX2_worthFor_156 : decode cX2_worthFor 156 = .ok (.iload_n 2, 1) := by decide +kernel
theorem dX2_worthFor_157 : decode cX2_worthFor 157 = .ok (.iconst 0, 1) := by decide +kernel
theorem dX2_worthFor_158 : decode cX2_worthFor 158 = .ok (.invokestatic 72, 3) := by decide +kernel
theorem dX2_worthFor_161 : decode cX2_worthFor 161 = .ok (.imul, 1) := by decide +kernel
theorem dX2_worthFor_162 : decode cX2_worthFor 162 = .ok (.isub, 1) := by decide +kernel
theorem dX2_worthFor_163 : decode cX2_worthFor 163 = .ok (.ireturn, 1) := by decide +kernel
theorem dX2_worthFor_164 : decode cX2_worthFor 164 = .ok (.iload_n 3, 1) := by decide +kernel
theorem dX2_worthFor_165 : decode cX2_worthFor 165 = .ok (.ireturn, 1) := by decide +kernel
theorem dX2_fromHunters_0 : decode cX2_fromHunters 0 = .ok (.aload_n 0, 1) := by decide +kernel
theorem dX2_fromHunters_1 : decode cX2_fromHunters 1 = .ok (.getfield 33, 3) := by decide +kernel
theorem dX2_fromHunters_4 : decode cX2_fromHunters 4 = .ok (.istore_n 2, 1) := by decide +kernel
theorem dX2_fromHunters_5 : decode cX2_fromHunters 5 = .ok (.iconst 0, 1) := by decide +kernel
theorem dX2_fromHunters_6 : decode cX2_fromHunters 6 = .ok (.istore_n 3, 1) := by decide +kernel
theorem dX2_fromHunters_7 : decode cX2_fromHunters 7 = .ok (.iload_n 3, 1) := by decide +kernel
theorem dX2_fromHunters_8 : decode cX2_fromHunters 8 = .ok (.iconst 4, 1) := by decide +kernel
theorem dX2_fromHunters_9 : decode cX2_fromHunters 9 = .ok (.if_icmp .ge 33, 3) := by decide +kernel
theorem dX2_fromHunters_12 : decode cX2_fromHunters 12 = .ok (.aload_n 0, 1) := by decide +kernel
theorem dX2_fromHunters_13 : decode cX2_fromHunters 13 = .ok (.getfield 15, 3) := by decide +kernel
theorem dX2_fromHunters_16 : decode cX2_fromHunters 16 = .ok (.iload_n 3, 1) := by decide +kernel
theorem dX2_fromHunters_17 : decode cX2_fromHunters 17 = .ok (.iaload, 1) := by decide +kernel
theorem dX2_fromHunters_18 : decode cX2_fromHunters 18 = .ok (.ifCond .lt 18, 3) := by decide +kernel
theorem dX2_fromHunters_21 : decode cX2_fromHunters 21 = .ok (.iload_n 2, 1) := by decide +kernel
theorem dX2_fromHunters_22 : decode cX2_fromHunters 22 = .ok (.iload_n 1, 1) := by decide +kernel
theorem dX2_fromHunters_23 : decode cX2_fromHunters 23 = .ok (.aload_n 0, 1) := by decide +kernel
theorem dX2_fromHunters_24 : decode cX2_fromHunters 24 = .ok (.getfield 15, 3) := by decide +kernel
theorem dX2_fromHunters_27 : decode cX2_fromHunters 27 = .ok (.iload_n 3, 1) := by decide +kernel
theorem dX2_fromHunters_28 : decode cX2_fromHunters 28 = .ok (.iaload, 1) := by decide +kernel
theorem dX2_fromHunters_29 : decode cX2_fromHunters 29 = .ok (.invokestatic 72, 3) := by decide +kernel
theorem dX2_fromHunters_32 : decode cX2_fromHunters 32 = .ok (.invokestatic 92, 3) := by decide +kernel
theorem dX2_fromHunters_35 : decode cX2_fromHunters 35 = .ok (.istore_n 2, 1) := by decide +kernel
theorem dX2_fromHunters_36 : decode cX2_fromHunters 36 = .ok (.iinc 3 1, 3) := by decide +kernel
theorem dX2_fromHunters_39 : decode cX2_fromHunters 39 = .ok (.goto (-32), 3) := by decide +kernel
theorem dX2_fromHunters_42 : decode cX2_fromHunters 42 = .ok (.iload_n 2, 1) := by decide +kernel
theorem dX2_fromHunters_43 : decode cX2_fromHunters 43 = .ok (.ireturn, 1) := by decide +kernel
theorem dX2_nearestOther_0 : decode cX2_nearestOther 0 = .ok (.iconst (-1), 1) := by decide +kernel
theorem dX2_nearestOther_1 : decode cX2_nearestOther 1 = .ok (.istore 5, 2) := by decide +kernel
theorem dX2_nearestOther_3 : decode cX2_nearestOther 3 = .ok (.iconst 0, 1) := by decide +kernel
theorem dX2_nearestOther_4 : decode cX2_nearestOther 4 = .ok (.istore 6, 2) := by decide +kernel
theorem dX2_nearestOther_6 : decode cX2_nearestOther 6 = .ok (.iload 6, 2) := by decide +kernel
theorem dX2_nearestOther_8 : decode cX2_nearestOther 8 = .ok (.aload_n 0, 1) := by decide +kernel
theorem dX2_nearestOther_9 : decode cX2_nearestOther 9 = .ok (.getfield 47, 3) := by decide +kernel
theorem dX2_nearestOther_12 : decode cX2_nearestOther 12 = .ok (.if_icmp .ge 72, 3) := by decide +kernel
theorem dX2_nearestOther_15 : decode cX2_nearestOther 15 = .ok (.iload 6, 2) := by decide +kernel
theorem dX2_nearestOther_17 : decode cX2_nearestOther 17 = .ok (.iload_n 1, 1) := by decide +kernel
theorem dX2_nearestOther_18 : decode cX2_nearestOther 18 = .ok (.if_icmp .eq 60, 3) := by decide +kernel
theorem dX2_nearestOther_21 : decode cX2_nearestOther 21 = .ok (.aload_n 0, 1) := by decide +kernel
theorem dX2_nearestOther_22 : decode cX2_nearestOther 22 = .ok (.iload 6, 2) := by decide +kernel
theorem dX2_nearestOther_24 : decode cX2_nearestOther 24 = .ok (.invokevirtual 68, 3) := by decide +kernel
theorem dX2_nearestOther_27 : decode cX2_nearestOther 27 = .ok (.ifCond .eq 51, 3) := by decide +kernel
theorem dX2_nearestOther_30 : decode cX2_nearestOther 30 = .ok (.aload_n 0, 1) := by decide +kernel
theorem dX2_nearestOther_31 : decode cX2_nearestOther 31 = .ok (.getfield 18, 3) := by decide +kernel
theorem dX2_nearestOther_34 : decode cX2_nearestOther 34 = .ok (.iload 6, 2) := by decide +kernel
theorem dX2_nearestOther_36 : decode cX2_nearestOther 36 = .ok (.iaload, 1) := by decide +kernel
theorem dX2_nearestOther_37 : decode cX2_nearestOther 37 = .ok (.iload_n 3, 1) := by decide +kernel
theorem dX2_nearestOther_38 : decode cX2_nearestOther 38 = .ok (.invokestatic 95, 3) := by decide +kernel
theorem dX2_nearestOther_41 : decode cX2_nearestOther 41 = .ok (.ifCond .eq 37, 3) := by decide +kernel
theorem dX2_nearestOther_44 : decode cX2_nearestOther 44 = .ok (.iload_n 2, 1) := by decide +kernel
theorem dX2_nearestOther_45 : decode cX2_nearestOther 45 = .ok (.aload_n 0, 1) := by decide +kernel
theorem dX2_nearestOther_46 : decode cX2_nearestOther 46 = .ok (.getfield 21, 3) := by decide +kernel
theorem dX2_nearestOther_49 : decode cX2_nearestOther 49 = .ok (.iload 6, 2) := by decide +kernel
theorem dX2_nearestOther_51 : decode cX2_nearestOther 51 = .ok (.iaload, 1) := by decide +kernel
theorem dX2_nearestOther_52 : decode cX2_nearestOther 52 = .ok (.invokestatic 72, 3) := by decide +kernel
theorem dX2_nearestOther_55 : decode cX2_nearestOther 55 = .ok (.istore 7, 2) := by decide +kernel
theorem dX2_nearestOther_57 : decode cX2_nearestOther 57 = .ok (.iload 5, 2) := by decide +kernel
theorem dX2_nearestOther_59 : decode cX2_nearestOther 59 = .ok (.ifCond .lt 10, 3) := by decide +kernel
theorem dX2_nearestOther_62 : decode cX2_nearestOther 62 = .ok (.iload 7, 2) := by decide +kernel
theorem dX2_nearestOther_64 : decode cX2_nearestOther 64 = .ok (.iload 5, 2) := by decide +kernel
theorem dX2_nearestOther_66 : decode cX2_nearestOther 66 = .ok (.if_icmp .ge 8, 3) := by decide +kernel
theorem dX2_nearestOther_69 : decode cX2_nearestOther 69 = .ok (.iload 7, 2) := by decide +kernel
theorem dX2_nearestOther_71 : decode cX2_nearestOther 71 = .ok (.goto 5, 3) := by decide +kernel
theorem dX2_nearestOther_74 : decode cX2_nearestOther 74 = .ok (.iload 5, 2) := by decide +kernel
theorem dX2_nearestOther_76 : decode cX2_nearestOther 76 = .ok (.istore 5, 2) := by decide +kernel
theorem dX2_nearestOther_78 : decode cX2_nearestOther 78 = .ok (.iinc 6 1, 3) := by decide +kernel
theorem dX2_nearestOther_81 : decode cX2_nearestOther 81 = .ok (.goto (-75), 3) := by decide +kernel
theorem dX2_nearestOther_84 : decode cX2_nearestOther 84 = .ok (.iload 5, 2) := by decide +kernel
theorem dX2_nearestOther_86 : decode cX2_nearestOther 86 = .ok (.ifCond .ge 8, 3) := by decide +kernel
theorem dX2_nearestOther_89 : decode cX2_nearestOther 89 = .ok (.iload 4, 2) := by decide +kernel
theorem dX2_nearestOther_91 : decode cX2_nearestOther 91 = .ok (.goto 5, 3) := by decide +kernel
theorem dX2_nearestOther_94 : decode cX2_nearestOther 94 = .ok (.iload 5, 2) := by decide +kernel
theorem dX2_nearestOther_96 : decode cX2_nearestOther 96 = .ok (.ireturn, 1) := by decide +kernel
theorem dX2_nextCell_0 : decode cX2_nextCell 0 = .ok (.aload_n 0, 1) := by decide +kernel
theorem dX2_nextCell_1 : decode cX2_nextCell 1 = .ok (.getfield 21, 3) := by decide +kernel
theorem dX2_nextCell_4 : decode cX2_nextCell 4 = .ok (.iload_n 1, 1) := by decide +kernel
theorem dX2_nextCell_5 : decode cX2_nextCell 5 = .ok (.iaload, 1) := by decide +kernel
theorem dX2_nextCell_6 : decode cX2_nextCell 6 = .ok (.istore_n 2, 1) := by decide +kernel
theorem dX2_nextCell_7 : decode cX2_nextCell 7 = .ok (.iload_n 2, 1) := by decide +kernel
theorem dX2_nextCell_8 : decode cX2_nextCell 8 = .ok (.istore_n 3, 1) := by decide +kernel
theorem dX2_nextCell_9 : decode cX2_nextCell 9 = .ok (.aload_n 0, 1) := by decide +kernel
theorem dX2_nextCell_10 : decode cX2_nextCell 10 = .ok (.iload_n 1, 1) := by decide +kernel
theorem dX2_nextCell_11 : decode cX2_nextCell 11 = .ok (.iload_n 2, 1) := by decide +kernel
theorem dX2_nextCell_12 : decode cX2_nextCell 12 = .ok (.invokevirtual 99, 3) := by decide +kernel
theorem dX2_nextCell_15 : decode cX2_nextCell 15 = .ok (.istore 4, 2) := by decide +kernel
theorem dX2_nextCell_17 : decode cX2_nextCell 17 = .ok (.iconst 0, 1) := by decide +kernel
theorem dX2_nextCell_18 : decode cX2_nextCell 18 = .ok (.istore 5, 2) := by decide +kernel
theorem dX2_nextCell_20 : decode cX2_nextCell 20 = .ok (.iload 5, 2) := by decide +kernel
theorem dX2_nextCell_22 : decode cX2_nextCell 22 = .ok (.iconst 4, 1) := by decide +kernel
theorem dX2_nextCell_23 : decode cX2_nextCell 23 = .ok (.if_icmp .ge 45, 3) := by decide +kernel
theorem dX2_nextCell_26 : decode cX2_nextCell 26 = .ok (.iload_n 2, 1) := by decide +kernel
theorem dX2_nextCell_27 : decode cX2_nextCell 27 = .ok (.iload 5, 2) := by decide +kernel
theorem dX2_nextCell_29 : decode cX2_nextCell 29 = .ok (.invokestatic 102, 3) := by decide +kernel
theorem dX2_nextCell_32 : decode cX2_nextCell 32 = .ok (.istore 6, 2) := by decide +kernel
theorem dX2_nextCell_34 : decode cX2_nextCell 34 = .ok (.iload 6, 2) := by decide +kernel
theorem dX2_nextCell_36 : decode cX2_nextCell 36 = .ok (.ifCond .lt 26, 3) := by decide +kernel
theorem dX2_nextCell_39 : decode cX2_nextCell 39 = .ok (.aload_n 0, 1) := by decide +kernel
theorem dX2_nextCell_40 : decode cX2_nextCell 40 = .ok (.iload_n 1, 1) := by decide +kernel
theorem dX2_nextCell_41 : decode cX2_nextCell 41 = .ok (.iload 6, 2) := by decide +kernel
theorem dX2_nextCell_43 : decode cX2_nextCell 43 = .ok (.invokevirtual 99, 3) := by decide +kernel
theorem dX2_nextCell_46 : decode cX2_nextCell 46 = .ok (.istore 7, 2) := by decide +kernel
theorem dX2_nextCell_48 : decode cX2_nextCell 48 = .ok (.iload 7, 2) := by decide +kernel
theorem dX2_nextCell_50 : decode cX2_nextCell 50 = .ok (.iload 4, 2) := by decide +kernel
theorem dX2_nextCell_52 : decode cX2_nextCell 52 = .ok (.if_icmp .le 10, 3) := by decide +kernel
theorem dX2_nextCell_55 : decode cX2_nextCell 55 = .ok (.iload 7, 2) := by decide +kernel
theorem dX2_nextCell_57 : decode cX2_nextCell 57 = .ok (.istore 4, 2) := by decide +kernel
theorem dX2_nextCell_59 : decode cX2_nextCell 59 = .ok (.iload 6, 2) := by decide +kernel
theorem dX2_nextCell_61 : decode cX2_nextCell 61 = .ok (.istore_n 3, 1) := by decide +kernel
theorem dX2_nextCell_62 : decode cX2_nextCell 62 = .ok (.iinc 5 1, 3) := by decide +kernel
theorem dX2_nextCell_65 : decode cX2_nextCell 65 = .ok (.goto (-45), 3) := by decide +kernel
theorem dX2_nextCell_68 : decode cX2_nextCell 68 = .ok (.iload_n 3, 1) := by decide +kernel
theorem dX2_nextCell_69 : decode cX2_nextCell 69 = .ok (.ireturn, 1) := by decide +kernel
theorem dX2_cellBeside_0 : decode cX2_cellBeside 0 = .ok (.iload_n 1, 1) := by decide +kernel
theorem dX2_cellBeside_1 : decode cX2_cellBeside 1 = .ok (.tableswitch 74 0 2 #[27, 42, 59], 27) := by decide +kernel
theorem dX2_cellBeside_28 : decode cX2_cellBeside 28 = .ok (.iload_n 0, 1) := by decide +kernel
theorem dX2_cellBeside_29 : decode cX2_cellBeside 29 = .ok (.bipush 8, 2) := by decide +kernel
theorem dX2_cellBeside_31 : decode cX2_cellBeside 31 = .ok (.if_icmp .lt 10, 3) := by decide +kernel
theorem dX2_cellBeside_34 : decode cX2_cellBeside 34 = .ok (.iload_n 0, 1) := by decide +kernel
theorem dX2_cellBeside_35 : decode cX2_cellBeside 35 = .ok (.bipush 8, 2) := by decide +kernel
theorem dX2_cellBeside_37 : decode cX2_cellBeside 37 = .ok (.isub, 1) := by decide +kernel
theorem dX2_cellBeside_38 : decode cX2_cellBeside 38 = .ok (.goto 4, 3) := by decide +kernel
theorem dX2_cellBeside_41 : decode cX2_cellBeside 41 = .ok (.iconst (-1), 1) := by decide +kernel
theorem dX2_cellBeside_42 : decode cX2_cellBeside 42 = .ok (.ireturn, 1) := by decide +kernel
theorem dX2_cellBeside_43 : decode cX2_cellBeside 43 = .ok (.iload_n 0, 1) := by decide +kernel
theorem dX2_cellBeside_44 : decode cX2_cellBeside 44 = .ok (.bipush 8, 2) := by decide +kernel
theorem dX2_cellBeside_46 : decode cX2_cellBeside 46 = .ok (.irem, 1) := by decide +kernel
theorem dX2_cellBeside_47 : decode cX2_cellBeside 47 = .ok (.bipush 7, 2) := by decide +kernel
theorem dX2_cellBeside_49 : decode cX2_cellBeside 49 = .ok (.if_icmp .ge 9, 3) := by decide +kernel
theorem dX2_cellBeside_52 : decode cX2_cellBeside 52 = .ok (.iload_n 0, 1) := by decide +kernel
theorem dX2_cellBeside_53 : decode cX2_cellBeside 53 = .ok (.iconst 1, 1) := by decide +kernel
theorem dX2_cellBeside_54 : decode cX2_cellBeside 54 = .ok (.iadd, 1) := by decide +kernel
theorem dX2_cellBeside_55 : decode cX2_cellBeside 55 = .ok (.goto 4, 3) := by decide +kernel
theorem dX2_cellBeside_58 : decode cX2_cellBeside 58 = .ok (.iconst (-1), 1) := by decide +kernel
theorem dX2_cellBeside_59 : decode cX2_cellBeside 59 = .ok (.ireturn, 1) := by decide +kernel
theorem dX2_cellBeside_60 : decode cX2_cellBeside 60 = .ok (.iload_n 0, 1) := by decide +kernel
theorem dX2_cellBeside_61 : decode cX2_cellBeside 61 = .ok (.bipush 56, 2) := by decide +kernel
theorem dX2_cellBeside_63 : decode cX2_cellBeside 63 = .ok (.if_icmp .ge 10, 3) := by decide +kernel
theorem dX2_cellBeside_66 : decode cX2_cellBeside 66 = .ok (.iload_n 0, 1) := by decide +kernel
theorem dX2_cellBeside_67 : decode cX2_cellBeside 67 = .ok (.bipush 8, 2) := by decide +kernel
theorem dX2_cellBeside_69 : decode cX2_cellBeside 69 = .ok (.iadd, 1) := by decide +kernel
theorem dX2_cellBeside_70 : decode cX2_cellBeside 70 = .ok (.goto 4, 3) := by decide +kernel
theorem dX2_cellBeside_73 : decode cX2_cellBeside 73 = .ok (.iconst (-1), 1) := by decide +kernel
theorem dX2_cellBeside_74 : decode cX2_cellBeside 74 = .ok (.ireturn, 1) := by decide +kernel
theorem dX2_cellBeside_75 : decode cX2_cellBeside 75 = .ok (.iload_n 0, 1) := by decide +kernel
theorem dX2_cellBeside_76 : decode cX2_cellBeside 76 = .ok (.bipush 8, 2) := by decide +kernel
theorem dX2_cellBeside_78 : decode cX2_cellBeside 78 = .ok (.irem, 1) := by decide +kernel
theorem dX2_cellBeside_79 : decode cX2_cellBeside 79 = .ok (.ifCond .le 9, 3) := by decide +kernel
theorem dX2_cellBeside_82 : decode cX2_cellBeside 82 = .ok (.iload_n 0, 1) := by decide +kernel
theorem dX2_cellBeside_83 : decode cX2_cellBeside 83 = .ok (.iconst 1, 1) := by decide +kernel
theorem dX2_cellBeside_84 : decode cX2_cellBeside 84 = .ok (.isub, 1) := by decide +kernel
theorem dX2_cellBeside_85 : decode cX2_cellBeside 85 = .ok (.goto 4, 3) := by decide +kernel
theorem dX2_cellBeside_88 : decode cX2_cellBeside 88 = .ok (.iconst (-1), 1) := by decide +kernel
theorem dX2_cellBeside_89 : decode cX2_cellBeside 89 = .ok (.ireturn, 1) := by decide +kernel
theorem dX2_hourGoes_0 : decode cX2_hourGoes 0 = .ok (.iconst 0, 1) := by decide +kernel
theorem dX2_hourGoes_1 : decode cX2_hourGoes 1 = .ok (.istore_n 1, 1) := by decide +kernel
theorem dX2_hourGoes_2 : decode cX2_hourGoes 2 = .ok (.iconst 0, 1) := by decide +kernel
theorem dX2_hourGoes_3 : decode cX2_hourGoes 3 = .ok (.istore_n 2, 1) := by decide +kernel
theorem dX2_hourGoes_4 : decode cX2_hourGoes 4 = .ok (.iload_n 2, 1) := by decide +kernel
theorem dX2_hourGoes_5 : decode cX2_hourGoes 5 = .ok (.aload_n 0, 1) := by decide +kernel
theorem dX2_hourGoes_6 : decode cX2_hourGoes 6 = .ok (.getfield 47, 3) := by decide +kernel
theorem dX2_hourGoes_9 : decode cX2_hourGoes 9 = .ok (.if_icmp .ge 82, 3) := by decide +kernel
theorem dX2_hourGoes_12 : decode cX2_hourGoes 12 = .ok (.aload_n 0, 1) := by decide +kernel
theorem dX2_hourGoes_13 : decode cX2_hourGoes 13 = .ok (.iload_n 2, 1) := by decide +kernel
theorem dX2_hourGoes_14 : decode cX2_hourGoes 14 = .ok (.invokevirtual 68, 3) := by decide +kernel
theorem dX2_hourGoes_17 : decode cX2_hourGoes 17 = .ok (.ifCond .eq 68, 3) := by decide +kernel
theorem dX2_hourGoes_20 : decode cX2_hourGoes 20 = .ok (.aload_n 0, 1) := by decide +kernel
theorem dX2_hourGoes_21 : decode cX2_hourGoes 21 = .ok (.iload_n 2, 1) := by decide +kernel
theorem dX2_hourGoes_22 : decode cX2_hourGoes 22 = .ok (.invokevirtual 105, 3) := by decide +kernel
theorem dX2_hourGoes_25 : decode cX2_hourGoes 25 = .ok (.istore_n 3, 1) := by decide +kernel
theorem dX2_hourGoes_26 : decode cX2_hourGoes 26 = .ok (.iload_n 1, 1) := by decide +kernel
theorem dX2_hourGoes_27 : decode cX2_hourGoes 27 = .ok (.iload_n 3, 1) := by decide +kernel
theorem dX2_hourGoes_28 : decode cX2_hourGoes 28 = .ok (.aload_n 0, 1) := by decide +kernel
theorem dX2_hourGoes_29 : decode cX2_hourGoes 29 = .ok (.getfield 21, 3) := by decide +kernel
theorem dX2_hourGoes_32 : decode cX2_hourGoes 32 = .ok (.iload_n 2, 1) := by decide +kernel
theorem dX2_hourGoes_33 : decode cX2_hourGoes 33 = .ok (.iaload, 1) := by decide +kernel
theorem dX2_hourGoes_34 : decode cX2_hourGoes 34 = .ok (.if_icmp .eq 7, 3) := by decide +kernel
theorem dX2_hourGoes_37 : decode cX2_hourGoes 37 = .ok (.iconst 1, 1) := by decide +kernel
theorem dX2_hourGoes_38 : decode cX2_hourGoes 38 = .ok (.goto 4, 3) := by decide +kernel
theorem dX2_hourGoes_41 : decode cX2_hourGoes 41 = .ok (.iconst 0, 1) := by decide +kernel
theorem dX2_hourGoes_42 : decode cX2_hourGoes 42 = .ok (.ior, 1) := by decide +kernel
theorem dX2_hourGoes_43 : decode cX2_hourGoes 43 = .ok (.istore_n 1, 1) := by decide +kernel
theorem dX2_hourGoes_44 : decode cX2_hourGoes 44 = .ok (.aload_n 0, 1) := by decide +kernel
theorem dX2_hourGoes_45 : decode cX2_hourGoes 45 = .ok (.getfield 21, 3) := by decide +kernel
theorem dX2_hourGoes_48 : decode cX2_hourGoes 48 = .ok (.iload_n 2, 1) := by decide +kernel
theorem dX2_hourGoes_49 : decode cX2_hourGoes 49 = .ok (.iload_n 3, 1) := by decide +kernel
theorem dX2_hourGoes_50 : decode cX2_hourGoes 50 = .ok (.iastore, 1) := by decide +kernel
theorem dX2_hourGoes_51 : decode cX2_hourGoes 51 = .ok (.aload_n 0, 1) := by decide +kernel
theorem dX2_hourGoes_52 : decode cX2_hourGoes 52 = .ok (.dup, 1) := by decide +kernel
theorem dX2_hourGoes_53 : decode cX2_hourGoes 53 = .ok (.getfield 53, 3) := by decide +kernel
theorem dX2_hourGoes_56 : decode cX2_hourGoes 56 = .ok (.lconst 1, 1) := by decide +kernel
theorem dX2_hourGoes_57 : decode cX2_hourGoes 57 = .ok (.iload_n 3, 1) := by decide +kernel
theorem dX2_hourGoes_58 : decode cX2_hourGoes 58 = .ok (.lshl, 1) := by decide +kernel
theorem dX2_hourGoes_59 : decode cX2_hourGoes 59 = .ok (.lor, 1) := by decide +kernel
theorem dX2_hourGoes_60 : decode cX2_hourGoes 60 = .ok (.putfield 53, 3) := by decide +kernel
theorem dX2_hourGoes_63 : decode cX2_hourGoes 63 = .ok (.aload_n 0, 1) := by decide +kernel
theorem dX2_hourGoes_64 : decode cX2_hourGoes 64 = .ok (.iload_n 3, 1) := by decide +kernel
theorem dX2_hourGoes_65 : decode cX2_hourGoes 65 = .ok (.invokevirtual 108, 3) := by decide +kernel
theorem dX2_hourGoes_68 : decode cX2_hourGoes 68 = .ok (.ifCond .eq 17, 3) := by decide +kernel
theorem dX2_hourGoes_71 : decode cX2_hourGoes 71 = .ok (.aload_n 0, 1) := by decide +kernel
theorem dX2_hourGoes_72 : decode cX2_hourGoes 72 = .ok (.dup, 1) := by decide +kernel
theorem dX2_hourGoes_73 : decode cX2_hourGoes 73 = .ok (.getfield 50, 3) := by decide +kernel
theorem dX2_hourGoes_76 : decode cX2_hourGoes 76 = .ok (.iconst 1, 1) := by decide +kernel
theorem dX2_hourGoes_77 : decode cX2_hourGoes 77 = .ok (.iload_n 2, 1) := by decide +kernel
theorem dX2_hourGoes_78 : decode cX2_hourGoes 78 = .ok (.ishl, 1) := by decide +kernel
theorem dX2_hourGoes_79 : decode cX2_hourGoes 79 = .ok (.ior, 1) := by decide +kernel
theorem dX2_hourGoes_80 : decode cX2_hourGoes 80 = .ok (.putfield 50, 3) := by decide +kernel
theorem dX2_hourGoes_83 : decode cX2_hourGoes 83 = .ok (.iconst 1, 1) := by decide +kernel
theorem dX2_hourGoes_84 : decode cX2_hourGoes 84 = .ok (.istore_n 1, 1) := by decide +kernel
theorem dX2_hourGoes_85 : decode cX2_hourGoes 85 = .ok (.iinc 2 1, 3) := by decide +kernel
theorem dX2_hourGoes_88 : decode cX2_hourGoes 88 = .ok (.goto (-84), 3) := by decide +kernel
theorem dX2_hourGoes_91 : decode cX2_hourGoes 91 = .ok (.aload_n 0, 1) := by decide +kernel
theorem dX2_hourGoes_92 : decode cX2_hourGoes 92 = .ok (.aload_n 0, 1) := by decide +kernel
theorem dX2_hourGoes_93 : decode cX2_hourGoes 93 = .ok (.getfield 40, 3) := by decide +kernel
theorem dX2_hourGoes_96 : decode cX2_hourGoes 96 = .ok (.iconst 1, 1) := by decide +kernel
theorem dX2_hourGoes_97 : decode cX2_hourGoes 97 = .ok (.iadd, 1) := by decide +kernel
theorem dX2_hourGoes_98 : decode cX2_hourGoes 98 = .ok (.ldc 111, 2) := by decide +kernel
theorem dX2_hourGoes_100 : decode cX2_hourGoes 100 = .ok (.invokestatic 92, 3) := by decide +kernel
theorem dX2_hourGoes_103 : decode cX2_hourGoes 103 = .ok (.putfield 40, 3) := by decide +kernel
theorem dX2_hourGoes_106 : decode cX2_hourGoes 106 = .ok (.iload_n 1, 1) := by decide +kernel
theorem dX2_hourGoes_107 : decode cX2_hourGoes 107 = .ok (.ireturn, 1) := by decide +kernel
theorem dX2_runHours_0 : decode cX2_runHours 0 = .ok (.iconst 1, 1) := by decide +kernel
theorem dX2_runHours_1 : decode cX2_runHours 1 = .ok (.istore_n 2, 1) := by decide +kernel
theorem dX2_runHours_2 : decode cX2_runHours 2 = .ok (.iconst 0, 1) := by decide +kernel
theorem dX2_runHours_3 : decode cX2_runHours 3 = .ok (.istore_n 3, 1) := by decide +kernel
theorem dX2_runHours_4 : decode cX2_runHours 4 = .ok (.iload_n 3, 1) := by decide +kernel
theorem dX2_runHours_5 : decode cX2_runHours 5 = .ok (.iload_n 1, 1) := by decide +kernel
theorem dX2_runHours_6 : decode cX2_runHours 6 = .ok (.if_icmp .ge 18, 3) := by decide +kernel
theorem dX2_runHours_9 : decode cX2_runHours 9 = .ok (.iload_n 2, 1) := by decide +kernel
theorem dX2_runHours_10 : decode cX2_runHours 10 = .ok (.ifCond .eq 14, 3) := by decide +kernel
theorem dX2_runHours_13 : decode cX2_runHours 13 = .ok (.aload_n 0, 1) := by decide +kernel
theorem dX2_runHours_14 : decode cX2_runHours 14 = .ok (.invokevirtual 112, 3) := by decide +kernel
theorem dX2_runHours_17 : decode cX2_runHours 17 = .ok (.istore_n 2, 1) := by decide +kernel
theorem dX2_runHours_18 : decode cX2_runHours 18 = .ok (.iinc 3 1, 3) := by decide +kernel
theorem dX2_runHours_21 : decode cX2_runHours 21 = .ok (.goto (-17), 3) := by decide +kernel
theorem dX2_runHours_24 : decode cX2_runHours 24 = .ok (.return_, 1) := by decide +kernel
theorem dX2_tillCaught_0 : decode cX2_tillCaught 0 = .ok (.iconst 1, 1) := by decide +kernel
theorem dX2_tillCaught_1 : decode cX2_tillCaught 1 = .ok (.istore_n 3, 1) := by decide +kernel
theorem dX2_tillCaught_2 : decode cX2_tillCaught 2 = .ok (.iconst 0, 1) := by decide +kernel
theorem dX2_tillCaught_3 : decode cX2_tillCaught 3 = .ok (.istore 4, 2) := by decide +kernel
theorem dX2_tillCaught_5 : decode cX2_tillCaught 5 = .ok (.iload 4, 2) := by decide +kernel
theorem dX2_tillCaught_7 : decode cX2_tillCaught 7 = .ok (.iload_n 2, 1) := by decide +kernel
theorem dX2_tillCaught_8 : decode cX2_tillCaught 8 = .ok (.if_icmp .gt 43, 3) := by decide +kernel
theorem dX2_tillCaught_11 : decode cX2_tillCaught 11 = .ok (.iload_n 3, 1) := by decide +kernel
theorem dX2_tillCaught_12 : decode cX2_tillCaught 12 = .ok (.ifCond .eq 39, 3) := by decide +kernel
theorem dX2_tillCaught_15 : decode cX2_tillCaught 15 = .ok (.aload_n 0, 1) := by decide +kernel
theorem dX2_tillCaught_16 : decode cX2_tillCaught 16 = .ok (.iload_n 1, 1) := by decide +kernel
theorem dX2_tillCaught_17 : decode cX2_tillCaught 17 = .ok (.invokevirtual 68, 3) := by decide +kernel
theorem dX2_tillCaught_20 : decode cX2_tillCaught 20 = .ok (.ifCond .ne 6, 3) := by decide +kernel
theorem dX2_tillCaught_23 : decode cX2_tillCaught 23 = .ok (.iload 4, 2) := by decide +kernel
theorem dX2_tillCaught_25 : decode cX2_tillCaught 25 = .ok (.ireturn, 1) := by decide +kernel
theorem dX2_tillCaught_26 : decode cX2_tillCaught 26 = .ok (.iload 4, 2) := by decide +kernel
theorem dX2_tillCaught_28 : decode cX2_tillCaught 28 = .ok (.iload_n 2, 1) := by decide +kernel
theorem dX2_tillCaught_29 : decode cX2_tillCaught 29 = .ok (.if_icmp .ge 14, 3) := by decide +kernel
theorem dX2_tillCaught_32 : decode cX2_tillCaught 32 = .ok (.aload_n 0, 1) := by decide +kernel
theorem dX2_tillCaught_33 : decode cX2_tillCaught 33 = .ok (.invokevirtual 112, 3) := by decide +kernel
theorem dX2_tillCaught_36 : decode cX2_tillCaught 36 = .ok (.ifCond .eq 7, 3) := by decide +kernel
theorem dX2_tillCaught_39 : decode cX2_tillCaught 39 = .ok (.iconst 1, 1) := by decide +kernel
theorem dX2_tillCaught_40 : decode cX2_tillCaught 40 = .ok (.goto 4, 3) := by decide +kernel
theorem dX2_tillCaught_43 : decode cX2_tillCaught 43 = .ok (.iconst 0, 1) := by decide +kernel
theorem dX2_tillCaught_44 : decode cX2_tillCaught 44 = .ok (.istore_n 3, 1) := by decide +kernel
theorem dX2_tillCaught_45 : decode cX2_tillCaught 45 = .ok (.iinc 4 1, 3) := by decide +kernel
theorem dX2_tillCaught_48 : decode cX2_tillCaught 48 = .ok (.goto (-43), 3) := by decide +kernel
theorem dX2_tillCaught_51 : decode cX2_tillCaught 51 = .ok (.iconst (-1), 1) := by decide +kernel
theorem dX2_tillCaught_52 : decode cX2_tillCaught 52 = .ok (.ireturn, 1) := by decide +kernel
theorem dX2_draw_0 : decode cX2_draw 0 = .ok (.aload_n 0, 1) := by decide +kernel
theorem dX2_draw_1 : decode cX2_draw 1 = .ok (.aload_n 0, 1) := by decide +kernel
theorem dX2_draw_2 : decode cX2_draw 2 = .ok (.getfield 37, 3) := by decide +kernel
theorem dX2_draw_5 : decode cX2_draw 5 = .ok (.ldc 116, 2) := by decide +kernel
theorem dX2_draw_7 : decode cX2_draw 7 = .ok (.imul, 1) := by decide +kernel
theorem dX2_draw_8 : decode cX2_draw 8 = .ok (.sipush 12345, 3) := by decide +kernel
theorem dX2_draw_11 : decode cX2_draw 11 = .ok (.iadd, 1) := by decide +kernel
theorem dX2_draw_12 : decode cX2_draw 12 = .ok (.putfield 37, 3) := by decide +kernel
theorem dX2_draw_15 : decode cX2_draw 15 = .ok (.aload_n 0, 1) := by decide +kernel
theorem dX2_draw_16 : decode cX2_draw 16 = .ok (.getfield 37, 3) := by decide +kernel
theorem dX2_draw_19 : decode cX2_draw 19 = .ok (.bipush 8, 2) := by decide +kernel
theorem dX2_draw_21 : decode cX2_draw 21 = .ok (.iushr, 1) := by decide +kernel
theorem dX2_draw_22 : decode cX2_draw 22 = .ok (.ireturn, 1) := by decide +kernel
theorem dX2_strike_0 : decode cX2_strike 0 = .ok (.aload_n 0, 1) := by decide +kernel
theorem dX2_strike_1 : decode cX2_strike 1 = .ok (.getfield 47, 3) := by decide +kernel
theorem dX2_strike_4 : decode cX2_strike 4 = .ok (.iconst 1, 1) := by decide +kernel
theorem dX2_strike_5 : decode cX2_strike 5 = .ok (.if_icmp .ge 4, 3) := by decide +kernel
theorem dX2_strike_8 : decode cX2_strike 8 = .ok (.return_, 1) := by decide +kernel
theorem dX2_strike_9 : decode cX2_strike 9 = .ok (.aload_n 0, 1) := by decide +kernel
theorem dX2_strike_10 : decode cX2_strike 10 = .ok (.invokevirtual 117, 3) := by decide +kernel
theorem dX2_strike_13 : decode cX2_strike 13 = .ok (.aload_n 0, 1) := by decide +kernel
theorem dX2_strike_14 : decode cX2_strike 14 = .ok (.getfield 47, 3) := by decide +kernel
theorem dX2_strike_17 : decode cX2_strike 17 = .ok (.irem, 1) := by decide +kernel
theorem dX2_strike_18 : decode cX2_strike 18 = .ok (.istore_n 1, 1) := by decide +kernel
theorem dX2_strike_19 : decode cX2_strike 19 = .ok (.aload_n 0, 1) := by decide +kernel
theorem dX2_strike_20 : decode cX2_strike 20 = .ok (.invokevirtual 117, 3) := by decide +kernel
theorem dX2_strike_23 : decode cX2_strike 23 = .ok (.bipush 64, 2) := by decide +kernel
theorem dX2_strike_25 : decode cX2_strike 25 = .ok (.irem, 1) := by decide +kernel
theorem dX2_strike_26 : decode cX2_strike 26 = .ok (.istore_n 2, 1) := by decide +kernel
theorem dX2_strike_27 : decode cX2_strike 27 = .ok (.aload_n 0, 1) := by decide +kernel
theorem dX2_strike_28 : decode cX2_strike 28 = .ok (.iload_n 1, 1) := by decide +kernel
theorem dX2_strike_29 : decode cX2_strike 29 = .ok (.invokevirtual 68, 3) := by decide +kernel
theorem dX2_strike_32 : decode cX2_strike 32 = .ok (.ifCond .eq 10, 3) := by decide +kernel
theorem dX2_strike_35 : decode cX2_strike 35 = .ok (.aload_n 0, 1) := by decide +kernel
theorem dX2_strike_36 : decode cX2_strike 36 = .ok (.getfield 21, 3) := by decide +kernel
theorem dX2_strike_39 : decode cX2_strike 39 = .ok (.iload_n 1, 1) := by decide +kernel
theorem dX2_strike_40 : decode cX2_strike 40 = .ok (.iload_n 2, 1) := by decide +kernel
theorem dX2_strike_41 : decode cX2_strike 41 = .ok (.iastore, 1) := by decide +kernel
theorem dX2_strike_42 : decode cX2_strike 42 = .ok (.return_, 1) := by decide +kernel
theorem dX2_notesThere_0 : decode cX2_notesThere 0 = .ok (.iconst 0, 1) := by decide +kernel
theorem dX2_notesThere_1 : decode cX2_notesThere 1 = .ok (.istore_n 1, 1) := by decide +kernel
theorem dX2_notesThere_2 : decode cX2_notesThere 2 = .ok (.iconst 0, 1) := by decide +kernel
theorem dX2_notesThere_3 : decode cX2_notesThere 3 = .ok (.istore_n 2, 1) := by decide +kernel
theorem dX2_notesThere_4 : decode cX2_notesThere 4 = .ok (.iload_n 2, 1) := by decide +kernel
theorem dX2_notesThere_5 : decode cX2_notesThere 5 = .ok (.aload_n 0, 1) := by decide +kernel
theorem dX2_notesThere_6 : decode cX2_notesThere 6 = .ok (.getfield 47, 3) := by decide +kernel
theorem dX2_notesThere_9 : decode cX2_notesThere 9 = .ok (.if_icmp .ge 20, 3) := by decide +kernel
theorem dX2_notesThere_12 : decode cX2_notesThere 12 = .ok (.iload_n 1, 1) := by decide +kernel
theorem dX2_notesThere_13 : decode cX2_notesThere 13 = .ok (.iconst 1, 1) := by decide +kernel
theorem dX2_notesThere_14 : decode cX2_notesThere 14 = .ok (.aload_n 0, 1) := by decide +kernel
theorem dX2_notesThere_15 : decode cX2_notesThere 15 = .ok (.getfield 24, 3) := by decide +kernel
theorem dX2_notesThere_18 : decode cX2_notesThere 18 = .ok (.iload_n 2, 1) := by decide +kernel
theorem dX2_notesThere_19 : decode cX2_notesThere 19 = .ok (.iaload, 1) := by decide +kernel
theorem dX2_notesThere_20 : decode cX2_notesThere 20 = .ok (.ishl, 1) := by decide +kernel
theorem dX2_notesThere_21 : decode cX2_notesThere 21 = .ok (.ior, 1) := by decide +kernel
theorem dX2_notesThere_22 : decode cX2_notesThere 22 = .ok (.istore_n 1, 1) := by decide +kernel
theorem dX2_notesThere_23 : decode cX2_notesThere 23 = .ok (.iinc 2 1, 3) := by decide +kernel
theorem dX2_notesThere_26 : decode cX2_notesThere 26 = .ok (.goto (-22), 3) := by decide +kernel
theorem dX2_notesThere_29 : decode cX2_notesThere 29 = .ok (.iload_n 1, 1) := by decide +kernel
theorem dX2_notesThere_30 : decode cX2_notesThere 30 = .ok (.ireturn, 1) := by decide +kernel
theorem dX2_isRing_0 : decode cX2_isRing 0 = .ok (.iconst 0, 1) := by decide +kernel
theorem dX2_isRing_1 : decode cX2_isRing 1 = .ok (.istore_n 2, 1) := by decide +kernel
theorem dX2_isRing_2 : decode cX2_isRing 2 = .ok (.iconst 0, 1) := by decide +kernel
theorem dX2_isRing_3 : decode cX2_isRing 3 = .ok (.istore_n 3, 1) := by decide +kernel
theorem dX2_isRing_4 : decode cX2_isRing 4 = .ok (.iload_n 3, 1) := by decide +kernel
theorem dX2_isRing_5 : decode cX2_isRing 5 = .ok (.aload_n 0, 1) := by decide +kernel
theorem dX2_isRing_6 : decode cX2_isRing 6 = .ok (.getfield 47, 3) := by decide +kernel
theorem dX2_isRing_9 : decode cX2_isRing 9 = .ok (.if_icmp .ge 45, 3) := by decide +kernel
theorem dX2_isRing_12 : decode cX2_isRing 12 = .ok (.iload_n 1, 1) := by decide +kernel
theorem dX2_isRing_13 : decode cX2_isRing 13 = .ok (.i2l, 1) := by decide +kernel
theorem dX2_isRing_14 : decode cX2_isRing 14 = .ok (.iload_n 3, 1) := by decide +kernel
theorem dX2_isRing_15 : decode cX2_isRing 15 = .ok (.invokestatic 62, 3) := by decide +kernel
theorem dX2_isRing_18 : decode cX2_isRing 18 = .ok (.ifCond .eq 30, 3) := by decide +kernel
theorem dX2_isRing_21 : decode cX2_isRing 21 = .ok (.iload_n 2, 1) := by decide +kernel
theorem dX2_isRing_22 : decode cX2_isRing 22 = .ok (.i2l, 1) := by decide +kernel
theorem dX2_isRing_23 : decode cX2_isRing 23 = .ok (.aload_n 0, 1) := by decide +kernel
theorem dX2_isRing_24 : decode cX2_isRing 24 = .ok (.getfield 24, 3) := by decide +kernel
theorem dX2_isRing_27 : decode cX2_isRing 27 = .ok (.iload_n 3, 1) := by decide +kernel
theorem dX2_isRing_28 : decode cX2_isRing 28 = .ok (.iaload, 1) := by decide +kernel
theorem dX2_isRing_29 : decode cX2_isRing 29 = .ok (.invokestatic 62, 3) := by decide +kernel
theorem dX2_isRing_32 : decode cX2_isRing 32 = .ok (.ifCond .eq 5, 3) := by decide +kernel
theorem dX2_isRing_35 : decode cX2_isRing 35 = .ok (.iconst 0, 1) := by decide +kernel
theorem dX2_isRing_36 : decode cX2_isRing 36 = .ok (.ireturn, 1) := by decide +kernel
theorem dX2_isRing_37 : decode cX2_isRing 37 = .ok (.iload_n 2, 1) := by decide +kernel
theorem dX2_isRing_38 : decode cX2_isRing 38 = .ok (.iconst 1, 1) := by decide +kernel
theorem dX2_isRing_39 : decode cX2_isRing 39 = .ok (.aload_n 0, 1) := by decide +kernel
theorem dX2_isRing_40 : decode cX2_isRing 40 = .ok (.getfield 24, 3) := by decide +kernel
theorem dX2_isRing_43 : decode cX2_isRing 43 = .ok (.iload_n 3, 1) := by decide +kernel
theorem dX2_isRing_44 : decode cX2_isRing 44 = .ok (.iaload, 1) := by decide +kernel
theorem dX2_isRing_45 : decode cX2_isRing 45 = .ok (.ishl, 1) := by decide +kernel
theorem dX2_isRing_46 : decode cX2_isRing 46 = .ok (.ior, 1) := by decide +kernel
theorem dX2_isRing_47 : decode cX2_isRing 47 = .ok (.istore_n 2, 1) := by decide +kernel
theorem dX2_isRing_48 : decode cX2_isRing 48 = .ok (.iinc 3 1, 3) := by decide +kernel
theorem dX2_isRing_51 : decode cX2_isRing 51 = .ok (.goto (-47), 3) := by decide +kernel
theorem dX2_isRing_54 : decode cX2_isRing 54 = .ok (.iload_n 2, 1) := by decide +kernel
theorem dX2_isRing_55 : decode cX2_isRing 55 = .ok (.invokestatic 121, 3) := by decide +kernel
theorem dX2_isRing_58 : decode cX2_isRing 58 = .ok (.iload_n 1, 1) := by decide +kernel
theorem dX2_isRing_59 : decode cX2_isRing 59 = .ok (.invokestatic 124, 3) := by decide +kernel
theorem dX2_isRing_62 : decode cX2_isRing 62 = .ok (.if_icmp .ne 7, 3) := by decide +kernel
theorem dX2_isRing_65 : decode cX2_isRing 65 = .ok (.iconst 1, 1) := by decide +kernel
theorem dX2_isRing_66 : decode cX2_isRing 66 = .ok (.goto 4, 3) := by decide +kernel
theorem dX2_isRing_69 : decode cX2_isRing 69 = .ok (.iconst 0, 1) := by decide +kernel
theorem dX2_isRing_70 : decode cX2_isRing 70 = .ok (.ireturn, 1) := by decide +kernel
theorem dX2_greatestRing_0 : decode cX2_greatestRing 0 = .ok (.iconst 0, 1) := by decide +kernel
theorem dX2_greatestRing_1 : decode cX2_greatestRing 1 = .ok (.istore_n 1, 1) := by decide +kernel
theorem dX2_greatestRing_2 : decode cX2_greatestRing 2 = .ok (.iconst 1, 1) := by decide +kernel
theorem dX2_greatestRing_3 : decode cX2_greatestRing 3 = .ok (.istore_n 2, 1) := by decide +kernel
theorem dX2_greatestRing_4 : decode cX2_greatestRing 4 = .ok (.iload_n 2, 1) := by decide +kernel
theorem dX2_greatestRing_5 : decode cX2_greatestRing 5 = .ok (.iconst 1, 1) := by decide +kernel
theorem dX2_greatestRing_6 : decode cX2_greatestRing 6 = .ok (.aload_n 0, 1) := by decide +kernel
theorem dX2_greatestRing_7 : decode cX2_greatestRing 7 = .ok (.getfield 47, 3) := by decide +kernel
theorem dX2_greatestRing_10 : decode cX2_greatestRing 10 = .ok (.ishl, 1) := by decide +kernel
theorem dX2_greatestRing_11 : decode cX2_greatestRing 11 = .ok (.if_icmp .ge 30, 3) := by decide +kernel
theorem dX2_greatestRing_14 : decode cX2_greatestRing 14 = .ok (.iload_n 2, 1) := by decide +kernel
theorem dX2_greatestRing_15 : decode cX2_greatestRing 15 = .ok (.invokestatic 124, 3) := by decide +kernel
theorem dX2_greatestRing_18 : decode cX2_greatestRing 18 = .ok (.iload_n 1, 1) := by decide +kernel
theorem dX2_greatestRing_19 : decode cX2_greatestRing 19 = .ok (.invokestatic 124, 3) := by decide +kernel
theorem dX2_greatestRing_22 : decode cX2_greatestRing 22 = .ok (.if_icmp .le 13, 3) := by decide +kernel
theorem dX2_greatestRing_25 : decode cX2_greatestRing 25 = .ok (.aload_n 0, 1) := by decide +kernel
theorem dX2_greatestRing_26 : decode cX2_greatestRing 26 = .ok (.iload_n 2, 1) := by decide +kernel
theorem dX2_greatestRing_27 : decode cX2_greatestRing 27 = .ok (.invokevirtual 129, 3) := by decide +kernel
theorem dX2_greatestRing_30 : decode cX2_greatestRing 30 = .ok (.ifCond .eq 5, 3) := by decide +kernel
theorem dX2_greatestRing_33 : decode cX2_greatestRing 33 = .ok (.iload_n 2, 1) := by decide +kernel
theorem dX2_greatestRing_34 : decode cX2_greatestRing 34 = .ok (.istore_n 1, 1) := by decide +kernel
theorem dX2_greatestRing_35 : decode cX2_greatestRing 35 = .ok (.iinc 2 1, 3) := by decide +kernel
theorem dX2_greatestRing_38 : decode cX2_greatestRing 38 = .ok (.goto (-34), 3) := by decide +kernel
theorem dX2_greatestRing_41 : decode cX2_greatestRing 41 = .ok (.iload_n 1, 1) := by decide +kernel
theorem dX2_greatestRing_42 : decode cX2_greatestRing 42 = .ok (.ireturn, 1) := by decide +kernel
theorem dX2_followsInRing_0 : decode cX2_followsInRing 0 = .ok (.aload_n 0, 1) := by decide +kernel
theorem dX2_followsInRing_1 : decode cX2_followsInRing 1 = .ok (.getfield 24, 3) := by decide +kernel
theorem dX2_followsInRing_4 : decode cX2_followsInRing 4 = .ok (.iload_n 2, 1) := by decide +kernel
theorem dX2_followsInRing_5 : decode cX2_followsInRing 5 = .ok (.iaload, 1) := by decide +kernel
theorem dX2_followsInRing_6 : decode cX2_followsInRing 6 = .ok (.aload_n 0, 1) := by decide +kernel
theorem dX2_followsInRing_7 : decode cX2_followsInRing 7 = .ok (.getfield 24, 3) := by decide +kernel
theorem dX2_followsInRing_10 : decode cX2_followsInRing 10 = .ok (.iload_n 1, 1) := by decide +kernel
theorem dX2_followsInRing_11 : decode cX2_followsInRing 11 = .ok (.iaload, 1) := by decide +kernel
theorem dX2_followsInRing_12 : decode cX2_followsInRing 12 = .ok (.isub, 1) := by decide +kernel
theorem dX2_followsInRing_13 : decode cX2_followsInRing 13 = .ok (.istore_n 3, 1) := by decide +kernel
theorem dX2_followsInRing_14 : decode cX2_followsInRing 14 = .ok (.iload_n 3, 1) := by decide +kernel
theorem dX2_followsInRing_15 : decode cX2_followsInRing 15 = .ok (.iconst 1, 1) := by decide +kernel
theorem dX2_followsInRing_16 : decode cX2_followsInRing 16 = .ok (.if_icmp .eq 8, 3) := by decide +kernel
theorem dX2_followsInRing_19 : decode cX2_followsInRing 19 = .ok (.iload_n 3, 1) := by decide +kernel
theorem dX2_followsInRing_20 : decode cX2_followsInRing 20 = .ok (.iconst 2, 1) := by decide +kernel
theorem dX2_followsInRing_21 : decode cX2_followsInRing 21 = .ok (.if_icmp .ne 7, 3) := by decide +kernel
theorem dX2_followsInRing_24 : decode cX2_followsInRing 24 = .ok (.iconst 1, 1) := by decide +kernel
theorem dX2_followsInRing_25 : decode cX2_followsInRing 25 = .ok (.goto 4, 3) := by decide +kernel
theorem dX2_followsInRing_28 : decode cX2_followsInRing 28 = .ok (.iconst 0, 1) := by decide +kernel
theorem dX2_followsInRing_29 : decode cX2_followsInRing 29 = .ok (.ireturn, 1) := by decide +kernel
theorem dX3_init_0 : decode cX3_init 0 = .ok (.aload_n 0, 1) := by decide +kernel
theorem dX3_init_1 : decode cX3_init 1 = .ok (.invokespecial 1, 3) := by decide +kernel
theorem dX3_init_4 : decode cX3_init 4 = .ok (.aload_n 0, 1) := by decide +kernel
theorem dX3_init_5 : decode cX3_init 5 = .ok (.new 7, 3) := by decide +kernel
theorem dX3_init_8 : decode cX3_init 8 = .ok (.dup, 1) := by decide +kernel
theorem dX3_init_9 : decode cX3_init 9 = .ok (.invokespecial 9, 3) := by decide +kernel
theorem dX3_init_12 : decode cX3_init 12 = .ok (.putfield 10, 3) := by decide +kernel
theorem dX3_init_15 : decode cX3_init 15 = .ok (.aload_n 0, 1) := by decide +kernel
theorem dX3_init_16 : decode cX3_init 16 = .ok (.new 7, 3) := by decide +kernel
theorem dX3_init_19 : decode cX3_init 19 = .ok (.dup, 1) := by decide +kernel
theorem dX3_init_20 : decode cX3_init 20 = .ok (.invokespecial 9, 3) := by decide +kernel
theorem dX3_init_23 : decode cX3_init 23 = .ok (.putfield 16, 3) := by decide +kernel
theorem dX3_init_26 : decode cX3_init 26 = .ok (.aload_n 0, 1) := by decide +kernel
theorem dX3_init_27 : decode cX3_init 27 = .ok (.new 7, 3) := by decide +kernel
theorem dX3_init_30 : decode cX3_init 30 = .ok (.dup, 1) := by decide +kernel
theorem dX3_init_31 : decode cX3_init 31 = .ok (.invokespecial 9, 3) := by decide +kernel
theorem dX3_init_34 : decode cX3_init 34 = .ok (.putfield 19, 3) := by decide +kernel
theorem dX3_init_37 : decode cX3_init 37 = .ok (.aload_n 0, 1) := by decide +kernel
theorem dX3_init_38 : decode cX3_init 38 = .ok (.iconst 0, 1) := by decide +kernel
theorem dX3_init_39 : decode cX3_init 39 = .ok (.putfield 22, 3) := by decide +kernel
theorem dX3_init_42 : decode cX3_init 42 = .ok (.aload_n 0, 1) := by decide +kernel
theorem dX3_init_43 : decode cX3_init 43 = .ok (.new 26, 3) := by decide +kernel
theorem dX3_init_46 : decode cX3_init 46 = .ok (.dup, 1) := by decide +kernel
theorem dX3_init_47 : decode cX3_init 47 = .ok (.invokespecial 28, 3) := by decide +kernel
theorem dX3_init_50 : decode cX3_init 50 = .ok (.putfield 29, 3) := by decide +kernel
theorem dX3_init_53 : decode cX3_init 53 = .ok (.aload_n 0, 1) := by decide +kernel
theorem dX3_init_54 : decode cX3_init 54 = .ok (.iconst 4, 1) := by decide +kernel
theorem dX3_init_55 : decode cX3_init 55 = .ok (.anewarray 33, 3) := by decide +kernel
theorem dX3_init_58 : decode cX3_init 58 = .ok (.putfield 35, 3) := by decide +kernel
theorem dX3_init_61 : decode cX3_init 61 = .ok (.iconst 0, 1) := by decide +kernel
theorem dX3_init_62 : decode cX3_init 62 = .ok (.istore_n 1, 1) := by decide +kernel
theorem dX3_init_63 : decode cX3_init 63 = .ok (.iload_n 1, 1) := by decide +kernel
theorem dX3_init_64 : decode cX3_init 64 = .ok (.iconst 4, 1) := by decide +kernel
theorem dX3_init_65 : decode cX3_init 65 = .ok (.if_icmp .ge 22, 3) := by decide +kernel
theorem dX3_init_68 : decode cX3_init 68 = .ok (.aload_n 0, 1) := by decide +kernel
theorem dX3_init_69 : decode cX3_init 69 = .ok (.getfield 35, 3) := by decide +kernel
theorem dX3_init_72 : decode cX3_init 72 = .ok (.iload_n 1, 1) := by decide +kernel
theorem dX3_init_73 : decode cX3_init 73 = .ok (.new 33, 3) := by decide +kernel
theorem dX3_init_76 : decode cX3_init 76 = .ok (.dup, 1) := by decide +kernel
theorem dX3_init_77 : decode cX3_init 77 = .ok (.invokespecial 39, 3) := by decide +kernel
theorem dX3_init_80 : decode cX3_init 80 = .ok (.aastore, 1) := by decide +kernel
theorem dX3_init_81 : decode cX3_init 81 = .ok (.iinc 1 1, 3) := by decide +kernel
theorem dX3_init_84 : decode cX3_init 84 = .ok (.goto (-21), 3) := by decide +kernel
theorem dX3_init_87 : decode cX3_init 87 = .ok (.aload_n 0, 1) := by decide +kernel
theorem dX3_init_88 : decode cX3_init 88 = .ok (.bipush 7, 2) := by decide +kernel
theorem dX3_init_90 : decode cX3_init 90 = .ok (.newarray .int, 2) := by decide +kernel
theorem dX3_init_92 : decode cX3_init 92 = .ok (.putfield 40, 3) := by decide +kernel
theorem dX3_init_95 : decode cX3_init 95 = .ok (.aload_n 0, 1) := by decide +kernel
theorem dX3_init_96 : decode cX3_init 96 = .ok (.bipush 16, 2) := by decide +kernel
theorem dX3_init_98 : decode cX3_init 98 = .ok (.newarray .int, 2) := by decide +kernel
theorem dX3_init_100 : decode cX3_init 100 = .ok (.putfield 44, 3) := by decide +kernel
theorem dX3_init_103 : decode cX3_init 103 = .ok (.return_, 1) := by decide +kernel
theorem dX3_net_0 : decode cX3_net 0 = .ok (.iload_n 1, 1) := by decide +kernel
theorem dX3_net_1 : decode cX3_net 1 = .ok (.invokestatic 47, 3) := by decide +kernel
theorem dX3_net_4 : decode cX3_net 4 = .ok (.ifCond .eq 12, 3) := by decide +kernel
theorem dX3_net_7 : decode cX3_net 7 = .ok (.iload_n 2, 1) := by decide +kernel
theorem dX3_net_8 : decode cX3_net 8 = .ok (.ifCond .lt 8, 3) := by decide +kernel
theorem dX3_net_11 : decode cX3_net 11 = .ok (.iload_n 2, 1) := by decide +kernel
theorem dX3_net_12 : decode cX3_net 12 = .ok (.iconst 1, 1) := by decide +kernel
theorem dX3_net_13 : decode cX3_net 13 = .ok (.if_icmp .le 9, 3) := by decide +kernel
theorem dX3_net_16 : decode cX3_net 16 = .ok (.aload_n 0, 1) := by decide +kernel
theorem dX3_net_17 : decode cX3_net 17 = .ok (.iconst 0, 1) := by decide +kernel
theorem dX3_net_18 : decode cX3_net 18 = .ok (.invokevirtual 51, 3) := by decide +kernel
theorem dX3_net_21 : decode cX3_net 21 = .ok (.ireturn, 1) := by decide +kernel
theorem dX3_net_22 : decode cX3_net 22 = .ok (.aload_n 0, 1) := by decide +kernel
theorem dX3_net_23 : decode cX3_net 23 = .ok (.getfield 10, 3) := by decide +kernel
theorem dX3_net_26 : decode cX3_net 26 = .ok (.iload_n 1, 1) := by decide +kernel
theorem dX3_net_27 : decode cX3_net 27 = .ok (.invokevirtual 55, 3) := by decide +kernel
theorem dX3_net_30 : decode cX3_net 30 = .ok (.iload_n 2, 1) := by decide +kernel
theorem dX3_net_31 : decode cX3_net 31 = .ok (.iconst 1, 1) := by decide +kernel
theorem dX3_net_32 : decode cX3_net 32 = .ok (.if_icmp .ne 7, 3) := by decide +kernel
theorem dX3_net_35 : decode cX3_net 35 = .ok (.iconst 1, 1) := by decide +kernel
theorem dX3_net_36 : decode cX3_net 36 = .ok (.goto 4, 3) := by decide +kernel
theorem dX3_net_39 : decode cX3_net 39 = .ok (.iconst 0, 1) := by decide +kernel
theorem dX3_net_40 : decode cX3_net 40 = .ok (.if_icmp .eq 7, 3) := by decide +kernel
theorem dX3_net_43 : decode cX3_net 43 = .ok (.iconst 1, 1) := by decide +kernel
theorem dX3_net_44 : decode cX3_net 44 = .ok (.goto 4, 3) := by decide +kernel
theorem dX3_net_47 : decode cX3_net 47 = .ok (.iconst 0, 1) := by decide +kernel
theorem dX3_net_48 : decode cX3_net 48 = .ok (.istore_n 3, 1) := by decide +kernel
theorem dX3_net_49 : decode cX3_net 49 = .ok (.aload_n 0, 1) := by decide +kernel
theorem dX3_net_50 : decode cX3_net 50 = .ok (.getfield 10, 3) := by decide +kernel
theorem dX3_net_53 : decode cX3_net 53 = .ok (.iload_n 1, 1) := by decide +kernel
theorem dX3_net_54 : decode cX3_net 54 = .ok (.iload_n 2, 1) := by decide +kernel
theorem dX3_net_55 : decode cX3_net 55 = .ok (.iconst 1, 1) := by decide +kernel
theorem dX3_net_56 : decode cX3_net 56 = .ok (.if_icmp .ne 7, 3) := by decide +kernel
theorem dX3_net_59 : decode cX3_net 59 = .ok (.iconst 1, 1) := by decide +kernel
theorem dX3_net_60 : decode cX3_net 60 = .ok (.goto 4, 3) := by decide +kernel
theorem dX3_net_63 : decode cX3_net 63 = .ok (.iconst 0, 1) := by decide +kernel
theorem dX3_net_64 : decode cX3_net 64 = .ok (.invokevirtual 58, 3) := by decide +kernel
theorem dX3_net_67 : decode cX3_net 67 = .ok (.iload_n 3, 1) := by decide +kernel
theorem dX3_net_68 : decode cX3_net 68 = .ok (.ifCond .eq 7, 3) := by decide +kernel
theorem dX3_net_71 : decode cX3_net 71 = .ok (.iconst 1, 1) := by decide +kernel
theorem dX3_net_72 : decode cX3_net 72 = .ok (.goto 4, 3) := by decide +kernel
theorem dX3_net_75 : decode cX3_net 75 = .ok (.iconst 0, 1) := by decide +kernel
theorem dX3_net_76 : decode cX3_net 76 = .ok (.ireturn, 1) := by decide +kernel
theorem dX3_thick_0 : decode cX3_thick 0 = .ok (.iload_n 1, 1) := by decide +kernel
theorem dX3_thick_1 : decode cX3_thick 1 = .ok (.invokestatic 47, 3) := by decide +kernel
theorem dX3_thick_4 : decode cX3_thick 4 = .ok (.ifCond .eq 13, 3) := by decide +kernel
theorem dX3_thick_7 : decode cX3_thick 7 = .ok (.iload_n 2, 1) := by decide +kernel
theorem dX3_thick_8 : decode cX3_thick 8 = .ok (.ifCond .lt 9, 3) := by decide +kernel
theorem dX3_thick_11 : decode cX3_thick 11 = .ok (.iload_n 2, 1) := by decide +kernel
theorem dX3_thick_12 : decode cX3_thick 12 = .ok (.bipush 9, 2) := by decide +kernel
theorem dX3_thick_14 : decode cX3_thick 14 = .ok (.if_icmp .le 9, 3) := by decide +kernel
theorem dX3_thick_17 : decode cX3_thick 17 = .ok (.aload_n 0, 1) := by decide +kernel
theorem dX3_thick_18 : decode cX3_thick 18 = .ok (.iconst 0, 1) := by decide +kernel
theorem dX3_thick_19 : decode cX3_thick 19 = .ok (.invokevirtual 51, 3) := by decide +kernel
theorem dX3_thick_22 : decode cX3_thick 22 = .ok (.ireturn, 1) := by decide +kernel
theorem dX3_thick_23 : decode cX3_thick 23 = .ok (.aload_n 0, 1) := by decide +kernel
theorem dX3_thick_24 : decode cX3_thick 24 = .ok (.getfield 10, 3) := by decide +kernel
theorem dX3_thick_27 : decode cX3_thick 27 = .ok (.getfield 62, 3) := by decide +kernel
theorem dX3_thick_30 : decode cX3_thick 30 = .ok (.iload_n 1, 1) := by decide +kernel
theorem dX3_thick_31 : decode cX3_thick 31 = .ok (.iaload, 1) := by decide +kernel
theorem dX3_thick_32 : decode cX3_thick 32 = .ok (.istore_n 3, 1) := by decide +kernel
theorem dX3_thick_33 : decode cX3_thick 33 = .ok (.aload_n 0, 1) := by decide +kernel
theorem dX3_thick_34 : decode cX3_thick 34 = .ok (.getfield 10, 3) := by decide +kernel
theorem dX3_thick_37 : decode cX3_thick 37 = .ok (.getfield 62, 3) := by decide +kernel
theorem dX3_thick_40 : decode cX3_thick 40 = .ok (.iload_n 1, 1) := by decide +kernel
theorem dX3_thick_41 : decode cX3_thick 41 = .ok (.iload_n 2, 1) := by decide +kernel
theorem dX3_thick_42 : decode cX3_thick 42 = .ok (.iastore, 1) := by decide +kernel
theorem dX3_thick_43 : decode cX3_thick 43 = .ok (.iload_n 3, 1) := by decide +kernel
theorem dX3_thick_44 : decode cX3_thick 44 = .ok (.ireturn, 1) := by decide +kernel
theorem dX3_cell_0 : decode cX3_cell 0 = .ok (.iload_n 1, 1) := by decide +kernel
theorem dX3_cell_1 : decode cX3_cell 1 = .ok (.invokestatic 47, 3) := by decide +kernel
theorem dX3_cell_4 : decode cX3_cell 4 = .ok (.ifCond .ne 9, 3) := by decide +kernel
theorem dX3_cell_7 : decode cX3_cell 7 = .ok (.aload_n 0, 1) := by decide +kernel
theorem dX3_cell_8 : decode cX3_cell 8 = .ok (.iconst 0, 1) := by decide +kernel
theorem dX3_cell_9 : decode cX3_cell 9 = .ok (.invokevirtual 51, 3) := by decide +kernel
theorem dX3_cell_12 : decode cX3_cell 12 = .ok (.ireturn, 1) := by decide +kernel
theorem dX3_cell_13 : decode cX3_cell 13 = .ok (.iload_n 2, 1) := by decide +kernel
theorem dX3_cell_14 : decode cX3_cell 14 = .ok (.tableswitch 75 0 3 #[30, 47, 57, 66], 30) := by decide +kernel
theorem dX3_cell_44 : decode cX3_cell 44 = .ok (.aload_n 0, 1) := by decide +kernel
theorem dX3_cell_45 : decode cX3_cell 45 = .ok (.getfield 10, 3) := by decide +kernel
theorem dX3_cell_48 : decode cX3_cell 48 = .ok (.iload_n 1, 1) := by decide +kernel
theorem dX3_cell_49 : decode cX3_cell 49 = .ok (.invokevirtual 55, 3) := by decide +kernel
theorem dX3_cell_52 : decode cX3_cell 52 = .ok (.ifCond .eq 7, 3) := by decide +kernel
theorem dX3_cell_55 : decode cX3_cell 55 = .ok (.iconst 1, 1) := by decide +kernel
theorem dX3_cell_56 : decode cX3_cell 56 = .ok (.goto 4, 3) := by decide +kernel
theorem dX3_cell_59 : decode cX3_cell 59 = .ok (.iconst 0, 1) := by decide +kernel
theorem dX3_cell_60 : decode cX3_cell 60 = .ok (.ireturn, 1) := by decide +kernel
theorem dX3_cell_61 : decode cX3_cell 61 = .ok (.aload_n 0, 1) := by decide +kernel
theorem dX3_cell_62 : decode cX3_cell 62 = .ok (.getfield 10, 3) := by decide +kernel
theorem dX3_cell_65 : decode cX3_cell 65 = .ok (.getfield 62, 3) := by decide +kernel
theorem dX3_cell_68 : decode cX3_cell 68 = .ok (.iload_n 1, 1) := by decide +kernel
theorem dX3_cell_69 : decode cX3_cell 69 = .ok (.iaload, 1) := by decide +kernel
theorem dX3_cell_70 : decode cX3_cell 70 = .ok (.ireturn, 1) := by decide +kernel
theorem dX3_cell_71 : decode cX3_cell 71 = .ok (.aload_n 0, 1) := by decide +kernel
theorem dX3_cell_72 : decode cX3_cell 72 = .ok (.getfield 10, 3) := by decide +kernel
theorem dX3_cell_75 : decode cX3_cell 75 = .ok (.iload_n 1, 1) := by decide +kernel
theorem dX3_cell_76 : decode cX3_cell 76 = .ok (.invokevirtual 65, 3) := by decide +kernel
theorem dX3_cell_79 : decode cX3_cell 79 = .ok (.ireturn, 1) := by decide +kernel
theorem dX3_cell_80 : decode cX3_cell 80 = .ok (.aload_n 0, 1) := by decide +kernel
theorem dX3_cell_81 : decode cX3_cell 81 = .ok (.getfield 10, 3) := by decide +kernel
theorem dX3_cell_84 : decode cX3_cell 84 = .ok (.iload_n 1, 1) := by decide +kernel
theorem dX3_cell_85 : decode cX3_cell 85 = .ok (.invokevirtual 68, 3) := by decide +kernel
theorem dX3_cell_88 : decode cX3_cell 88 = .ok (.ireturn, 1) := by decide +kernel
theorem dX3_cell_89 : decode cX3_cell 89 = .ok (.aload_n 0, 1) := by decide +kernel
theorem dX3_cell_90 : decode cX3_cell 90 = .ok (.iconst 0, 1) := by decide +kernel
theorem dX3_cell_91 : decode cX3_cell 91 = .ok (.invokevirtual 51, 3) := by decide +kernel
theorem dX3_cell_94 : decode cX3_cell 94 = .ok (.ireturn, 1) := by decide +kernel
theorem dX3_hunter_0 : decode cX3_hunter 0 = .ok (.iload_n 1, 1) := by decide +kernel
theorem dX3_hunter_1 : decode cX3_hunter 1 = .ok (.invokestatic 71, 3) := by decide +kernel
theorem dX3_hunter_4 : decode cX3_hunter 4 = .ok (.ifCond .eq 15, 3) := by decide +kernel
theorem dX3_hunter_7 : decode cX3_hunter 7 = .ok (.iload_n 2, 1) := by decide +kernel
theorem dX3_hunter_8 : decode cX3_hunter 8 = .ok (.iconst (-1), 1) := by decide +kernel
theorem dX3_hunter_9 : decode cX3_hunter 9 = .ok (.if_icmp .eq 16, 3) := by decide +kernel
theorem dX3_hunter_12 : decode cX3_hunter 12 = .ok (.iload_n 2, 1) := by decide +kernel
theorem dX3_hunter_13 : decode cX3_hunter 13 = .ok (.invokestatic 47, 3) := by decide +kernel
theorem dX3_hunter_16 : decode cX3_hunter 16 = .ok (.ifCond .ne 9, 3) := by decide +kernel
theorem dX3_hunter_19 : decode cX3_hunter 19 = .ok (.aload_n 0, 1) := by decide +kernel
theorem dX3_hunter_20 : decode cX3_hunter 20 = .ok (.iconst 0, 1) := by decide +kernel
theorem dX3_hunter_21 : decode cX3_hunter 21 = .ok (.invokevirtual 51, 3) := by decide +kernel
theorem dX3_hunter_24 : decode cX3_hunter 24 = .ok (.ireturn, 1) := by decide +kernel
theorem dX3_hunter_25 : decode cX3_hunter 25 = .ok (.aload_n 0, 1) := by decide +kernel
theorem dX3_hunter_26 : decode cX3_hunter 26 = .ok (.getfield 10, 3) := by decide +kernel
theorem dX3_hunter_29 : decode cX3_hunter 29 = .ok (.getfield 74, 3) := by decide +kernel
theorem dX3_hunter_32 : decode cX3_hunter 32 = .ok (.iload_n 1, 1) := by decide +kernel
theorem dX3_hunter_33 : decode cX3_hunter 33 = .ok (.iaload, 1) := by decide +kernel
theorem dX3_hunter_34 : decode cX3_hunter 34 = .ok (.istore_n 3, 1) := by decide +kernel
theorem dX3_hunter_35 : decode cX3_hunter 35 = .ok (.aload_n 0, 1) := by decide +kernel
theorem dX3_hunter_36 : decode cX3_hunter 36 = .ok (.getfield 10, 3) := by decide +kernel
theorem dX3_hunter_39 : decode cX3_hunter 39 = .ok (.getfield 74, 3) := by decide +kernel
theorem dX3_hunter_42 : decode cX3_hunter 42 = .ok (.iload_n 1, 1) := by decide +kernel
theorem dX3_hunter_43 : decode cX3_hunter 43 = .ok (.iload_n 2, 1) := by decide +kernel
theorem dX3_hunter_44 : decode cX3_hunter 44 = .ok (.iastore, 1) := by decide +kernel
theorem dX3_hunter_45 : decode cX3_hunter 45 = .ok (.iload_n 3, 1) := by decide +kernel
theorem dX3_hunter_46 : decode cX3_hunter 46 = .ok (.ireturn, 1) := by decide +kernel
theorem dX3_fear_0 : decode cX3_fear 0 = .ok (.iload_n 1, 1) := by decide +kernel
theorem dX3_fear_1 : decode cX3_fear 1 = .ok (.ifCond .lt 9, 3) := by decide +kernel
theorem dX3_fear_4 : decode cX3_fear 4 = .ok (.iload_n 1, 1) := by decide +kernel
theorem dX3_fear_5 : decode cX3_fear 5 = .ok (.bipush 9, 2) := by decide +kernel
theorem dX3_fear_7 : decode cX3_fear 7 = .ok (.if_icmp .le 9, 3) := by decide +kernel
theorem dX3_fear_10 : decode cX3_fear 10 = .ok (.aload_n 0, 1) := by decide +kernel
theorem dX3_fear_11 : decode cX3_fear 11 = .ok (.iconst 0, 1) := by decide +kernel
theorem dX3_fear_12 : decode cX3_fear 12 = .ok (.invokevirtual 51, 3) := by decide +kernel
theorem dX3_fear_15 : decode cX3_fear 15 = .ok (.ireturn, 1) := by decide +kernel
theorem dX3_fear_16 : decode cX3_fear 16 = .ok (.aload_n 0, 1) := by decide +kernel
theorem dX3_fear_17 : decode cX3_fear 17 = .ok (.getfield 10, 3) := by decide +kernel
theorem dX3_fear_20 : decode cX3_fear 20 = .ok (.getfield 77, 3) := by decide +kernel
theorem dX3_fear_23 : decode cX3_fear 23 = .ok (.istore_n 2, 1) := by decide +kernel
theorem dX3_fear_24 : decode cX3_fear 24 = .ok (.aload_n 0, 1) := by decide +kernel
theorem dX3_fear_25 : decode cX3_fear 25 = .ok (.getfield 10, 3) := by decide +kernel
theorem dX3_fear_28 : decode cX3_fear 28 = .ok (.iload_n 1, 1) := by decide +kernel
theorem dX3_fear_29 : decode cX3_fear 29 = .ok (.putfield 77, 3) := by decide +kernel
theorem dX3_fear_32 : decode cX3_fear 32 = .ok (.iload_n 2, 1) := by decide +kernel
theorem dX3_fear_33 : decode cX3_fear 33 = .ok (.ireturn, 1) := by decide +kernel
theorem dX3_bell_0 : decode cX3_bell 0 = .ok (.iload_n 1, 1) := by decide +kernel
theorem dX3_bell_1 : decode cX3_bell 1 = .ok (.invokestatic 81, 3) := by decide +kernel
theorem dX3_bell_4 : decode cX3_bell 4 = .ok (.ifCond .eq 10, 3) := by decide +kernel
theorem dX3_bell_7 : decode cX3_bell 7 = .ok (.iload_n 2, 1) := by decide +kernel
theorem dX3_bell_8 : decode cX3_bell 8 = .ok (.invokestatic 47, 3) := by decide +kernel
theorem dX3_bell_11 : decode cX3_bell 11 = .ok (.ifCond .ne 9, 3) := by decide +kernel
theorem dX3_bell_14 : decode cX3_bell 14 = .ok (.aload_n 0, 1) := by decide +kernel
theorem dX3_bell_15 : decode cX3_bell 15 = .ok (.iconst 0, 1) := by decide +kernel
theorem dX3_bell_16 : decode cX3_bell 16 = .ok (.invokevirtual 51, 3) := by decide +kernel
theorem dX3_bell_19 : decode cX3_bell 19 = .ok (.ireturn, 1) := by decide +kernel
theorem dX3_bell_20 : decode cX3_bell 20 = .ok (.aload_n 0, 1) := by decide +kernel
theorem dX3_bell_21 : decode cX3_bell 21 = .ok (.getfield 10, 3) := by decide +kernel
theorem dX3_bell_24 : decode cX3_bell 24 = .ok (.getfield 84, 3) := by decide +kernel
theorem dX3_bell_27 : decode cX3_bell 27 = .ok (.bipush 8, 2) := by decide +kernel
theorem dX3_bell_29 : decode cX3_bell 29 = .ok (.if_icmp .lt 9, 3) := by decide +kernel
theorem dX3_bell_32 : decode cX3_bell 32 = .ok (.aload_n 0, 1) := by decide +kernel
theorem dX3_bell_33 : decode cX3_bell 33 = .ok (.iconst 1, 1) := by decide +kernel
theorem dX3_bell_34 : decode cX3_bell 34 = .ok (.invokevirtual 51, 3) := by decide +kernel
theorem dX3_bell_37 : decode cX3_bell 37 = .ok (.ireturn, 1) := by decide +kernel
theorem dX3_bell_38 : decode cX3_bell 38 = .ok (.aload_n 0, 1) := by decide +kernel
theorem dX3_bell_39 : decode cX3_bell 39 = .ok (.getfield 10, 3) := by decide +kernel
theorem dX3_bell_42 : decode cX3_bell 42 = .ok (.iload_n 1, 1) := by decide +kernel
theorem dX3_bell_43 : decode cX3_bell 43 = .ok (.iload_n 2, 1) := by decide +kernel
theorem dX3_bell_44 : decode cX3_bell 44 = .ok (.invokevirtual 87, 3) := by decide +kernel
theorem dX3_bell_47 : decode cX3_bell 47 = .ok (.ireturn, 1) := by decide +kernel
theorem dX3_of_0 : decode cX3_of 0 = .ok (.aload_n 0, 1) := by decide +kernel
theorem dX3_of_1 : decode cX3_of 1 = .ok (.iload_n 1, 1) := by decide +kernel
theorem dX3_of_2 : decode cX3_of 2 = .ok (.invokevirtual 91, 3) := by decide +kernel
theorem dX3_of_5 : decode cX3_of 5 = .ok (.ifCond .ne 9, 3) := by decide +kernel
theorem dX3_of_8 : decode cX3_of 8 = .ok (.aload_n 0, 1) := by decide +kernel
theorem dX3_of_9 : decode cX3_of 9 = .ok (.iconst 0, 1) := by decide +kernel
theorem dX3_of_10 : decode cX3_of 10 = .ok (.invokevirtual 51, 3) := by decide +kernel
theorem dX3_of_13 : decode cX3_of 13 = .ok (.ireturn, 1) := by decide +kernel
theorem dX3_of_14 : decode cX3_of 14 = .ok (.iload_n 2, 1) := by decide +kernel
theorem dX3_of_15 : decode cX3_of 15 = .ok (.lookupswitch 52 #[(5, 25), (6, 34)], 25) := by decide +kernel
theorem dX3_of_40 : decode cX3_of 40 = .ok (.aload_n 0, 1) := by decide +kernel
theorem dX3_of_41 : decode cX3_of 41 = .ok (.getfield 10, 3) := by decide +kernel
theorem dX3_of_44 : decode cX3_of 44 = .ok (.iload_n 1, 1) := by decide +kernel
theorem dX3_of_45 : decode cX3_of 45 = .ok (.invokevirtual 94, 3) := by decide +kernel
theorem dX3_of_48 : decode cX3_of 48 = .ok (.ireturn, 1) := by decide +kernel
theorem dX3_of_49 : decode cX3_of 49 = .ok (.aload_n 0, 1) := by decide +kernel
theorem dX3_of_50 : decode cX3_of 50 = .ok (.getfield 10, 3) := by decide +kernel
theorem dX3_of_53 : decode cX3_of 53 = .ok (.iload_n 1, 1) := by decide +kernel
theorem dX3_of_54 : decode cX3_of 54 = .ok (.aload_n 0, 1) := by decide +kernel
theorem dX3_of_55 : decode cX3_of 55 = .ok (.getfield 10, 3) := by decide +kernel
theorem dX3_of_58 : decode cX3_of 58 = .ok (.getfield 97, 3) := by decide +kernel
theorem dX3_of_61 : decode cX3_of 61 = .ok (.iload_n 1, 1) := by decide +kernel
theorem dX3_of_62 : decode cX3_of 62 = .ok (.iaload, 1) := by decide +kernel
theorem dX3_of_63 : decode cX3_of 63 = .ok (.invokevirtual 100, 3) := by decide +kernel
theorem dX3_of_66 : decode cX3_of 66 = .ok (.ireturn, 1) := by decide +kernel
theorem dX3_of_67 : decode cX3_of 67 = .ok (.iload_n 2, 1) := by decide +kernel
theorem dX3_of_68 : decode cX3_of 68 = .ok (.invokestatic 103, 3) := by decide +kernel
theorem dX3_of_71 : decode cX3_of 71 = .ok (.ifCond .eq 15, 3) := by decide +kernel
theorem dX3_of_74 : decode cX3_of 74 = .ok (.aload_n 0, 1) := by decide +kernel
theorem dX3_of_75 : decode cX3_of 75 = .ok (.getfield 10, 3) := by decide +kernel
theorem dX3_of_78 : decode cX3_of 78 = .ok (.iload_n 1, 1) := by decide +kernel
theorem dX3_of_79 : decode cX3_of 79 = .ok (.iload_n 2, 1) := by decide +kernel
theorem dX3_of_80 : decode cX3_of 80 = .ok (.invokevirtual 106, 3) := by decide +kernel
theorem dX3_of_83 : decode cX3_of 83 = .ok (.goto 8, 3) := by decide +kernel
theorem dX3_of_86 : decode cX3_of 86 = .ok (.aload_n 0, 1) := by decide +kernel
theorem dX3_of_87 : decode cX3_of 87 = .ok (.iconst 0, 1) := by decide +kernel
theorem dX3_of_88 : decode cX3_of 88 = .ok (.invokevirtual 51, 3) := by decide +kernel
theorem dX3_of_91 : decode cX3_of 91 = .ok (.ireturn, 1) := by decide +kernel
theorem dX3_change_0 : decode cX3_change 0 = .ok (.aload_n 0, 1) := by decide +kernel
theorem dX3_change_1 : decode cX3_change 1 = .ok (.iload_n 1, 1) := by decide +kernel
theorem dX3_change_2 : decode cX3_change 2 = .ok (.invokevirtual 91, 3) := by decide +kernel
theorem dX3_change_5 : decode cX3_change 5 = .ok (.ifCond .eq 18, 3) := by decide +kernel
theorem dX3_change_8 : decode cX3_change 8 = .ok (.iload_n 2, 1) := by decide +kernel
theorem dX3_change_9 : decode cX3_change 9 = .ok (.invokestatic 103, 3) := by decide +kernel
theorem dX3_change_12 : decode cX3_change 12 = .ok (.ifCond .eq 11, 3) := by decide +kernel
theorem dX3_change_15 : decode cX3_change 15 = .ok (.iload_n 2, 1) := by decide +kernel
theorem dX3_change_16 : decode cX3_change 16 = .ok (.iload_n 3, 1) := by decide +kernel
theorem dX3_change_17 : decode cX3_change 17 = .ok (.invokestatic 109, 3) := by decide +kernel
theorem dX3_change_20 : decode cX3_change 20 = .ok (.ifCond .ne 9, 3) := by decide +kernel
theorem dX3_change_23 : decode cX3_change 23 = .ok (.aload_n 0, 1) := by decide +kernel
theorem dX3_change_24 : decode cX3_change 24 = .ok (.iconst 0, 1) := by decide +kernel
theorem dX3_change_25 : decode cX3_change 25 = .ok (.invokevirtual 51, 3) := by decide +kernel
theorem dX3_change_28 : decode cX3_change 28 = .ok (.ireturn, 1) := by decide +kernel
theorem dX3_change_29 : decode cX3_change 29 = .ok (.aload_n 0, 1) := by decide +kernel
theorem dX3_change_30 : decode cX3_change 30 = .ok (.getfield 10, 3) := by decide +kernel
theorem dX3_change_33 : decode cX3_change 33 = .ok (.iload_n 1, 1) := by decide +kernel
theorem dX3_change_34 : decode cX3_change 34 = .ok (.iload_n 2, 1) := by decide +kernel
theorem dX3_change_35 : decode cX3_change 35 = .ok (.invokevirtual 106, 3) := by decide +kernel
theorem dX3_change_38 : decode cX3_change 38 = .ok (.istore 4, 2) := by decide +kernel
theorem dX3_change_40 : decode cX3_change 40 = .ok (.aload_n 0, 1) := by decide +kernel
theorem dX3_change_41 : decode cX3_change 41 = .ok (.getfield 10, 3) := by decide +kernel
theorem dX3_change_44 : decode cX3_change 44 = .ok (.iload_n 1, 1) := by decide +kernel
theorem dX3_change_45 : decode cX3_change 45 = .ok (.iload_n 2, 1) := by decide +kernel
theorem dX3_change_46 : decode cX3_change 46 = .ok (.iload_n 3, 1) := by decide +kernel
theorem dX3_change_47 : decode cX3_change 47 = .ok (.invokevirtual 113, 3) := by decide +kernel
theorem dX3_change_50 : decode cX3_change 50 = .ok (.iload 4, 2) := by decide +kernel
theorem dX3_change_52 : decode cX3_change 52 = .ok (.ireturn, 1) := by decide +kernel
theorem dX3_worth_0 : decode cX3_worth 0 = .ok (.aload_n 0, 1) := by decide +kernel
theorem dX3_worth_1 : decode cX3_worth 1 = .ok (.iload_n 1, 1) := by decide +kernel
theorem dX3_worth_2 : decode cX3_worth 2 = .ok (.invokevirtual 91, 3) := by decide +kernel
theorem dX3_worth_5 : decode cX3_worth 5 = .ok (.ifCond .eq 10, 3) := by decide +kernel
theorem dX3_worth_8 : decode cX3_worth 8 = .ok (.iload_n 2, 1) := by decide +kernel
theorem dX3_worth_9 : decode cX3_worth 9 = .ok (.invokestatic 47, 3) := by decide +kernel
theorem dX3_worth_12 : decode cX3_worth 12 = .ok (.ifCond .ne 9, 3) := by decide +kernel
theorem dX3_worth_15 : decode cX3_worth 15 = .ok (.aload_n 0, 1) := by decide +kernel
theorem dX3_worth_16 : decode cX3_worth 16 = .ok (.iconst 0, 1) := by decide +kernel
theorem dX3_worth_17 : decode cX3_worth 17 = .ok (.invokevirtual 51, 3) := by decide +kernel
theorem dX3_worth_20 : decode cX3_worth 20 = .ok (.ireturn, 1) := by decide +kernel
theorem dX3_worth_21 : decode cX3_worth 21 = .ok (.aload_n 0, 1) := by decide +kernel
theorem dX3_worth_22 : decode cX3_worth 22 = .ok (.getfield 10, 3) := by decide +kernel
theorem dX3_worth_25 : decode cX3_worth 25 = .ok (.iload_n 1, 1) := by decide +kernel
theorem dX3_worth_26 : decode cX3_worth 26 = .ok (.iload_n 2, 1) := by decide +kernel
theorem dX3_worth_27 : decode cX3_worth 27 = .ok (.invokevirtual 100, 3) := by decide +kernel
theorem dX3_worth_30 : decode cX3_worth 30 = .ok (.ireturn, 1) := by decide +kernel
theorem dX3_go_0 : decode cX3_go 0 = .ok (.iload_n 1, 1) := by decide +kernel
theorem dX3_go_1 : decode cX3_go 1 = .ok (.iconst 1, 1) := by decide +kernel
theorem dX3_go_2 : decode cX3_go 2 = .ok (.if_icmp .lt 9, 3) := by decide +kernel
theorem dX3_go_5 : decode cX3_go 5 = .ok (.iload_n 1, 1) := by decide +kernel
theorem dX3_go_6 : decode cX3_go 6 = .ok (.bipush 24, 2) := by decide +kernel
theorem dX3_go_8 : decode cX3_go 8 = .ok (.if_icmp .le 9, 3) := by decide +kernel
theorem dX3_go_11 : decode cX3_go 11 = .ok (.aload_n 0, 1) := by decide +kernel
theorem dX3_go_12 : decode cX3_go 12 = .ok (.iconst 0, 1) := by decide +kernel
theorem dX3_go_13 : decode cX3_go 13 = .ok (.invokevirtual 51, 3) := by decide +kernel
theorem dX3_go_16 : decode cX3_go 16 = .ok (.ireturn, 1) := by decide +kernel
theorem dX3_go_17 : decode cX3_go 17 = .ok (.aload_n 0, 1) := by decide +kernel
theorem dX3_go_18 : decode cX3_go 18 = .ok (.getfield 10, 3) := by decide +kernel
theorem dX3_go_21 : decode cX3_go 21 = .ok (.getfield 117, 3) := by decide +kernel
theorem dX3_go_24 : decode cX3_go 24 = .ok (.iload_n 1, 1) := by decide +kernel
theorem dX3_go_25 : decode cX3_go 25 = .ok (.iadd, 1) := by decide +kernel
theorem dX3_go_26 : decode cX3_go 26 = .ok (.ldc 120, 2) := by decide +kernel
theorem dX3_go_28 : decode cX3_go 28 = .ok (.if_icmp .le 9, 3) := by decide +kernel
theorem dX3_go_31 : decode cX3_go 31 = .ok (.aload_n 0, 1) := by decide +kernel
theorem dX3_go_32 : decode cX3_go 32 = .ok (.iconst 4, 1) := by decide +kernel
theorem dX3_go_33 : decode cX3_go 33 = .ok (.invokevirtual 51, 3) := by decide +kernel
theorem dX3_go_36 : decode cX3_go 36 = .ok (.ireturn, 1) := by decide +kernel
theorem dX3_go_37 : decode cX3_go 37 = .ok (.iconst 0, 1) := by decide +kernel
theorem dX3_go_38 : decode cX3_go 38 = .ok (.istore_n 2, 1) := by decide +kernel
theorem dX3_go_39 : decode cX3_go 39 = .ok (.iload_n 2, 1) := by decide +kernel
theorem dX3_go_40 : decode cX3_go 40 = .ok (.iload_n 1, 1) := by decide +kernel
theorem dX3_go_41 : decode cX3_go 41 = .ok (.if_icmp .ge 17, 3) := by decide +kernel
theorem dX3_go_44 : decode cX3_go 44 = .ok (.aload_n 0, 1) := by decide +kernel
theorem dX3_go_45 : decode cX3_go 45 = .ok (.getfield 10, 3) := by decide +kernel
theorem dX3_go_48 : decode cX3_go 48 = .ok (.invokevirtual 121, 3) := by decide +kernel
theorem dX3_go_51 : decode cX3_go 51 = .ok (.pop, 1) := by decide +kernel
theorem dX3_go_52 : decode cX3_go 52 = .ok (.iinc 2 1, 3) := by decide +kernel
theorem dX3_go_55 : decode cX3_go 55 = .ok (.goto (-16), 3) := by decide +kernel
theorem dX3_go_58 : decode cX3_go 58 = .ok (.aload_n 0, 1) := by decide +kernel
theorem dX3_go_59 : decode cX3_go 59 = .ok (.getfield 10, 3) := by decide +kernel
theorem dX3_go_62 : decode cX3_go 62 = .ok (.getfield 125, 3) := by decide +kernel
theorem dX3_go_65 : decode cX3_go 65 = .ok (.invokestatic 128, 3) := by decide +kernel
theorem dX3_go_68 : decode cX3_go 68 = .ok (.ireturn, 1) := by decide +kernel
theorem dX3_now_0 : decode cX3_now 0 = .ok (.iload_n 1, 1) := by decide +kernel
theorem dX3_now_1 : decode cX3_now 1 = .ok (.tableswitch 85 0 4 #[35, 43, 51, 62, 70], 35) := by decide +kernel
theorem dX3_now_36 : decode cX3_now 36 = .ok (.aload_n 0, 1) := by decide +kernel
theorem dX3_now_37 : decode cX3_now 37 = .ok (.getfield 10, 3) := by decide +kernel
theorem dX3_now_40 : decode cX3_now 40 = .ok (.getfield 117, 3) := by decide +kernel
theorem dX3_now_43 : decode cX3_now 43 = .ok (.ireturn, 1) := by decide +kernel
theorem dX3_now_44 : decode cX3_now 44 = .ok (.aload_n 0, 1) := by decide +kernel
theorem dX3_now_45 : decode cX3_now 45 = .ok (.getfield 10, 3) := by decide +kernel
theorem dX3_now_48 : decode cX3_now 48 = .ok (.getfield 125, 3) := by decide +kernel
theorem dX3_now_51 : decode cX3_now 51 = .ok (.ireturn, 1) := by decide +kernel
theorem dX3_now_52 : decode cX3_now 52 = .ok (.aload_n 0, 1) := by decide +kernel
theorem dX3_now_53 : decode cX3_now 53 = .ok (.getfield 10, 3) := by decide +kernel
theorem dX3_now_56 : decode cX3_now 56 = .ok (.getfield 133, 3) := by decide +kernel
theorem dX3_now_59 : decode cX3_now 59 = .ok (.invokestatic 137, 3) := by decide +kernel
theorem dX3_now_62 : decode cX3_now 62 = .ok (.ireturn, 1) := by decide +kernel
theorem dX3_now_63 : decode cX3_now 63 = .ok (.aload_n 0, 1) := by decide +kernel
theorem dX3_now_64 : decode cX3_now 64 = .ok (.getfield 10, 3) := by decide +kernel
theorem dX3_now_67 : decode cX3_now 67 = .ok (.getfield 77, 3) := by decide +kernel
theorem dX3_now_70 : decode cX3_now 70 = .ok (.ireturn, 1) := by decide +kernel
theorem dX3_now_71 : decode cX3_now 71 = .ok (.aload_n 0, 1) := by decide +kernel
theorem dX3_now_72 : decode cX3_now 72 = .ok (.getfield 10, 3) := by decide +kernel
theorem dX3_now_75 : decode cX3_now 75 = .ok (.aload_n 0, 1) := by decide +kernel
theorem dX3_now_76 : decode cX3_now 76 = .ok (.getfield 10, 3) := by decide +kernel
theorem dX3_now_79 : decode cX3_now 79 = .ok (.getfield 125, 3) := by decide +kernel
theorem dX3_now_82 : decode cX3_now 82 = .ok (.invokevirtual 142, 3) := by decide +kernel
theorem dX3_now_85 : decode cX3_now 85 = .ok (.ireturn, 1) := by decide +kernel
theorem dX3_now_86 : decode cX3_now 86 = .ok (.aload_n 0, 1) := by decide +kernel
theorem dX3_now_87 : decode cX3_now 87 = .ok (.iconst 0, 1) := by decide +kernel
theorem dX3_now_88 : decode cX3_now 88 = .ok (.invokevirtual 51, 3) := by decide +kernel
theorem dX3_now_91 : decode cX3_now 91 = .ok (.ireturn, 1) := by decide +kernel
theorem dX3_loud_0 : decode cX3_loud 0 = .ok (.aload_n 0, 1) := by decide +kernel
theorem dX3_loud_1 : decode cX3_loud 1 = .ok (.iload_n 1, 1) := by decide +kernel
theorem dX3_loud_2 : decode cX3_loud 2 = .ok (.invokevirtual 91, 3) := by decide +kernel
theorem dX3_loud_5 : decode cX3_loud 5 = .ok (.ifCond .eq 10, 3) := by decide +kernel
theorem dX3_loud_8 : decode cX3_loud 8 = .ok (.iload_n 2, 1) := by decide +kernel
theorem dX3_loud_9 : decode cX3_loud 9 = .ok (.invokestatic 47, 3) := by decide +kernel
theorem dX3_loud_12 : decode cX3_loud 12 = .ok (.ifCond .ne 9, 3) := by decide +kernel
theorem dX3_loud_15 : decode cX3_loud 15 = .ok (.aload_n 0, 1) := by decide +kernel
theorem dX3_loud_16 : decode cX3_loud 16 = .ok (.iconst 0, 1) := by decide +kernel
theorem dX3_loud_17 : decode cX3_loud 17 = .ok (.invokevirtual 51, 3) := by decide +kernel
theorem dX3_loud_20 : decode cX3_loud 20 = .ok (.ireturn, 1) := by decide +kernel
theorem dX3_loud_21 : decode cX3_loud 21 = .ok (.aload_n 0, 1) := by decide +kernel
theorem dX3_loud_22 : decode cX3_loud 22 = .ok (.getfield 10, 3) := by decide +kernel
theorem dX3_loud_25 : decode cX3_loud 25 = .ok (.getfield 145, 3) := by decide +kernel
theorem dX3_loud_28 : decode cX3_loud 28 = .ok (.iload_n 1, 1) := by decide +kernel
theorem dX3_loud_29 : decode cX3_loud 29 = .ok (.iaload, 1) := by decide +kernel
theorem dX3_loud_30 : decode cX3_loud 30 = .ok (.aload_n 0, 1) := by decide +kernel
theorem dX3_loud_31 : decode cX3_loud 31 = .ok (.getfield 10, 3) := by decide +kernel
theorem dX3_loud_34 : decode cX3_loud 34 = .ok (.getfield 97, 3) := by decide +kernel
theorem dX3_loud_37 : decode cX3_loud 37 = .ok (.iload_n 1, 1) := by decide +kernel
theorem dX3_loud_38 : decode cX3_loud 38 = .ok (.iaload, 1) := by decide +kernel
theorem dX3_loud_39 : decode cX3_loud 39 = .ok (.iload_n 2, 1) := by decide +kernel
theorem dX3_loud_40 : decode cX3_loud 40 = .ok (.invokestatic 148, 3) := by decide +kernel
theorem dX3_loud_43 : decode cX3_loud 43 = .ok (.invokestatic 151, 3) := by decide +kernel
theorem dX3_loud_46 : decode cX3_loud 46 = .ok (.ireturn, 1) := by decide +kernel
theorem dX3_ahead_0 : decode cX3_ahead 0 = .ok (.aload_n 0, 1) := by decide +kernel
theorem dX3_ahead_1 : decode cX3_ahead 1 = .ok (.iload_n 1, 1) := by decide +kernel
theorem dX3_ahead_2 : decode cX3_ahead 2 = .ok (.invokevirtual 91, 3) := by decide +kernel
theorem dX3_ahead_5 : decode cX3_ahead 5 = .ok (.ifCond .eq 13, 3) := by decide +kernel
theorem dX3_ahead_8 : decode cX3_ahead 8 = .ok (.iload_n 2, 1) := by decide +kernel
theorem dX3_ahead_9 : decode cX3_ahead 9 = .ok (.ifCond .lt 9, 3) := by decide +kernel
theorem dX3_ahead_12 : decode cX3_ahead 12 = .ok (.iload_n 2, 1) := by decide +kernel
theorem dX3_ahead_13 : decode cX3_ahead 13 = .ok (.bipush 60, 2) := by decide +kernel
theorem dX3_ahead_15 : decode cX3_ahead 15 = .ok (.if_icmp .le 9, 3) := by decide +kernel
theorem dX3_ahead_18 : decode cX3_ahead 18 = .ok (.aload_n 0, 1) := by decide +kernel
theorem dX3_ahead_19 : decode cX3_ahead 19 = .ok (.iconst 0, 1) := by decide +kernel
theorem dX3_ahead_20 : decode cX3_ahead 20 = .ok (.invokevirtual 51, 3) := by decide +kernel
theorem dX3_ahead_23 : decode cX3_ahead 23 = .ok (.ireturn, 1) := by decide +kernel
theorem dX3_ahead_24 : decode cX3_ahead 24 = .ok (.aload_n 0, 1) := by decide +kernel
theorem dX3_ahead_25 : decode cX3_ahead 25 = .ok (.getfield 16, 3) := by decide +kernel
theorem dX3_ahead_28 : decode cX3_ahead 28 = .ok (.aload_n 0, 1) := by decide +kernel
theorem dX3_ahead_29 : decode cX3_ahead 29 = .ok (.getfield 10, 3) := by decide +kernel
theorem dX3_ahead_32 : decode cX3_ahead 32 = .ok (.invokevirtual 154, 3) := by decide +kernel
theorem dX3_ahead_35 : decode cX3_ahead 35 = .ok (.aload_n 0, 1) := by decide +kernel
theorem dX3_ahead_36 : decode cX3_ahead 36 = .ok (.getfield 16, 3) := by decide +kernel
theorem dX3_ahead_39 : decode cX3_ahead 39 = .ok (.iload_n 2, 1) := by decide +kernel
theorem dX3_ahead_40 : decode cX3_ahead 40 = .ok (.invokevirtual 158, 3) := by decide +kernel
theorem dX3_ahead_43 : decode cX3_ahead 43 = .ok (.aload_n 0, 1) := by decide +kernel
theorem dX3_ahead_44 : decode cX3_ahead 44 = .ok (.getfield 16, 3) := by decide +kernel
theorem dX3_ahead_47 : decode cX3_ahead 47 = .ok (.getfield 97, 3) := by decide +kernel
theorem dX3_ahead_50 : decode cX3_ahead 50 = .ok (.iload_n 1, 1) := by decide +kernel
theorem dX3_ahead_51 : decode cX3_ahead 51 = .ok (.iaload, 1) := by decide +kernel
theorem dX3_ahead_52 : decode cX3_ahead 52 = .ok (.ireturn, 1) := by decide +kernel
theorem dX3_when_0 : decode cX3_when 0 = .ok (.aload_n 0, 1) := by decide +kernel
theorem dX3_when_1 : decode cX3_when 1 = .ok (.iload_n 1, 1) := by decide +kernel
theorem dX3_when_2 : decode cX3_when 2 = .ok (.invokevirtual 91, 3) := by decide +kernel
theorem dX3_when_5 : decode cX3_when 5 = .ok (.ifCond .ne 9, 3) := by decide +kernel
theorem dX3_when_8 : decode cX3_when 8 = .ok (.aload_n 0, 1) := by decide +kernel
theorem dX3_when_9 : decode cX3_when 9 = .ok (.iconst 0, 1) := by decide +kernel
theorem dX3_when_10 : decode cX3_when 10 = .ok (.invokevirtual 51, 3) := by decide +kernel
theorem dX3_when_13 : decode cX3_when 13 = .ok (.ireturn, 1) := by decide +kernel
theorem dX3_when_14 : decode cX3_when 14 = .ok (.aload_n 0, 1) := by decide +kernel
theorem dX3_when_15 : decode cX3_when 15 = .ok (.getfield 16, 3) := by decide +kernel
theorem dX3_when_18 : decode cX3_when 18 = .ok (.aload_n 0, 1) := by decide +kernel
theorem dX3_when_19 : decode cX3_when 19 = .ok (.getfield 10, 3) := by decide +kernel
theorem dX3_when_22 : decode cX3_when 22 = .ok (.invokevirtual 154, 3) := by decide +kernel
theorem dX3_when_25 : decode cX3_when 25 = .ok (.aload_n 0, 1) := by decide +kernel
theorem dX3_when_26 : decode cX3_when 26 = .ok (.getfield 16, 3) := by decide +kernel
theorem dX3_when_29 : decode cX3_when 29 = .ok (.iload_n 1, 1) := by decide +kernel
theorem dX3_when_30 : decode cX3_when 30 = .ok (.bipush 60, 2) := by decide +kernel
theorem dX3_when_32 : decode cX3_when 32 = .ok (.invokevirtual 162, 3) := by decide +kernel
theorem dX3_when_35 : decode cX3_when 35 = .ok (.istore_n 2, 1) := by decide +kernel
theorem dX3_when_36 : decode cX3_when 36 = .ok (.iload_n 2, 1) := by decide +kernel
theorem dX3_when_37 : decode cX3_when 37 = .ok (.ifCond .ge 11, 3) := by decide +kernel
theorem dX3_when_40 : decode cX3_when 40 = .ok (.aload_n 0, 1) := by decide +kernel
theorem dX3_when_41 : decode cX3_when 41 = .ok (.iconst 3, 1) := by decide +kernel
theorem dX3_when_42 : decode cX3_when 42 = .ok (.invokevirtual 51, 3) := by decide +kernel
theorem dX3_when_45 : decode cX3_when 45 = .ok (.goto 4, 3) := by decide +kernel
theorem dX3_when_48 : decode cX3_when 48 = .ok (.iload_n 2, 1) := by decide +kernel
theorem dX3_when_49 : decode cX3_when 49 = .ok (.ireturn, 1) := by decide +kernel
theorem dX3_still_0 : decode cX3_still 0 = .ok (.aload_n 0, 1) := by decide +kernel
theorem dX3_still_1 : decode cX3_still 1 = .ok (.getfield 16, 3) := by decide +kernel
theorem dX3_still_4 : decode cX3_still 4 = .ok (.aload_n 0, 1) := by decide +kernel
theorem dX3_still_5 : decode cX3_still 5 = .ok (.getfield 10, 3) := by decide +kernel
theorem dX3_still_8 : decode cX3_still 8 = .ok (.invokevirtual 154, 3) := by decide +kernel
theorem dX3_still_11 : decode cX3_still 11 = .ok (.iconst 0, 1) := by decide +kernel
theorem dX3_still_12 : decode cX3_still 12 = .ok (.istore_n 1, 1) := by decide +kernel
theorem dX3_still_13 : decode cX3_still 13 = .ok (.iload_n 1, 1) := by decide +kernel
theorem dX3_still_14 : decode cX3_still 14 = .ok (.bipush 60, 2) := by decide +kernel
theorem dX3_still_16 : decode cX3_still 16 = .ok (.if_icmp .gt 21, 3) := by decide +kernel
theorem dX3_still_19 : decode cX3_still 19 = .ok (.aload_n 0, 1) := by decide +kernel
theorem dX3_still_20 : decode cX3_still 20 = .ok (.getfield 16, 3) := by decide +kernel
theorem dX3_still_23 : decode cX3_still 23 = .ok (.invokevirtual 121, 3) := by decide +kernel
theorem dX3_still_26 : decode cX3_still 26 = .ok (.ifCond .ne 5, 3) := by decide +kernel
theorem dX3_still_29 : decode cX3_still 29 = .ok (.iload_n 1, 1) := by decide +kernel
theorem dX3_still_30 : decode cX3_still 30 = .ok (.ireturn, 1) := by decide +kernel
theorem dX3_still_31 : decode cX3_still 31 = .ok (.iinc 1 1, 3) := by decide +kernel
theorem dX3_still_34 : decode cX3_still 34 = .ok (.goto (-21), 3) := by decide +kernel
theorem dX3_still_37 : decode cX3_still 37 = .ok (.aload_n 0, 1) := by decide +kernel
theorem dX3_still_38 : decode cX3_still 38 = .ok (.iconst 3, 1) := by decide +kernel
theorem dX3_still_39 : decode cX3_still 39 = .ok (.invokevirtual 51, 3) := by decide +kernel
theorem dX3_still_42 : decode cX3_still 42 = .ok (.ireturn, 1) := by decide +kernel
theorem dX3_caught_0 : decode cX3_caught 0 = .ok (.iload_n 1, 1) := by decide +kernel
theorem dX3_caught_1 : decode cX3_caught 1 = .ok (.ifCond .lt 9, 3) := by decide +kernel
theorem dX3_caught_4 : decode cX3_caught 4 = .ok (.iload_n 1, 1) := by decide +kernel
theorem dX3_caught_5 : decode cX3_caught 5 = .ok (.bipush 60, 2) := by decide +kernel
theorem dX3_caught_7 : decode cX3_caught 7 = .ok (.if_icmp .le 9, 3) := by decide +kernel
theorem dX3_caught_10 : decode cX3_caught 10 = .ok (.aload_n 0, 1) := by decide +kernel
theorem dX3_caught_11 : decode cX3_caught 11 = .ok (.iconst 0, 1) := by decide +kernel
theorem dX3_caught_12 : decode cX3_caught 12 = .ok (.invokevirtual 51, 3) := by decide +kernel
theorem dX3_caught_15 : decode cX3_caught 15 = .ok (.ireturn, 1) := by decide +kernel
theorem dX3_caught_16 : decode cX3_caught 16 = .ok (.aload_n 0, 1) := by decide +kernel
theorem dX3_caught_17 : decode cX3_caught 17 = .ok (.getfield 16, 3) := by decide +kernel
theorem dX3_caught_20 : decode cX3_caught 20 = .ok (.aload_n 0, 1) := by decide +kernel
theorem dX3_caught_21 : decode cX3_caught 21 = .ok (.getfield 10, 3) := by decide +kernel
theorem dX3_caught_24 : decode cX3_caught 24 = .ok (.invokevirtual 154, 3) := by decide +kernel
theorem dX3_caught_27 : decode cX3_caught 27 = .ok (.aload_n 0, 1) := by decide +kernel
theorem dX3_caught_28 : decode cX3_caught 28 = .ok (.getfield 16, 3) := by decide +kernel
theorem dX3_caught_31 : decode cX3_caught 31 = .ok (.iload_n 1, 1) := by decide +kernel
theorem dX3_caught_32 : decode cX3_caught 32 = .ok (.invokevirtual 158, 3) := by decide +kernel
theorem dX3_caught_35 : decode cX3_caught 35 = .ok (.aload_n 0, 1) := by decide +kernel
theorem dX3_caught_36 : decode cX3_caught 36 = .ok (.getfield 16, 3) := by decide +kernel
theorem dX3_caught_39 : decode cX3_caught 39 = .ok (.getfield 125, 3) := by decide +kernel
theorem dX3_caught_42 : decode cX3_caught 42 = .ok (.ireturn, 1) := by decide +kernel
theorem dX3_netFor_0 : decode cX3_netFor 0 = .ok (.aload_n 0, 1) := by decide +kernel
theorem dX3_netFor_1 : decode cX3_netFor 1 = .ok (.iload_n 1, 1) := by decide +kernel
theorem dX3_netFor_2 : decode cX3_netFor 2 = .ok (.invokevirtual 91, 3) := by decide +kernel
theorem dX3_netFor_5 : decode cX3_netFor 5 = .ok (.ifCond .ne 9, 3) := by decide +kernel
theorem dX3_netFor_8 : decode cX3_netFor 8 = .ok (.aload_n 0, 1) := by decide +kernel
theorem dX3_netFor_9 : decode cX3_netFor 9 = .ok (.iconst 0, 1) := by decide +kernel
theorem dX3_netFor_10 : decode cX3_netFor 10 = .ok (.invokevirtual 51, 3) := by decide +kernel
theorem dX3_netFor_13 : decode cX3_netFor 13 = .ok (.ireturn, 1) := by decide +kernel
theorem dX3_netFor_14 : decode cX3_netFor 14 = .ok (.aload_n 0, 1) := by decide +kernel
theorem dX3_netFor_15 : decode cX3_netFor 15 = .ok (.getfield 16, 3) := by decide +kernel
theorem dX3_netFor_18 : decode cX3_netFor 18 = .ok (.aload_n 0, 1) := by decide +kernel
theorem dX3_netFor_19 : decode cX3_netFor 19 = .ok (.getfield 10, 3) := by decide +kernel
theorem dX3_netFor_22 : decode cX3_netFor 22 = .ok (.invokevirtual 154, 3) := by decide +kernel
theorem dX3_netFor_25 : decode cX3_netFor 25 = .ok (.aload_n 0, 1) := by decide +kernel
theorem dX3_netFor_26 : decode cX3_netFor 26 = .ok (.getfield 16, 3) := by decide +kernel
theorem dX3_netFor_29 : decode cX3_netFor 29 = .ok (.iload_n 1, 1) := by decide +kernel
theorem dX3_netFor_30 : decode cX3_netFor 30 = .ok (.bipush 20, 2) := by decide +kernel
theorem dX3_netFor_32 : decode cX3_netFor 32 = .ok (.invokevirtual 162, 3) := by decide +kernel
theorem dX3_netFor_35 : decode cX3_netFor 35 = .ok (.istore_n 2, 1) := by decide +kernel
theorem dX3_netFor_36 : decode cX3_netFor 36 = .ok (.aload_n 0, 1) := by decide +kernel
theorem dX3_netFor_37 : decode cX3_netFor 37 = .ok (.getfield 16, 3) := by decide +kernel
theorem dX3_netFor_40 : decode cX3_netFor 40 = .ok (.getfield 165, 3) := by decide +kernel
theorem dX3_netFor_43 : decode cX3_netFor 43 = .ok (.lstore_n 3, 1) := by decide +kernel
theorem dX3_netFor_44 : decode cX3_netFor 44 = .ok (.iconst (-1), 1) := by decide +kernel
theorem dX3_netFor_45 : decode cX3_netFor 45 = .ok (.istore 5, 2) := by decide +kernel
theorem dX3_netFor_47 : decode cX3_netFor 47 = .ok (.bipush 21, 2) := by decide +kernel
theorem dX3_netFor_49 : decode cX3_netFor 49 = .ok (.istore 6, 2) := by decide +kernel
theorem dX3_netFor_51 : decode cX3_netFor 51 = .ok (.iconst 0, 1) := by decide +kernel
theorem dX3_netFor_52 : decode cX3_netFor 52 = .ok (.istore 7, 2) := by decide +kernel
theorem dX3_netFor_54 : decode cX3_netFor 54 = .ok (.iload 7, 2) := by decide +kernel
theorem dX3_netFor_56 : decode cX3_netFor 56 = .ok (.bipush 64, 2) := by decide +kernel
theorem dX3_netFor_58 : decode cX3_netFor 58 = .ok (.if_icmp .ge 91, 3) := by decide +kernel
theorem dX3_netFor_61 : decode cX3_netFor 61 = .ok (.aload_n 0, 1) := by decide +kernel
theorem dX3_netFor_62 : decode cX3_netFor 62 = .ok (.getfield 10, 3) := by decide +kernel
theorem dX3_netFor_65 : decode cX3_netFor 65 = .ok (.iload 7, 2) := by decide +kernel
theorem dX3_netFor_67 : decode cX3_netFor 67 = .ok (.invokevirtual 55, 3) := by decide +kernel
theorem dX3_netFor_70 : decode cX3_netFor 70 = .ok (.ifCond .eq 6, 3) := by decide +kernel
theorem dX3_netFor_73 : decode cX3_netFor 73 = .ok (.goto 70, 3) := by decide +kernel
theorem dX3_netFor_76 : decode cX3_netFor 76 = .ok (.iload_n 2, 1) := by decide +kernel
theorem dX3_netFor_77 : decode cX3_netFor 77 = .ok (.istore 8, 2) := by decide +kernel
theorem dX3_netFor_79 : decode cX3_netFor 79 = .ok (.lload_n 3, 1) := by decide +kernel
theorem dX3_netFor_80 : decode cX3_netFor 80 = .ok (.iload 7, 2) := by decide +kernel
theorem dX3_netFor_82 : decode cX3_netFor 82 = .ok (.invokestatic 168, 3) := by decide +kernel
theorem dX3_netFor_85 : decode cX3_netFor 85 = .ok (.ifCond .eq 38, 3) := by decide +kernel
theorem dX3_netFor_88 : decode cX3_netFor 88 = .ok (.aload_n 0, 1) := by decide +kernel
theorem dX3_netFor_89 : decode cX3_netFor 89 = .ok (.getfield 16, 3) := by decide +kernel
theorem dX3_netFor_92 : decode cX3_netFor 92 = .ok (.aload_n 0, 1) := by decide +kernel
theorem dX3_netFor_93 : decode cX3_netFor 93 = .ok (.getfield 10, 3) := by decide +kernel
theorem dX3_netFor_96 : decode cX3_netFor 96 = .ok (.invokevirtual 154, 3) := by decide +kernel
theorem dX3_netFor_99 : decode cX3_netFor 99 = .ok (.aload_n 0, 1) := by decide +kernel
theorem dX3_netFor_100 : decode cX3_netFor 100 = .ok (.getfield 16, 3) := by decide +kernel
theorem dX3_netFor_103 : decode cX3_netFor 103 = .ok (.iload 7, 2) := by decide +kernel
theorem dX3_netFor_105 : decode cX3_netFor 105 = .ok (.iconst 1, 1) := by decide +kernel
theorem dX3_netFor_106 : decode cX3_netFor 106 = .ok (.invokevirtual 58, 3) := by decide +kernel
theorem dX3_netFor_109 : decode cX3_netFor 109 = .ok (.aload_n 0, 1) := by decide +kernel
theorem dX3_netFor_110 : decode cX3_netFor 110 = .ok (.getfield 16, 3) := by decide +kernel
theorem dX3_netFor_113 : decode cX3_netFor 113 = .ok (.iload_n 1, 1) := by decide +kernel
theorem dX3_netFor_114 : decode cX3_netFor 114 = .ok (.iload 6, 2) := by decide +kernel
theorem dX3_netFor_116 : decode cX3_netFor 116 = .ok (.iconst 1, 1) := by decide +kernel
theorem dX3_netFor_117 : decode cX3_netFor 117 = .ok (.isub, 1) := by decide +kernel
theorem dX3_netFor_118 : decode cX3_netFor 118 = .ok (.invokevirtual 162, 3) := by decide +kernel
theorem dX3_netFor_121 : decode cX3_netFor 121 = .ok (.istore 8, 2) := by decide +kernel
theorem dX3_netFor_123 : decode cX3_netFor 123 = .ok (.iload 8, 2) := by decide +kernel
theorem dX3_netFor_125 : decode cX3_netFor 125 = .ok (.ifCond .lt 18, 3) := by decide +kernel
theorem dX3_netFor_128 : decode cX3_netFor 128 = .ok (.iload 8, 2) := by decide +kernel
theorem dX3_netFor_130 : decode cX3_netFor 130 = .ok (.iload 6, 2) := by decide +kernel
theorem dX3_netFor_132 : decode cX3_netFor 132 = .ok (.if_icmp .ge 11, 3) := by decide +kernel
theorem dX3_netFor_135 : decode cX3_netFor 135 = .ok (.iload 8, 2) := by decide +kernel
theorem dX3_netFor_137 : decode cX3_netFor 137 = .ok (.istore 6, 2) := by decide +kernel
theorem dX3_netFor_139 : decode cX3_netFor 139 = .ok (.iload 7, 2) := by decide +kernel
theorem dX3_netFor_141 : decode cX3_netFor 141 = .ok (.istore 5, 2) := by decide +kernel
theorem dX3_netFor_143 : decode cX3_netFor 143 = .ok (.iinc 7 1, 3) := by decide +kernel
theorem dX3_netFor_146 : decode cX3_netFor 146 = .ok (.goto (-92), 3) := by decide +kernel
theorem dX3_netFor_149 : decode cX3_netFor 149 = .ok (.iload 5, 2) := by decide +kernel
theorem dX3_netFor_151 : decode cX3_netFor 151 = .ok (.ifCond .ge 11, 3) := by decide +kernel
theorem dX3_netFor_154 : decode cX3_netFor 154 = .ok (.aload_n 0, 1) := by decide +kernel
theorem dX3_netFor_155 : decode cX3_netFor 155 = .ok (.iconst 3, 1) := by decide +kernel
theorem dX3_netFor_156 : decode cX3_netFor 156 = .ok (.invokevirtual 51, 3) := by decide +kernel
theorem dX3_netFor_159 : decode cX3_netFor 159 = .ok (.goto 5, 3) := by decide +kernel
theorem dX3_netFor_162 : decode cX3_netFor 162 = .ok (.iload 5, 2) := by decide +kernel
theorem dX3_netFor_164 : decode cX3_netFor 164 = .ok (.ireturn, 1) := by decide +kernel
theorem dX3_best_0 : decode cX3_best 0 = .ok (.iload_n 1, 1) := by decide +kernel
theorem dX3_best_1 : decode cX3_best 1 = .ok (.ifCond .lt 9, 3) := by decide +kernel
theorem dX3_best_4 : decode cX3_best 4 = .ok (.iload_n 1, 1) := by decide +kernel
theorem dX3_best_5 : decode cX3_best 5 = .ok (.bipush 20, 2) := by decide +kernel
theorem dX3_best_7 : decode cX3_best 7 = .ok (.if_icmp .le 9, 3) := by decide +kernel
theorem dX3_best_10 : decode cX3_best 10 = .ok (.aload_n 0, 1) := by decide +kernel
theorem dX3_best_11 : decode cX3_best 11 = .ok (.iconst 0, 1) := by decide +kernel
theorem dX3_best_12 : decode cX3_best 12 = .ok (.invokevirtual 51, 3) := by decide +kernel
theorem dX3_best_15 : decode cX3_best 15 = .ok (.ireturn, 1) := by decide +kernel
theorem dX3_best_16 : decode cX3_best 16 = .ok (.aload_n 0, 1) := by decide +kernel
theorem dX3_best_17 : decode cX3_best 17 = .ok (.getfield 16, 3) := by decide +kernel
theorem dX3_best_20 : decode cX3_best 20 = .ok (.aload_n 0, 1) := by decide +kernel
theorem dX3_best_21 : decode cX3_best 21 = .ok (.getfield 10, 3) := by decide +kernel
theorem dX3_best_24 : decode cX3_best 24 = .ok (.invokevirtual 154, 3) := by decide +kernel
theorem dX3_best_27 : decode cX3_best 27 = .ok (.aload_n 0, 1) := by decide +kernel
theorem dX3_best_28 : decode cX3_best 28 = .ok (.getfield 16, 3) := by decide +kernel
theorem dX3_best_31 : decode cX3_best 31 = .ok (.iload_n 1, 1) := by decide +kernel
theorem dX3_best_32 : decode cX3_best 32 = .ok (.invokevirtual 158, 3) := by decide +kernel
theorem dX3_best_35 : decode cX3_best 35 = .ok (.aload_n 0, 1) := by decide +kernel
theorem dX3_best_36 : decode cX3_best 36 = .ok (.getfield 16, 3) := by decide +kernel
theorem dX3_best_39 : decode cX3_best 39 = .ok (.getfield 125, 3) := by decide +kernel
theorem dX3_best_42 : decode cX3_best 42 = .ok (.invokestatic 128, 3) := by decide +kernel
theorem dX3_best_45 : decode cX3_best 45 = .ok (.istore_n 2, 1) := by decide +kernel
theorem dX3_best_46 : decode cX3_best 46 = .ok (.aload_n 0, 1) := by decide +kernel
theorem dX3_best_47 : decode cX3_best 47 = .ok (.getfield 16, 3) := by decide +kernel
theorem dX3_best_50 : decode cX3_best 50 = .ok (.getfield 165, 3) := by decide +kernel
theorem dX3_best_53 : decode cX3_best 53 = .ok (.lstore_n 3, 1) := by decide +kernel
theorem dX3_best_54 : decode cX3_best 54 = .ok (.iconst (-1), 1) := by decide +kernel
theorem dX3_best_55 : decode cX3_best 55 = .ok (.istore 5, 2) := by decide +kernel
theorem dX3_best_57 : decode cX3_best 57 = .ok (.iconst (-1), 1) := by decide +kernel
theorem dX3_best_58 : decode cX3_best 58 = .ok (.istore 6, 2) := by decide +kernel
theorem dX3_best_60 : decode cX3_best 60 = .ok (.iconst 0, 1) := by decide +kernel
theorem dX3_best_61 : decode cX3_best 61 = .ok (.istore 7, 2) := by decide +kernel
theorem dX3_best_63 : decode cX3_best 63 = .ok (.iload 7, 2) := by decide +kernel
theorem dX3_best_65 : decode cX3_best 65 = .ok (.bipush 64, 2) := by decide +kernel
theorem dX3_best_67 : decode cX3_best 67 = .ok (.if_icmp .ge 92, 3) := by decide +kernel
theorem dX3_best_70 : decode cX3_best 70 = .ok (.aload_n 0, 1) := by decide +kernel
theorem dX3_best_71 : decode cX3_best 71 = .ok (.getfield 10, 3) := by decide +kernel
theorem dX3_best_74 : decode cX3_best 74 = .ok (.iload 7, 2) := by decide +kernel
theorem dX3_best_76 : decode cX3_best 76 = .ok (.invokevirtual 55, 3) := by decide +kernel
theorem dX3_best_79 : decode cX3_best 79 = .ok (.ifCond .eq 6, 3) := by decide +kernel
theorem dX3_best_82 : decode cX3_best 82 = .ok (.goto 71, 3) := by decide +kernel
theorem dX3_best_85 : decode cX3_best 85 = .ok (.iload_n 2, 1) := by decide +kernel
theorem dX3_best_86 : decode cX3_best 86 = .ok (.istore 8, 2) := by decide +kernel
theorem dX3_best_88 : decode cX3_best 88 = .ok (.lload_n 3, 1) := by decide +kernel
theorem dX3_best_89 : decode cX3_best 89 = .ok (.iload 7, 2) := by decide +kernel
theorem dX3_best_91 : decode cX3_best 91 = .ok (.invokestatic 168, 3) := by decide +kernel
theorem dX3_best_94 : decode cX3_best 94 = .ok (.ifCond .eq 44, 3) := by decide +kernel
theorem dX3_best_97 : decode cX3_best 97 = .ok (.aload_n 0, 1) := by decide +kernel
theorem dX3_best_98 : decode cX3_best 98 = .ok (.getfield 16, 3) := by decide +kernel
theorem dX3_best_101 : decode cX3_best 101 = .ok (.aload_n 0, 1) := by decide +kernel
theorem dX3_best_102 : decode cX3_best 102 = .ok (.getfield 10, 3) := by decide +kernel
theorem dX3_best_105 : decode cX3_best 105 = .ok (.invokevirtual 154, 3) := by decide +kernel
theorem dX3_best_108 : decode cX3_best 108 = .ok (.aload_n 0, 1) := by decide +kernel
theorem dX3_best_109 : decode cX3_best 109 = .ok (.getfield 16, 3) := by decide +kernel
theorem dX3_best_112 : decode cX3_best 112 = .ok (.iload 7, 2) := by decide +kernel
theorem dX3_best_114 : decode cX3_best 114 = .ok (.iconst 1, 1) := by decide +kernel
theorem dX3_best_115 : decode cX3_best 115 = .ok (.invokevirtual 58, 3) := by decide +kernel
theorem dX3_best_118 : decode cX3_best 118 = .ok (.aload_n 0, 1) := by decide +kernel
theorem dX3_best_119 : decode cX3_best 119 = .ok (.getfield 16, 3) := by decide +kernel
theorem dX3_best_122 : decode cX3_best 122 = .ok (.iload_n 1, 1) := by decide +kernel
theorem dX3_best_123 : decode cX3_best 123 = .ok (.invokevirtual 158, 3) := by decide +kernel
theorem dX3_best_126 : decode cX3_best 126 = .ok (.aload_n 0, 1) := by decide +kernel
theorem dX3_best_127 : decode cX3_best 127 = .ok (.getfield 16, 3) := by decide +kernel
theorem dX3_best_130 : decode cX3_best 130 = .ok (.getfield 125, 3) := by decide +kernel
theorem dX3_best_133 : decode cX3_best 133 = .ok (.invokestatic 128, 3) := by decide +kernel
theorem dX3_best_136 : decode cX3_best 136 = .ok (.istore 8, 2) := by decide +kernel
theorem dX3_best_138 : decode cX3_best 138 = .ok (.iload 8, 2) := by decide +kernel
theorem dX3_best_140 : decode cX3_best 140 = .ok (.iload 6, 2) := by decide +kernel
theorem dX3_best_142 : decode cX3_best 142 = .ok (.if_icmp .le 11, 3) := by decide +kernel
theorem dX3_best_145 : decode cX3_best 145 = .ok (.iload 8, 2) := by decide +kernel
theorem dX3_best_147 : decode cX3_best 147 = .ok (.istore 6, 2) := by decide +kernel
theorem dX3_best_149 : decode cX3_best 149 = .ok (.iload 7, 2) := by decide +kernel
theorem dX3_best_151 : decode cX3_best 151 = .ok (.istore 5, 2) := by decide +kernel
theorem dX3_best_153 : decode cX3_best 153 = .ok (.iinc 7 1, 3) := by decide +kernel
theorem dX3_best_156 : decode cX3_best 156 = .ok (.goto (-93), 3) := by decide +kernel
theorem dX3_best_159 : decode cX3_best 159 = .ok (.iload 5, 2) := by decide +kernel
theorem dX3_best_161 : decode cX3_best 161 = .ok (.ifCond .ge 11, 3) := by decide +kernel
theorem dX3_best_164 : decode cX3_best 164 = .ok (.aload_n 0, 1) := by decide +kernel
theorem dX3_best_165 : decode cX3_best 165 = .ok (.iconst 3, 1) := by decide +kernel
theorem dX3_best_166 : decode cX3_best 166 = .ok (.invokevirtual 51, 3) := by decide +kernel
theorem dX3_best_169 : decode cX3_best 169 = .ok (.goto 5, 3) := by decide +kernel
theorem dX3_best_172 : decode cX3_best 172 = .ok (.iload 5, 2) := by decide +kernel
theorem dX3_best_174 : decode cX3_best 174 = .ok (.ireturn, 1) := by decide +kernel
theorem dX3_drive_0 : decode cX3_drive 0 = .ok (.iload_n 1, 1) := by decide +kernel
theorem dX3_drive_1 : decode cX3_drive 1 = .ok (.invokestatic 71, 3) := by decide +kernel
theorem dX3_drive_4 : decode cX3_drive 4 = .ok (.ifCond .eq 11, 3) := by decide +kernel
theorem dX3_drive_7 : decode cX3_drive 7 = .ok (.aload_n 0, 1) := by decide +kernel
theorem dX3_drive_8 : decode cX3_drive 8 = .ok (.iload_n 2, 1) := by decide +kernel
theorem dX3_drive_9 : decode cX3_drive 9 = .ok (.invokevirtual 91, 3) := by decide +kernel
theorem dX3_drive_12 : decode cX3_drive 12 = .ok (.ifCond .ne 9, 3) := by decide +kernel
theorem dX3_drive_15 : decode cX3_drive 15 = .ok (.aload_n 0, 1) := by decide +kernel
theorem dX3_drive_16 : decode cX3_drive 16 = .ok (.iconst 0, 1) := by decide +kernel
theorem dX3_drive_17 : decode cX3_drive 17 = .ok (.invokevirtual 51, 3) := by decide +kernel
theorem dX3_drive_20 : decode cX3_drive 20 = .ok (.ireturn, 1) := by decide +kernel
theorem dX3_drive_21 : decode cX3_drive 21 = .ok (.iconst (-1), 1) := by decide +kernel
theorem dX3_drive_22 : decode cX3_drive 22 = .ok (.istore_n 3, 1) := by decide +kernel
theorem dX3_drive_23 : decode cX3_drive 23 = .ok (.bipush 21, 2) := by decide +kernel
theorem dX3_drive_25 : decode cX3_drive 25 = .ok (.istore 4, 2) := by decide +kernel
theorem dX3_drive_27 : decode cX3_drive 27 = .ok (.iconst 0, 1) := by decide +kernel
theorem dX3_drive_28 : decode cX3_drive 28 = .ok (.istore 5, 2) := by decide +kernel
theorem dX3_drive_30 : decode cX3_drive 30 = .ok (.iload 5, 2) := by decide +kernel
theorem dX3_drive_32 : decode cX3_drive 32 = .ok (.bipush 64, 2) := by decide +kernel
theorem dX3_drive_34 : decode cX3_drive 34 = .ok (.if_icmp .ge 57, 3) := by decide +kernel
theorem dX3_drive_37 : decode cX3_drive 37 = .ok (.aload_n 0, 1) := by decide +kernel
theorem dX3_drive_38 : decode cX3_drive 38 = .ok (.getfield 16, 3) := by decide +kernel
theorem dX3_drive_41 : decode cX3_drive 41 = .ok (.aload_n 0, 1) := by decide +kernel
theorem dX3_drive_42 : decode cX3_drive 42 = .ok (.getfield 10, 3) := by decide +kernel
theorem dX3_drive_45 : decode cX3_drive 45 = .ok (.invokevirtual 154, 3) := by decide +kernel
theorem dX3_drive_48 : decode cX3_drive 48 = .ok (.aload_n 0, 1) := by decide +kernel
theorem dX3_drive_49 : decode cX3_drive 49 = .ok (.getfield 16, 3) := by decide +kernel
theorem dX3_drive_52 : decode cX3_drive 52 = .ok (.getfield 74, 3) := by decide +kernel
theorem dX3_drive_55 : decode cX3_drive 55 = .ok (.iload_n 1, 1) := by decide +kernel
theorem dX3_drive_56 : decode cX3_drive 56 = .ok (.iload 5, 2) := by decide +kernel
theorem dX3_drive_58 : decode cX3_drive 58 = .ok (.iastore, 1) := by decide +kernel
theorem dX3_drive_59 : decode cX3_drive 59 = .ok (.aload_n 0, 1) := by decide +kernel
theorem dX3_drive_60 : decode cX3_drive 60 = .ok (.getfield 16, 3) := by decide +kernel
theorem dX3_drive_63 : decode cX3_drive 63 = .ok (.iload_n 2, 1) := by decide +kernel
theorem dX3_drive_64 : decode cX3_drive 64 = .ok (.iload 4, 2) := by decide +kernel
theorem dX3_drive_66 : decode cX3_drive 66 = .ok (.iconst 1, 1) := by decide +kernel
theorem dX3_drive_67 : decode cX3_drive 67 = .ok (.isub, 1) := by decide +kernel
theorem dX3_drive_68 : decode cX3_drive 68 = .ok (.invokevirtual 162, 3) := by decide +kernel
theorem dX3_drive_71 : decode cX3_drive 71 = .ok (.istore 6, 2) := by decide +kernel
theorem dX3_drive_73 : decode cX3_drive 73 = .ok (.iload 6, 2) := by decide +kernel
theorem dX3_drive_75 : decode cX3_drive 75 = .ok (.ifCond .lt 10, 3) := by decide +kernel
theorem dX3_drive_78 : decode cX3_drive 78 = .ok (.iload 6, 2) := by decide +kernel
theorem dX3_drive_80 : decode cX3_drive 80 = .ok (.istore 4, 2) := by decide +kernel
theorem dX3_drive_82 : decode cX3_drive 82 = .ok (.iload 5, 2) := by decide +kernel
theorem dX3_drive_84 : decode cX3_drive 84 = .ok (.istore_n 3, 1) := by decide +kernel
theorem dX3_drive_85 : decode cX3_drive 85 = .ok (.iinc 5 1, 3) := by decide +kernel
theorem dX3_drive_88 : decode cX3_drive 88 = .ok (.goto (-58), 3) := by decide +kernel
theorem dX3_drive_91 : decode cX3_drive 91 = .ok (.iload_n 3, 1) := by decide +kernel
theorem dX3_drive_92 : decode cX3_drive 92 = .ok (.ifCond .ge 11, 3) := by decide +kernel
theorem dX3_drive_95 : decode cX3_drive 95 = .ok (.aload_n 0, 1) := by decide +kernel
theorem dX3_drive_96 : decode cX3_drive 96 = .ok (.iconst 3, 1) := by decide +kernel
theorem dX3_drive_97 : decode cX3_drive 97 = .ok (.invokevirtual 51, 3) := by decide +kernel
theorem dX3_drive_100 : decode cX3_drive 100 = .ok (.goto 4, 3) := by decide +kernel
theorem dX3_drive_103 : decode cX3_drive 103 = .ok (.iload_n 3, 1) := by decide +kernel
theorem dX3_drive_104 : decode cX3_drive 104 = .ok (.ireturn, 1) := by decide +kernel
theorem dX3_kindFor_0 : decode cX3_kindFor 0 = .ok (.aload_n 0, 1) := by decide +kernel
theorem dX3_kindFor_1 : decode cX3_kindFor 1 = .ok (.iload_n 1, 1) := by decide +kernel
theorem dX3_kindFor_2 : decode cX3_kindFor 2 = .ok (.invokevirtual 91, 3) := by decide +kernel
theorem dX3_kindFor_5 : decode cX3_kindFor 5 = .ok (.ifCond .ne 9, 3) := by decide +kernel
theorem dX3_kindFor_8 : decode cX3_kindFor 8 = .ok (.aload_n 0, 1) := by decide +kernel
theorem dX3_kindFor_9 : decode cX3_kindFor 9 = .ok (.iconst 0, 1) := by decide +kernel
theorem dX3_kindFor_10 : decode cX3_kindFor 10 = .ok (.invokevirtual 51, 3) := by decide +kernel
theorem dX3_kindFor_13 : decode cX3_kindFor 13 = .ok (.ireturn, 1) := by decide +kernel
theorem dX3_kindFor_14 : decode cX3_kindFor 14 = .ok (.iconst 0, 1) := by decide +kernel
theorem dX3_kindFor_15 : decode cX3_kindFor 15 = .ok (.istore_n 2, 1) := by decide +kernel
theorem dX3_kindFor_16 : decode cX3_kindFor 16 = .ok (.iconst (-1), 1) := by decide +kernel
theorem dX3_kindFor_17 : decode cX3_kindFor 17 = .ok (.istore_n 3, 1) := by decide +kernel
theorem dX3_kindFor_18 : decode cX3_kindFor 18 = .ok (.iconst 0, 1) := by decide +kernel
theorem dX3_kindFor_19 : decode cX3_kindFor 19 = .ok (.istore 4, 2) := by decide +kernel
theorem dX3_kindFor_21 : decode cX3_kindFor 21 = .ok (.iload 4, 2) := by decide +kernel
theorem dX3_kindFor_23 : decode cX3_kindFor 23 = .ok (.bipush 7, 2) := by decide +kernel
theorem dX3_kindFor_25 : decode cX3_kindFor 25 = .ok (.if_icmp .ge 69, 3) := by decide +kernel
theorem dX3_kindFor_28 : decode cX3_kindFor 28 = .ok (.aload_n 0, 1) := by decide +kernel
theorem dX3_kindFor_29 : decode cX3_kindFor 29 = .ok (.getfield 16, 3) := by decide +kernel
theorem dX3_kindFor_32 : decode cX3_kindFor 32 = .ok (.aload_n 0, 1) := by decide +kernel
theorem dX3_kindFor_33 : decode cX3_kindFor 33 = .ok (.getfield 10, 3) := by decide +kernel
theorem dX3_kindFor_36 : decode cX3_kindFor 36 = .ok (.invokevirtual 154, 3) := by decide +kernel
theorem dX3_kindFor_39 : decode cX3_kindFor 39 = .ok (.aload_n 0, 1) := by decide +kernel
theorem dX3_kindFor_40 : decode cX3_kindFor 40 = .ok (.getfield 16, 3) := by decide +kernel
theorem dX3_kindFor_43 : decode cX3_kindFor 43 = .ok (.getfield 172, 3) := by decide +kernel
theorem dX3_kindFor_46 : decode cX3_kindFor 46 = .ok (.iload_n 1, 1) := by decide +kernel
theorem dX3_kindFor_47 : decode cX3_kindFor 47 = .ok (.iload 4, 2) := by decide +kernel
theorem dX3_kindFor_49 : decode cX3_kindFor 49 = .ok (.iastore, 1) := by decide +kernel
theorem dX3_kindFor_50 : decode cX3_kindFor 50 = .ok (.aload_n 0, 1) := by decide +kernel
theorem dX3_kindFor_51 : decode cX3_kindFor 51 = .ok (.getfield 16, 3) := by decide +kernel
theorem dX3_kindFor_54 : decode cX3_kindFor 54 = .ok (.iload_n 1, 1) := by decide +kernel
theorem dX3_kindFor_55 : decode cX3_kindFor 55 = .ok (.bipush 60, 2) := by decide +kernel
theorem dX3_kindFor_57 : decode cX3_kindFor 57 = .ok (.invokevirtual 162, 3) := by decide +kernel
theorem dX3_kindFor_60 : decode cX3_kindFor 60 = .ok (.istore 5, 2) := by decide +kernel
theorem dX3_kindFor_62 : decode cX3_kindFor 62 = .ok (.iload 5, 2) := by decide +kernel
theorem dX3_kindFor_64 : decode cX3_kindFor 64 = .ok (.ifCond .ge 8, 3) := by decide +kernel
theorem dX3_kindFor_67 : decode cX3_kindFor 67 = .ok (.bipush 60, 2) := by decide +kernel
theorem dX3_kindFor_69 : decode cX3_kindFor 69 = .ok (.goto 5, 3) := by decide +kernel
theorem dX3_kindFor_72 : decode cX3_kindFor 72 = .ok (.iload 5, 2) := by decide +kernel
theorem dX3_kindFor_74 : decode cX3_kindFor 74 = .ok (.istore 6, 2) := by decide +kernel
theorem dX3_kindFor_76 : decode cX3_kindFor 76 = .ok (.iload 6, 2) := by decide +kernel
theorem dX3_kindFor_78 : decode cX3_kindFor 78 = .ok (.iload_n 3, 1) := by decide +kernel
theorem dX3_kindFor_79 : decode cX3_kindFor 79 = .ok (.if_icmp .le 9, 3) := by decide +kernel
theorem dX3_kindFor_82 : decode cX3_kindFor 82 = .ok (.iload 6, 2) := by decide +kernel
theorem dX3_kindFor_84 : decode cX3_kindFor 84 = .ok (.istore_n 3, 1) := by decide +kernel
theorem dX3_kindFor_85 : decode cX3_kindFor 85 = .ok (.iload 4, 2) := by decide +kernel
theorem dX3_kindFor_87 : decode cX3_kindFor 87 = .ok (.istore_n 2, 1) := by decide +kernel
theorem dX3_kindFor_88 : decode cX3_kindFor 88 = .ok (.iinc 4 1, 3) := by decide +kernel
theorem dX3_kindFor_91 : decode cX3_kindFor 91 = .ok (.goto (-70), 3) := by decide +kernel
theorem dX3_kindFor_94 : decode cX3_kindFor 94 = .ok (.iload_n 2, 1) := by decide +kernel
theorem dX3_kindFor_95 : decode cX3_kindFor 95 = .ok (.ireturn, 1) := by decide +kernel
theorem dX3_stands_0 : decode cX3_stands 0 = .ok (.aload_n 0, 1) := by decide +kernel
theorem dX3_stands_1 : decode cX3_stands 1 = .ok (.iload_n 1, 1) := by decide +kernel
theorem dX3_stands_2 : decode cX3_stands 2 = .ok (.iload_n 2, 1) := by decide +kernel
theorem dX3_stands_3 : decode cX3_stands 3 = .ok (.invokevirtual 175, 3) := by decide +kernel
theorem dX3_stands_6 : decode cX3_stands 6 = .ok (.istore_n 3, 1) := by decide +kernel
theorem dX3_stands_7 : decode cX3_stands 7 = .ok (.iload_n 3, 1) := by decide +kernel
theorem dX3_stands_8 : decode cX3_stands 8 = .ok (.iconst (-1), 1) := by decide +kernel
theorem dX3_stands_9 : decode cX3_stands 9 = .ok (.if_icmp .eq 9, 3) := by decide +kernel
theorem dX3_stands_12 : decode cX3_stands 12 = .ok (.aload_n 0, 1) := by decide +kernel
theorem dX3_stands_13 : decode cX3_stands 13 = .ok (.iload_n 3, 1) := by decide +kernel
theorem dX3_stands_14 : decode cX3_stands 14 = .ok (.invokevirtual 51, 3) := by decide +kernel
theorem dX3_stands_17 : decode cX3_stands 17 = .ok (.ireturn, 1) := by decide +kernel
theorem dX3_stands_18 : decode cX3_stands 18 = .ok (.aload_n 0, 1) := by decide +kernel
theorem dX3_stands_19 : decode cX3_stands 19 = .ok (.getfield 35, 3) := by decide +kernel
theorem dX3_stands_22 : decode cX3_stands 22 = .ok (.iload_n 1, 1) := by decide +kernel
theorem dX3_stands_23 : decode cX3_stands 23 = .ok (.aaload, 1) := by decide +kernel
theorem dX3_stands_24 : decode cX3_stands 24 = .ok (.iload_n 2, 1) := by decide +kernel
theorem dX3_stands_25 : decode cX3_stands 25 = .ok (.invokestatic 178, 3) := by decide +kernel
theorem dX3_stands_28 : decode cX3_stands 28 = .ok (.invokestatic 137, 3) := by decide +kernel
theorem dX3_stands_31 : decode cX3_stands 31 = .ok (.ireturn, 1) := by decide +kernel
theorem dX3_where_0 : decode cX3_where 0 = .ok (.aload_n 0, 1) := by decide +kernel
theorem dX3_where_1 : decode cX3_where 1 = .ok (.iload_n 1, 1) := by decide +kernel
theorem dX3_where_2 : decode cX3_where 2 = .ok (.iload_n 2, 1) := by decide +kernel
theorem dX3_where_3 : decode cX3_where 3 = .ok (.invokevirtual 175, 3) := by decide +kernel
theorem dX3_where_6 : decode cX3_where 6 = .ok (.istore_n 3, 1) := by decide +kernel
theorem dX3_where_7 : decode cX3_where 7 = .ok (.iload_n 3, 1) := by decide +kernel
theorem dX3_where_8 : decode cX3_where 8 = .ok (.iconst (-1), 1) := by decide +kernel
theorem dX3_where_9 : decode cX3_where 9 = .ok (.if_icmp .eq 9, 3) := by decide +kernel
theorem dX3_where_12 : decode cX3_where 12 = .ok (.aload_n 0, 1) := by decide +kernel
theorem dX3_where_13 : decode cX3_where 13 = .ok (.iload_n 3, 1) := by decide +kernel
theorem dX3_where_14 : decode cX3_where 14 = .ok (.invokevirtual 51, 3) := by decide +kernel
theorem dX3_where_17 : decode cX3_where 17 = .ok (.ireturn, 1) := by decide +kernel
theorem dX3_where_18 : decode cX3_where 18 = .ok (.aload_n 0, 1) := by decide +kernel
theorem dX3_where_19 : decode cX3_where 19 = .ok (.getfield 35, 3) := by decide +kernel
theorem dX3_where_22 : decode cX3_where 22 = .ok (.iload_n 1, 1) := by decide +kernel
theorem dX3_where_23 : decode cX3_where 23 = .ok (.aaload, 1) := by decide +kernel
theorem dX3_where_24 : decode cX3_where 24 = .ok (.iload_n 2, 1) := by decide +kernel
theorem dX3_where_25 : decode cX3_where 25 = .ok (.invokestatic 178, 3) := by decide +kernel
theorem dX3_where_28 : decode cX3_where 28 = .ok (.lstore 4, 2) := by decide +kernel
theorem dX3_where_30 : decode cX3_where 30 = .ok (.iconst 0, 1) := by decide +kernel
theorem dX3_where_31 : decode cX3_where 31 = .ok (.istore 6, 2) := by decide +kernel
theorem dX3_where_33 : decode cX3_where 33 = .ok (.iload 6, 2) := by decide +kernel
theorem dX3_where_35 : decode cX3_where 35 = .ok (.bipush 64, 2) := by decide +kernel
theorem dX3_where_37 : decode cX3_where 37 = .ok (.if_icmp .ge 22, 3) := by decide +kernel
theorem dX3_where_40 : decode cX3_where 40 = .ok (.lload 4, 2) := by decide +kernel
theorem dX3_where_42 : decode cX3_where 42 = .ok (.iload 6, 2) := by decide +kernel
theorem dX3_where_44 : decode cX3_where 44 = .ok (.invokestatic 168, 3) := by decide +kernel
theorem dX3_where_47 : decode cX3_where 47 = .ok (.ifCond .eq 6, 3) := by decide +kernel
theorem dX3_where_50 : decode cX3_where 50 = .ok (.iload 6, 2) := by decide +kernel
theorem dX3_where_52 : decode cX3_where 52 = .ok (.ireturn, 1) := by decide +kernel
theorem dX3_where_53 : decode cX3_where 53 = .ok (.iinc 6 1, 3) := by decide +kernel
theorem dX3_where_56 : decode cX3_where 56 = .ok (.goto (-23), 3) := by decide +kernel
theorem dX3_where_59 : decode cX3_where 59 = .ok (.aload_n 0, 1) := by decide +kernel
theorem dX3_where_60 : decode cX3_where 60 = .ok (.iconst 3, 1) := by decide +kernel
theorem dX3_where_61 : decode cX3_where 61 = .ok (.invokevirtual 51, 3) := by decide +kernel
theorem dX3_where_64 : decode cX3_where 64 = .ok (.ireturn, 1) := by decide +kernel
theorem dX3_ear_0 : decode cX3_ear 0 = .ok (.aload_n 0, 1) := by decide +kernel
theorem dX3_ear_1 : decode cX3_ear 1 = .ok (.iload_n 1, 1) := by decide +kernel
theorem dX3_ear_2 : decode cX3_ear 2 = .ok (.iload_n 2, 1) := by decide +kernel
theorem dX3_ear_3 : decode cX3_ear 3 = .ok (.invokevirtual 175, 3) := by decide +kernel
theorem dX3_ear_6 : decode cX3_ear 6 = .ok (.istore_n 3, 1) := by decide +kernel
theorem dX3_ear_7 : decode cX3_ear 7 = .ok (.iload_n 3, 1) := by decide +kernel
theorem dX3_ear_8 : decode cX3_ear 8 = .ok (.iconst (-1), 1) := by decide +kernel
theorem dX3_ear_9 : decode cX3_ear 9 = .ok (.if_icmp .eq 9, 3) := by decide +kernel
theorem dX3_ear_12 : decode cX3_ear 12 = .ok (.aload_n 0, 1) := by decide +kernel
theorem dX3_ear_13 : decode cX3_ear 13 = .ok (.iload_n 3, 1) := by decide +kernel
theorem dX3_ear_14 : decode cX3_ear 14 = .ok (.invokevirtual 51, 3) := by decide +kernel
theorem dX3_ear_17 : decode cX3_ear 17 = .ok (.ireturn, 1) := by decide +kernel
theorem dX3_ear_18 : decode cX3_ear 18 = .ok (.aload_n 0, 1) := by decide +kernel
theorem dX3_ear_19 : decode cX3_ear 19 = .ok (.getfield 35, 3) := by decide +kernel
theorem dX3_ear_22 : decode cX3_ear 22 = .ok (.iload_n 1, 1) := by decide +kernel
theorem dX3_ear_23 : decode cX3_ear 23 = .ok (.aaload, 1) := by decide +kernel
theorem dX3_ear_24 : decode cX3_ear 24 = .ok (.iload_n 2, 1) := by decide +kernel
theorem dX3_ear_25 : decode cX3_ear 25 = .ok (.invokestatic 178, 3) := by decide +kernel
theorem dX3_ear_28 : decode cX3_ear 28 = .ok (.lstore 4, 2) := by decide +kernel
theorem dX3_ear_30 : decode cX3_ear 30 = .ok (.lload 4, 2) := by decide +kernel
theorem dX3_ear_32 : decode cX3_ear 32 = .ok (.lconst 0, 1) := by decide +kernel
theorem dX3_ear_33 : decode cX3_ear 33 = .ok (.lcmp, 1) := by decide +kernel
theorem dX3_ear_34 : decode cX3_ear 34 = .ok (.ifCond .ne 9, 3) := by decide +kernel
theorem dX3_ear_37 : decode cX3_ear 37 = .ok (.aload_n 0, 1) := by decide +kernel
theorem dX3_ear_38 : decode cX3_ear 38 = .ok (.iconst 3, 1) := by decide +kernel
theorem dX3_ear_39 : decode cX3_ear 39 = .ok (.invokevirtual 51, 3) := by decide +kernel
theorem dX3_ear_42 : decode cX3_ear 42 = .ok (.ireturn, 1) := by decide +kernel
theorem dX3_ear_43 : decode cX3_ear 43 = .ok (.iconst 0, 1) := by decide +kernel
theorem dX3_ear_44 : decode cX3_ear 44 = .ok (.istore 6, 2) := by decide +kernel
theorem dX3_ear_46 : decode cX3_ear 46 = .ok (.bipush 65, 2) := by decide +kernel
theorem dX3_ear_48 : decode cX3_ear 48 = .ok (.istore 7, 2) := by decide +kernel
theorem dX3_ear_50 : decode cX3_ear 50 = .ok (.iconst 0, 1) := by decide +kernel
theorem dX3_ear_51 : decode cX3_ear 51 = .ok (.istore 8, 2) := by decide +kernel
theorem dX3_ear_53 : decode cX3_ear 53 = .ok (.iload 8, 2) := by decide +kernel
theorem dX3_ear_55 : decode cX3_ear 55 = .ok (.bipush 64, 2) := by decide +kernel
theorem dX3_ear_57 : decode cX3_ear 57 = .ok (.if_icmp .ge 35, 3) := by decide +kernel
theorem dX3_ear_60 : decode cX3_ear 60 = .ok (.aload_n 0, 1) := by decide +kernel
theorem dX3_ear_61 : decode cX3_ear 61 = .ok (.lload 4, 2) := by decide +kernel
theorem dX3_ear_63 : decode cX3_ear 63 = .ok (.iload 8, 2) := by decide +kernel
theorem dX3_ear_65 : decode cX3_ear 65 = .ok (.iload_n 2, 1) := by decide +kernel
theorem dX3_ear_66 : decode cX3_ear 66 = .ok (.invokevirtual 182, 3) := by decide +kernel
theorem dX3_ear_69 : decode cX3_ear 69 = .ok (.istore 9, 2) := by decide +kernel
theorem dX3_ear_71 : decode cX3_ear 71 = .ok (.iload 9, 2) := by decide +kernel
theorem dX3_ear_73 : decode cX3_ear 73 = .ok (.iload 7, 2) := by decide +kernel
theorem dX3_ear_75 : decode cX3_ear 75 = .ok (.if_icmp .ge 11, 3) := by decide +kernel
theorem dX3_ear_78 : decode cX3_ear 78 = .ok (.iload 9, 2) := by decide +kernel
theorem dX3_ear_80 : decode cX3_ear 80 = .ok (.istore 7, 2) := by decide +kernel
theorem dX3_ear_82 : decode cX3_ear 82 = .ok (.iload 8, 2) := by decide +kernel
theorem dX3_ear_84 : decode cX3_ear 84 = .ok (.istore 6, 2) := by decide +kernel
theorem dX3_ear_86 : decode cX3_ear 86 = .ok (.iinc 8 1, 3) := by decide +kernel
theorem dX3_ear_89 : decode cX3_ear 89 = .ok (.goto (-36), 3) := by decide +kernel
theorem dX3_ear_92 : decode cX3_ear 92 = .ok (.iload 6, 2) := by decide +kernel
theorem dX3_ear_94 : decode cX3_ear 94 = .ok (.ireturn, 1) := by decide +kernel
theorem dX3_whose_0 : decode cX3_whose 0 = .ok (.aload_n 0, 1) := by decide +kernel
theorem dX3_whose_1 : decode cX3_whose 1 = .ok (.iload_n 1, 1) := by decide +kernel
theorem dX3_whose_2 : decode cX3_whose 2 = .ok (.bipush 99, 2) := by decide +kernel
theorem dX3_whose_4 : decode cX3_whose 4 = .ok (.invokevirtual 175, 3) := by decide +kernel
theorem dX3_whose_7 : decode cX3_whose 7 = .ok (.istore_n 2, 1) := by decide +kernel
theorem dX3_whose_8 : decode cX3_whose 8 = .ok (.iload_n 2, 1) := by decide +kernel
theorem dX3_whose_9 : decode cX3_whose 9 = .ok (.iconst (-1), 1) := by decide +kernel
theorem dX3_whose_10 : decode cX3_whose 10 = .ok (.if_icmp .eq 9, 3) := by decide +kernel
theorem dX3_whose_13 : decode cX3_whose 13 = .ok (.aload_n 0, 1) := by decide +kernel
theorem dX3_whose_14 : decode cX3_whose 14 = .ok (.iload_n 2, 1) := by decide +kernel
theorem dX3_whose_15 : decode cX3_whose 15 = .ok (.invokevirtual 51, 3) := by decide +kernel
theorem dX3_whose_18 : decode cX3_whose 18 = .ok (.ireturn, 1) := by decide +kernel
theorem dX3_whose_19 : decode cX3_whose 19 = .ok (.iconst 0, 1) := by decide +kernel
theorem dX3_whose_20 : decode cX3_whose 20 = .ok (.istore_n 3, 1) := by decide +kernel
theorem dX3_whose_21 : decode cX3_whose 21 = .ok (.iconst 0, 1) := by decide +kernel
theorem dX3_whose_22 : decode cX3_whose 22 = .ok (.istore 4, 2) := by decide +kernel
theorem dX3_whose_24 : decode cX3_whose 24 = .ok (.iload 4, 2) := by decide +kernel
theorem dX3_whose_26 : decode cX3_whose 26 = .ok (.aload_n 0, 1) := by decide +kernel
theorem dX3_whose_27 : decode cX3_whose 27 = .ok (.getfield 10, 3) := by decide +kernel
theorem dX3_whose_30 : decode cX3_whose 30 = .ok (.getfield 84, 3) := by decide +kernel
theorem dX3_whose_33 : decode cX3_whose 33 = .ok (.if_icmp .ge 60, 3) := by decide +kernel
theorem dX3_whose_36 : decode cX3_whose 36 = .ok (.aload_n 0, 1) := by decide +kernel
theorem dX3_whose_37 : decode cX3_whose 37 = .ok (.getfield 10, 3) := by decide +kernel
theorem dX3_whose_40 : decode cX3_whose 40 = .ok (.iload 4, 2) := by decide +kernel
theorem dX3_whose_42 : decode cX3_whose 42 = .ok (.invokevirtual 186, 3) := by decide +kernel
theorem dX3_whose_45 : decode cX3_whose 45 = .ok (.ifCond .eq 42, 3) := by decide +kernel
theorem dX3_whose_48 : decode cX3_whose 48 = .ok (.aload_n 0, 1) := by decide +kernel
theorem dX3_whose_49 : decode cX3_whose 49 = .ok (.getfield 35, 3) := by decide +kernel
theorem dX3_whose_52 : decode cX3_whose 52 = .ok (.iload_n 1, 1) := by decide +kernel
theorem dX3_whose_53 : decode cX3_whose 53 = .ok (.aaload, 1) := by decide +kernel
theorem dX3_whose_54 : decode cX3_whose 54 = .ok (.aload_n 0, 1) := by decide +kernel
theorem dX3_whose_55 : decode cX3_whose 55 = .ok (.getfield 10, 3) := by decide +kernel
theorem dX3_whose_58 : decode cX3_whose 58 = .ok (.getfield 145, 3) := by decide +kernel
theorem dX3_whose_61 : decode cX3_whose 61 = .ok (.iload 4, 2) := by decide +kernel
theorem dX3_whose_63 : decode cX3_whose 63 = .ok (.iaload, 1) := by decide +kernel
theorem dX3_whose_64 : decode cX3_whose 64 = .ok (.aload_n 0, 1) := by decide +kernel
theorem dX3_whose_65 : decode cX3_whose 65 = .ok (.getfield 10, 3) := by decide +kernel
theorem dX3_whose_68 : decode cX3_whose 68 = .ok (.getfield 97, 3) := by decide +kernel
theorem dX3_whose_71 : decode cX3_whose 71 = .ok (.iload 4, 2) := by decide +kernel
theorem dX3_whose_73 : decode cX3_whose 73 = .ok (.iaload, 1) := by decide +kernel
theorem dX3_whose_74 : decode cX3_whose 74 = .ok (.invokevirtual 189, 3) := by decide +kernel
theorem dX3_whose_77 : decode cX3_whose 77 = .ok (.ifCond .eq 10, 3) := by decide +kernel
theorem dX3_whose_80 : decode cX3_whose 80 = .ok (.iload_n 3, 1) := by decide +kernel
theorem dX3_whose_81 : decode cX3_whose 81 = .ok (.iconst 1, 1) := by decide +kernel
theorem dX3_whose_82 : decode cX3_whose 82 = .ok (.iload 4, 2) := by decide +kernel
theorem dX3_whose_84 : decode cX3_whose 84 = .ok (.ishl, 1) := by decide +kernel
theorem dX3_whose_85 : decode cX3_whose 85 = .ok (.ior, 1) := by decide +kernel
theorem dX3_whose_86 : decode cX3_whose 86 = .ok (.istore_n 3, 1) := by decide +kernel
theorem dX3_whose_87 : decode cX3_whose 87 = .ok (.iinc 4 1, 3) := by decide +kernel
theorem dX3_whose_90 : decode cX3_whose 90 = .ok (.goto (-66), 3) := by decide +kernel
theorem dX3_whose_93 : decode cX3_whose 93 = .ok (.iload_n 3, 1) := by decide +kernel
theorem dX3_whose_94 : decode cX3_whose 94 = .ok (.ireturn, 1) := by decide +kernel
theorem dX3_stock_0 : decode cX3_stock 0 = .ok (.iload_n 1, 1) := by decide +kernel
theorem dX3_stock_1 : decode cX3_stock 1 = .ok (.invokestatic 192, 3) := by decide +kernel
theorem dX3_stock_4 : decode cX3_stock 4 = .ok (.ifCond .eq 24, 3) := by decide +kernel
theorem dX3_stock_7 : decode cX3_stock 7 = .ok (.iload_n 2, 1) := by decide +kernel
theorem dX3_stock_8 : decode cX3_stock 8 = .ok (.ifCond .lt 20, 3) := by decide +kernel
theorem dX3_stock_11 : decode cX3_stock 11 = .ok (.iload_n 2, 1) := by decide +kernel
theorem dX3_stock_12 : decode cX3_stock 12 = .ok (.sipush 999, 3) := by decide +kernel
theorem dX3_stock_15 : decode cX3_stock 15 = .ok (.if_icmp .gt 13, 3) := by decide +kernel
theorem dX3_stock_18 : decode cX3_stock 18 = .ok (.iload_n 3, 1) := by decide +kernel
theorem dX3_stock_19 : decode cX3_stock 19 = .ok (.ifCond .lt 9, 3) := by decide +kernel
theorem dX3_stock_22 : decode cX3_stock 22 = .ok (.iload_n 3, 1) := by decide +kernel
theorem dX3_stock_23 : decode cX3_stock 23 = .ok (.bipush 99, 2) := by decide +kernel
theorem dX3_stock_25 : decode cX3_stock 25 = .ok (.if_icmp .le 9, 3) := by decide +kernel
theorem dX3_stock_28 : decode cX3_stock 28 = .ok (.aload_n 0, 1) := by decide +kernel
theorem dX3_stock_29 : decode cX3_stock 29 = .ok (.iconst 0, 1) := by decide +kernel
theorem dX3_stock_30 : decode cX3_stock 30 = .ok (.invokevirtual 51, 3) := by decide +kernel
theorem dX3_stock_33 : decode cX3_stock 33 = .ok (.ireturn, 1) := by decide +kernel
theorem dX3_stock_34 : decode cX3_stock 34 = .ok (.iload_n 1, 1) := by decide +kernel
theorem dX3_stock_35 : decode cX3_stock 35 = .ok (.iload_n 2, 1) := by decide +kernel
theorem dX3_stock_36 : decode cX3_stock 36 = .ok (.iload_n 3, 1) := by decide +kernel
theorem dX3_stock_37 : decode cX3_stock 37 = .ok (.invokestatic 195, 3) := by decide +kernel
theorem dX3_stock_40 : decode cX3_stock 40 = .ok (.ireturn, 1) := by decide +kernel
theorem dX3_lasts_0 : decode cX3_lasts 0 = .ok (.iload_n 1, 1) := by decide +kernel
theorem dX3_lasts_1 : decode cX3_lasts 1 = .ok (.invokestatic 192, 3) := by decide +kernel
theorem dX3_lasts_4 : decode cX3_lasts 4 = .ok (.ifCond .eq 14, 3) := by decide +kernel
theorem dX3_lasts_7 : decode cX3_lasts 7 = .ok (.iload_n 2, 1) := by decide +kernel
theorem dX3_lasts_8 : decode cX3_lasts 8 = .ok (.iconst 1, 1) := by decide +kernel
theorem dX3_lasts_9 : decode cX3_lasts 9 = .ok (.if_icmp .lt 9, 3) := by decide +kernel
theorem dX3_lasts_12 : decode cX3_lasts 12 = .ok (.iload_n 2, 1) := by decide +kernel
theorem dX3_lasts_13 : decode cX3_lasts 13 = .ok (.bipush 99, 2) := by decide +kernel
theorem dX3_lasts_15 : decode cX3_lasts 15 = .ok (.if_icmp .le 9, 3) := by decide +kernel
theorem dX3_lasts_18 : decode cX3_lasts 18 = .ok (.aload_n 0, 1) := by decide +kernel
theorem dX3_lasts_19 : decode cX3_lasts 19 = .ok (.iconst 0, 1) := by decide +kernel
theorem dX3_lasts_20 : decode cX3_lasts 20 = .ok (.invokevirtual 51, 3) := by decide +kernel
theorem dX3_lasts_23 : decode cX3_lasts 23 = .ok (.ireturn, 1) := by decide +kernel
theorem dX3_lasts_24 : decode cX3_lasts 24 = .ok (.iconst 0, 1) := by decide +kernel
theorem dX3_lasts_25 : decode cX3_lasts 25 = .ok (.istore_n 3, 1) := by decide +kernel
theorem dX3_lasts_26 : decode cX3_lasts 26 = .ok (.sipush 1000, 3) := by decide +kernel
theorem dX3_lasts_29 : decode cX3_lasts 29 = .ok (.istore 4, 2) := by decide +kernel
theorem dX3_lasts_31 : decode cX3_lasts 31 = .ok (.iconst 0, 1) := by decide +kernel
theorem dX3_lasts_32 : decode cX3_lasts 32 = .ok (.istore 5, 2) := by decide +kernel
theorem dX3_lasts_34 : decode cX3_lasts 34 = .ok (.iload 5, 2) := by decide +kernel
theorem dX3_lasts_36 : decode cX3_lasts 36 = .ok (.sipush 999, 3) := by decide +kernel
theorem dX3_lasts_39 : decode cX3_lasts 39 = .ok (.if_icmp .ge 46, 3) := by decide +kernel
theorem dX3_lasts_42 : decode cX3_lasts 42 = .ok (.iload 4, 2) := by decide +kernel
theorem dX3_lasts_44 : decode cX3_lasts 44 = .ok (.iload_n 3, 1) := by decide +kernel
theorem dX3_lasts_45 : decode cX3_lasts 45 = .ok (.isub, 1) := by decide +kernel
theorem dX3_lasts_46 : decode cX3_lasts 46 = .ok (.iconst 1, 1) := by decide +kernel
theorem dX3_lasts_47 : decode cX3_lasts 47 = .ok (.if_icmp .le 38, 3) := by decide +kernel
theorem dX3_lasts_50 : decode cX3_lasts 50 = .ok (.iload_n 3, 1) := by decide +kernel
theorem dX3_lasts_51 : decode cX3_lasts 51 = .ok (.iload 4, 2) := by decide +kernel
theorem dX3_lasts_53 : decode cX3_lasts 53 = .ok (.iadd, 1) := by decide +kernel
theorem dX3_lasts_54 : decode cX3_lasts 54 = .ok (.iconst 2, 1) := by decide +kernel
theorem dX3_lasts_55 : decode cX3_lasts 55 = .ok (.idiv, 1) := by decide +kernel
theorem dX3_lasts_56 : decode cX3_lasts 56 = .ok (.istore 6, 2) := by decide +kernel
theorem dX3_lasts_58 : decode cX3_lasts 58 = .ok (.iload_n 1, 1) := by decide +kernel
theorem dX3_lasts_59 : decode cX3_lasts 59 = .ok (.iload 6, 2) := by decide +kernel
theorem dX3_lasts_61 : decode cX3_lasts 61 = .ok (.iload_n 2, 1) := by decide +kernel
theorem dX3_lasts_62 : decode cX3_lasts 62 = .ok (.invokestatic 195, 3) := by decide +kernel
theorem dX3_lasts_65 : decode cX3_lasts 65 = .ok (.iload_n 1, 1) := by decide +kernel
theorem dX3_lasts_66 : decode cX3_lasts 66 = .ok (.if_icmp .lt 9, 3) := by decide +kernel
theorem dX3_lasts_69 : decode cX3_lasts 69 = .ok (.iload 6, 2) := by decide +kernel
theorem dX3_lasts_71 : decode cX3_lasts 71 = .ok (.istore_n 3, 1) := by decide +kernel
theorem dX3_lasts_72 : decode cX3_lasts 72 = .ok (.goto 7, 3) := by decide +kernel
theorem dX3_lasts_75 : decode cX3_lasts 75 = .ok (.iload 6, 2) := by decide +kernel
theorem dX3_lasts_77 : decode cX3_lasts 77 = .ok (.istore 4, 2) := by decide +kernel
theorem dX3_lasts_79 : decode cX3_lasts 79 = .ok (.iinc 5 1, 3) := by decide +kernel
theorem dX3_lasts_82 : decode cX3_lasts 82 = .ok (.goto (-48), 3) := by decide +kernel
theorem dX3_lasts_85 : decode cX3_lasts 85 = .ok (.iload_n 3, 1) := by decide +kernel
theorem dX3_lasts_86 : decode cX3_lasts 86 = .ok (.ireturn, 1) := by decide +kernel
theorem dX3_ring_0 : decode cX3_ring 0 = .ok (.aload_n 0, 1) := by decide +kernel
theorem dX3_ring_1 : decode cX3_ring 1 = .ok (.getfield 10, 3) := by decide +kernel
theorem dX3_ring_4 : decode cX3_ring 4 = .ok (.invokevirtual 199, 3) := by decide +kernel
theorem dX3_ring_7 : decode cX3_ring 7 = .ok (.invokestatic 128, 3) := by decide +kernel
theorem dX3_ring_10 : decode cX3_ring 10 = .ok (.ireturn, 1) := by decide +kernel
theorem dX3_rings_0 : decode cX3_rings 0 = .ok (.aload_n 0, 1) := by decide +kernel
theorem dX3_rings_1 : decode cX3_rings 1 = .ok (.getfield 10, 3) := by decide +kernel
theorem dX3_rings_4 : decode cX3_rings 4 = .ok (.invokevirtual 199, 3) := by decide +kernel
theorem dX3_rings_7 : decode cX3_rings 7 = .ok (.ireturn, 1) := by decide +kernel
theorem dX3_peals_0 : decode cX3_peals 0 = .ok (.iconst 0, 1) := by decide +kernel
theorem dX3_peals_1 : decode cX3_peals 1 = .ok (.istore_n 1, 1) := by decide +kernel
theorem dX3_peals_2 : decode cX3_peals 2 = .ok (.iconst 1, 1) := by decide +kernel
theorem dX3_peals_3 : decode cX3_peals 3 = .ok (.istore_n 2, 1) := by decide +kernel
theorem dX3_peals_4 : decode cX3_peals 4 = .ok (.iload_n 2, 1) := by decide +kernel
theorem dX3_peals_5 : decode cX3_peals 5 = .ok (.iconst 1, 1) := by decide +kernel
theorem dX3_peals_6 : decode cX3_peals 6 = .ok (.aload_n 0, 1) := by decide +kernel
theorem dX3_peals_7 : decode cX3_peals 7 = .ok (.getfield 10, 3) := by decide +kernel
theorem dX3_peals_10 : decode cX3_peals 10 = .ok (.getfield 84, 3) := by decide +kernel
theorem dX3_peals_13 : decode cX3_peals 13 = .ok (.ishl, 1) := by decide +kernel
theorem dX3_peals_14 : decode cX3_peals 14 = .ok (.if_icmp .ge 23, 3) := by decide +kernel
theorem dX3_peals_17 : decode cX3_peals 17 = .ok (.aload_n 0, 1) := by decide +kernel
theorem dX3_peals_18 : decode cX3_peals 18 = .ok (.getfield 10, 3) := by decide +kernel
theorem dX3_peals_21 : decode cX3_peals 21 = .ok (.iload_n 2, 1) := by decide +kernel
theorem dX3_peals_22 : decode cX3_peals 22 = .ok (.invokevirtual 203, 3) := by decide +kernel
theorem dX3_peals_25 : decode cX3_peals 25 = .ok (.ifCond .eq 6, 3) := by decide +kernel
theorem dX3_peals_28 : decode cX3_peals 28 = .ok (.iinc 1 1, 3) := by decide +kernel
theorem dX3_peals_31 : decode cX3_peals 31 = .ok (.iinc 2 1, 3) := by decide +kernel
theorem dX3_peals_34 : decode cX3_peals 34 = .ok (.goto (-30), 3) := by decide +kernel
theorem dX3_peals_37 : decode cX3_peals 37 = .ok (.iload_n 1, 1) := by decide +kernel
theorem dX3_peals_38 : decode cX3_peals 38 = .ok (.ireturn, 1) := by decide +kernel
theorem dX3_wanted_0 : decode cX3_wanted 0 = .ok (.aload_n 0, 1) := by decide +kernel
theorem dX3_wanted_1 : decode cX3_wanted 1 = .ok (.getfield 10, 3) := by decide +kernel
theorem dX3_wanted_4 : decode cX3_wanted 4 = .ok (.invokevirtual 206, 3) := by decide +kernel
theorem dX3_wanted_7 : decode cX3_wanted 7 = .ok (.istore_n 1, 1) := by decide +kernel
theorem dX3_wanted_8 : decode cX3_wanted 8 = .ok (.iconst 0, 1) := by decide +kernel
theorem dX3_wanted_9 : decode cX3_wanted 9 = .ok (.istore_n 2, 1) := by decide +kernel
theorem dX3_wanted_10 : decode cX3_wanted 10 = .ok (.iconst 0, 1) := by decide +kernel
theorem dX3_wanted_11 : decode cX3_wanted 11 = .ok (.istore_n 3, 1) := by decide +kernel
theorem dX3_wanted_12 : decode cX3_wanted 12 = .ok (.iconst 0, 1) := by decide +kernel
theorem dX3_wanted_13 : decode cX3_wanted 13 = .ok (.istore 4, 2) := by decide +kernel
theorem dX3_wanted_15 : decode cX3_wanted 15 = .ok (.iload 4, 2) := by decide +kernel
theorem dX3_wanted_17 : decode cX3_wanted 17 = .ok (.bipush 12, 2) := by decide +kernel
theorem dX3_wanted_19 : decode cX3_wanted 19 = .ok (.if_icmp .ge 32, 3) := by decide +kernel
theorem dX3_wanted_22 : decode cX3_wanted 22 = .ok (.iload_n 1, 1) := by decide +kernel
theorem dX3_wanted_23 : decode cX3_wanted 23 = .ok (.iconst 1, 1) := by decide +kernel
theorem dX3_wanted_24 : decode cX3_wanted 24 = .ok (.iload 4, 2) := by decide +kernel
theorem dX3_wanted_26 : decode cX3_wanted 26 = .ok (.ishl, 1) := by decide +kernel
theorem dX3_wanted_27 : decode cX3_wanted 27 = .ok (.ior, 1) := by decide +kernel
theorem dX3_wanted_28 : decode cX3_wanted 28 = .ok (.invokestatic 209, 3) := by decide +kernel
theorem dX3_wanted_31 : decode cX3_wanted 31 = .ok (.istore 5, 2) := by decide +kernel
theorem dX3_wanted_33 : decode cX3_wanted 33 = .ok (.iload 5, 2) := by decide +kernel
theorem dX3_wanted_35 : decode cX3_wanted 35 = .ok (.iload_n 3, 1) := by decide +kernel
theorem dX3_wanted_36 : decode cX3_wanted 36 = .ok (.if_icmp .le 9, 3) := by decide +kernel
theorem dX3_wanted_39 : decode cX3_wanted 39 = .ok (.iload 5, 2) := by decide +kernel
theorem dX3_wanted_41 : decode cX3_wanted 41 = .ok (.istore_n 3, 1) := by decide +kernel
theorem dX3_wanted_42 : decode cX3_wanted 42 = .ok (.iload 4, 2) := by decide +kernel
theorem dX3_wanted_44 : decode cX3_wanted 44 = .ok (.istore_n 2, 1) := by decide +kernel
theorem dX3_wanted_45 : decode cX3_wanted 45 = .ok (.iinc 4 1, 3) := by decide +kernel
theorem dX3_wanted_48 : decode cX3_wanted 48 = .ok (.goto (-33), 3) := by decide +kernel
theorem dX3_wanted_51 : decode cX3_wanted 51 = .ok (.iload_n 2, 1) := by decide +kernel
theorem dX3_wanted_52 : decode cX3_wanted 52 = .ok (.ireturn, 1) := by decide +kernel
theorem dX3_changes_0 : decode cX3_changes 0 = .ok (.iload_n 1, 1) := by decide +kernel
theorem dX3_changes_1 : decode cX3_changes 1 = .ok (.ifCond .lt 9, 3) := by decide +kernel
theorem dX3_changes_4 : decode cX3_changes 4 = .ok (.iload_n 1, 1) := by decide +kernel
theorem dX3_changes_5 : decode cX3_changes 5 = .ok (.bipush 20, 2) := by decide +kernel
theorem dX3_changes_7 : decode cX3_changes 7 = .ok (.if_icmp .le 10, 3) := by decide +kernel
theorem dX3_changes_10 : decode cX3_changes 10 = .ok (.aload_n 0, 1) := by decide +kernel
theorem dX3_changes_11 : decode cX3_changes 11 = .ok (.iconst 0, 1) := by decide +kernel
theorem dX3_changes_12 : decode cX3_changes 12 = .ok (.invokevirtual 51, 3) := by decide +kernel
theorem dX3_changes_15 : decode cX3_changes 15 = .ok (.i2l, 1) := by decide +kernel
theorem dX3_changes_16 : decode cX3_changes 16 = .ok (.lreturn, 1) := by decide +kernel
theorem dX3_changes_17 : decode cX3_changes 17 = .ok (.lconst 1, 1) := by decide +kernel
theorem dX3_changes_18 : decode cX3_changes 18 = .ok (.lstore_n 2, 1) := by decide +kernel
theorem dX3_changes_19 : decode cX3_changes 19 = .ok (.iconst 2, 1) := by decide +kernel
theorem dX3_changes_20 : decode cX3_changes 20 = .ok (.istore 4, 2) := by decide +kernel
theorem dX3_changes_22 : decode cX3_changes 22 = .ok (.iload 4, 2) := by decide +kernel
theorem dX3_changes_24 : decode cX3_changes 24 = .ok (.iload_n 1, 1) := by decide +kernel
theorem dX3_changes_25 : decode cX3_changes 25 = .ok (.if_icmp .gt 15, 3) := by decide +kernel
theorem dX3_changes_28 : decode cX3_changes 28 = .ok (.lload_n 2, 1) := by decide +kernel
theorem dX3_changes_29 : decode cX3_changes 29 = .ok (.iload 4, 2) := by decide +kernel
theorem dX3_changes_31 : decode cX3_changes 31 = .ok (.i2l, 1) := by decide +kernel
theorem dX3_changes_32 : decode cX3_changes 32 = .ok (.lmul, 1) := by decide +kernel
theorem dX3_changes_33 : decode cX3_changes 33 = .ok (.lstore_n 2, 1) := by decide +kernel
theorem dX3_changes_34 : decode cX3_changes 34 = .ok (.iinc 4 1, 3) := by decide +kernel
theorem dX3_changes_37 : decode cX3_changes 37 = .ok (.goto (-15), 3) := by decide +kernel
theorem dX3_changes_40 : decode cX3_changes 40 = .ok (.lload_n 2, 1) := by decide +kernel
theorem dX3_changes_41 : decode cX3_changes 41 = .ok (.lreturn, 1) := by decide +kernel
theorem dX3_thunder_0 : decode cX3_thunder 0 = .ok (.iload_n 1, 1) := by decide +kernel
theorem dX3_thunder_1 : decode cX3_thunder 1 = .ok (.iconst 1, 1) := by decide +kernel
theorem dX3_thunder_2 : decode cX3_thunder 2 = .ok (.if_icmp .lt 9, 3) := by decide +kernel
theorem dX3_thunder_5 : decode cX3_thunder 5 = .ok (.iload_n 1, 1) := by decide +kernel
theorem dX3_thunder_6 : decode cX3_thunder 6 = .ok (.bipush 20, 2) := by decide +kernel
theorem dX3_thunder_8 : decode cX3_thunder 8 = .ok (.if_icmp .le 9, 3) := by decide +kernel
theorem dX3_thunder_11 : decode cX3_thunder 11 = .ok (.aload_n 0, 1) := by decide +kernel
theorem dX3_thunder_12 : decode cX3_thunder 12 = .ok (.iconst 0, 1) := by decide +kernel
theorem dX3_thunder_13 : decode cX3_thunder 13 = .ok (.invokevirtual 51, 3) := by decide +kernel
theorem dX3_thunder_16 : decode cX3_thunder 16 = .ok (.ireturn, 1) := by decide +kernel
theorem dX3_thunder_17 : decode cX3_thunder 17 = .ok (.aload_n 0, 1) := by decide +kernel
theorem dX3_thunder_18 : decode cX3_thunder 18 = .ok (.getfield 10, 3) := by decide +kernel
theorem dX3_thunder_21 : decode cX3_thunder 21 = .ok (.getfield 84, 3) := by decide +kernel
theorem dX3_thunder_24 : decode cX3_thunder 24 = .ok (.ifCond .eq 17, 3) := by decide +kernel
theorem dX3_thunder_27 : decode cX3_thunder 27 = .ok (.aload_n 0, 1) := by decide +kernel
theorem dX3_thunder_28 : decode cX3_thunder 28 = .ok (.getfield 10, 3) := by decide +kernel
theorem dX3_thunder_31 : decode cX3_thunder 31 = .ok (.getfield 117, 3) := by decide +kernel
theorem dX3_thunder_34 : decode cX3_thunder 34 = .ok (.iload_n 1, 1) := by decide +kernel
theorem dX3_thunder_35 : decode cX3_thunder 35 = .ok (.iadd, 1) := by decide +kernel
theorem dX3_thunder_36 : decode cX3_thunder 36 = .ok (.ldc 120, 2) := by decide +kernel
theorem dX3_thunder_38 : decode cX3_thunder 38 = .ok (.if_icmp .le 9, 3) := by decide +kernel
theorem dX3_thunder_41 : decode cX3_thunder 41 = .ok (.aload_n 0, 1) := by decide +kernel
theorem dX3_thunder_42 : decode cX3_thunder 42 = .ok (.iconst 4, 1) := by decide +kernel
theorem dX3_thunder_43 : decode cX3_thunder 43 = .ok (.invokevirtual 51, 3) := by decide +kernel
theorem dX3_thunder_46 : decode cX3_thunder 46 = .ok (.ireturn, 1) := by decide +kernel
theorem dX3_thunder_47 : decode cX3_thunder 47 = .ok (.iconst 0, 1) := by decide +kernel
theorem dX3_thunder_48 : decode cX3_thunder 48 = .ok (.istore_n 2, 1) := by decide +kernel
theorem dX3_thunder_49 : decode cX3_thunder 49 = .ok (.iload_n 2, 1) := by decide +kernel
theorem dX3_thunder_50 : decode cX3_thunder 50 = .ok (.iload_n 1, 1) := by decide +kernel
theorem dX3_thunder_51 : decode cX3_thunder 51 = .ok (.if_icmp .ge 24, 3) := by decide +kernel
theorem dX3_thunder_54 : decode cX3_thunder 54 = .ok (.aload_n 0, 1) := by decide +kernel
theorem dX3_thunder_55 : decode cX3_thunder 55 = .ok (.getfield 10, 3) := by decide +kernel
theorem dX3_thunder_58 : decode cX3_thunder 58 = .ok (.invokevirtual 212, 3) := by decide +kernel
theorem dX3_thunder_61 : decode cX3_thunder 61 = .ok (.aload_n 0, 1) := by decide +kernel
theorem dX3_thunder_62 : decode cX3_thunder 62 = .ok (.getfield 10, 3) := by decide +kernel
theorem dX3_thunder_65 : decode cX3_thunder 65 = .ok (.invokevirtual 121, 3) := by decide +kernel
theorem dX3_thunder_68 : decode cX3_thunder 68 = .ok (.pop, 1) := by decide +kernel
theorem dX3_thunder_69 : decode cX3_thunder 69 = .ok (.iinc 2 1, 3) := by decide +kernel
theorem dX3_thunder_72 : decode cX3_thunder 72 = .ok (.goto (-23), 3) := by decide +kernel
theorem dX3_thunder_75 : decode cX3_thunder 75 = .ok (.aload_n 0, 1) := by decide +kernel
theorem dX3_thunder_76 : decode cX3_thunder 76 = .ok (.getfield 10, 3) := by decide +kernel
theorem dX3_thunder_79 : decode cX3_thunder 79 = .ok (.getfield 125, 3) := by decide +kernel
theorem dX3_thunder_82 : decode cX3_thunder 82 = .ok (.invokestatic 128, 3) := by decide +kernel
theorem dX3_thunder_85 : decode cX3_thunder 85 = .ok (.ireturn, 1) := by decide +kernel
theorem dX3_seed_0 : decode cX3_seed 0 = .ok (.aload_n 0, 1) := by decide +kernel
theorem dX3_seed_1 : decode cX3_seed 1 = .ok (.getfield 10, 3) := by decide +kernel
theorem dX3_seed_4 : decode cX3_seed 4 = .ok (.getfield 215, 3) := by decide +kernel
theorem dX3_seed_7 : decode cX3_seed 7 = .ok (.istore_n 2, 1) := by decide +kernel
theorem dX3_seed_8 : decode cX3_seed 8 = .ok (.aload_n 0, 1) := by decide +kernel
theorem dX3_seed_9 : decode cX3_seed 9 = .ok (.getfield 10, 3) := by decide +kernel
theorem dX3_seed_12 : decode cX3_seed 12 = .ok (.iload_n 1, 1) := by decide +kernel
theorem dX3_seed_13 : decode cX3_seed 13 = .ok (.putfield 215, 3) := by decide +kernel
theorem dX3_seed_16 : decode cX3_seed 16 = .ok (.iload_n 2, 1) := by decide +kernel
theorem dX3_seed_17 : decode cX3_seed 17 = .ok (.ireturn, 1) := by decide +kernel
theorem dX3_feed_0 : decode cX3_feed 0 = .ok (.iload_n 2, 1) := by decide +kernel
theorem dX3_feed_1 : decode cX3_feed 1 = .ok (.iconst 1, 1) := by decide +kernel
theorem dX3_feed_2 : decode cX3_feed 2 = .ok (.if_icmp .lt 8, 3) := by decide +kernel
theorem dX3_feed_5 : decode cX3_feed 5 = .ok (.iload_n 2, 1) := by decide +kernel
theorem dX3_feed_6 : decode cX3_feed 6 = .ok (.iconst 4, 1) := by decide +kernel
theorem dX3_feed_7 : decode cX3_feed 7 = .ok (.if_icmp .le 9, 3) := by decide +kernel
theorem dX3_feed_10 : decode cX3_feed 10 = .ok (.aload_n 0, 1) := by decide +kernel
theorem dX3_feed_11 : decode cX3_feed 11 = .ok (.iconst 0, 1) := by decide +kernel
theorem dX3_feed_12 : decode cX3_feed 12 = .ok (.invokevirtual 51, 3) := by decide +kernel
theorem dX3_feed_15 : decode cX3_feed 15 = .ok (.ireturn, 1) := by decide +kernel
theorem dX3_feed_16 : decode cX3_feed 16 = .ok (.aload_n 0, 1) := by decide +kernel
theorem dX3_feed_17 : decode cX3_feed 17 = .ok (.getfield 29, 3) := by decide +kernel
theorem dX3_feed_20 : decode cX3_feed 20 = .ok (.getfield 218, 3) := by decide +kernel
theorem dX3_feed_23 : decode cX3_feed 23 = .ok (.iload_n 2, 1) := by decide +kernel
theorem dX3_feed_24 : decode cX3_feed 24 = .ok (.iadd, 1) := by decide +kernel
theorem dX3_feed_25 : decode cX3_feed 25 = .ok (.bipush 120, 2) := by decide +kernel
theorem dX3_feed_27 : decode cX3_feed 27 = .ok (.if_icmp .le 9, 3) := by decide +kernel
theorem dX3_feed_30 : decode cX3_feed 30 = .ok (.aload_n 0, 1) := by decide +kernel
theorem dX3_feed_31 : decode cX3_feed 31 = .ok (.iconst 1, 1) := by decide +kernel
theorem dX3_feed_32 : decode cX3_feed 32 = .ok (.invokevirtual 51, 3) := by decide +kernel
theorem dX3_feed_35 : decode cX3_feed 35 = .ok (.ireturn, 1) := by decide +kernel
theorem dX3_feed_36 : decode cX3_feed 36 = .ok (.iload_n 2, 1) := by decide +kernel
theorem dX3_feed_37 : decode cX3_feed 37 = .ok (.iconst 1, 1) := by decide +kernel
theorem dX3_feed_38 : decode cX3_feed 38 = .ok (.isub, 1) := by decide +kernel
theorem dX3_feed_39 : decode cX3_feed 39 = .ok (.istore_n 3, 1) := by decide +kernel
theorem dX3_feed_40 : decode cX3_feed 40 = .ok (.iload_n 3, 1) := by decide +kernel
theorem dX3_feed_41 : decode cX3_feed 41 = .ok (.ifCond .lt 22, 3) := by decide +kernel
theorem dX3_feed_44 : decode cX3_feed 44 = .ok (.aload_n 0, 1) := by decide +kernel
theorem dX3_feed_45 : decode cX3_feed 45 = .ok (.getfield 29, 3) := by decide +kernel
theorem dX3_feed_48 : decode cX3_feed 48 = .ok (.iload_n 1, 1) := by decide +kernel
theorem dX3_feed_49 : decode cX3_feed 49 = .ok (.bipush 8, 2) := by decide +kernel
theorem dX3_feed_51 : decode cX3_feed 51 = .ok (.iload_n 3, 1) := by decide +kernel
theorem dX3_feed_52 : decode cX3_feed 52 = .ok (.imul, 1) := by decide +kernel
theorem dX3_feed_53 : decode cX3_feed 53 = .ok (.iushr, 1) := by decide +kernel
theorem dX3_feed_54 : decode cX3_feed 54 = .ok (.invokevirtual 221, 3) := by decide +kernel
theorem dX3_feed_57 : decode cX3_feed 57 = .ok (.iinc 3 (-1), 3) := by decide +kernel
theorem dX3_feed_60 : decode cX3_feed 60 = .ok (.goto (-20), 3) := by decide +kernel
theorem dX3_feed_63 : decode cX3_feed 63 = .ok (.aload_n 0, 1) := by decide +kernel
theorem dX3_feed_64 : decode cX3_feed 64 = .ok (.getfield 29, 3) := by decide +kernel
theorem dX3_feed_67 : decode cX3_feed 67 = .ok (.getfield 218, 3) := by decide +kernel
theorem dX3_feed_70 : decode cX3_feed 70 = .ok (.ireturn, 1) := by decide +kernel
theorem dX3_wipe_0 : decode cX3_wipe 0 = .ok (.aload_n 0, 1) := by decide +kernel
theorem dX3_wipe_1 : decode cX3_wipe 1 = .ok (.getfield 29, 3) := by decide +kernel
theorem dX3_wipe_4 : decode cX3_wipe 4 = .ok (.getfield 218, 3) := by decide +kernel
theorem dX3_wipe_7 : decode cX3_wipe 7 = .ok (.istore_n 1, 1) := by decide +kernel
theorem dX3_wipe_8 : decode cX3_wipe 8 = .ok (.aload_n 0, 1) := by decide +kernel
theorem dX3_wipe_9 : decode cX3_wipe 9 = .ok (.getfield 29, 3) := by decide +kernel
theorem dX3_wipe_12 : decode cX3_wipe 12 = .ok (.iconst 0, 1) := by decide +kernel
theorem dX3_wipe_13 : decode cX3_wipe 13 = .ok (.putfield 218, 3) := by decide +kernel
theorem dX3_wipe_16 : decode cX3_wipe 16 = .ok (.iload_n 1, 1) := by decide +kernel
theorem dX3_wipe_17 : decode cX3_wipe 17 = .ok (.ireturn, 1) := by decide +kernel
theorem dX3_text_0 : decode cX3_text 0 = .ok (.aload_n 0, 1) := by decide +kernel
theorem dX3_text_1 : decode cX3_text 1 = .ok (.getfield 16, 3) := by decide +kernel
theorem dX3_text_4 : decode cX3_text 4 = .ok (.aload_n 0, 1) := by decide +kernel
theorem dX3_text_5 : decode cX3_text 5 = .ok (.getfield 10, 3) := by decide +kernel
theorem dX3_text_8 : decode cX3_text 8 = .ok (.invokevirtual 154, 3) := by decide +kernel
theorem dX3_text_11 : decode cX3_text 11 = .ok (.aload_n 0, 1) := by decide +kernel
theorem dX3_text_12 : decode cX3_text 12 = .ok (.getfield 29, 3) := by decide +kernel
theorem dX3_text_15 : decode cX3_text 15 = .ok (.aload_n 0, 1) := by decide +kernel
theorem dX3_text_16 : decode cX3_text 16 = .ok (.getfield 16, 3) := by decide +kernel
theorem dX3_text_19 : decode cX3_text 19 = .ok (.invokevirtual 224, 3) := by decide +kernel
theorem dX3_text_22 : decode cX3_text 22 = .ok (.istore_n 1, 1) := by decide +kernel
theorem dX3_text_23 : decode cX3_text 23 = .ok (.aload_n 0, 1) := by decide +kernel
theorem dX3_text_24 : decode cX3_text 24 = .ok (.getfield 29, 3) := by decide +kernel
theorem dX3_text_27 : decode cX3_text 27 = .ok (.iconst 0, 1) := by decide +kernel
theorem dX3_text_28 : decode cX3_text 28 = .ok (.putfield 218, 3) := by decide +kernel
theorem dX3_text_31 : decode cX3_text 31 = .ok (.iload_n 1, 1) := by decide +kernel
theorem dX3_text_32 : decode cX3_text 32 = .ok (.ifCond .lt 14, 3) := by decide +kernel
theorem dX3_text_35 : decode cX3_text 35 = .ok (.aload_n 0, 1) := by decide +kernel
theorem dX3_text_36 : decode cX3_text 36 = .ok (.getfield 10, 3) := by decide +kernel
theorem dX3_text_39 : decode cX3_text 39 = .ok (.aload_n 0, 1) := by decide +kernel
theorem dX3_text_40 : decode cX3_text 40 = .ok (.getfield 16, 3) := by decide +kernel
theorem dX3_text_43 : decode cX3_text 43 = .ok (.invokevirtual 154, 3) := by decide +kernel
theorem dX3_text_46 : decode cX3_text 46 = .ok (.iload_n 1, 1) := by decide +kernel
theorem dX3_text_47 : decode cX3_text 47 = .ok (.ireturn, 1) := by decide +kernel
theorem dX3_hold_0 : decode cX3_hold 0 = .ok (.iload_n 1, 1) := by decide +kernel
theorem dX3_hold_1 : decode cX3_hold 1 = .ok (.invokestatic 228, 3) := by decide +kernel
theorem dX3_hold_4 : decode cX3_hold 4 = .ok (.ifCond .eq 16, 3) := by decide +kernel
theorem dX3_hold_7 : decode cX3_hold 7 = .ok (.iload_n 2, 1) := by decide +kernel
theorem dX3_hold_8 : decode cX3_hold 8 = .ok (.iconst (-1), 1) := by decide +kernel
theorem dX3_hold_9 : decode cX3_hold 9 = .ok (.if_icmp .eq 17, 3) := by decide +kernel
theorem dX3_hold_12 : decode cX3_hold 12 = .ok (.aload_n 0, 1) := by decide +kernel
theorem dX3_hold_13 : decode cX3_hold 13 = .ok (.iload_n 2, 1) := by decide +kernel
theorem dX3_hold_14 : decode cX3_hold 14 = .ok (.invokevirtual 91, 3) := by decide +kernel
theorem dX3_hold_17 : decode cX3_hold 17 = .ok (.ifCond .ne 9, 3) := by decide +kernel
theorem dX3_hold_20 : decode cX3_hold 20 = .ok (.aload_n 0, 1) := by decide +kernel
theorem dX3_hold_21 : decode cX3_hold 21 = .ok (.iconst 0, 1) := by decide +kernel
theorem dX3_hold_22 : decode cX3_hold 22 = .ok (.invokevirtual 51, 3) := by decide +kernel
theorem dX3_hold_25 : decode cX3_hold 25 = .ok (.ireturn, 1) := by decide +kernel
theorem dX3_hold_26 : decode cX3_hold 26 = .ok (.aload_n 0, 1) := by decide +kernel
theorem dX3_hold_27 : decode cX3_hold 27 = .ok (.getfield 10, 3) := by decide +kernel
theorem dX3_hold_30 : decode cX3_hold 30 = .ok (.getfield 231, 3) := by decide +kernel
theorem dX3_hold_33 : decode cX3_hold 33 = .ok (.iload_n 1, 1) := by decide +kernel
theorem dX3_hold_34 : decode cX3_hold 34 = .ok (.iload_n 2, 1) := by decide +kernel
theorem dX3_hold_35 : decode cX3_hold 35 = .ok (.iastore, 1) := by decide +kernel
theorem dX3_hold_36 : decode cX3_hold 36 = .ok (.iconst 1, 1) := by decide +kernel
theorem dX3_hold_37 : decode cX3_hold 37 = .ok (.ireturn, 1) := by decide +kernel
theorem dX3_as_0 : decode cX3_as 0 = .ok (.iload_n 1, 1) := by decide +kernel
theorem dX3_as_1 : decode cX3_as 1 = .ok (.invokestatic 228, 3) := by decide +kernel
theorem dX3_as_4 : decode cX3_as 4 = .ok (.ifCond .eq 10, 3) := by decide +kernel
theorem dX3_as_7 : decode cX3_as 7 = .ok (.iload_n 2, 1) := by decide +kernel
theorem dX3_as_8 : decode cX3_as 8 = .ok (.invokestatic 81, 3) := by decide +kernel
theorem dX3_as_11 : decode cX3_as 11 = .ok (.ifCond .ne 9, 3) := by decide +kernel
theorem dX3_as_14 : decode cX3_as 14 = .ok (.aload_n 0, 1) := by decide +kernel
theorem dX3_as_15 : decode cX3_as 15 = .ok (.iconst 0, 1) := by decide +kernel
theorem dX3_as_16 : decode cX3_as 16 = .ok (.invokevirtual 51, 3) := by decide +kernel
theorem dX3_as_19 : decode cX3_as 19 = .ok (.ireturn, 1) := by decide +kernel
theorem dX3_as_20 : decode cX3_as 20 = .ok (.aload_n 0, 1) := by decide +kernel
theorem dX3_as_21 : decode cX3_as 21 = .ok (.getfield 10, 3) := by decide +kernel
theorem dX3_as_24 : decode cX3_as 24 = .ok (.getfield 231, 3) := by decide +kernel
theorem dX3_as_27 : decode cX3_as 27 = .ok (.iload_n 1, 1) := by decide +kernel
theorem dX3_as_28 : decode cX3_as 28 = .ok (.iaload, 1) := by decide +kernel
theorem dX3_as_29 : decode cX3_as 29 = .ok (.istore_n 3, 1) := by decide +kernel
theorem dX3_as_30 : decode cX3_as 30 = .ok (.aload_n 0, 1) := by decide +kernel
theorem dX3_as_31 : decode cX3_as 31 = .ok (.iload_n 3, 1) := by decide +kernel
theorem dX3_as_32 : decode cX3_as 32 = .ok (.invokevirtual 91, 3) := by decide +kernel
theorem dX3_as_35 : decode cX3_as 35 = .ok (.ifCond .ne 9, 3) := by decide +kernel
theorem dX3_as_38 : decode cX3_as 38 = .ok (.aload_n 0, 1) := by decide +kernel
theorem dX3_as_39 : decode cX3_as 39 = .ok (.iconst 5, 1) := by decide +kernel
theorem dX3_as_40 : decode cX3_as 40 = .ok (.invokevirtual 51, 3) := by decide +kernel
theorem dX3_as_43 : decode cX3_as 43 = .ok (.ireturn, 1) := by decide +kernel
theorem dX3_as_44 : decode cX3_as 44 = .ok (.aload_n 0, 1) := by decide +kernel
theorem dX3_as_45 : decode cX3_as 45 = .ok (.getfield 10, 3) := by decide +kernel
theorem dX3_as_48 : decode cX3_as 48 = .ok (.getfield 172, 3) := by decide +kernel
theorem dX3_as_51 : decode cX3_as 51 = .ok (.iload_n 3, 1) := by decide +kernel
theorem dX3_as_52 : decode cX3_as 52 = .ok (.iaload, 1) := by decide +kernel
theorem dX3_as_53 : decode cX3_as 53 = .ok (.iload_n 2, 1) := by decide +kernel
theorem dX3_as_54 : decode cX3_as 54 = .ok (.invokestatic 234, 3) := by decide +kernel
theorem dX3_as_57 : decode cX3_as 57 = .ok (.ifCond .eq 7, 3) := by decide +kernel
theorem dX3_as_60 : decode cX3_as 60 = .ok (.iload_n 3, 1) := by decide +kernel
theorem dX3_as_61 : decode cX3_as 61 = .ok (.goto 8, 3) := by decide +kernel
theorem dX3_as_64 : decode cX3_as 64 = .ok (.aload_n 0, 1) := by decide +kernel
theorem dX3_as_65 : decode cX3_as 65 = .ok (.iconst 2, 1) := by decide +kernel
theorem dX3_as_66 : decode cX3_as 66 = .ok (.invokevirtual 51, 3) := by decide +kernel
theorem dX3_as_69 : decode cX3_as 69 = .ok (.ireturn, 1) := by decide +kernel
theorem dX3_sheet_0 : decode cX3_sheet 0 = .ok (.iload_n 1, 1) := by decide +kernel
theorem dX3_sheet_1 : decode cX3_sheet 1 = .ok (.invokestatic 237, 3) := by decide +kernel
theorem dX3_sheet_4 : decode cX3_sheet 4 = .ok (.ifCond .eq 25, 3) := by decide +kernel
theorem dX3_sheet_7 : decode cX3_sheet 7 = .ok (.iload_n 2, 1) := by decide +kernel
theorem dX3_sheet_8 : decode cX3_sheet 8 = .ok (.ifCond .eq 27, 3) := by decide +kernel
theorem dX3_sheet_11 : decode cX3_sheet 11 = .ok (.iload_n 2, 1) := by decide +kernel
theorem dX3_sheet_12 : decode cX3_sheet 12 = .ok (.bipush 8, 2) := by decide +kernel
theorem dX3_sheet_14 : decode cX3_sheet 14 = .ok (.if_icmp .eq 21, 3) := by decide +kernel
theorem dX3_sheet_17 : decode cX3_sheet 17 = .ok (.iload_n 2, 1) := by decide +kernel
theorem dX3_sheet_18 : decode cX3_sheet 18 = .ok (.bipush 16, 2) := by decide +kernel
theorem dX3_sheet_20 : decode cX3_sheet 20 = .ok (.if_icmp .eq 15, 3) := by decide +kernel
theorem dX3_sheet_23 : decode cX3_sheet 23 = .ok (.iload_n 2, 1) := by decide +kernel
theorem dX3_sheet_24 : decode cX3_sheet 24 = .ok (.bipush 32, 2) := by decide +kernel
theorem dX3_sheet_26 : decode cX3_sheet 26 = .ok (.if_icmp .eq 9, 3) := by decide +kernel
theorem dX3_sheet_29 : decode cX3_sheet 29 = .ok (.aload_n 0, 1) := by decide +kernel
theorem dX3_sheet_30 : decode cX3_sheet 30 = .ok (.iconst 0, 1) := by decide +kernel
theorem dX3_sheet_31 : decode cX3_sheet 31 = .ok (.invokevirtual 51, 3) := by decide +kernel
theorem dX3_sheet_34 : decode cX3_sheet 34 = .ok (.ireturn, 1) := by decide +kernel
theorem dX3_sheet_35 : decode cX3_sheet 35 = .ok (.iload_n 3, 1) := by decide +kernel
theorem dX3_sheet_36 : decode cX3_sheet 36 = .ok (.ifCond .ge 10, 3) := by decide +kernel
theorem dX3_sheet_39 : decode cX3_sheet 39 = .ok (.aload_n 0, 1) := by decide +kernel
theorem dX3_sheet_40 : decode cX3_sheet 40 = .ok (.bipush 6, 2) := by decide +kernel
theorem dX3_sheet_42 : decode cX3_sheet 42 = .ok (.invokevirtual 51, 3) := by decide +kernel
theorem dX3_sheet_45 : decode cX3_sheet 45 = .ok (.ireturn, 1) := by decide +kernel
theorem dX3_sheet_46 : decode cX3_sheet 46 = .ok (.iload_n 3, 1) := by decide +kernel
theorem dX3_sheet_47 : decode cX3_sheet 47 = .ok (.bipush 40, 2) := by decide +kernel
theorem dX3_sheet_49 : decode cX3_sheet 49 = .ok (.if_icmp .le 9, 3) := by decide +kernel
theorem dX3_sheet_52 : decode cX3_sheet 52 = .ok (.aload_n 0, 1) := by decide +kernel
theorem dX3_sheet_53 : decode cX3_sheet 53 = .ok (.iconst 0, 1) := by decide +kernel
theorem dX3_sheet_54 : decode cX3_sheet 54 = .ok (.invokevirtual 51, 3) := by decide +kernel
theorem dX3_sheet_57 : decode cX3_sheet 57 = .ok (.ireturn, 1) := by decide +kernel
theorem dX3_sheet_58 : decode cX3_sheet 58 = .ok (.aload_n 0, 1) := by decide +kernel
theorem dX3_sheet_59 : decode cX3_sheet 59 = .ok (.getfield 35, 3) := by decide +kernel
theorem dX3_sheet_62 : decode cX3_sheet 62 = .ok (.iload_n 1, 1) := by decide +kernel
theorem dX3_sheet_63 : decode cX3_sheet 63 = .ok (.aaload, 1) := by decide +kernel
theorem dX3_sheet_64 : decode cX3_sheet 64 = .ok (.iload_n 2, 1) := by decide +kernel
theorem dX3_sheet_65 : decode cX3_sheet 65 = .ok (.iload_n 3, 1) := by decide +kernel
theorem dX3_sheet_66 : decode cX3_sheet 66 = .ok (.invokevirtual 240, 3) := by decide +kernel
theorem dX3_sheet_69 : decode cX3_sheet 69 = .ok (.aload_n 0, 1) := by decide +kernel
theorem dX3_sheet_70 : decode cX3_sheet 70 = .ok (.getfield 35, 3) := by decide +kernel
theorem dX3_sheet_73 : decode cX3_sheet 73 = .ok (.iload_n 1, 1) := by decide +kernel
theorem dX3_sheet_74 : decode cX3_sheet 74 = .ok (.aaload, 1) := by decide +kernel
theorem dX3_sheet_75 : decode cX3_sheet 75 = .ok (.getfield 244, 3) := by decide +kernel
theorem dX3_sheet_78 : decode cX3_sheet 78 = .ok (.ireturn, 1) := by decide +kernel
theorem dX3_write_0 : decode cX3_write 0 = .ok (.iload_n 1, 1) := by decide +kernel
theorem dX3_write_1 : decode cX3_write 1 = .ok (.invokestatic 237, 3) := by decide +kernel
theorem dX3_write_4 : decode cX3_write 4 = .ok (.ifCond .ne 9, 3) := by decide +kernel
theorem dX3_write_7 : decode cX3_write 7 = .ok (.aload_n 0, 1) := by decide +kernel
theorem dX3_write_8 : decode cX3_write 8 = .ok (.iconst 0, 1) := by decide +kernel
theorem dX3_write_9 : decode cX3_write 9 = .ok (.invokevirtual 51, 3) := by decide +kernel
theorem dX3_write_12 : decode cX3_write 12 = .ok (.ireturn, 1) := by decide +kernel
theorem dX3_write_13 : decode cX3_write 13 = .ok (.aload_n 0, 1) := by decide +kernel
theorem dX3_write_14 : decode cX3_write 14 = .ok (.getfield 35, 3) := by decide +kernel
theorem dX3_write_17 : decode cX3_write 17 = .ok (.iload_n 1, 1) := by decide +kernel
theorem dX3_write_18 : decode cX3_write 18 = .ok (.aaload, 1) := by decide +kernel
theorem dX3_write_19 : decode cX3_write 19 = .ok (.invokevirtual 245, 3) := by decide +kernel
theorem dX3_write_22 : decode cX3_write 22 = .ok (.ifCond .eq 9, 3) := by decide +kernel
theorem dX3_write_25 : decode cX3_write 25 = .ok (.aload_n 0, 1) := by decide +kernel
theorem dX3_write_26 : decode cX3_write 26 = .ok (.iconst 5, 1) := by decide +kernel
theorem dX3_write_27 : decode cX3_write 27 = .ok (.invokevirtual 51, 3) := by decide +kernel
theorem dX3_write_30 : decode cX3_write 30 = .ok (.ireturn, 1) := by decide +kernel
theorem dX3_write_31 : decode cX3_write 31 = .ok (.iload_n 2, 1) := by decide +kernel
theorem dX3_write_32 : decode cX3_write 32 = .ok (.ifCond .lt 16, 3) := by decide +kernel
theorem dX3_write_35 : decode cX3_write 35 = .ok (.iload_n 2, 1) := by decide +kernel
theorem dX3_write_36 : decode cX3_write 36 = .ok (.aload_n 0, 1) := by decide +kernel
theorem dX3_write_37 : decode cX3_write 37 = .ok (.getfield 35, 3) := by decide +kernel
theorem dX3_write_40 : decode cX3_write 40 = .ok (.iload_n 1, 1) := by decide +kernel
theorem dX3_write_41 : decode cX3_write 41 = .ok (.aaload, 1) := by decide +kernel
theorem dX3_write_42 : decode cX3_write 42 = .ok (.getfield 244, 3) := by decide +kernel
theorem dX3_write_45 : decode cX3_write 45 = .ok (.if_icmp .lt 9, 3) := by decide +kernel
theorem dX3_write_48 : decode cX3_write 48 = .ok (.aload_n 0, 1) := by decide +kernel
theorem dX3_write_49 : decode cX3_write 49 = .ok (.iconst 0, 1) := by decide +kernel
theorem dX3_write_50 : decode cX3_write 50 = .ok (.invokevirtual 51, 3) := by decide +kernel
theorem dX3_write_53 : decode cX3_write 53 = .ok (.ireturn, 1) := by decide +kernel
theorem dX3_write_54 : decode cX3_write 54 = .ok (.aload_n 0, 1) := by decide +kernel
theorem dX3_write_55 : decode cX3_write 55 = .ok (.getfield 35, 3) := by decide +kernel
theorem dX3_write_58 : decode cX3_write 58 = .ok (.iload_n 1, 1) := by decide +kernel
theorem dX3_write_59 : decode cX3_write 59 = .ok (.aaload, 1) := by decide +kernel
theorem dX3_write_60 : decode cX3_write 60 = .ok (.iload_n 2, 1) := by decide +kernel
theorem dX3_write_61 : decode cX3_write 61 = .ok (.iload_n 3, 1) := by decide +kernel
theorem dX3_write_62 : decode cX3_write 62 = .ok (.invokevirtual 248, 3) := by decide +kernel
theorem dX3_write_65 : decode cX3_write 65 = .ok (.iconst 1, 1) := by decide +kernel
theorem dX3_write_66 : decode cX3_write 66 = .ok (.ireturn, 1) := by decide +kernel
theorem dX3_copy_0 : decode cX3_copy 0 = .ok (.iload_n 1, 1) := by decide +kernel
theorem dX3_copy_1 : decode cX3_copy 1 = .ok (.invokestatic 237, 3) := by decide +kernel
theorem dX3_copy_4 : decode cX3_copy 4 = .ok (.ifCond .eq 10, 3) := by decide +kernel
theorem dX3_copy_7 : decode cX3_copy 7 = .ok (.iload_n 3, 1) := by decide +kernel
theorem dX3_copy_8 : decode cX3_copy 8 = .ok (.invokestatic 237, 3) := by decide +kernel
theorem dX3_copy_11 : decode cX3_copy 11 = .ok (.ifCond .ne 9, 3) := by decide +kernel
theorem dX3_copy_14 : decode cX3_copy 14 = .ok (.aload_n 0, 1) := by decide +kernel
theorem dX3_copy_15 : decode cX3_copy 15 = .ok (.iconst 0, 1) := by decide +kernel
theorem dX3_copy_16 : decode cX3_copy 16 = .ok (.invokevirtual 51, 3) := by decide +kernel
theorem dX3_copy_19 : decode cX3_copy 19 = .ok (.ireturn, 1) := by decide +kernel
theorem dX3_copy_20 : decode cX3_copy 20 = .ok (.aload_n 0, 1) := by decide +kernel
theorem dX3_copy_21 : decode cX3_copy 21 = .ok (.getfield 35, 3) := by decide +kernel
theorem dX3_copy_24 : decode cX3_copy 24 = .ok (.iload_n 1, 1) := by decide +kernel
theorem dX3_copy_25 : decode cX3_copy 25 = .ok (.aaload, 1) := by decide +kernel
theorem dX3_copy_26 : decode cX3_copy 26 = .ok (.astore 6, 2) := by decide +kernel
theorem dX3_copy_28 : decode cX3_copy 28 = .ok (.aload_n 0, 1) := by decide +kernel
theorem dX3_copy_29 : decode cX3_copy 29 = .ok (.getfield 35, 3) := by decide +kernel
theorem dX3_copy_32 : decode cX3_copy 32 = .ok (.iload_n 3, 1) := by decide +kernel
theorem dX3_copy_33 : decode cX3_copy 33 = .ok (.aaload, 1) := by decide +kernel
theorem dX3_copy_34 : decode cX3_copy 34 = .ok (.astore 7, 2) := by decide +kernel
theorem dX3_copy_36 : decode cX3_copy 36 = .ok (.aload 6, 2) := by decide +kernel
theorem dX3_copy_38 : decode cX3_copy 38 = .ok (.invokevirtual 245, 3) := by decide +kernel
theorem dX3_copy_41 : decode cX3_copy 41 = .ok (.ifCond .ne 11, 3) := by decide +kernel
theorem dX3_copy_44 : decode cX3_copy 44 = .ok (.aload 7, 2) := by decide +kernel
theorem dX3_copy_46 : decode cX3_copy 46 = .ok (.invokevirtual 245, 3) := by decide +kernel
theorem dX3_copy_49 : decode cX3_copy 49 = .ok (.ifCond .eq 9, 3) := by decide +kernel
theorem dX3_copy_52 : decode cX3_copy 52 = .ok (.aload_n 0, 1) := by decide +kernel
theorem dX3_copy_53 : decode cX3_copy 53 = .ok (.iconst 5, 1) := by decide +kernel
theorem dX3_copy_54 : decode cX3_copy 54 = .ok (.invokevirtual 51, 3) := by decide +kernel
theorem dX3_copy_57 : decode cX3_copy 57 = .ok (.ireturn, 1) := by decide +kernel
theorem dX3_copy_58 : decode cX3_copy 58 = .ok (.aload 6, 2) := by decide +kernel
theorem dX3_copy_60 : decode cX3_copy 60 = .ok (.getfield 251, 3) := by decide +kernel
theorem dX3_copy_63 : decode cX3_copy 63 = .ok (.aload 7, 2) := by decide +kernel
theorem dX3_copy_65 : decode cX3_copy 65 = .ok (.getfield 251, 3) := by decide +kernel
theorem dX3_copy_68 : decode cX3_copy 68 = .ok (.if_icmp .eq 9, 3) := by decide +kernel
theorem dX3_copy_71 : decode cX3_copy 71 = .ok (.aload_n 0, 1) := by decide +kernel
theorem dX3_copy_72 : decode cX3_copy 72 = .ok (.iconst 2, 1) := by decide +kernel
theorem dX3_copy_73 : decode cX3_copy 73 = .ok (.invokevirtual 51, 3) := by decide +kernel
theorem dX3_copy_76 : decode cX3_copy 76 = .ok (.ireturn, 1) := by decide +kernel
theorem dX3_copy_77 : decode cX3_copy 77 = .ok (.aload 6, 2) := by decide +kernel
theorem dX3_copy_79 : decode cX3_copy 79 = .ok (.iload_n 2, 1) := by decide +kernel
theorem dX3_copy_80 : decode cX3_copy 80 = .ok (.iload 5, 2) := by decide +kernel
theorem dX3_copy_82 : decode cX3_copy 82 = .ok (.invokevirtual 254, 3) := by decide +kernel
theorem dX3_copy_85 : decode cX3_copy 85 = .ok (.ifCond .eq 15, 3) := by decide +kernel
theorem dX3_copy_88 : decode cX3_copy 88 = .ok (.aload 7, 2) := by decide +kernel
theorem dX3_copy_90 : decode cX3_copy 90 = .ok (.iload 4, 2) := by decide +kernel
theorem dX3_copy_92 : decode cX3_copy 92 = .ok (.iload 5, 2) := by decide +kernel
theorem dX3_copy_94 : decode cX3_copy 94 = .ok (.invokevirtual 254, 3) := by decide +kernel
theorem dX3_copy_97 : decode cX3_copy 97 = .ok (.ifCond .ne 9, 3) := by decide +kernel
theorem dX3_copy_100 : decode cX3_copy 100 = .ok (.aload_n 0, 1) := by decide +kernel
theorem dX3_copy_101 : decode cX3_copy 101 = .ok (.iconst 0, 1) := by decide +kernel
theorem dX3_copy_102 : decode cX3_copy 102 = .ok (.invokevirtual 51, 3) := by decide +kernel
theorem dX3_copy_105 : decode cX3_copy 105 = .ok (.ireturn, 1) := by decide +kernel
theorem dX3_copy_106 : decode cX3_copy 106 = .ok (.aload 6, 2) := by decide +kernel
theorem dX3_copy_108 : decode cX3_copy 108 = .ok (.getfield 257, 3) := by decide +kernel
theorem dX3_copy_111 : decode cX3_copy 111 = .ok (.iload_n 2, 1) := by decide +kernel
theorem dX3_copy_112 : decode cX3_copy 112 = .ok (.aload 7, 2) := by decide +kernel
theorem dX3_copy_114 : decode cX3_copy 114 = .ok (.getfield 257, 3) := by decide +kernel
theorem dX3_copy_117 : decode cX3_copy 117 = .ok (.iload 4, 2) := by decide +kernel
theorem dX3_copy_119 : decode cX3_copy 119 = .ok (.iload 5, 2) := by decide +kernel
theorem dX3_copy_121 : decode cX3_copy 121 = .ok (.invokestatic 260, 3) := by decide +kernel
theorem dX3_copy_124 : decode cX3_copy 124 = .ok (.iload 5, 2) := by decide +kernel
theorem dX3_copy_126 : decode cX3_copy 126 = .ok (.ireturn, 1) := by decide +kernel
theorem dX3_load_0 : decode cX3_load 0 = .ok (.iload_n 1, 1) := by decide +kernel
theorem dX3_load_1 : decode cX3_load 1 = .ok (.invokestatic 237, 3) := by decide +kernel
theorem dX3_load_4 : decode cX3_load 4 = .ok (.ifCond .ne 9, 3) := by decide +kernel
theorem dX3_load_7 : decode cX3_load 7 = .ok (.aload_n 0, 1) := by decide +kernel
theorem dX3_load_8 : decode cX3_load 8 = .ok (.iconst 0, 1) := by decide +kernel
theorem dX3_load_9 : decode cX3_load 9 = .ok (.invokevirtual 51, 3) := by decide +kernel
theorem dX3_load_12 : decode cX3_load 12 = .ok (.ireturn, 1) := by decide +kernel
theorem dX3_load_13 : decode cX3_load 13 = .ok (.aload_n 0, 1) := by decide +kernel
theorem dX3_load_14 : decode cX3_load 14 = .ok (.getfield 35, 3) := by decide +kernel
theorem dX3_load_17 : decode cX3_load 17 = .ok (.iload_n 1, 1) := by decide +kernel
theorem dX3_load_18 : decode cX3_load 18 = .ok (.aaload, 1) := by decide +kernel
theorem dX3_load_19 : decode cX3_load 19 = .ok (.astore_n 2, 1) := by decide +kernel
theorem dX3_load_20 : decode cX3_load 20 = .ok (.aload_n 2, 1) := by decide +kernel
theorem dX3_load_21 : decode cX3_load 21 = .ok (.invokevirtual 245, 3) := by decide +kernel
theorem dX3_load_24 : decode cX3_load 24 = .ok (.ifCond .eq 9, 3) := by decide +kernel
theorem dX3_load_27 : decode cX3_load 27 = .ok (.aload_n 0, 1) := by decide +kernel
theorem dX3_load_28 : decode cX3_load 28 = .ok (.iconst 5, 1) := by decide +kernel
theorem dX3_load_29 : decode cX3_load 29 = .ok (.invokevirtual 51, 3) := by decide +kernel
theorem dX3_load_32 : decode cX3_load 32 = .ok (.ireturn, 1) := by decide +kernel
theorem dX3_load_33 : decode cX3_load 33 = .ok (.iconst 0, 1) := by decide +kernel
theorem dX3_load_34 : decode cX3_load 34 = .ok (.istore_n 3, 1) := by decide +kernel
theorem dX3_load_35 : decode cX3_load 35 = .ok (.iload_n 3, 1) := by decide +kernel
theorem dX3_load_36 : decode cX3_load 36 = .ok (.aload_n 2, 1) := by decide +kernel
theorem dX3_load_37 : decode cX3_load 37 = .ok (.getfield 244, 3) := by decide +kernel
theorem dX3_load_40 : decode cX3_load 40 = .ok (.if_icmp .ge 47, 3) := by decide +kernel
theorem dX3_load_43 : decode cX3_load 43 = .ok (.iload_n 3, 1) := by decide +kernel
theorem dX3_load_44 : decode cX3_load 44 = .ok (.aload_n 0, 1) := by decide +kernel
theorem dX3_load_45 : decode cX3_load 45 = .ok (.getfield 10, 3) := by decide +kernel
theorem dX3_load_48 : decode cX3_load 48 = .ok (.getfield 84, 3) := by decide +kernel
theorem dX3_load_51 : decode cX3_load 51 = .ok (.if_icmp .ge 36, 3) := by decide +kernel
theorem dX3_load_54 : decode cX3_load 54 = .ok (.aload_n 2, 1) := by decide +kernel
theorem dX3_load_55 : decode cX3_load 55 = .ok (.getfield 257, 3) := by decide +kernel
theorem dX3_load_58 : decode cX3_load 58 = .ok (.iload_n 3, 1) := by decide +kernel
theorem dX3_load_59 : decode cX3_load 59 = .ok (.iaload, 1) := by decide +kernel
theorem dX3_load_60 : decode cX3_load 60 = .ok (.invokestatic 266, 3) := by decide +kernel
theorem dX3_load_63 : decode cX3_load 63 = .ok (.ifCond .eq 24, 3) := by decide +kernel
theorem dX3_load_66 : decode cX3_load 66 = .ok (.aload_n 0, 1) := by decide +kernel
theorem dX3_load_67 : decode cX3_load 67 = .ok (.getfield 10, 3) := by decide +kernel
theorem dX3_load_70 : decode cX3_load 70 = .ok (.getfield 269, 3) := by decide +kernel
theorem dX3_load_73 : decode cX3_load 73 = .ok (.iload_n 3, 1) := by decide +kernel
theorem dX3_load_74 : decode cX3_load 74 = .ok (.aload_n 2, 1) := by decide +kernel
theorem dX3_load_75 : decode cX3_load 75 = .ok (.getfield 257, 3) := by decide +kernel
theorem dX3_load_78 : decode cX3_load 78 = .ok (.iload_n 3, 1) := by decide +kernel
theorem dX3_load_79 : decode cX3_load 79 = .ok (.iaload, 1) := by decide +kernel
theorem dX3_load_80 : decode cX3_load 80 = .ok (.iastore, 1) := by decide +kernel
theorem dX3_load_81 : decode cX3_load 81 = .ok (.iinc 3 1, 3) := by decide +kernel
theorem dX3_load_84 : decode cX3_load 84 = .ok (.goto (-49), 3) := by decide +kernel
theorem dX3_load_87 : decode cX3_load 87 = .ok (.iload_n 3, 1) := by decide +kernel
theorem dX3_load_88 : decode cX3_load 88 = .ok (.ireturn, 1) := by decide +kernel
theorem dX3_judge_0 : decode cX3_judge 0 = .ok (.iload_n 1, 1) := by decide +kernel
theorem dX3_judge_1 : decode cX3_judge 1 = .ok (.invokestatic 237, 3) := by decide +kernel
theorem dX3_judge_4 : decode cX3_judge 4 = .ok (.ifCond .ne 9, 3) := by decide +kernel
theorem dX3_judge_7 : decode cX3_judge 7 = .ok (.aload_n 0, 1) := by decide +kernel
theorem dX3_judge_8 : decode cX3_judge 8 = .ok (.iconst 0, 1) := by decide +kernel
theorem dX3_judge_9 : decode cX3_judge 9 = .ok (.invokevirtual 51, 3) := by decide +kernel
theorem dX3_judge_12 : decode cX3_judge 12 = .ok (.ireturn, 1) := by decide +kernel
theorem dX3_judge_13 : decode cX3_judge 13 = .ok (.aload_n 0, 1) := by decide +kernel
theorem dX3_judge_14 : decode cX3_judge 14 = .ok (.getfield 35, 3) := by decide +kernel
theorem dX3_judge_17 : decode cX3_judge 17 = .ok (.iload_n 1, 1) := by decide +kernel
theorem dX3_judge_18 : decode cX3_judge 18 = .ok (.aaload, 1) := by decide +kernel
theorem dX3_judge_19 : decode cX3_judge 19 = .ok (.astore_n 2, 1) := by decide +kernel
theorem dX3_judge_20 : decode cX3_judge 20 = .ok (.aload_n 2, 1) := by decide +kernel
theorem dX3_judge_21 : decode cX3_judge 21 = .ok (.invokevirtual 245, 3) := by decide +kernel
theorem dX3_judge_24 : decode cX3_judge 24 = .ok (.ifCond .eq 9, 3) := by decide +kernel
theorem dX3_judge_27 : decode cX3_judge 27 = .ok (.aload_n 0, 1) := by decide +kernel
theorem dX3_judge_28 : decode cX3_judge 28 = .ok (.iconst 5, 1) := by decide +kernel
theorem dX3_judge_29 : decode cX3_judge 29 = .ok (.invokevirtual 51, 3) := by decide +kernel
theorem dX3_judge_32 : decode cX3_judge 32 = .ok (.ireturn, 1) := by decide +kernel
theorem dX3_judge_33 : decode cX3_judge 33 = .ok (.iconst 0, 1) := by decide +kernel
theorem dX3_judge_34 : decode cX3_judge 34 = .ok (.istore_n 3, 1) := by decide +kernel
theorem dX3_judge_35 : decode cX3_judge 35 = .ok (.iload_n 3, 1) := by decide +kernel
theorem dX3_judge_36 : decode cX3_judge 36 = .ok (.aload_n 2, 1) := by decide +kernel
theorem dX3_judge_37 : decode cX3_judge 37 = .ok (.getfield 244, 3) := by decide +kernel
theorem dX3_judge_40 : decode cX3_judge 40 = .ok (.if_icmp .ge 54, 3) := by decide +kernel
theorem dX3_judge_43 : decode cX3_judge 43 = .ok (.aload_n 2, 1) := by decide +kernel
theorem dX3_judge_44 : decode cX3_judge 44 = .ok (.getfield 257, 3) := by decide +kernel
theorem dX3_judge_47 : decode cX3_judge 47 = .ok (.iload_n 3, 1) := by decide +kernel
theorem dX3_judge_48 : decode cX3_judge 48 = .ok (.iaload, 1) := by decide +kernel
theorem dX3_judge_49 : decode cX3_judge 49 = .ok (.istore 4, 2) := by decide +kernel
theorem dX3_judge_51 : decode cX3_judge 51 = .ok (.aload_n 0, 1) := by decide +kernel
theorem dX3_judge_52 : decode cX3_judge 52 = .ok (.iload 4, 2) := by decide +kernel
theorem dX3_judge_54 : decode cX3_judge 54 = .ok (.invokevirtual 91, 3) := by decide +kernel
theorem dX3_judge_57 : decode cX3_judge 57 = .ok (.ifCond .eq 27, 3) := by decide +kernel
theorem dX3_judge_60 : decode cX3_judge 60 = .ok (.iload_n 3, 1) := by decide +kernel
theorem dX3_judge_61 : decode cX3_judge 61 = .ok (.ifCond .le 27, 3) := by decide +kernel
theorem dX3_judge_64 : decode cX3_judge 64 = .ok (.aload_n 0, 1) := by decide +kernel
theorem dX3_judge_65 : decode cX3_judge 65 = .ok (.getfield 10, 3) := by decide +kernel
theorem dX3_judge_68 : decode cX3_judge 68 = .ok (.aload_n 2, 1) := by decide +kernel
theorem dX3_judge_69 : decode cX3_judge 69 = .ok (.getfield 257, 3) := by decide +kernel
theorem dX3_judge_72 : decode cX3_judge 72 = .ok (.iload_n 3, 1) := by decide +kernel
theorem dX3_judge_73 : decode cX3_judge 73 = .ok (.iconst 1, 1) := by decide +kernel
theorem dX3_judge_74 : decode cX3_judge 74 = .ok (.isub, 1) := by decide +kernel
theorem dX3_judge_75 : decode cX3_judge 75 = .ok (.iaload, 1) := by decide +kernel
theorem dX3_judge_76 : decode cX3_judge 76 = .ok (.iload 4, 2) := by decide +kernel
theorem dX3_judge_78 : decode cX3_judge 78 = .ok (.invokevirtual 272, 3) := by decide +kernel
theorem dX3_judge_81 : decode cX3_judge 81 = .ok (.ifCond .ne 7, 3) := by decide +kernel
theorem dX3_judge_84 : decode cX3_judge 84 = .ok (.iconst 1, 1) := by decide +kernel
theorem dX3_judge_85 : decode cX3_judge 85 = .ok (.iload_n 3, 1) := by decide +kernel
theorem dX3_judge_86 : decode cX3_judge 86 = .ok (.iadd, 1) := by decide +kernel
theorem dX3_judge_87 : decode cX3_judge 87 = .ok (.ireturn, 1) := by decide +kernel
theorem dX3_judge_88 : decode cX3_judge 88 = .ok (.iinc 3 1, 3) := by decide +kernel
theorem dX3_judge_91 : decode cX3_judge 91 = .ok (.goto (-56), 3) := by decide +kernel
theorem dX3_judge_94 : decode cX3_judge 94 = .ok (.iconst 0, 1) := by decide +kernel
theorem dX3_judge_95 : decode cX3_judge 95 = .ok (.ireturn, 1) := by decide +kernel
theorem dX3_image_0 : decode cX3_image 0 = .ok (.aload_n 0, 1) := by decide +kernel
theorem dX3_image_1 : decode cX3_image 1 = .ok (.getfield 19, 3) := by decide +kernel
theorem dX3_image_4 : decode cX3_image 4 = .ok (.aload_n 0, 1) := by decide +kernel
theorem dX3_image_5 : decode cX3_image 5 = .ok (.getfield 10, 3) := by decide +kernel
theorem dX3_image_8 : decode cX3_image 8 = .ok (.invokevirtual 154, 3) := by decide +kernel
theorem dX3_image_11 : decode cX3_image 11 = .ok (.aload_n 0, 1) := by decide +kernel
theorem dX3_image_12 : decode cX3_image 12 = .ok (.iconst 1, 1) := by decide +kernel
theorem dX3_image_13 : decode cX3_image 13 = .ok (.putfield 22, 3) := by decide +kernel
theorem dX3_image_16 : decode cX3_image 16 = .ok (.iconst 1, 1) := by decide +kernel
theorem dX3_image_17 : decode cX3_image 17 = .ok (.ireturn, 1) := by decide +kernel
theorem dX3_undo_0 : decode cX3_undo 0 = .ok (.aload_n 0, 1) := by decide +kernel
theorem dX3_undo_1 : decode cX3_undo 1 = .ok (.getfield 22, 3) := by decide +kernel
theorem dX3_undo_4 : decode cX3_undo 4 = .ok (.ifCond .ne 9, 3) := by decide +kernel
theorem dX3_undo_7 : decode cX3_undo 7 = .ok (.aload_n 0, 1) := by decide +kernel
theorem dX3_undo_8 : decode cX3_undo 8 = .ok (.iconst 3, 1) := by decide +kernel
theorem dX3_undo_9 : decode cX3_undo 9 = .ok (.invokevirtual 51, 3) := by decide +kernel
theorem dX3_undo_12 : decode cX3_undo 12 = .ok (.ireturn, 1) := by decide +kernel
theorem dX3_undo_13 : decode cX3_undo 13 = .ok (.aload_n 0, 1) := by decide +kernel
theorem dX3_undo_14 : decode cX3_undo 14 = .ok (.getfield 10, 3) := by decide +kernel
theorem dX3_undo_17 : decode cX3_undo 17 = .ok (.aload_n 0, 1) := by decide +kernel
theorem dX3_undo_18 : decode cX3_undo 18 = .ok (.getfield 19, 3) := by decide +kernel
theorem dX3_undo_21 : decode cX3_undo 21 = .ok (.invokevirtual 154, 3) := by decide +kernel
theorem dX3_undo_24 : decode cX3_undo 24 = .ok (.aload_n 0, 1) := by decide +kernel
theorem dX3_undo_25 : decode cX3_undo 25 = .ok (.getfield 10, 3) := by decide +kernel
theorem dX3_undo_28 : decode cX3_undo 28 = .ok (.getfield 117, 3) := by decide +kernel
theorem dX3_undo_31 : decode cX3_undo 31 = .ok (.ireturn, 1) := by decide +kernel
theorem dX3_tear_0 : decode cX3_tear 0 = .ok (.aload_n 0, 1) := by decide +kernel
theorem dX3_tear_1 : decode cX3_tear 1 = .ok (.getfield 22, 3) := by decide +kernel
theorem dX3_tear_4 : decode cX3_tear 4 = .ok (.istore_n 1, 1) := by decide +kernel
theorem dX3_tear_5 : decode cX3_tear 5 = .ok (.aload_n 0, 1) := by decide +kernel
theorem dX3_tear_6 : decode cX3_tear 6 = .ok (.iconst 0, 1) := by decide +kernel
theorem dX3_tear_7 : decode cX3_tear 7 = .ok (.putfield 22, 3) := by decide +kernel
theorem dX3_tear_10 : decode cX3_tear 10 = .ok (.iload_n 1, 1) := by decide +kernel
theorem dX3_tear_11 : decode cX3_tear 11 = .ok (.ifCond .eq 7, 3) := by decide +kernel
theorem dX3_tear_14 : decode cX3_tear 14 = .ok (.iconst 1, 1) := by decide +kernel
theorem dX3_tear_15 : decode cX3_tear 15 = .ok (.goto 4, 3) := by decide +kernel
theorem dX3_tear_18 : decode cX3_tear 18 = .ok (.iconst 0, 1) := by decide +kernel
theorem dX3_tear_19 : decode cX3_tear 19 = .ok (.ireturn, 1) := by decide +kernel
theorem dX3_count_0 : decode cX3_count 0 = .ok (.iload_n 1, 1) := by decide +kernel
theorem dX3_count_1 : decode cX3_count 1 = .ok (.tableswitch 118 0 7 #[47, 55, 63, 74, 85, 94, 102, 110], 47) := by decide +kernel
theorem dX3_count_48 : decode cX3_count 48 = .ok (.aload_n 0, 1) := by decide +kernel
theorem dX3_count_49 : decode cX3_count 49 = .ok (.getfield 10, 3) := by decide +kernel
theorem dX3_count_52 : decode cX3_count 52 = .ok (.getfield 117, 3) := by decide +kernel
theorem dX3_count_55 : decode cX3_count 55 = .ok (.ireturn, 1) := by decide +kernel
theorem dX3_count_56 : decode cX3_count 56 = .ok (.aload_n 0, 1) := by decide +kernel
theorem dX3_count_57 : decode cX3_count 57 = .ok (.getfield 10, 3) := by decide +kernel
theorem dX3_count_60 : decode cX3_count 60 = .ok (.getfield 84, 3) := by decide +kernel
theorem dX3_count_63 : decode cX3_count 63 = .ok (.ireturn, 1) := by decide +kernel
theorem dX3_count_64 : decode cX3_count 64 = .ok (.aload_n 0, 1) := by decide +kernel
theorem dX3_count_65 : decode cX3_count 65 = .ok (.getfield 10, 3) := by decide +kernel
theorem dX3_count_68 : decode cX3_count 68 = .ok (.getfield 125, 3) := by decide +kernel
theorem dX3_count_71 : decode cX3_count 71 = .ok (.invokestatic 128, 3) := by decide +kernel
theorem dX3_count_74 : decode cX3_count 74 = .ok (.ireturn, 1) := by decide +kernel
theorem dX3_count_75 : decode cX3_count 75 = .ok (.aload_n 0, 1) := by decide +kernel
theorem dX3_count_76 : decode cX3_count 76 = .ok (.getfield 10, 3) := by decide +kernel
theorem dX3_count_79 : decode cX3_count 79 = .ok (.getfield 133, 3) := by decide +kernel
theorem dX3_count_82 : decode cX3_count 82 = .ok (.invokestatic 137, 3) := by decide +kernel
theorem dX3_count_85 : decode cX3_count 85 = .ok (.ireturn, 1) := by decide +kernel
theorem dX3_count_86 : decode cX3_count 86 = .ok (.aload_n 0, 1) := by decide +kernel
theorem dX3_count_87 : decode cX3_count 87 = .ok (.getfield 10, 3) := by decide +kernel
theorem dX3_count_90 : decode cX3_count 90 = .ok (.iconst (-1), 1) := by decide +kernel
theorem dX3_count_91 : decode cX3_count 91 = .ok (.invokevirtual 142, 3) := by decide +kernel
theorem dX3_count_94 : decode cX3_count 94 = .ok (.ireturn, 1) := by decide +kernel
theorem dX3_count_95 : decode cX3_count 95 = .ok (.aload_n 0, 1) := by decide +kernel
theorem dX3_count_96 : decode cX3_count 96 = .ok (.getfield 29, 3) := by decide +kernel
theorem dX3_count_99 : decode cX3_count 99 = .ok (.getfield 218, 3) := by decide +kernel
theorem dX3_count_102 : decode cX3_count 102 = .ok (.ireturn, 1) := by decide +kernel
theorem dX3_count_103 : decode cX3_count 103 = .ok (.aload_n 0, 1) := by decide +kernel
theorem dX3_count_104 : decode cX3_count 104 = .ok (.getfield 10, 3) := by decide +kernel
theorem dX3_count_107 : decode cX3_count 107 = .ok (.getfield 215, 3) := by decide +kernel
theorem dX3_count_110 : decode cX3_count 110 = .ok (.ireturn, 1) := by decide +kernel
theorem dX3_count_111 : decode cX3_count 111 = .ok (.aload_n 0, 1) := by decide +kernel
theorem dX3_count_112 : decode cX3_count 112 = .ok (.getfield 10, 3) := by decide +kernel
theorem dX3_count_115 : decode cX3_count 115 = .ok (.invokevirtual 275, 3) := by decide +kernel
theorem dX3_count_118 : decode cX3_count 118 = .ok (.ireturn, 1) := by decide +kernel
theorem dX3_count_119 : decode cX3_count 119 = .ok (.aload_n 0, 1) := by decide +kernel
theorem dX3_count_120 : decode cX3_count 120 = .ok (.iconst 0, 1) := by decide +kernel
theorem dX3_count_121 : decode cX3_count 121 = .ok (.invokevirtual 51, 3) := by decide +kernel
theorem dX3_count_124 : decode cX3_count 124 = .ok (.ireturn, 1) := by decide +kernel
theorem dX3_status_0 : decode cX3_status 0 = .ok (.iload_n 1, 1) := by decide +kernel
theorem dX3_status_1 : decode cX3_status 1 = .ok (.iconst (-1), 1) := by decide +kernel
theorem dX3_status_2 : decode cX3_status 2 = .ok (.if_icmp .lt 9, 3) := by decide +kernel
theorem dX3_status_5 : decode cX3_status 5 = .ok (.iload_n 1, 1) := by decide +kernel
theorem dX3_status_6 : decode cX3_status 6 = .ok (.bipush 7, 2) := by decide +kernel
theorem dX3_status_8 : decode cX3_status 8 = .ok (.if_icmp .lt 9, 3) := by decide +kernel
theorem dX3_status_11 : decode cX3_status 11 = .ok (.aload_n 0, 1) := by decide +kernel
theorem dX3_status_12 : decode cX3_status 12 = .ok (.iconst 0, 1) := by decide +kernel
theorem dX3_status_13 : decode cX3_status 13 = .ok (.invokevirtual 51, 3) := by decide +kernel
theorem dX3_status_16 : decode cX3_status 16 = .ok (.ireturn, 1) := by decide +kernel
theorem dX3_status_17 : decode cX3_status 17 = .ok (.iload_n 1, 1) := by decide +kernel
theorem dX3_status_18 : decode cX3_status 18 = .ok (.ifCond .lt 10, 3) := by decide +kernel
theorem dX3_status_21 : decode cX3_status 21 = .ok (.aload_n 0, 1) := by decide +kernel
theorem dX3_status_22 : decode cX3_status 22 = .ok (.getfield 40, 3) := by decide +kernel
theorem dX3_status_25 : decode cX3_status 25 = .ok (.iload_n 1, 1) := by decide +kernel
theorem dX3_status_26 : decode cX3_status 26 = .ok (.iaload, 1) := by decide +kernel
theorem dX3_status_27 : decode cX3_status 27 = .ok (.ireturn, 1) := by decide +kernel
theorem dX3_status_28 : decode cX3_status 28 = .ok (.iconst 0, 1) := by decide +kernel
theorem dX3_status_29 : decode cX3_status 29 = .ok (.istore_n 2, 1) := by decide +kernel
theorem dX3_status_30 : decode cX3_status 30 = .ok (.iconst 0, 1) := by decide +kernel
theorem dX3_status_31 : decode cX3_status 31 = .ok (.istore_n 3, 1) := by decide +kernel
theorem dX3_status_32 : decode cX3_status 32 = .ok (.iload_n 3, 1) := by decide +kernel
theorem dX3_status_33 : decode cX3_status 33 = .ok (.bipush 7, 2) := by decide +kernel
theorem dX3_status_35 : decode cX3_status 35 = .ok (.if_icmp .ge 18, 3) := by decide +kernel
theorem dX3_status_38 : decode cX3_status 38 = .ok (.iload_n 2, 1) := by decide +kernel
theorem dX3_status_39 : decode cX3_status 39 = .ok (.aload_n 0, 1) := by decide +kernel
theorem dX3_status_40 : decode cX3_status 40 = .ok (.getfield 40, 3) := by decide +kernel
theorem dX3_status_43 : decode cX3_status 43 = .ok (.iload_n 3, 1) := by decide +kernel
theorem dX3_status_44 : decode cX3_status 44 = .ok (.iaload, 1) := by decide +kernel
theorem dX3_status_45 : decode cX3_status 45 = .ok (.iadd, 1) := by decide +kernel
theorem dX3_status_46 : decode cX3_status 46 = .ok (.istore_n 2, 1) := by decide +kernel
theorem dX3_status_47 : decode cX3_status 47 = .ok (.iinc 3 1, 3) := by decide +kernel
theorem dX3_status_50 : decode cX3_status 50 = .ok (.goto (-18), 3) := by decide +kernel
theorem dX3_status_53 : decode cX3_status 53 = .ok (.iload_n 2, 1) := by decide +kernel
theorem dX3_status_54 : decode cX3_status 54 = .ok (.ireturn, 1) := by decide +kernel
theorem dX3_finding_0 : decode cX3_finding 0 = .ok (.iload_n 1, 1) := by decide +kernel
theorem dX3_finding_1 : decode cX3_finding 1 = .ok (.ifCond .lt 19, 3) := by decide +kernel
theorem dX3_finding_4 : decode cX3_finding 4 = .ok (.iload_n 1, 1) := by decide +kernel
theorem dX3_finding_5 : decode cX3_finding 5 = .ok (.bipush 7, 2) := by decide +kernel
theorem dX3_finding_7 : decode cX3_finding 7 = .ok (.if_icmp .ge 13, 3) := by decide +kernel
theorem dX3_finding_10 : decode cX3_finding 10 = .ok (.aload_n 0, 1) := by decide +kernel
theorem dX3_finding_11 : decode cX3_finding 11 = .ok (.getfield 40, 3) := by decide +kernel
theorem dX3_finding_14 : decode cX3_finding 14 = .ok (.iload_n 1, 1) := by decide +kernel
theorem dX3_finding_15 : decode cX3_finding 15 = .ok (.dup2, 1) := by decide +kernel
theorem dX3_finding_16 : decode cX3_finding 16 = .ok (.iaload, 1) := by decide +kernel
theorem dX3_finding_17 : decode cX3_finding 17 = .ok (.iconst 1, 1) := by decide +kernel
theorem dX3_finding_18 : decode cX3_finding 18 = .ok (.iadd, 1) := by decide +kernel
theorem dX3_finding_19 : decode cX3_finding 19 = .ok (.iastore, 1) := by decide +kernel
theorem dX3_finding_20 : decode cX3_finding 20 = .ok (.ldc_w 278, 3) := by decide +kernel
theorem dX3_finding_23 : decode cX3_finding 23 = .ok (.iload_n 1, 1) := by decide +kernel
theorem dX3_finding_24 : decode cX3_finding 24 = .ok (.isub, 1) := by decide +kernel
theorem dX3_finding_25 : decode cX3_finding 25 = .ok (.ireturn, 1) := by decide +kernel
theorem dX3_isBell_0 : decode cX3_isBell 0 = .ok (.iload_n 1, 1) := by decide +kernel
theorem dX3_isBell_1 : decode cX3_isBell 1 = .ok (.ifCond .lt 18, 3) := by decide +kernel
theorem dX3_isBell_4 : decode cX3_isBell 4 = .ok (.iload_n 1, 1) := by decide +kernel
theorem dX3_isBell_5 : decode cX3_isBell 5 = .ok (.aload_n 0, 1) := by decide +kernel
theorem dX3_isBell_6 : decode cX3_isBell 6 = .ok (.getfield 10, 3) := by decide +kernel
theorem dX3_isBell_9 : decode cX3_isBell 9 = .ok (.getfield 84, 3) := by decide +kernel
theorem dX3_isBell_12 : decode cX3_isBell 12 = .ok (.if_icmp .ge 7, 3) := by decide +kernel
theorem dX3_isBell_15 : decode cX3_isBell 15 = .ok (.iconst 1, 1) := by decide +kernel
theorem dX3_isBell_16 : decode cX3_isBell 16 = .ok (.goto 4, 3) := by decide +kernel
theorem dX3_isBell_19 : decode cX3_isBell 19 = .ok (.iconst 0, 1) := by decide +kernel
theorem dX3_isBell_20 : decode cX3_isBell 20 = .ok (.ireturn, 1) := by decide +kernel
theorem dX3_isCell_0 : decode cX3_isCell 0 = .ok (.iload_n 0, 1) := by decide +kernel
theorem dX3_isCell_1 : decode cX3_isCell 1 = .ok (.ifCond .lt 13, 3) := by decide +kernel
theorem dX3_isCell_4 : decode cX3_isCell 4 = .ok (.iload_n 0, 1) := by decide +kernel
theorem dX3_isCell_5 : decode cX3_isCell 5 = .ok (.bipush 64, 2) := by decide +kernel
theorem dX3_isCell_7 : decode cX3_isCell 7 = .ok (.if_icmp .ge 7, 3) := by decide +kernel
theorem dX3_isCell_10 : decode cX3_isCell 10 = .ok (.iconst 1, 1) := by decide +kernel
theorem dX3_isCell_11 : decode cX3_isCell 11 = .ok (.goto 4, 3) := by decide +kernel
theorem dX3_isCell_14 : decode cX3_isCell 14 = .ok (.iconst 0, 1) := by decide +kernel
theorem dX3_isCell_15 : decode cX3_isCell 15 = .ok (.ireturn, 1) := by decide +kernel
theorem dX3_isHunter_0 : decode cX3_isHunter 0 = .ok (.iload_n 0, 1) := by decide +kernel
theorem dX3_isHunter_1 : decode cX3_isHunter 1 = .ok (.ifCond .lt 12, 3) := by decide +kernel
theorem dX3_isHunter_4 : decode cX3_isHunter 4 = .ok (.iload_n 0, 1) := by decide +kernel
theorem dX3_isHunter_5 : decode cX3_isHunter 5 = .ok (.iconst 4, 1) := by decide +kernel
theorem dX3_isHunter_6 : decode cX3_isHunter 6 = .ok (.if_icmp .ge 7, 3) := by decide +kernel
theorem dX3_isHunter_9 : decode cX3_isHunter 9 = .ok (.iconst 1, 1) := by decide +kernel
theorem dX3_isHunter_10 : decode cX3_isHunter 10 = .ok (.goto 4, 3) := by decide +kernel
theorem dX3_isHunter_13 : decode cX3_isHunter 13 = .ok (.iconst 0, 1) := by decide +kernel
theorem dX3_isHunter_14 : decode cX3_isHunter 14 = .ok (.ireturn, 1) := by decide +kernel
theorem dX3_isKind_0 : decode cX3_isKind 0 = .ok (.iload_n 0, 1) := by decide +kernel
theorem dX3_isKind_1 : decode cX3_isKind 1 = .ok (.ifCond .lt 13, 3) := by decide +kernel
theorem dX3_isKind_4 : decode cX3_isKind 4 = .ok (.iload_n 0, 1) := by decide +kernel
theorem dX3_isKind_5 : decode cX3_isKind 5 = .ok (.bipush 7, 2) := by decide +kernel
theorem dX3_isKind_7 : decode cX3_isKind 7 = .ok (.if_icmp .ge 7, 3) := by decide +kernel
theorem dX3_isKind_10 : decode cX3_isKind 10 = .ok (.iconst 1, 1) := by decide +kernel
theorem dX3_isKind_11 : decode cX3_isKind 11 = .ok (.goto 4, 3) := by decide +kernel
theorem dX3_isKind_14 : decode cX3_isKind 14 = .ok (.iconst 0, 1) := by decide +kernel
theorem dX3_isKind_15 : decode cX3_isKind 15 = .ok (.ireturn, 1) := by decide +kernel
theorem dX3_isNote_0 : decode cX3_isNote 0 = .ok (.iload_n 0, 1) := by decide +kernel
theorem dX3_isNote_1 : decode cX3_isNote 1 = .ok (.ifCond .lt 13, 3) := by decide +kernel
theorem dX3_isNote_4 : decode cX3_isNote 4 = .ok (.iload_n 0, 1) := by decide +kernel
theorem dX3_isNote_5 : decode cX3_isNote 5 = .ok (.bipush 12, 2) := by decide +kernel
theorem dX3_isNote_7 : decode cX3_isNote 7 = .ok (.if_icmp .ge 7, 3) := by decide +kernel
theorem dX3_isNote_10 : decode cX3_isNote 10 = .ok (.iconst 1, 1) := by decide +kernel
theorem dX3_isNote_11 : decode cX3_isNote 11 = .ok (.goto 4, 3) := by decide +kernel
theorem dX3_isNote_14 : decode cX3_isNote 14 = .ok (.iconst 0, 1) := by decide +kernel
theorem dX3_isNote_15 : decode cX3_isNote 15 = .ok (.ireturn, 1) := by decide +kernel
theorem dX3_isWeight_0 : decode cX3_isWeight 0 = .ok (.iload_n 0, 1) := by decide +kernel
theorem dX3_isWeight_1 : decode cX3_isWeight 1 = .ok (.iconst 1, 1) := by decide +kernel
theorem dX3_isWeight_2 : decode cX3_isWeight 2 = .ok (.if_icmp .lt 13, 3) := by decide +kernel
theorem dX3_isWeight_5 : decode cX3_isWeight 5 = .ok (.iload_n 0, 1) := by decide +kernel
theorem dX3_isWeight_6 : decode cX3_isWeight 6 = .ok (.bipush 99, 2) := by decide +kernel
theorem dX3_isWeight_8 : decode cX3_isWeight 8 = .ok (.if_icmp .gt 7, 3) := by decide +kernel
theorem dX3_isWeight_11 : decode cX3_isWeight 11 = .ok (.iconst 1, 1) := by decide +kernel
theorem dX3_isWeight_12 : decode cX3_isWeight 12 = .ok (.goto 4, 3) := by decide +kernel
theorem dX3_isWeight_15 : decode cX3_isWeight 15 = .ok (.iconst 0, 1) := by decide +kernel
theorem dX3_isWeight_16 : decode cX3_isWeight 16 = .ok (.ireturn, 1) := by decide +kernel
theorem dX3_isStock_0 : decode cX3_isStock 0 = .ok (.iload_n 0, 1) := by decide +kernel
theorem dX3_isStock_1 : decode cX3_isStock 1 = .ok (.ifCond .lt 14, 3) := by decide +kernel
theorem dX3_isStock_4 : decode cX3_isStock 4 = .ok (.iload_n 0, 1) := by decide +kernel
theorem dX3_isStock_5 : decode cX3_isStock 5 = .ok (.sipush 9999, 3) := by decide +kernel
theorem dX3_isStock_8 : decode cX3_isStock 8 = .ok (.if_icmp .gt 7, 3) := by decide +kernel
theorem dX3_isStock_11 : decode cX3_isStock 11 = .ok (.iconst 1, 1) := by decide +kernel
theorem dX3_isStock_12 : decode cX3_isStock 12 = .ok (.goto 4, 3) := by decide +kernel
theorem dX3_isStock_15 : decode cX3_isStock 15 = .ok (.iconst 0, 1) := by decide +kernel
theorem dX3_isStock_16 : decode cX3_isStock 16 = .ok (.ireturn, 1) := by decide +kernel
theorem dX3_isSpot_0 : decode cX3_isSpot 0 = .ok (.iload_n 0, 1) := by decide +kernel
theorem dX3_isSpot_1 : decode cX3_isSpot 1 = .ok (.ifCond .lt 13, 3) := by decide +kernel
theorem dX3_isSpot_4 : decode cX3_isSpot 4 = .ok (.iload_n 0, 1) := by decide +kernel
theorem dX3_isSpot_5 : decode cX3_isSpot 5 = .ok (.bipush 10, 2) := by decide +kernel
theorem dX3_isSpot_7 : decode cX3_isSpot 7 = .ok (.if_icmp .ge 7, 3) := by decide +kernel
theorem dX3_isSpot_10 : decode cX3_isSpot 10 = .ok (.iconst 1, 1) := by decide +kernel
theorem dX3_isSpot_11 : decode cX3_isSpot 11 = .ok (.goto 4, 3) := by decide +kernel
theorem dX3_isSpot_14 : decode cX3_isSpot 14 = .ok (.iconst 0, 1) := by decide +kernel
theorem dX3_isSpot_15 : decode cX3_isSpot 15 = .ok (.ireturn, 1) := by decide +kernel
theorem dX3_isSheet_0 : decode cX3_isSheet 0 = .ok (.iload_n 0, 1) := by decide +kernel
theorem dX3_isSheet_1 : decode cX3_isSheet 1 = .ok (.ifCond .lt 12, 3) := by decide +kernel
theorem dX3_isSheet_4 : decode cX3_isSheet 4 = .ok (.iload_n 0, 1) := by decide +kernel
theorem dX3_isSheet_5 : decode cX3_isSheet 5 = .ok (.iconst 4, 1) := by decide +kernel
theorem dX3_isSheet_6 : decode cX3_isSheet 6 = .ok (.if_icmp .ge 7, 3) := by decide +kernel
theorem dX3_isSheet_9 : decode cX3_isSheet 9 = .ok (.iconst 1, 1) := by decide +kernel
theorem dX3_isSheet_10 : decode cX3_isSheet 10 = .ok (.goto 4, 3) := by decide +kernel
theorem dX3_isSheet_13 : decode cX3_isSheet 13 = .ok (.iconst 0, 1) := by decide +kernel
theorem dX3_isSheet_14 : decode cX3_isSheet 14 = .ok (.ireturn, 1) := by decide +kernel
theorem dX3_isTrait_0 : decode cX3_isTrait 0 = .ok (.iload_n 0, 1) := by decide +kernel
theorem dX3_isTrait_1 : decode cX3_isTrait 1 = .ok (.ifCond .lt 12, 3) := by decide +kernel
theorem dX3_isTrait_4 : decode cX3_isTrait 4 = .ok (.iload_n 0, 1) := by decide +kernel
theorem dX3_isTrait_5 : decode cX3_isTrait 5 = .ok (.iconst 4, 1) := by decide +kernel
theorem dX3_isTrait_6 : decode cX3_isTrait 6 = .ok (.if_icmp .gt 7, 3) := by decide +kernel
theorem dX3_isTrait_9 : decode cX3_isTrait 9 = .ok (.iconst 1, 1) := by decide +kernel
theorem dX3_isTrait_10 : decode cX3_isTrait 10 = .ok (.goto 4, 3) := by decide +kernel
theorem dX3_isTrait_13 : decode cX3_isTrait 13 = .ok (.iconst 0, 1) := by decide +kernel
theorem dX3_isTrait_14 : decode cX3_isTrait 14 = .ok (.ireturn, 1) := by decide +kernel
theorem dX3_suits_0 : decode cX3_suits 0 = .ok (.iload_n 0, 1) := by decide +kernel
theorem dX3_suits_1 : decode cX3_suits 1 = .ok (.tableswitch 51 0 3 #[31, 36, 41, 46], 31) := by decide +kernel
theorem dX3_suits_32 : decode cX3_suits 32 = .ok (.iload_n 1, 1) := by decide +kernel
theorem dX3_suits_33 : decode cX3_suits 33 = .ok (.invokestatic 81, 3) := by decide +kernel
theorem dX3_suits_36 : decode cX3_suits 36 = .ok (.ireturn, 1) := by decide +kernel
theorem dX3_suits_37 : decode cX3_suits 37 = .ok (.iload_n 1, 1) := by decide +kernel
theorem dX3_suits_38 : decode cX3_suits 38 = .ok (.invokestatic 47, 3) := by decide +kernel
theorem dX3_suits_41 : decode cX3_suits 41 = .ok (.ireturn, 1) := by decide +kernel
theorem dX3_suits_42 : decode cX3_suits 42 = .ok (.iload_n 1, 1) := by decide +kernel
theorem dX3_suits_43 : decode cX3_suits 43 = .ok (.invokestatic 266, 3) := by decide +kernel
theorem dX3_suits_46 : decode cX3_suits 46 = .ok (.ireturn, 1) := by decide +kernel
theorem dX3_suits_47 : decode cX3_suits 47 = .ok (.iload_n 1, 1) := by decide +kernel
theorem dX3_suits_48 : decode cX3_suits 48 = .ok (.invokestatic 279, 3) := by decide +kernel
theorem dX3_suits_51 : decode cX3_suits 51 = .ok (.ireturn, 1) := by decide +kernel
theorem dX3_suits_52 : decode cX3_suits 52 = .ok (.iload_n 1, 1) := by decide +kernel
theorem dX3_suits_53 : decode cX3_suits 53 = .ok (.ifCond .eq 8, 3) := by decide +kernel
theorem dX3_suits_56 : decode cX3_suits 56 = .ok (.iload_n 1, 1) := by decide +kernel
theorem dX3_suits_57 : decode cX3_suits 57 = .ok (.iconst 1, 1) := by decide +kernel
theorem dX3_suits_58 : decode cX3_suits 58 = .ok (.if_icmp .ne 7, 3) := by decide +kernel
theorem dX3_suits_61 : decode cX3_suits 61 = .ok (.iconst 1, 1) := by decide +kernel
theorem dX3_suits_62 : decode cX3_suits 62 = .ok (.goto 4, 3) := by decide +kernel
theorem dX3_suits_65 : decode cX3_suits 65 = .ok (.iconst 0, 1) := by decide +kernel
theorem dX3_suits_66 : decode cX3_suits 66 = .ok (.ireturn, 1) := by decide +kernel
theorem dX3_soundFault_0 : decode cX3_soundFault 0 = .ok (.iload_n 1, 1) := by decide +kernel
theorem dX3_soundFault_1 : decode cX3_soundFault 1 = .ok (.invokestatic 237, 3) := by decide +kernel
theorem dX3_soundFault_4 : decode cX3_soundFault 4 = .ok (.ifCond .ne 5, 3) := by decide +kernel
theorem dX3_soundFault_7 : decode cX3_soundFault 7 = .ok (.iconst 0, 1) := by decide +kernel
theorem dX3_soundFault_8 : decode cX3_soundFault 8 = .ok (.ireturn, 1) := by decide +kernel
theorem dX3_soundFault_9 : decode cX3_soundFault 9 = .ok (.aload_n 0, 1) := by decide +kernel
theorem dX3_soundFault_10 : decode cX3_soundFault 10 = .ok (.getfield 35, 3) := by decide +kernel
theorem dX3_soundFault_13 : decode cX3_soundFault 13 = .ok (.iload_n 1, 1) := by decide +kernel
theorem dX3_soundFault_14 : decode cX3_soundFault 14 = .ok (.aaload, 1) := by decide +kernel
theorem dX3_soundFault_15 : decode cX3_soundFault 15 = .ok (.invokevirtual 245, 3) := by decide +kernel
theorem dX3_soundFault_18 : decode cX3_soundFault 18 = .ok (.ifCond .eq 5, 3) := by decide +kernel
theorem dX3_soundFault_21 : decode cX3_soundFault 21 = .ok (.iconst 5, 1) := by decide +kernel
theorem dX3_soundFault_22 : decode cX3_soundFault 22 = .ok (.ireturn, 1) := by decide +kernel
theorem dX3_soundFault_23 : decode cX3_soundFault 23 = .ok (.iload_n 2, 1) := by decide +kernel
theorem dX3_soundFault_24 : decode cX3_soundFault 24 = .ok (.invokestatic 279, 3) := by decide +kernel
theorem dX3_soundFault_27 : decode cX3_soundFault 27 = .ok (.ifCond .ne 5, 3) := by decide +kernel
theorem dX3_soundFault_30 : decode cX3_soundFault 30 = .ok (.iconst 0, 1) := by decide +kernel
theorem dX3_soundFault_31 : decode cX3_soundFault 31 = .ok (.ireturn, 1) := by decide +kernel
theorem dX3_soundFault_32 : decode cX3_soundFault 32 = .ok (.aload_n 0, 1) := by decide +kernel
theorem dX3_soundFault_33 : decode cX3_soundFault 33 = .ok (.getfield 35, 3) := by decide +kernel
theorem dX3_soundFault_36 : decode cX3_soundFault 36 = .ok (.iload_n 1, 1) := by decide +kernel
theorem dX3_soundFault_37 : decode cX3_soundFault 37 = .ok (.aaload, 1) := by decide +kernel
theorem dX3_soundFault_38 : decode cX3_soundFault 38 = .ok (.invokevirtual 282, 3) := by decide +kernel
theorem dX3_soundFault_41 : decode cX3_soundFault 41 = .ok (.ifCond .eq 7, 3) := by decide +kernel
theorem dX3_soundFault_44 : decode cX3_soundFault 44 = .ok (.iconst (-1), 1) := by decide +kernel
theorem dX3_soundFault_45 : decode cX3_soundFault 45 = .ok (.goto 4, 3) := by decide +kernel
theorem dX3_soundFault_48 : decode cX3_soundFault 48 = .ok (.iconst 4, 1) := by decide +kernel
theorem dX3_soundFault_49 : decode cX3_soundFault 49 = .ok (.ireturn, 1) := by decide +kernel
theorem dX3_standingCells_0 : decode cX3_standingCells 0 = .ok (.lconst 0, 1) := by decide +kernel
theorem dX3_standingCells_1 : decode cX3_standingCells 1 = .ok (.lstore_n 2, 1) := by decide +kernel
theorem dX3_standingCells_2 : decode cX3_standingCells 2 = .ok (.iconst 0, 1) := by decide +kernel
theorem dX3_standingCells_3 : decode cX3_standingCells 3 = .ok (.istore 4, 2) := by decide +kernel
theorem dX3_standingCells_5 : decode cX3_standingCells 5 = .ok (.iload 4, 2) := by decide +kernel
theorem dX3_standingCells_7 : decode cX3_standingCells 7 = .ok (.bipush 64, 2) := by decide +kernel
theorem dX3_standingCells_9 : decode cX3_standingCells 9 = .ok (.if_icmp .ge 26, 3) := by decide +kernel
theorem dX3_standingCells_12 : decode cX3_standingCells 12 = .ok (.aload_n 0, 1) := by decide +kernel
theorem dX3_standingCells_13 : decode cX3_standingCells 13 = .ok (.iload_n 1, 1) := by decide +kernel
theorem dX3_standingCells_14 : decode cX3_standingCells 14 = .ok (.iload 4, 2) := by decide +kernel
theorem dX3_standingCells_16 : decode cX3_standingCells 16 = .ok (.invokevirtual 189, 3) := by decide +kernel
theorem dX3_standingCells_19 : decode cX3_standingCells 19 = .ok (.ifCond .eq 10, 3) := by decide +kernel
theorem dX3_standingCells_22 : decode cX3_standingCells 22 = .ok (.lload_n 2, 1) := by decide +kernel
theorem dX3_standingCells_23 : decode cX3_standingCells 23 = .ok (.lconst 1, 1) := by decide +kernel
theorem dX3_standingCells_24 : decode cX3_standingCells 24 = .ok (.iload 4, 2) := by decide +kernel
theorem dX3_standingCells_26 : decode cX3_standingCells 26 = .ok (.lshl, 1) := by decide +kernel
theorem dX3_standingCells_27 : decode cX3_standingCells 27 = .ok (.lor, 1) := by decide +kernel
theorem dX3_standingCells_28 : decode cX3_standingCells 28 = .ok (.lstore_n 2, 1) := by decide +kernel
theorem dX3_standingCells_29 : decode cX3_standingCells 29 = .ok (.iinc 4 1, 3) := by decide +kernel
theorem dX3_standingCells_32 : decode cX3_standingCells 32 = .ok (.goto (-27), 3) := by decide +kernel
theorem dX3_standingCells_35 : decode cX3_standingCells 35 = .ok (.lload_n 2, 1) := by decide +kernel
theorem dX3_standingCells_36 : decode cX3_standingCells 36 = .ok (.lreturn, 1) := by decide +kernel
theorem dX3_leftAtWorst_0 : decode cX3_leftAtWorst 0 = .ok (.bipush 15, 2) := by decide +kernel
theorem dX3_leftAtWorst_2 : decode cX3_leftAtWorst 2 = .ok (.istore 5, 2) := by decide +kernel
theorem dX3_leftAtWorst_4 : decode cX3_leftAtWorst 4 = .ok (.iconst 0, 1) := by decide +kernel
theorem dX3_leftAtWorst_5 : decode cX3_leftAtWorst 5 = .ok (.istore 6, 2) := by decide +kernel
theorem dX3_leftAtWorst_7 : decode cX3_leftAtWorst 7 = .ok (.iload 6, 2) := by decide +kernel
theorem dX3_leftAtWorst_9 : decode cX3_leftAtWorst 9 = .ok (.iload 5, 2) := by decide +kernel
theorem dX3_leftAtWorst_11 : decode cX3_leftAtWorst 11 = .ok (.if_icmp .gt 17, 3) := by decide +kernel
theorem dX3_leftAtWorst_14 : decode cX3_leftAtWorst 14 = .ok (.aload_n 0, 1) := by decide +kernel
theorem dX3_leftAtWorst_15 : decode cX3_leftAtWorst 15 = .ok (.getfield 44, 3) := by decide +kernel
theorem dX3_leftAtWorst_18 : decode cX3_leftAtWorst 18 = .ok (.iload 6, 2) := by decide +kernel
theorem dX3_leftAtWorst_20 : decode cX3_leftAtWorst 20 = .ok (.iconst 0, 1) := by decide +kernel
theorem dX3_leftAtWorst_21 : decode cX3_leftAtWorst 21 = .ok (.iastore, 1) := by decide +kernel
theorem dX3_leftAtWorst_22 : decode cX3_leftAtWorst 22 = .ok (.iinc 6 1, 3) := by decide +kernel
theorem dX3_leftAtWorst_25 : decode cX3_leftAtWorst 25 = .ok (.goto (-18), 3) := by decide +kernel
theorem dX3_leftAtWorst_28 : decode cX3_leftAtWorst 28 = .ok (.iconst 0, 1) := by decide +kernel
theorem dX3_leftAtWorst_29 : decode cX3_leftAtWorst 29 = .ok (.istore 6, 2) := by decide +kernel
theorem dX3_leftAtWorst_31 : decode cX3_leftAtWorst 31 = .ok (.iconst 0, 1) := by decide +kernel
theorem dX3_leftAtWorst_32 : decode cX3_leftAtWorst 32 = .ok (.istore 7, 2) := by decide +kernel
theorem dX3_leftAtWorst_34 : decode cX3_leftAtWorst 34 = .ok (.iload 7, 2) := by decide +kernel
theorem dX3_leftAtWorst_36 : decode cX3_leftAtWorst 36 = .ok (.bipush 64, 2) := by decide +kernel
theorem dX3_leftAtWorst_38 : decode cX3_leftAtWorst 38 = .ok (.if_icmp .ge 70, 3) := by decide +kernel
theorem dX3_leftAtWorst_41 : decode cX3_leftAtWorst 41 = .ok (.lload_n 1, 1) := by decide +kernel
theorem dX3_leftAtWorst_42 : decode cX3_leftAtWorst 42 = .ok (.iload 7, 2) := by decide +kernel
theorem dX3_leftAtWorst_44 : decode cX3_leftAtWorst 44 = .ok (.invokestatic 168, 3) := by decide +kernel
theorem dX3_leftAtWorst_47 : decode cX3_leftAtWorst 47 = .ok (.ifCond .eq 55, 3) := by decide +kernel
theorem dX3_leftAtWorst_50 : decode cX3_leftAtWorst 50 = .ok (.iload 7, 2) := by decide +kernel
theorem dX3_leftAtWorst_52 : decode cX3_leftAtWorst 52 = .ok (.iload_n 3, 1) := by decide +kernel
theorem dX3_leftAtWorst_53 : decode cX3_leftAtWorst 53 = .ok (.invokestatic 148, 3) := by decide +kernel
theorem dX3_leftAtWorst_56 : decode cX3_leftAtWorst 56 = .ok (.istore 8, 2) := by decide +kernel
theorem dX3_leftAtWorst_58 : decode cX3_leftAtWorst 58 = .ok (.iload 4, 2) := by decide +kernel
theorem dX3_leftAtWorst_60 : decode cX3_leftAtWorst 60 = .ok (.iload 8, 2) := by decide +kernel
theorem dX3_leftAtWorst_62 : decode cX3_leftAtWorst 62 = .ok (.invokestatic 151, 3) := by decide +kernel
theorem dX3_leftAtWorst_65 : decode cX3_leftAtWorst 65 = .ok (.ifCond .le 8, 3) := by decide +kernel
theorem dX3_leftAtWorst_68 : decode cX3_leftAtWorst 68 = .ok (.iload 8, 2) := by decide +kernel
theorem dX3_leftAtWorst_70 : decode cX3_leftAtWorst 70 = .ok (.goto 5, 3) := by decide +kernel
theorem dX3_leftAtWorst_73 : decode cX3_leftAtWorst 73 = .ok (.iload 5, 2) := by decide +kernel
theorem dX3_leftAtWorst_75 : decode cX3_leftAtWorst 75 = .ok (.istore 9, 2) := by decide +kernel
theorem dX3_leftAtWorst_77 : decode cX3_leftAtWorst 77 = .ok (.aload_n 0, 1) := by decide +kernel
theorem dX3_leftAtWorst_78 : decode cX3_leftAtWorst 78 = .ok (.getfield 44, 3) := by decide +kernel
theorem dX3_leftAtWorst_81 : decode cX3_leftAtWorst 81 = .ok (.iload 9, 2) := by decide +kernel
theorem dX3_leftAtWorst_83 : decode cX3_leftAtWorst 83 = .ok (.dup2, 1) := by decide +kernel
theorem dX3_leftAtWorst_84 : decode cX3_leftAtWorst 84 = .ok (.iaload, 1) := by decide +kernel
theorem dX3_leftAtWorst_85 : decode cX3_leftAtWorst 85 = .ok (.iconst 1, 1) := by decide +kernel
theorem dX3_leftAtWorst_86 : decode cX3_leftAtWorst 86 = .ok (.iadd, 1) := by decide +kernel
theorem dX3_leftAtWorst_87 : decode cX3_leftAtWorst 87 = .ok (.iastore, 1) := by decide +kernel
theorem dX3_leftAtWorst_88 : decode cX3_leftAtWorst 88 = .ok (.iload 6, 2) := by decide +kernel
theorem dX3_leftAtWorst_90 : decode cX3_leftAtWorst 90 = .ok (.aload_n 0, 1) := by decide +kernel
theorem dX3_leftAtWorst_91 : decode cX3_leftAtWorst 91 = .ok (.getfield 44, 3) := by decide +kernel
theorem dX3_leftAtWorst_94 : decode cX3_leftAtWorst 94 = .ok (.iload 9, 2) := by decide +kernel
theorem dX3_leftAtWorst_96 : decode cX3_leftAtWorst 96 = .ok (.iaload, 1) := by decide +kernel
theorem dX3_leftAtWorst_97 : decode cX3_leftAtWorst 97 = .ok (.invokestatic 285, 3) := by decide +kernel
theorem dX3_leftAtWorst_100 : decode cX3_leftAtWorst 100 = .ok (.istore 6, 2) := by decide +kernel
theorem dX3_leftAtWorst_102 : decode cX3_leftAtWorst 102 = .ok (.iinc 7 1, 3) := by decide +kernel
theorem dX3_leftAtWorst_105 : decode cX3_leftAtWorst 105 = .ok (.goto (-71), 3) := by decide +kernel
theorem dX3_leftAtWorst_108 : decode cX3_leftAtWorst 108 = .ok (.iload 6, 2) := by decide +kernel
theorem dX3_leftAtWorst_110 : decode cX3_leftAtWorst 110 = .ok (.ireturn, 1) := by decide +kernel
theorem dX3_stockBehind_0 : decode cX3_stockBehind 0 = .ok (.iload_n 0, 1) := by decide +kernel
theorem dX3_stockBehind_1 : decode cX3_stockBehind 1 = .ok (.istore_n 3, 1) := by decide +kernel
theorem dX3_stockBehind_2 : decode cX3_stockBehind 2 = .ok (.iconst 0, 1) := by decide +kernel
theorem dX3_stockBehind_3 : decode cX3_stockBehind 3 = .ok (.istore 4, 2) := by decide +kernel
theorem dX3_stockBehind_5 : decode cX3_stockBehind 5 = .ok (.iload 4, 2) := by decide +kernel
theorem dX3_stockBehind_7 : decode cX3_stockBehind 7 = .ok (.iload_n 2, 1) := by decide +kernel
theorem dX3_stockBehind_8 : decode cX3_stockBehind 8 = .ok (.if_icmp .ge 30, 3) := by decide +kernel
theorem dX3_stockBehind_11 : decode cX3_stockBehind 11 = .ok (.iload_n 3, 1) := by decide +kernel
theorem dX3_stockBehind_12 : decode cX3_stockBehind 12 = .ok (.iload_n 1, 1) := by decide +kernel
theorem dX3_stockBehind_13 : decode cX3_stockBehind 13 = .ok (.iload_n 3, 1) := by decide +kernel
theorem dX3_stockBehind_14 : decode cX3_stockBehind 14 = .ok (.invokestatic 290, 3) := by decide +kernel
theorem dX3_stockBehind_17 : decode cX3_stockBehind 17 = .ok (.isub, 1) := by decide +kernel
theorem dX3_stockBehind_18 : decode cX3_stockBehind 18 = .ok (.istore_n 3, 1) := by decide +kernel
theorem dX3_stockBehind_19 : decode cX3_stockBehind 19 = .ok (.iload_n 3, 1) := by decide +kernel
theorem dX3_stockBehind_20 : decode cX3_stockBehind 20 = .ok (.iload_n 3, 1) := by decide +kernel
theorem dX3_stockBehind_21 : decode cX3_stockBehind 21 = .ok (.bipush 10, 2) := by decide +kernel
theorem dX3_stockBehind_23 : decode cX3_stockBehind 23 = .ok (.idiv, 1) := by decide +kernel
theorem dX3_stockBehind_24 : decode cX3_stockBehind 24 = .ok (.iadd, 1) := by decide +kernel
theorem dX3_stockBehind_25 : decode cX3_stockBehind 25 = .ok (.sipush 9999, 3) := by decide +kernel
theorem dX3_stockBehind_28 : decode cX3_stockBehind 28 = .ok (.invokestatic 290, 3) := by decide +kernel
theorem dX3_stockBehind_31 : decode cX3_stockBehind 31 = .ok (.istore_n 3, 1) := by decide +kernel
theorem dX3_stockBehind_32 : decode cX3_stockBehind 32 = .ok (.iinc 4 1, 3) := by decide +kernel
theorem dX3_stockBehind_35 : decode cX3_stockBehind 35 = .ok (.goto (-30), 3) := by decide +kernel
theorem dX3_stockBehind_38 : decode cX3_stockBehind 38 = .ok (.iload_n 3, 1) := by decide +kernel
theorem dX3_stockBehind_39 : decode cX3_stockBehind 39 = .ok (.ireturn, 1) := by decide +kernel
theorem dX3_holds_0 : decode cX3_holds 0 = .ok (.lload_n 0, 1) := by decide +kernel
theorem dX3_holds_1 : decode cX3_holds 1 = .ok (.iload_n 2, 1) := by decide +kernel
theorem dX3_holds_2 : decode cX3_holds 2 = .ok (.lushr, 1) := by decide +kernel
theorem dX3_holds_3 : decode cX3_holds 3 = .ok (.lconst 1, 1) := by decide +kernel
theorem dX3_holds_4 : decode cX3_holds 4 = .ok (.land, 1) := by decide +kernel
theorem dX3_holds_5 : decode cX3_holds 5 = .ok (.lconst 1, 1) := by decide +kernel
theorem dX3_holds_6 : decode cX3_holds 6 = .ok (.lcmp, 1) := by decide +kernel
theorem dX3_holds_7 : decode cX3_holds 7 = .ok (.ifCond .ne 7, 3) := by decide +kernel
theorem dX3_holds_10 : decode cX3_holds 10 = .ok (.iconst 1, 1) := by decide +kernel
theorem dX3_holds_11 : decode cX3_holds 11 = .ok (.goto 4, 3) := by decide +kernel
theorem dX3_holds_14 : decode cX3_holds 14 = .ok (.iconst 0, 1) := by decide +kernel
theorem dX3_holds_15 : decode cX3_holds 15 = .ok (.ireturn, 1) := by decide +kernel
theorem dX3_apart_0 : decode cX3_apart 0 = .ok (.iload_n 0, 1) := by decide +kernel
theorem dX3_apart_1 : decode cX3_apart 1 = .ok (.bipush 8, 2) := by decide +kernel
theorem dX3_apart_3 : decode cX3_apart 3 = .ok (.idiv, 1) := by decide +kernel
theorem dX3_apart_4 : decode cX3_apart 4 = .ok (.iload_n 1, 1) := by decide +kernel
theorem dX3_apart_5 : decode cX3_apart 5 = .ok (.bipush 8, 2) := by decide +kernel
theorem dX3_apart_7 : decode cX3_apart 7 = .ok (.idiv, 1) := by decide +kernel
theorem dX3_apart_8 : decode cX3_apart 8 = .ok (.isub, 1) := by decide +kernel
theorem dX3_apart_9 : decode cX3_apart 9 = .ok (.istore_n 2, 1) := by decide +kernel
theorem dX3_apart_10 : decode cX3_apart 10 = .ok (.iload_n 0, 1) := by decide +kernel
theorem dX3_apart_11 : decode cX3_apart 11 = .ok (.bipush 8, 2) := by decide +kernel
theorem dX3_apart_13 : decode cX3_apart 13 = .ok (.irem, 1) := by decide +kernel
theorem dX3_apart_14 : decode cX3_apart 14 = .ok (.iload_n 1, 1) := by decide +kernel
theorem dX3_apart_15 : decode cX3_apart 15 = .ok (.bipush 8, 2) := by decide +kernel
theorem dX3_apart_17 : decode cX3_apart 17 = .ok (.irem, 1) := by decide +kernel
theorem dX3_apart_18 : decode cX3_apart 18 = .ok (.isub, 1) := by decide +kernel
theorem dX3_apart_19 : decode cX3_apart 19 = .ok (.istore_n 3, 1) := by decide +kernel
theorem dX3_apart_20 : decode cX3_apart 20 = .ok (.iload_n 2, 1) := by decide +kernel
theorem dX3_apart_21 : decode cX3_apart 21 = .ok (.ifCond .ge 8, 3) := by decide +kernel
theorem dX3_apart_24 : decode cX3_apart 24 = .ok (.iload_n 2, 1) := by decide +kernel
theorem dX3_apart_25 : decode cX3_apart 25 = .ok (.ineg, 1) := by decide +kernel
theorem dX3_apart_26 : decode cX3_apart 26 = .ok (.goto 4, 3) := by decide +kernel
theorem dX3_apart_29 : decode cX3_apart 29 = .ok (.iload_n 2, 1) := by decide +kernel
theorem dX3_apart_30 : decode cX3_apart 30 = .ok (.iload_n 3, 1) := by decide +kernel
theorem dX3_apart_31 : decode cX3_apart 31 = .ok (.ifCond .ge 8, 3) := by decide +kernel
theorem dX3_apart_34 : decode cX3_apart 34 = .ok (.iload_n 3, 1) := by decide +kernel
theorem dX3_apart_35 : decode cX3_apart 35 = .ok (.ineg, 1) := by decide +kernel
theorem dX3_apart_36 : decode cX3_apart 36 = .ok (.goto 4, 3) := by decide +kernel
theorem dX3_apart_39 : decode cX3_apart 39 = .ok (.iload_n 3, 1) := by decide +kernel
theorem dX3_apart_40 : decode cX3_apart 40 = .ok (.iadd, 1) := by decide +kernel
theorem dX3_apart_41 : decode cX3_apart 41 = .ok (.ireturn, 1) := by decide +kernel
theorem dX3_loudness_0 : decode cX3_loudness 0 = .ok (.iconst 0, 1) := by decide +kernel
theorem dX3_loudness_1 : decode cX3_loudness 1 = .ok (.iload_n 0, 1) := by decide +kernel
theorem dX3_loudness_2 : decode cX3_loudness 2 = .ok (.iconst 3, 1) := by decide +kernel
theorem dX3_loudness_3 : decode cX3_loudness 3 = .ok (.iload_n 1, 1) := by decide +kernel
theorem dX3_loudness_4 : decode cX3_loudness 4 = .ok (.imul, 1) := by decide +kernel
theorem dX3_loudness_5 : decode cX3_loudness 5 = .ok (.isub, 1) := by decide +kernel
theorem dX3_loudness_6 : decode cX3_loudness 6 = .ok (.invokestatic 285, 3) := by decide +kernel
theorem dX3_loudness_9 : decode cX3_loudness 9 = .ok (.ireturn, 1) := by decide +kernel
theorem dX3_isUnder_0 : decode cX3_isUnder 0 = .ok (.iload_n 0, 1) := by decide +kernel
theorem dX3_isUnder_1 : decode cX3_isUnder 1 = .ok (.istore_n 2, 1) := by decide +kernel
theorem dX3_isUnder_2 : decode cX3_isUnder 2 = .ok (.iconst 0, 1) := by decide +kernel
theorem dX3_isUnder_3 : decode cX3_isUnder 3 = .ok (.istore_n 3, 1) := by decide +kernel
theorem dX3_isUnder_4 : decode cX3_isUnder 4 = .ok (.iload_n 3, 1) := by decide +kernel
theorem dX3_isUnder_5 : decode cX3_isUnder 5 = .ok (.bipush 7, 2) := by decide +kernel
theorem dX3_isUnder_7 : decode cX3_isUnder 7 = .ok (.if_icmp .ge 30, 3) := by decide +kernel
theorem dX3_isUnder_10 : decode cX3_isUnder 10 = .ok (.iload_n 2, 1) := by decide +kernel
theorem dX3_isUnder_11 : decode cX3_isUnder 11 = .ok (.iload_n 1, 1) := by decide +kernel
theorem dX3_isUnder_12 : decode cX3_isUnder 12 = .ok (.if_icmp .eq 25, 3) := by decide +kernel
theorem dX3_isUnder_15 : decode cX3_isUnder 15 = .ok (.iload_n 2, 1) := by decide +kernel
theorem dX3_isUnder_16 : decode cX3_isUnder 16 = .ok (.ifCond .lt 21, 3) := by decide +kernel
theorem dX3_isUnder_19 : decode cX3_isUnder 19 = .ok (.iload_n 2, 1) := by decide +kernel
theorem dX3_isUnder_20 : decode cX3_isUnder 20 = .ok (.bipush 7, 2) := by decide +kernel
theorem dX3_isUnder_22 : decode cX3_isUnder 22 = .ok (.if_icmp .ge 15, 3) := by decide +kernel
theorem dX3_isUnder_25 : decode cX3_isUnder 25 = .ok (.getstatic 293, 3) := by decide +kernel
theorem dX3_isUnder_28 : decode cX3_isUnder 28 = .ok (.iload_n 2, 1) := by decide +kernel
theorem dX3_isUnder_29 : decode cX3_isUnder 29 = .ok (.iaload, 1) := by decide +kernel
theorem dX3_isUnder_30 : decode cX3_isUnder 30 = .ok (.istore_n 2, 1) := by decide +kernel
theorem dX3_isUnder_31 : decode cX3_isUnder 31 = .ok (.iinc 3 1, 3) := by decide +kernel
theorem dX3_isUnder_34 : decode cX3_isUnder 34 = .ok (.goto (-30), 3) := by decide +kernel
theorem dX3_isUnder_37 : decode cX3_isUnder 37 = .ok (.iload_n 2, 1) := by decide +kernel
theorem dX3_isUnder_38 : decode cX3_isUnder 38 = .ok (.iload_n 1, 1) := by decide +kernel
theorem dX3_isUnder_39 : decode cX3_isUnder 39 = .ok (.if_icmp .ne 7, 3) := by decide +kernel
theorem dX3_isUnder_42 : decode cX3_isUnder 42 = .ok (.iconst 1, 1) := by decide +kernel
theorem dX3_isUnder_43 : decode cX3_isUnder 43 = .ok (.goto 4, 3) := by decide +kernel
theorem dX3_isUnder_46 : decode cX3_isUnder 46 = .ok (.iconst 0, 1) := by decide +kernel
theorem dX3_isUnder_47 : decode cX3_isUnder 47 = .ok (.ireturn, 1) := by decide +kernel
theorem dX3_longestRun_0 : decode cX3_longestRun 0 = .ok (.iconst 0, 1) := by decide +kernel
theorem dX3_longestRun_1 : decode cX3_longestRun 1 = .ok (.istore_n 1, 1) := by decide +kernel
theorem dX3_longestRun_2 : decode cX3_longestRun 2 = .ok (.iconst 0, 1) := by decide +kernel
theorem dX3_longestRun_3 : decode cX3_longestRun 3 = .ok (.istore_n 2, 1) := by decide +kernel
theorem dX3_longestRun_4 : decode cX3_longestRun 4 = .ok (.iconst (-1), 1) := by decide +kernel
theorem dX3_longestRun_5 : decode cX3_longestRun 5 = .ok (.istore_n 3, 1) := by decide +kernel
theorem dX3_longestRun_6 : decode cX3_longestRun 6 = .ok (.iconst 0, 1) := by decide +kernel
theorem dX3_longestRun_7 : decode cX3_longestRun 7 = .ok (.istore 4, 2) := by decide +kernel
theorem dX3_longestRun_9 : decode cX3_longestRun 9 = .ok (.iload 4, 2) := by decide +kernel
theorem dX3_longestRun_11 : decode cX3_longestRun 11 = .ok (.bipush 12, 2) := by decide +kernel
theorem dX3_longestRun_13 : decode cX3_longestRun 13 = .ok (.if_icmp .ge 48, 3) := by decide +kernel
theorem dX3_longestRun_16 : decode cX3_longestRun 16 = .ok (.iload_n 0, 1) := by decide +kernel
theorem dX3_longestRun_17 : decode cX3_longestRun 17 = .ok (.i2l, 1) := by decide +kernel
theorem dX3_longestRun_18 : decode cX3_longestRun 18 = .ok (.iload 4, 2) := by decide +kernel
theorem dX3_longestRun_20 : decode cX3_longestRun 20 = .ok (.invokestatic 168, 3) := by decide +kernel
theorem dX3_longestRun_23 : decode cX3_longestRun 23 = .ok (.ifCond .eq 32, 3) := by decide +kernel
theorem dX3_longestRun_26 : decode cX3_longestRun 26 = .ok (.iload_n 2, 1) := by decide +kernel
theorem dX3_longestRun_27 : decode cX3_longestRun 27 = .ok (.ifCond .le 17, 3) := by decide +kernel
theorem dX3_longestRun_30 : decode cX3_longestRun 30 = .ok (.iload 4, 2) := by decide +kernel
theorem dX3_longestRun_32 : decode cX3_longestRun 32 = .ok (.iload_n 3, 1) := by decide +kernel
theorem dX3_longestRun_33 : decode cX3_longestRun 33 = .ok (.isub, 1) := by decide +kernel
theorem dX3_longestRun_34 : decode cX3_longestRun 34 = .ok (.iconst 2, 1) := by decide +kernel
theorem dX3_longestRun_35 : decode cX3_longestRun 35 = .ok (.if_icmp .gt 9, 3) := by decide +kernel
theorem dX3_longestRun_38 : decode cX3_longestRun 38 = .ok (.iload_n 2, 1) := by decide +kernel
theorem dX3_longestRun_39 : decode cX3_longestRun 39 = .ok (.iconst 1, 1) := by decide +kernel
theorem dX3_longestRun_40 : decode cX3_longestRun 40 = .ok (.iadd, 1) := by decide +kernel
theorem dX3_longestRun_41 : decode cX3_longestRun 41 = .ok (.goto 4, 3) := by decide +kernel
theorem dX3_longestRun_44 : decode cX3_longestRun 44 = .ok (.iconst 1, 1) := by decide +kernel
theorem dX3_longestRun_45 : decode cX3_longestRun 45 = .ok (.istore_n 2, 1) := by decide +kernel
theorem dX3_longestRun_46 : decode cX3_longestRun 46 = .ok (.iload 4, 2) := by decide +kernel
theorem dX3_longestRun_48 : decode cX3_longestRun 48 = .ok (.istore_n 3, 1) := by decide +kernel
theorem dX3_longestRun_49 : decode cX3_longestRun 49 = .ok (.iload_n 1, 1) := by decide +kernel
theorem dX3_longestRun_50 : decode cX3_longestRun 50 = .ok (.iload_n 2, 1) := by decide +kernel
theorem dX3_longestRun_51 : decode cX3_longestRun 51 = .ok (.invokestatic 285, 3) := by decide +kernel
theorem dX3_longestRun_54 : decode cX3_longestRun 54 = .ok (.istore_n 1, 1) := by decide +kernel
theorem dX3_longestRun_55 : decode cX3_longestRun 55 = .ok (.iinc 4 1, 3) := by decide +kernel
theorem dX3_longestRun_58 : decode cX3_longestRun 58 = .ok (.goto (-49), 3) := by decide +kernel
theorem dX3_longestRun_61 : decode cX3_longestRun 61 = .ok (.iload_n 1, 1) := by decide +kernel
theorem dX3_longestRun_62 : decode cX3_longestRun 62 = .ok (.ireturn, 1) := by decide +kernel
theorem dJ6_bitCount_0f7a4_0 : decode cJ6_bitCount_0f7a4 0 = .ok (.iload_n 0, 1) := by decide +kernel
theorem dJ6_bitCount_0f7a4_1 : decode cJ6_bitCount_0f7a4 1 = .ok (.iload_n 0, 1) := by decide +kernel
theorem dJ6_bitCount_0f7a4_2 : decode cJ6_bitCount_0f7a4 2 = .ok (.iconst 1, 1) := by decide +kernel
theorem dJ6_bitCount_0f7a4_3 : decode cJ6_bitCount_0f7a4 3 = .ok (.iushr, 1) := by decide +kernel
theorem dJ6_bitCount_0f7a4_4 : decode cJ6_bitCount_0f7a4 4 = .ok (.ldc_w 265, 3) := by decide +kernel
theorem dJ6_bitCount_0f7a4_7 : decode cJ6_bitCount_0f7a4 7 = .ok (.iand, 1) := by decide +kernel
theorem dJ6_bitCount_0f7a4_8 : decode cJ6_bitCount_0f7a4 8 = .ok (.isub, 1) := by decide +kernel
theorem dJ6_bitCount_0f7a4_9 : decode cJ6_bitCount_0f7a4 9 = .ok (.istore_n 0, 1) := by decide +kernel
theorem dJ6_bitCount_0f7a4_10 : decode cJ6_bitCount_0f7a4 10 = .ok (.iload_n 0, 1) := by decide +kernel
theorem dJ6_bitCount_0f7a4_11 : decode cJ6_bitCount_0f7a4 11 = .ok (.ldc_w 266, 3) := by decide +kernel
theorem dJ6_bitCount_0f7a4_14 : decode cJ6_bitCount_0f7a4 14 = .ok (.iand, 1) := by decide +kernel
theorem dJ6_bitCount_0f7a4_15 : decode cJ6_bitCount_0f7a4 15 = .ok (.iload_n 0, 1) := by decide +kernel
theorem dJ6_bitCount_0f7a4_16 : decode cJ6_bitCount_0f7a4 16 = .ok (.iconst 2, 1) := by decide +kernel
theorem dJ6_bitCount_0f7a4_17 : decode cJ6_bitCount_0f7a4 17 = .ok (.iushr, 1) := by decide +kernel
theorem dJ6_bitCount_0f7a4_18 : decode cJ6_bitCount_0f7a4 18 = .ok (.ldc_w 266, 3) := by decide +kernel
theorem dJ6_bitCount_0f7a4_21 : decode cJ6_bitCount_0f7a4 21 = .ok (.iand, 1) := by decide +kernel
theorem dJ6_bitCount_0f7a4_22 : decode cJ6_bitCount_0f7a4 22 = .ok (.iadd, 1) := by decide +kernel
theorem dJ6_bitCount_0f7a4_23 : decode cJ6_bitCount_0f7a4 23 = .ok (.istore_n 0, 1) := by decide +kernel
theorem dJ6_bitCount_0f7a4_24 : decode cJ6_bitCount_0f7a4 24 = .ok (.iload_n 0, 1) := by decide +kernel
theorem dJ6_bitCount_0f7a4_25 : decode cJ6_bitCount_0f7a4 25 = .ok (.iload_n 0, 1) := by decide +kernel
theorem dJ6_bitCount_0f7a4_26 : decode cJ6_bitCount_0f7a4 26 = .ok (.iconst 4, 1) := by decide +kernel
theorem dJ6_bitCount_0f7a4_27 : decode cJ6_bitCount_0f7a4 27 = .ok (.iushr, 1) := by decide +kernel
theorem dJ6_bitCount_0f7a4_28 : decode cJ6_bitCount_0f7a4 28 = .ok (.iadd, 1) := by decide +kernel
theorem dJ6_bitCount_0f7a4_29 : decode cJ6_bitCount_0f7a4 29 = .ok (.ldc_w 267, 3) := by decide +kernel
theorem dJ6_bitCount_0f7a4_32 : decode cJ6_bitCount_0f7a4 32 = .ok (.iand, 1) := by decide +kernel
theorem dJ6_bitCount_0f7a4_33 : decode cJ6_bitCount_0f7a4 33 = .ok (.istore_n 0, 1) := by decide +kernel
theorem dJ6_bitCount_0f7a4_34 : decode cJ6_bitCount_0f7a4 34 = .ok (.iload_n 0, 1) := by decide +kernel
theorem dJ6_bitCount_0f7a4_35 : decode cJ6_bitCount_0f7a4 35 = .ok (.iload_n 0, 1) := by decide +kernel
theorem dJ6_bitCount_0f7a4_36 : decode cJ6_bitCount_0f7a4 36 = .ok (.bipush 8, 2) := by decide +kernel
theorem dJ6_bitCount_0f7a4_38 : decode cJ6_bitCount_0f7a4 38 = .ok (.iushr, 1) := by decide +kernel
theorem dJ6_bitCount_0f7a4_39 : decode cJ6_bitCount_0f7a4 39 = .ok (.iadd, 1) := by decide +kernel
theorem dJ6_bitCount_0f7a4_40 : decode cJ6_bitCount_0f7a4 40 = .ok (.istore_n 0, 1) := by decide +kernel
theorem dJ6_bitCount_0f7a4_41 : decode cJ6_bitCount_0f7a4 41 = .ok (.iload_n 0, 1) := by decide +kernel
theorem dJ6_bitCount_0f7a4_42 : decode cJ6_bitCount_0f7a4 42 = .ok (.iload_n 0, 1) := by decide +kernel
theorem dJ6_bitCount_0f7a4_43 : decode cJ6_bitCount_0f7a4 43 = .ok (.bipush 16, 2) := by decide +kernel
theorem dJ6_bitCount_0f7a4_45 : decode cJ6_bitCount_0f7a4 45 = .ok (.iushr, 1) := by decide +kernel
theorem dJ6_bitCount_0f7a4_46 : decode cJ6_bitCount_0f7a4 46 = .ok (.iadd, 1) := by decide +kernel
theorem dJ6_bitCount_0f7a4_47 : decode cJ6_bitCount_0f7a4 47 = .ok (.istore_n 0, 1) := by decide +kernel
theorem dJ6_bitCount_0f7a4_48 : decode cJ6_bitCount_0f7a4 48 = .ok (.iload_n 0, 1) := by decide +kernel
theorem dJ6_bitCount_0f7a4_49 : decode cJ6_bitCount_0f7a4 49 = .ok (.bipush 63, 2) := by decide +kernel
theorem dJ6_bitCount_0f7a4_51 : decode cJ6_bitCount_0f7a4 51 = .ok (.iand, 1) := by decide +kernel
theorem dJ6_bitCount_0f7a4_52 : decode cJ6_bitCount_0f7a4 52 = .ok (.ireturn, 1) := by decide +kernel
theorem dJ13_bitCount_95d88_0 : decode cJ13_bitCount_95d88 0 = .ok (.lload_n 0, 1) := by decide +kernel
theorem dJ13_bitCount_95d88_1 : decode cJ13_bitCount_95d88 1 = .ok (.lload_n 0, 1) := by decide +kernel
theorem dJ13_bitCount_95d88_2 : decode cJ13_bitCount_95d88 2 = .ok (.iconst 1, 1) := by decide +kernel
theorem dJ13_bitCount_95d88_3 : decode cJ13_bitCount_95d88 3 = .ok (.lushr, 1) := by decide +kernel
theorem dJ13_bitCount_95d88_4 : decode cJ13_bitCount_95d88 4 = .ok (.ldc2_w 314, 3) := by decide +kernel
theorem dJ13_bitCount_95d88_7 : decode cJ13_bitCount_95d88 7 = .ok (.land, 1) := by decide +kernel
theorem dJ13_bitCount_95d88_8 : decode cJ13_bitCount_95d88 8 = .ok (.lsub, 1) := by decide +kernel
theorem dJ13_bitCount_95d88_9 : decode cJ13_bitCount_95d88 9 = .ok (.lstore_n 0, 1) := by decide +kernel
theorem dJ13_bitCount_95d88_10 : decode cJ13_bitCount_95d88 10 = .ok (.lload_n 0, 1) := by decide +kernel
theorem dJ13_bitCount_95d88_11 : decode cJ13_bitCount_95d88 11 = .ok (.ldc2_w 316, 3) := by decide +kernel
theorem dJ13_bitCount_95d88_14 : decode cJ13_bitCount_95d88 14 = .ok (.land, 1) := by decide +kernel
theorem dJ13_bitCount_95d88_15 : decode cJ13_bitCount_95d88 15 = .ok (.lload_n 0, 1) := by decide +kernel
theorem dJ13_bitCount_95d88_16 : decode cJ13_bitCount_95d88 16 = .ok (.iconst 2, 1) := by decide +kernel
theorem dJ13_bitCount_95d88_17 : decode cJ13_bitCount_95d88 17 = .ok (.lushr, 1) := by decide +kernel
theorem dJ13_bitCount_95d88_18 : decode cJ13_bitCount_95d88 18 = .ok (.ldc2_w 316, 3) := by decide +kernel
theorem dJ13_bitCount_95d88_21 : decode cJ13_bitCount_95d88 21 = .ok (.land, 1) := by decide +kernel
theorem dJ13_bitCount_95d88_22 : decode cJ13_bitCount_95d88 22 = .ok (.ladd, 1) := by decide +kernel
theorem dJ13_bitCount_95d88_23 : decode cJ13_bitCount_95d88 23 = .ok (.lstore_n 0, 1) := by decide +kernel
theorem dJ13_bitCount_95d88_24 : decode cJ13_bitCount_95d88 24 = .ok (.lload_n 0, 1) := by decide +kernel
theorem dJ13_bitCount_95d88_25 : decode cJ13_bitCount_95d88 25 = .ok (.lload_n 0, 1) := by decide +kernel
theorem dJ13_bitCount_95d88_26 : decode cJ13_bitCount_95d88 26 = .ok (.iconst 4, 1) := by decide +kernel
theorem dJ13_bitCount_95d88_27 : decode cJ13_bitCount_95d88 27 = .ok (.lushr, 1) := by decide +kernel
theorem dJ13_bitCount_95d88_28 : decode cJ13_bitCount_95d88 28 = .ok (.ladd, 1) := by decide +kernel
theorem dJ13_bitCount_95d88_29 : decode cJ13_bitCount_95d88 29 = .ok (.ldc2_w 318, 3) := by decide +kernel
theorem dJ13_bitCount_95d88_32 : decode cJ13_bitCount_95d88 32 = .ok (.land, 1) := by decide +kernel
theorem dJ13_bitCount_95d88_33 : decode cJ13_bitCount_95d88 33 = .ok (.lstore_n 0, 1) := by decide +kernel
theorem dJ13_bitCount_95d88_34 : decode cJ13_bitCount_95d88 34 = .ok (.lload_n 0, 1) := by decide +kernel
theorem dJ13_bitCount_95d88_35 : decode cJ13_bitCount_95d88 35 = .ok (.lload_n 0, 1) := by decide +kernel
theorem dJ13_bitCount_95d88_36 : decode cJ13_bitCount_95d88 36 = .ok (.bipush 8, 2) := by decide +kernel
theorem dJ13_bitCount_95d88_38 : decode cJ13_bitCount_95d88 38 = .ok (.lushr, 1) := by decide +kernel
theorem dJ13_bitCount_95d88_39 : decode cJ13_bitCount_95d88 39 = .ok (.ladd, 1) := by decide +kernel
theorem dJ13_bitCount_95d88_40 : decode cJ13_bitCount_95d88 40 = .ok (.lstore_n 0, 1) := by decide +kernel
theorem dJ13_bitCount_95d88_41 : decode cJ13_bitCount_95d88 41 = .ok (.lload_n 0, 1) := by decide +kernel
theorem dJ13_bitCount_95d88_42 : decode cJ13_bitCount_95d88 42 = .ok (.lload_n 0, 1) := by decide +kernel
theorem dJ13_bitCount_95d88_43 : decode cJ13_bitCount_95d88 43 = .ok (.bipush 16, 2) := by decide +kernel
theorem dJ13_bitCount_95d88_45 : decode cJ13_bitCount_95d88 45 = .ok (.lushr, 1) := by decide +kernel
theorem dJ13_bitCount_95d88_46 : decode cJ13_bitCount_95d88 46 = .ok (.ladd, 1) := by decide +kernel
theorem dJ13_bitCount_95d88_47 : decode cJ13_bitCount_95d88 47 = .ok (.lstore_n 0, 1) := by decide +kernel
theorem dJ13_bitCount_95d88_48 : decode cJ13_bitCount_95d88 48 = .ok (.lload_n 0, 1) := by decide +kernel
theorem dJ13_bitCount_95d88_49 : decode cJ13_bitCount_95d88 49 = .ok (.lload_n 0, 1) := by decide +kernel
theorem dJ13_bitCount_95d88_50 : decode cJ13_bitCount_95d88 50 = .ok (.bipush 32, 2) := by decide +kernel
theorem dJ13_bitCount_95d88_52 : decode cJ13_bitCount_95d88 52 = .ok (.lushr, 1) := by decide +kernel
theorem dJ13_bitCount_95d88_53 : decode cJ13_bitCount_95d88 53 = .ok (.ladd, 1) := by decide +kernel
theorem dJ13_bitCount_95d88_54 : decode cJ13_bitCount_95d88 54 = .ok (.lstore_n 0, 1) := by decide +kernel
theorem dJ13_bitCount_95d88_55 : decode cJ13_bitCount_95d88 55 = .ok (.lload_n 0, 1) := by decide +kernel
theorem dJ13_bitCount_95d88_56 : decode cJ13_bitCount_95d88 56 = .ok (.l2i, 1) := by decide +kernel
theorem dJ13_bitCount_95d88_57 : decode cJ13_bitCount_95d88 57 = .ok (.bipush 127, 2) := by decide +kernel
theorem dJ13_bitCount_95d88_59 : decode cJ13_bitCount_95d88 59 = .ok (.iand, 1) := by decide +kernel
theorem dJ13_bitCount_95d88_60 : decode cJ13_bitCount_95d88 60 = .ok (.ireturn, 1) := by decide +kernel
theorem dJ0_length_8abf5_0 : decode cJ0_length_8abf5 0 = .ok (.aload_n 0, 1) := by decide +kernel
theorem dJ0_length_8abf5_1 : decode cJ0_length_8abf5 1 = .ok (.getfield 9, 3) := by decide +kernel
theorem dJ0_length_8abf5_4 : decode cJ0_length_8abf5 4 = .ok (.arraylength, 1) := by decide +kernel
theorem dJ0_length_8abf5_5 : decode cJ0_length_8abf5 5 = .ok (.aload_n 0, 1) := by decide +kernel
theorem dJ0_length_8abf5_6 : decode cJ0_length_8abf5 6 = .ok (.invokevirtual 335, 3) := by decide +kernel
theorem dJ0_length_8abf5_9 : decode cJ0_length_8abf5 9 = .ok (.ishr, 1) := by decide +kernel
theorem dJ0_length_8abf5_10 : decode cJ0_length_8abf5 10 = .ok (.ireturn, 1) := by decide +kernel
theorem dJ0_charAt_5068e_0 : decode cJ0_charAt_5068e 0 = .ok (.aload_n 0, 1) := by decide +kernel
theorem dJ0_charAt_5068e_1 : decode cJ0_charAt_5068e 1 = .ok (.invokevirtual 492, 3) := by decide +kernel
theorem dJ0_charAt_5068e_4 : decode cJ0_charAt_5068e 4 = .ok (.ifCond .eq 12, 3) := by decide +kernel
theorem dJ0_charAt_5068e_7 : decode cJ0_charAt_5068e 7 = .ok (.aload_n 0, 1) := by decide +kernel
theorem dJ0_charAt_5068e_8 : decode cJ0_charAt_5068e 8 = .ok (.getfield 9, 3) := by decide +kernel
theorem dJ0_charAt_5068e_11 : decode cJ0_charAt_5068e 11 = .ok (.iload_n 1, 1) := by decide +kernel
theorem dJ0_charAt_5068e_12 : decode cJ0_charAt_5068e 12 = .ok (.invokestatic 495, 3) := by decide +kernel
theorem dJ0_charAt_5068e_15 : decode cJ0_charAt_5068e 15 = .ok (.ireturn, 1) := by decide +kernel
theorem dJ0_charAt_5068e_16 : decode cJ0_charAt_5068e 16 = .ok (.aload_n 0, 1) := by decide +kernel
theorem dJ0_charAt_5068e_17 : decode cJ0_charAt_5068e 17 = .ok (.getfield 9, 3) := by decide +kernel
theorem dJ0_charAt_5068e_20 : decode cJ0_charAt_5068e 20 = .ok (.iload_n 1, 1) := by decide +kernel
theorem dJ0_charAt_5068e_21 : decode cJ0_charAt_5068e 21 = .ok (.invokestatic 498, 3) := by decide +kernel
theorem dJ0_charAt_5068e_24 : decode cJ0_charAt_5068e 24 = .ok (.ireturn, 1) := by decide +kernel
theorem dJ0_coder_7d493_0 : decode cJ0_coder_7d493 0 = .ok (.getstatic 38, 3) := by decide +kernel
theorem dJ0_coder_7d493_3 : decode cJ0_coder_7d493 3 = .ok (.ifCond .eq 10, 3) := by decide +kernel
theorem dJ0_coder_7d493_6 : decode cJ0_coder_7d493 6 = .ok (.aload_n 0, 1) := by decide +kernel
theorem dJ0_coder_7d493_7 : decode cJ0_coder_7d493 7 = .ok (.getfield 15, 3) := by decide +kernel
theorem dJ0_coder_7d493_10 : decode cJ0_coder_7d493 10 = .ok (.goto 4, 3) := by decide +kernel
theorem dJ0_coder_7d493_13 : decode cJ0_coder_7d493 13 = .ok (.iconst 1, 1) := by decide +kernel
theorem dJ0_coder_7d493_14 : decode cJ0_coder_7d493 14 = .ok (.ireturn, 1) := by decide +kernel
theorem dJ0_isLatin1_aae02_0 : decode cJ0_isLatin1_aae02 0 = .ok (.getstatic 38, 3) := by decide +kernel
theorem dJ0_isLatin1_aae02_3 : decode cJ0_isLatin1_aae02 3 = .ok (.ifCond .eq 14, 3) := by decide +kernel
theorem dJ0_isLatin1_aae02_6 : decode cJ0_isLatin1_aae02 6 = .ok (.aload_n 0, 1) := by decide +kernel
theorem dJ0_isLatin1_aae02_7 : decode cJ0_isLatin1_aae02 7 = .ok (.getfield 15, 3) := by decide +kernel
theorem dJ0_isLatin1_aae02_10 : decode cJ0_isLatin1_aae02 10 = .ok (.ifCond .ne 7, 3) := by decide +kernel
theorem dJ0_isLatin1_aae02_13 : decode cJ0_isLatin1_aae02 13 = .ok (.iconst 1, 1) := by decide +kernel
theorem dJ0_isLatin1_aae02_14 : decode cJ0_isLatin1_aae02 14 = .ok (.goto 4, 3) := by decide +kernel
theorem dJ0_isLatin1_aae02_17 : decode cJ0_isLatin1_aae02 17 = .ok (.iconst 0, 1) := by decide +kernel
theorem dJ0_isLatin1_aae02_18 : decode cJ0_isLatin1_aae02 18 = .ok (.ireturn, 1) := by decide +kernel
theorem dJ0_checkIndex_df160_0 : decode cJ0_checkIndex_df160 0 = .ok (.iload_n 0, 1) := by decide +kernel
theorem dJ0_checkIndex_df160_1 : decode cJ0_checkIndex_df160 1 = .ok (.iload_n 1, 1) := by decide +kernel
theorem dJ0_checkIndex_df160_2 : decode cJ0_checkIndex_df160 2 = .ok (.getstatic 1053, 3) := by decide +kernel
theorem dJ0_checkIndex_df160_5 : decode cJ0_checkIndex_df160 5 = .ok (.invokestatic 1059, 3) := by decide +kernel
theorem dJ0_checkIndex_df160_8 : decode cJ0_checkIndex_df160 8 = .ok (.pop, 1) := by decide +kernel
theorem dJ0_checkIndex_df160_9 : decode cJ0_checkIndex_df160 9 = .ok (.return_, 1) := by decide +kernel
theorem dJ1_charAt_3b067_0 : decode cJ1_charAt_3b067 0 = .ok (.iload_n 1, 1) := by decide +kernel
theorem dJ1_charAt_3b067_1 : decode cJ1_charAt_3b067 1 = .ok (.aload_n 0, 1) := by decide +kernel
theorem dJ1_charAt_3b067_2 : decode cJ1_charAt_3b067 2 = .ok (.arraylength, 1) := by decide +kernel
theorem dJ1_charAt_3b067_3 : decode cJ1_charAt_3b067 3 = .ok (.invokestatic 9, 3) := by decide +kernel
theorem dJ1_charAt_3b067_6 : decode cJ1_charAt_3b067 6 = .ok (.aload_n 0, 1) := by decide +kernel
theorem dJ1_charAt_3b067_7 : decode cJ1_charAt_3b067 7 = .ok (.iload_n 1, 1) := by decide +kernel
theorem dJ1_charAt_3b067_8 : decode cJ1_charAt_3b067 8 = .ok (.baload, 1) := by decide +kernel
theorem dJ1_charAt_3b067_9 : decode cJ1_charAt_3b067 9 = .ok (.sipush 255, 3) := by decide +kernel
theorem dJ1_charAt_3b067_12 : decode cJ1_charAt_3b067 12 = .ok (.iand, 1) := by decide +kernel
theorem dJ1_charAt_3b067_13 : decode cJ1_charAt_3b067 13 = .ok (.i2c, 1) := by decide +kernel
theorem dJ1_charAt_3b067_14 : decode cJ1_charAt_3b067 14 = .ok (.ireturn, 1) := by decide +kernel
theorem dJ3_checkIndex_8e157_0 : decode cJ3_checkIndex_8e157 0 = .ok (.iload_n 0, 1) := by decide +kernel
theorem dJ3_checkIndex_8e157_1 : decode cJ3_checkIndex_8e157 1 = .ok (.ifCond .lt 8, 3) := by decide +kernel
theorem dJ3_checkIndex_8e157_4 : decode cJ3_checkIndex_8e157 4 = .ok (.iload_n 0, 1) := by decide +kernel
theorem dJ3_checkIndex_8e157_5 : decode cJ3_checkIndex_8e157 5 = .ok (.iload_n 1, 1) := by decide +kernel
theorem dJ3_checkIndex_8e157_6 : decode cJ3_checkIndex_8e157 6 = .ok (.if_icmp .lt 10, 3) := by decide +kernel
theorem dJ3_checkIndex_8e157_9 : decode cJ3_checkIndex_8e157 9 = .ok (.aload_n 2, 1) := by decide +kernel
theorem dJ3_checkIndex_8e157_10 : decode cJ3_checkIndex_8e157 10 = .ok (.iload_n 0, 1) := by decide +kernel
theorem dJ3_checkIndex_8e157_11 : decode cJ3_checkIndex_8e157 11 = .ok (.iload_n 1, 1) := by decide +kernel
theorem dJ3_checkIndex_8e157_12 : decode cJ3_checkIndex_8e157 12 = .ok (.invokestatic 95, 3) := by decide +kernel
theorem dJ3_checkIndex_8e157_15 : decode cJ3_checkIndex_8e157 15 = .ok (.athrow, 1) := by decide +kernel
theorem dJ3_checkIndex_8e157_16 : decode cJ3_checkIndex_8e157 16 = .ok (.iload_n 0, 1) := by decide +kernel
theorem dJ3_checkIndex_8e157_17 : decode cJ3_checkIndex_8e157 17 = .ok (.ireturn, 1) := by decide +kernel
