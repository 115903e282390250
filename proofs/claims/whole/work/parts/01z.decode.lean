/-! the decode rows (the lines are the task's own NAMES) -/
theorem dX0_init_0 : decode cX0_init 0 = .ok (.aload_n 0, 1) := by decide +kernel
theorem dX0_init_1 : decode cX0_init 1 = .ok (.invokespecial 3, 3) := by decide +kernel
theorem dX0_init_4 : decode cX0_init 4 = .ok (.aload_n 0, 1) := by decide +kernel
theorem dX0_init_5 : decode cX0_init 5 = .ok (.bipush 60, 2) := by decide +kernel
theorem dX0_init_7 : decode cX0_init 7 = .ok (.newarray .int, 2) := by decide +kernel
theorem dX0_init_9 : decode cX0_init 9 = .ok (.putfield 11, 3) := by decide +kernel
theorem dX0_init_12 : decode cX0_init 12 = .ok (.aload_n 0, 1) := by decide +kernel
theorem dX0_init_13 : decode cX0_init 13 = .ok (.bipush 15, 2) := by decide +kernel
theorem dX0_init_15 : decode cX0_init 15 = .ok (.newarray .int, 2) := by decide +kernel
theorem dX0_init_17 : decode cX0_init 17 = .ok (.putfield 15, 3) := by decide +kernel
theorem dX0_init_20 : decode cX0_init 20 = .ok (.aload_n 0, 1) := by decide +kernel
theorem dX0_init_21 : decode cX0_init 21 = .ok (.bipush 15, 2) := by decide +kernel
theorem dX0_init_23 : decode cX0_init 23 = .ok (.newarray .boolean, 2) := by decide +kernel
theorem dX0_init_25 : decode cX0_init 25 = .ok (.putfield 18, 3) := by decide +kernel
theorem dX0_init_28 : decode cX0_init 28 = .ok (.aload_n 0, 1) := by decide +kernel
theorem dX0_init_29 : decode cX0_init 29 = .ok (.iconst 0, 1) := by decide +kernel
theorem dX0_init_30 : decode cX0_init 30 = .ok (.putfield 22, 3) := by decide +kernel
theorem dX0_init_33 : decode cX0_init 33 = .ok (.aload_n 0, 1) := by decide +kernel
theorem dX0_init_34 : decode cX0_init 34 = .ok (.iconst 0, 1) := by decide +kernel
theorem dX0_init_35 : decode cX0_init 35 = .ok (.putfield 26, 3) := by decide +kernel
theorem dX0_init_38 : decode cX0_init 38 = .ok (.aload_n 0, 1) := by decide +kernel
theorem dX0_init_39 : decode cX0_init 39 = .ok (.iconst 0, 1) := by decide +kernel
theorem dX0_init_40 : decode cX0_init 40 = .ok (.putfield 29, 3) := by decide +kernel
theorem dX0_init_43 : decode cX0_init 43 = .ok (.aload_n 0, 1) := by decide +kernel
theorem dX0_init_44 : decode cX0_init 44 = .ok (.iconst 0, 1) := by decide +kernel
theorem dX0_init_45 : decode cX0_init 45 = .ok (.putfield 33, 3) := by decide +kernel
theorem dX0_init_48 : decode cX0_init 48 = .ok (.aload_n 0, 1) := by decide +kernel
theorem dX0_init_49 : decode cX0_init 49 = .ok (.iconst 0, 1) := by decide +kernel
theorem dX0_init_50 : decode cX0_init 50 = .ok (.putfield 36, 3) := by decide +kernel
theorem dX0_init_53 : decode cX0_init 53 = .ok (.aload_n 0, 1) := by decide +kernel
theorem dX0_init_54 : decode cX0_init 54 = .ok (.iconst (-1), 1) := by decide +kernel
theorem dX0_init_55 : decode cX0_init 55 = .ok (.putfield 39, 3) := by decide +kernel
theorem dX0_init_58 : decode cX0_init 58 = .ok (.return_, 1) := by decide +kernel
theorem dX0_isCode_0 : decode cX0_isCode 0 = .ok (.iload_n 0, 1) := by decide +kernel
theorem dX0_isCode_1 : decode cX0_isCode 1 = .ok (.bipush 33, 2) := by decide +kernel
theorem dX0_isCode_3 : decode cX0_isCode 3 = .ok (.if_icmp .lt 13, 3) := by decide +kernel
theorem dX0_isCode_6 : decode cX0_isCode 6 = .ok (.iload_n 0, 1) := by decide +kernel
theorem dX0_isCode_7 : decode cX0_isCode 7 = .ok (.bipush 126, 2) := by decide +kernel
theorem dX0_isCode_9 : decode cX0_isCode 9 = .ok (.if_icmp .gt 7, 3) := by decide +kernel
theorem dX0_isCode_12 : decode cX0_isCode 12 = .ok (.iconst 1, 1) := by decide +kernel
theorem dX0_isCode_13 : decode cX0_isCode 13 = .ok (.goto 4, 3) := by decide +kernel
theorem dX0_isCode_16 : decode cX0_isCode 16 = .ok (.iconst 0, 1) := by decide +kernel
theorem dX0_isCode_17 : decode cX0_isCode 17 = .ok (.ireturn, 1) := by decide +kernel
theorem dX0_isFull_0 : decode cX0_isFull 0 = .ok (.aload_n 0, 1) := by decide +kernel
theorem dX0_isFull_1 : decode cX0_isFull 1 = .ok (.getfield 22, 3) := by decide +kernel
theorem dX0_isFull_4 : decode cX0_isFull 4 = .ok (.aload_n 0, 1) := by decide +kernel
theorem dX0_isFull_5 : decode cX0_isFull 5 = .ok (.getfield 11, 3) := by decide +kernel
theorem dX0_isFull_8 : decode cX0_isFull 8 = .ok (.arraylength, 1) := by decide +kernel
theorem dX0_isFull_9 : decode cX0_isFull 9 = .ok (.if_icmp .lt 7, 3) := by decide +kernel
theorem dX0_isFull_12 : decode cX0_isFull 12 = .ok (.iconst 1, 1) := by decide +kernel
theorem dX0_isFull_13 : decode cX0_isFull 13 = .ok (.goto 4, 3) := by decide +kernel
theorem dX0_isFull_16 : decode cX0_isFull 16 = .ok (.iconst 0, 1) := by decide +kernel
theorem dX0_isFull_17 : decode cX0_isFull 17 = .ok (.ireturn, 1) := by decide +kernel
theorem dX0_add_0 : decode cX0_add 0 = .ok (.aload_n 0, 1) := by decide +kernel
theorem dX0_add_1 : decode cX0_add 1 = .ok (.getfield 22, 3) := by decide +kernel
theorem dX0_add_4 : decode cX0_add 4 = .ok (.ifCond .lt 35, 3) := by decide +kernel
theorem dX0_add_7 : decode cX0_add 7 = .ok (.aload_n 0, 1) := by decide +kernel
theorem dX0_add_8 : decode cX0_add 8 = .ok (.getfield 22, 3) := by decide +kernel
theorem dX0_add_11 : decode cX0_add 11 = .ok (.aload_n 0, 1) := by decide +kernel
theorem dX0_add_12 : decode cX0_add 12 = .ok (.getfield 11, 3) := by decide +kernel
theorem dX0_add_15 : decode cX0_add 15 = .ok (.arraylength, 1) := by decide +kernel
theorem dX0_add_16 : decode cX0_add 16 = .ok (.if_icmp .ge 23, 3) := by decide +kernel
theorem dX0_add_19 : decode cX0_add 19 = .ok (.aload_n 0, 1) := by decide +kernel
theorem dX0_add_20 : decode cX0_add 20 = .ok (.getfield 11, 3) := by decide +kernel
theorem dX0_add_23 : decode cX0_add 23 = .ok (.aload_n 0, 1) := by decide +kernel
theorem dX0_add_24 : decode cX0_add 24 = .ok (.getfield 22, 3) := by decide +kernel
theorem dX0_add_27 : decode cX0_add 27 = .ok (.iload_n 1, 1) := by decide +kernel
theorem dX0_add_28 : decode cX0_add 28 = .ok (.iastore, 1) := by decide +kernel
theorem dX0_add_29 : decode cX0_add 29 = .ok (.aload_n 0, 1) := by decide +kernel
theorem dX0_add_30 : decode cX0_add 30 = .ok (.dup, 1) := by decide +kernel
theorem dX0_add_31 : decode cX0_add 31 = .ok (.getfield 22, 3) := by decide +kernel
theorem dX0_add_34 : decode cX0_add 34 = .ok (.iconst 1, 1) := by decide +kernel
theorem dX0_add_35 : decode cX0_add 35 = .ok (.iadd, 1) := by decide +kernel
theorem dX0_add_36 : decode cX0_add 36 = .ok (.putfield 22, 3) := by decide +kernel
theorem dX0_add_39 : decode cX0_add 39 = .ok (.return_, 1) := by decide +kernel
theorem dX0_empty_0 : decode cX0_empty 0 = .ok (.aload_n 0, 1) := by decide +kernel
theorem dX0_empty_1 : decode cX0_empty 1 = .ok (.iconst 0, 1) := by decide +kernel
theorem dX0_empty_2 : decode cX0_empty 2 = .ok (.putfield 22, 3) := by decide +kernel
theorem dX0_empty_5 : decode cX0_empty 5 = .ok (.return_, 1) := by decide +kernel
theorem dX0_codeAt_0 : decode cX0_codeAt 0 = .ok (.iload_n 1, 1) := by decide +kernel
theorem dX0_codeAt_1 : decode cX0_codeAt 1 = .ok (.ifCond .lt 29, 3) := by decide +kernel
theorem dX0_codeAt_4 : decode cX0_codeAt 4 = .ok (.iload_n 1, 1) := by decide +kernel
theorem dX0_codeAt_5 : decode cX0_codeAt 5 = .ok (.aload_n 0, 1) := by decide +kernel
theorem dX0_codeAt_6 : decode cX0_codeAt 6 = .ok (.getfield 22, 3) := by decide +kernel
theorem dX0_codeAt_9 : decode cX0_codeAt 9 = .ok (.if_icmp .ge 21, 3) := by decide +kernel
theorem dX0_codeAt_12 : decode cX0_codeAt 12 = .ok (.iload_n 1, 1) := by decide +kernel
theorem dX0_codeAt_13 : decode cX0_codeAt 13 = .ok (.aload_n 0, 1) := by decide +kernel
theorem dX0_codeAt_14 : decode cX0_codeAt 14 = .ok (.getfield 11, 3) := by decide +kernel
theorem dX0_codeAt_17 : decode cX0_codeAt 17 = .ok (.arraylength, 1) := by decide +kernel
theorem dX0_codeAt_18 : decode cX0_codeAt 18 = .ok (.if_icmp .ge 12, 3) := by decide +kernel
theorem dX0_codeAt_21 : decode cX0_codeAt 21 = .ok (.aload_n 0, 1) := by decide +kernel
theorem dX0_codeAt_22 : decode cX0_codeAt 22 = .ok (.getfield 11, 3) := by decide +kernel
theorem dX0_codeAt_25 : decode cX0_codeAt 25 = .ok (.iload_n 1, 1) := by decide +kernel
theorem dX0_codeAt_26 : decode cX0_codeAt 26 = .ok (.iaload, 1) := by decide +kernel
theorem dX0_codeAt_27 : decode cX0_codeAt 27 = .ok (.goto 4, 3) := by decide +kernel
theorem dX0_codeAt_30 : decode cX0_codeAt 30 = .ok (.iconst 0, 1) := by decide +kernel
theorem dX0_codeAt_31 : decode cX0_codeAt 31 = .ok (.ireturn, 1) := by decide +kernel
theorem dX0_cellOf_0 : decode cX0_cellOf 0 = .ok (.iload_n 1, 1) := by decide +kernel
theorem dX0_cellOf_1 : decode cX0_cellOf 1 = .ok (.ifCond .lt 29, 3) := by decide +kernel
theorem dX0_cellOf_4 : decode cX0_cellOf 4 = .ok (.iload_n 1, 1) := by decide +kernel
theorem dX0_cellOf_5 : decode cX0_cellOf 5 = .ok (.aload_n 0, 1) := by decide +kernel
theorem dX0_cellOf_6 : decode cX0_cellOf 6 = .ok (.getfield 26, 3) := by decide +kernel
theorem dX0_cellOf_9 : decode cX0_cellOf 9 = .ok (.if_icmp .ge 21, 3) := by decide +kernel
theorem dX0_cellOf_12 : decode cX0_cellOf 12 = .ok (.iload_n 1, 1) := by decide +kernel
theorem dX0_cellOf_13 : decode cX0_cellOf 13 = .ok (.aload_n 0, 1) := by decide +kernel
theorem dX0_cellOf_14 : decode cX0_cellOf 14 = .ok (.getfield 15, 3) := by decide +kernel
theorem dX0_cellOf_17 : decode cX0_cellOf 17 = .ok (.arraylength, 1) := by decide +kernel
theorem dX0_cellOf_18 : decode cX0_cellOf 18 = .ok (.if_icmp .ge 12, 3) := by decide +kernel
theorem dX0_cellOf_21 : decode cX0_cellOf 21 = .ok (.aload_n 0, 1) := by decide +kernel
theorem dX0_cellOf_22 : decode cX0_cellOf 22 = .ok (.getfield 15, 3) := by decide +kernel
theorem dX0_cellOf_25 : decode cX0_cellOf 25 = .ok (.iload_n 1, 1) := by decide +kernel
theorem dX0_cellOf_26 : decode cX0_cellOf 26 = .ok (.iaload, 1) := by decide +kernel
theorem dX0_cellOf_27 : decode cX0_cellOf 27 = .ok (.goto 4, 3) := by decide +kernel
theorem dX0_cellOf_30 : decode cX0_cellOf 30 = .ok (.iconst (-1), 1) := by decide +kernel
theorem dX0_cellOf_31 : decode cX0_cellOf 31 = .ok (.ireturn, 1) := by decide +kernel
theorem dX0_asksToHeal_0 : decode cX0_asksToHeal 0 = .ok (.iload_n 1, 1) := by decide +kernel
theorem dX0_asksToHeal_1 : decode cX0_asksToHeal 1 = .ok (.ifCond .lt 33, 3) := by decide +kernel
theorem dX0_asksToHeal_4 : decode cX0_asksToHeal 4 = .ok (.iload_n 1, 1) := by decide +kernel
theorem dX0_asksToHeal_5 : decode cX0_asksToHeal 5 = .ok (.aload_n 0, 1) := by decide +kernel
theorem dX0_asksToHeal_6 : decode cX0_asksToHeal 6 = .ok (.getfield 26, 3) := by decide +kernel
theorem dX0_asksToHeal_9 : decode cX0_asksToHeal 9 = .ok (.if_icmp .ge 25, 3) := by decide +kernel
theorem dX0_asksToHeal_12 : decode cX0_asksToHeal 12 = .ok (.iload_n 1, 1) := by decide +kernel
theorem dX0_asksToHeal_13 : decode cX0_asksToHeal 13 = .ok (.aload_n 0, 1) := by decide +kernel
theorem dX0_asksToHeal_14 : decode cX0_asksToHeal 14 = .ok (.getfield 18, 3) := by decide +kernel
theorem dX0_asksToHeal_17 : decode cX0_asksToHeal 17 = .ok (.arraylength, 1) := by decide +kernel
theorem dX0_asksToHeal_18 : decode cX0_asksToHeal 18 = .ok (.if_icmp .ge 16, 3) := by decide +kernel
theorem dX0_asksToHeal_21 : decode cX0_asksToHeal 21 = .ok (.aload_n 0, 1) := by decide +kernel
theorem dX0_asksToHeal_22 : decode cX0_asksToHeal 22 = .ok (.getfield 18, 3) := by decide +kernel
theorem dX0_asksToHeal_25 : decode cX0_asksToHeal 25 = .ok (.iload_n 1, 1) := by decide +kernel
theorem dX0_asksToHeal_26 : decode cX0_asksToHeal 26 = .ok (.baload, 1) := by decide +kernel
theorem dX0_asksToHeal_27 : decode cX0_asksToHeal 27 = .ok (.ifCond .eq 7, 3) := by decide +kernel
theorem dX0_asksToHeal_30 : decode cX0_asksToHeal 30 = .ok (.iconst 1, 1) := by decide +kernel
theorem dX0_asksToHeal_31 : decode cX0_asksToHeal 31 = .ok (.goto 4, 3) := by decide +kernel
theorem dX0_asksToHeal_34 : decode cX0_asksToHeal 34 = .ok (.iconst 0, 1) := by decide +kernel
theorem dX0_asksToHeal_35 : decode cX0_asksToHeal 35 = .ok (.ireturn, 1) := by decide +kernel
theorem dX0_scan_0 : decode cX0_scan 0 = .ok (.aload_n 0, 1) := by decide +kernel
theorem dX0_scan_1 : decode cX0_scan 1 = .ok (.iconst 0, 1) := by decide +kernel
theorem dX0_scan_2 : decode cX0_scan 2 = .ok (.putfield 26, 3) := by decide +kernel
theorem dX0_scan_5 : decode cX0_scan 5 = .ok (.aload_n 0, 1) := by decide +kernel
theorem dX0_scan_6 : decode cX0_scan 6 = .ok (.invokevirtual 42, 3) := by decide +kernel
theorem dX0_scan_9 : decode cX0_scan 9 = .ok (.iconst 0, 1) := by decide +kernel
theorem dX0_scan_10 : decode cX0_scan 10 = .ok (.istore_n 1, 1) := by decide +kernel
theorem dX0_scan_11 : decode cX0_scan 11 = .ok (.iload_n 1, 1) := by decide +kernel
theorem dX0_scan_12 : decode cX0_scan 12 = .ok (.aload_n 0, 1) := by decide +kernel
theorem dX0_scan_13 : decode cX0_scan 13 = .ok (.getfield 22, 3) := by decide +kernel
theorem dX0_scan_16 : decode cX0_scan 16 = .ok (.if_icmp .ge 23, 3) := by decide +kernel
theorem dX0_scan_19 : decode cX0_scan 19 = .ok (.aload_n 0, 1) := by decide +kernel
theorem dX0_scan_20 : decode cX0_scan 20 = .ok (.aload_n 0, 1) := by decide +kernel
theorem dX0_scan_21 : decode cX0_scan 21 = .ok (.iload_n 1, 1) := by decide +kernel
theorem dX0_scan_22 : decode cX0_scan 22 = .ok (.invokevirtual 45, 3) := by decide +kernel
theorem dX0_scan_25 : decode cX0_scan 25 = .ok (.invokevirtual 49, 3) := by decide +kernel
theorem dX0_scan_28 : decode cX0_scan 28 = .ok (.ifCond .ne 5, 3) := by decide +kernel
theorem dX0_scan_31 : decode cX0_scan 31 = .ok (.iload_n 1, 1) := by decide +kernel
theorem dX0_scan_32 : decode cX0_scan 32 = .ok (.ireturn, 1) := by decide +kernel
theorem dX0_scan_33 : decode cX0_scan 33 = .ok (.iinc 1 1, 3) := by decide +kernel
theorem dX0_scan_36 : decode cX0_scan 36 = .ok (.goto (-25), 3) := by decide +kernel
theorem dX0_scan_39 : decode cX0_scan 39 = .ok (.aload_n 0, 1) := by decide +kernel
theorem dX0_scan_40 : decode cX0_scan 40 = .ok (.getfield 22, 3) := by decide +kernel
theorem dX0_scan_43 : decode cX0_scan 43 = .ok (.ireturn, 1) := by decide +kernel
theorem dX0_tellsSpots_0 : decode cX0_tellsSpots 0 = .ok (.aload_n 0, 1) := by decide +kernel
theorem dX0_tellsSpots_1 : decode cX0_tellsSpots 1 = .ok (.invokevirtual 53, 3) := by decide +kernel
theorem dX0_tellsSpots_4 : decode cX0_tellsSpots 4 = .ok (.aload_n 0, 1) := by decide +kernel
theorem dX0_tellsSpots_5 : decode cX0_tellsSpots 5 = .ok (.getfield 22, 3) := by decide +kernel
theorem dX0_tellsSpots_8 : decode cX0_tellsSpots 8 = .ok (.if_icmp .ne 14, 3) := by decide +kernel
theorem dX0_tellsSpots_11 : decode cX0_tellsSpots 11 = .ok (.aload_n 0, 1) := by decide +kernel
theorem dX0_tellsSpots_12 : decode cX0_tellsSpots 12 = .ok (.invokevirtual 57, 3) := by decide +kernel
theorem dX0_tellsSpots_15 : decode cX0_tellsSpots 15 = .ok (.ifCond .eq 7, 3) := by decide +kernel
theorem dX0_tellsSpots_18 : decode cX0_tellsSpots 18 = .ok (.iconst 1, 1) := by decide +kernel
theorem dX0_tellsSpots_19 : decode cX0_tellsSpots 19 = .ok (.goto 4, 3) := by decide +kernel
theorem dX0_tellsSpots_22 : decode cX0_tellsSpots 22 = .ok (.iconst 0, 1) := by decide +kernel
theorem dX0_tellsSpots_23 : decode cX0_tellsSpots 23 = .ok (.ireturn, 1) := by decide +kernel
theorem dX0_beginSpot_0 : decode cX0_beginSpot 0 = .ok (.aload_n 0, 1) := by decide +kernel
theorem dX0_beginSpot_1 : decode cX0_beginSpot 1 = .ok (.iconst 0, 1) := by decide +kernel
theorem dX0_beginSpot_2 : decode cX0_beginSpot 2 = .ok (.putfield 29, 3) := by decide +kernel
theorem dX0_beginSpot_5 : decode cX0_beginSpot 5 = .ok (.aload_n 0, 1) := by decide +kernel
theorem dX0_beginSpot_6 : decode cX0_beginSpot 6 = .ok (.iconst 0, 1) := by decide +kernel
theorem dX0_beginSpot_7 : decode cX0_beginSpot 7 = .ok (.putfield 33, 3) := by decide +kernel
theorem dX0_beginSpot_10 : decode cX0_beginSpot 10 = .ok (.aload_n 0, 1) := by decide +kernel
theorem dX0_beginSpot_11 : decode cX0_beginSpot 11 = .ok (.iconst (-1), 1) := by decide +kernel
theorem dX0_beginSpot_12 : decode cX0_beginSpot 12 = .ok (.putfield 39, 3) := by decide +kernel
theorem dX0_beginSpot_15 : decode cX0_beginSpot 15 = .ok (.return_, 1) := by decide +kernel
theorem dX0_endSpot_0 : decode cX0_endSpot 0 = .ok (.aload_n 0, 1) := by decide +kernel
theorem dX0_endSpot_1 : decode cX0_endSpot 1 = .ok (.getfield 33, 3) := by decide +kernel
theorem dX0_endSpot_4 : decode cX0_endSpot 4 = .ok (.ifCond .eq 11, 3) := by decide +kernel
theorem dX0_endSpot_7 : decode cX0_endSpot 7 = .ok (.aload_n 0, 1) := by decide +kernel
theorem dX0_endSpot_8 : decode cX0_endSpot 8 = .ok (.getfield 39, 3) := by decide +kernel
theorem dX0_endSpot_11 : decode cX0_endSpot 11 = .ok (.iconst (-1), 1) := by decide +kernel
theorem dX0_endSpot_12 : decode cX0_endSpot 12 = .ok (.if_icmp .ne 5, 3) := by decide +kernel
theorem dX0_endSpot_15 : decode cX0_endSpot 15 = .ok (.iconst 0, 1) := by decide +kernel
theorem dX0_endSpot_16 : decode cX0_endSpot 16 = .ok (.ireturn, 1) := by decide +kernel
theorem dX0_endSpot_17 : decode cX0_endSpot 17 = .ok (.aload_n 0, 1) := by decide +kernel
theorem dX0_endSpot_18 : decode cX0_endSpot 18 = .ok (.getfield 26, 3) := by decide +kernel
theorem dX0_endSpot_21 : decode cX0_endSpot 21 = .ok (.ifCond .lt 70, 3) := by decide +kernel
theorem dX0_endSpot_24 : decode cX0_endSpot 24 = .ok (.aload_n 0, 1) := by decide +kernel
theorem dX0_endSpot_25 : decode cX0_endSpot 25 = .ok (.getfield 26, 3) := by decide +kernel
theorem dX0_endSpot_28 : decode cX0_endSpot 28 = .ok (.aload_n 0, 1) := by decide +kernel
theorem dX0_endSpot_29 : decode cX0_endSpot 29 = .ok (.getfield 15, 3) := by decide +kernel
theorem dX0_endSpot_32 : decode cX0_endSpot 32 = .ok (.arraylength, 1) := by decide +kernel
theorem dX0_endSpot_33 : decode cX0_endSpot 33 = .ok (.if_icmp .ge 58, 3) := by decide +kernel
theorem dX0_endSpot_36 : decode cX0_endSpot 36 = .ok (.aload_n 0, 1) := by decide +kernel
theorem dX0_endSpot_37 : decode cX0_endSpot 37 = .ok (.getfield 26, 3) := by decide +kernel
theorem dX0_endSpot_40 : decode cX0_endSpot 40 = .ok (.aload_n 0, 1) := by decide +kernel
theorem dX0_endSpot_41 : decode cX0_endSpot 41 = .ok (.getfield 18, 3) := by decide +kernel
theorem dX0_endSpot_44 : decode cX0_endSpot 44 = .ok (.arraylength, 1) := by decide +kernel
theorem dX0_endSpot_45 : decode cX0_endSpot 45 = .ok (.if_icmp .ge 46, 3) := by decide +kernel
theorem dX0_endSpot_48 : decode cX0_endSpot 48 = .ok (.aload_n 0, 1) := by decide +kernel
theorem dX0_endSpot_49 : decode cX0_endSpot 49 = .ok (.getfield 15, 3) := by decide +kernel
theorem dX0_endSpot_52 : decode cX0_endSpot 52 = .ok (.aload_n 0, 1) := by decide +kernel
theorem dX0_endSpot_53 : decode cX0_endSpot 53 = .ok (.getfield 26, 3) := by decide +kernel
theorem dX0_endSpot_56 : decode cX0_endSpot 56 = .ok (.aload_n 0, 1) := by decide +kernel
theorem dX0_endSpot_57 : decode cX0_endSpot 57 = .ok (.getfield 36, 3) := by decide +kernel
theorem dX0_endSpot_60 : decode cX0_endSpot 60 = .ok (.aload_n 0, 1) := by decide +kernel
theorem dX0_endSpot_61 : decode cX0_endSpot 61 = .ok (.getfield 39, 3) := by decide +kernel
theorem dX0_endSpot_64 : decode cX0_endSpot 64 = .ok (.invokestatic 61, 3) := by decide +kernel
theorem dX0_endSpot_67 : decode cX0_endSpot 67 = .ok (.iastore, 1) := by decide +kernel
theorem dX0_endSpot_68 : decode cX0_endSpot 68 = .ok (.aload_n 0, 1) := by decide +kernel
theorem dX0_endSpot_69 : decode cX0_endSpot 69 = .ok (.getfield 18, 3) := by decide +kernel
theorem dX0_endSpot_72 : decode cX0_endSpot 72 = .ok (.aload_n 0, 1) := by decide +kernel
theorem dX0_endSpot_73 : decode cX0_endSpot 73 = .ok (.getfield 26, 3) := by decide +kernel
theorem dX0_endSpot_76 : decode cX0_endSpot 76 = .ok (.aload_n 0, 1) := by decide +kernel
theorem dX0_endSpot_77 : decode cX0_endSpot 77 = .ok (.getfield 29, 3) := by decide +kernel
theorem dX0_endSpot_80 : decode cX0_endSpot 80 = .ok (.bastore, 1) := by decide +kernel
theorem dX0_endSpot_81 : decode cX0_endSpot 81 = .ok (.aload_n 0, 1) := by decide +kernel
theorem dX0_endSpot_82 : decode cX0_endSpot 82 = .ok (.dup, 1) := by decide +kernel
theorem dX0_endSpot_83 : decode cX0_endSpot 83 = .ok (.getfield 26, 3) := by decide +kernel
theorem dX0_endSpot_86 : decode cX0_endSpot 86 = .ok (.iconst 1, 1) := by decide +kernel
theorem dX0_endSpot_87 : decode cX0_endSpot 87 = .ok (.iadd, 1) := by decide +kernel
theorem dX0_endSpot_88 : decode cX0_endSpot 88 = .ok (.putfield 26, 3) := by decide +kernel
theorem dX0_endSpot_91 : decode cX0_endSpot 91 = .ok (.aload_n 0, 1) := by decide +kernel
theorem dX0_endSpot_92 : decode cX0_endSpot 92 = .ok (.invokevirtual 42, 3) := by decide +kernel
theorem dX0_endSpot_95 : decode cX0_endSpot 95 = .ok (.iconst 1, 1) := by decide +kernel
theorem dX0_endSpot_96 : decode cX0_endSpot 96 = .ok (.ireturn, 1) := by decide +kernel
theorem dX0_take_0 : decode cX0_take 0 = .ok (.iload_n 1, 1) := by decide +kernel
theorem dX0_take_1 : decode cX0_take 1 = .ok (.lookupswitch 50 #[(44, 40), (45, 35), (59, 45)], 35) := by decide +kernel
theorem dX0_take_36 : decode cX0_take 36 = .ok (.aload_n 0, 1) := by decide +kernel
theorem dX0_take_37 : decode cX0_take 37 = .ok (.invokevirtual 65, 3) := by decide +kernel
theorem dX0_take_40 : decode cX0_take 40 = .ok (.ireturn, 1) := by decide +kernel
theorem dX0_take_41 : decode cX0_take 41 = .ok (.aload_n 0, 1) := by decide +kernel
theorem dX0_take_42 : decode cX0_take 42 = .ok (.invokevirtual 68, 3) := by decide +kernel
theorem dX0_take_45 : decode cX0_take 45 = .ok (.ireturn, 1) := by decide +kernel
theorem dX0_take_46 : decode cX0_take 46 = .ok (.aload_n 0, 1) := by decide +kernel
theorem dX0_take_47 : decode cX0_take 47 = .ok (.invokevirtual 57, 3) := by decide +kernel
theorem dX0_take_50 : decode cX0_take 50 = .ok (.ireturn, 1) := by decide +kernel
theorem dX0_take_51 : decode cX0_take 51 = .ok (.iload_n 1, 1) := by decide +kernel
theorem dX0_take_52 : decode cX0_take 52 = .ok (.bipush 48, 2) := by decide +kernel
theorem dX0_take_54 : decode cX0_take 54 = .ok (.if_icmp .lt 24, 3) := by decide +kernel
theorem dX0_take_57 : decode cX0_take 57 = .ok (.iload_n 1, 1) := by decide +kernel
theorem dX0_take_58 : decode cX0_take 58 = .ok (.bipush 57, 2) := by decide +kernel
theorem dX0_take_60 : decode cX0_take 60 = .ok (.if_icmp .gt 18, 3) := by decide +kernel
theorem dX0_take_63 : decode cX0_take 63 = .ok (.aload_n 0, 1) := by decide +kernel
theorem dX0_take_64 : decode cX0_take 64 = .ok (.iload_n 1, 1) := by decide +kernel
theorem dX0_take_65 : decode cX0_take 65 = .ok (.bipush 48, 2) := by decide +kernel
theorem dX0_take_67 : decode cX0_take 67 = .ok (.isub, 1) := by decide +kernel
theorem dX0_take_68 : decode cX0_take 68 = .ok (.invokevirtual 71, 3) := by decide +kernel
theorem dX0_take_71 : decode cX0_take 71 = .ok (.ifCond .eq 7, 3) := by decide +kernel
theorem dX0_take_74 : decode cX0_take 74 = .ok (.iconst 1, 1) := by decide +kernel
theorem dX0_take_75 : decode cX0_take 75 = .ok (.goto 4, 3) := by decide +kernel
theorem dX0_take_78 : decode cX0_take 78 = .ok (.iconst 0, 1) := by decide +kernel
theorem dX0_take_79 : decode cX0_take 79 = .ok (.ireturn, 1) := by decide +kernel
theorem dX0_takeMinus_0 : decode cX0_takeMinus 0 = .ok (.aload_n 0, 1) := by decide +kernel
theorem dX0_takeMinus_1 : decode cX0_takeMinus 1 = .ok (.getfield 29, 3) := by decide +kernel
theorem dX0_takeMinus_4 : decode cX0_takeMinus 4 = .ok (.ifCond .ne 18, 3) := by decide +kernel
theorem dX0_takeMinus_7 : decode cX0_takeMinus 7 = .ok (.aload_n 0, 1) := by decide +kernel
theorem dX0_takeMinus_8 : decode cX0_takeMinus 8 = .ok (.getfield 33, 3) := by decide +kernel
theorem dX0_takeMinus_11 : decode cX0_takeMinus 11 = .ok (.ifCond .ne 11, 3) := by decide +kernel
theorem dX0_takeMinus_14 : decode cX0_takeMinus 14 = .ok (.aload_n 0, 1) := by decide +kernel
theorem dX0_takeMinus_15 : decode cX0_takeMinus 15 = .ok (.getfield 39, 3) := by decide +kernel
theorem dX0_takeMinus_18 : decode cX0_takeMinus 18 = .ok (.iconst (-1), 1) := by decide +kernel
theorem dX0_takeMinus_19 : decode cX0_takeMinus 19 = .ok (.if_icmp .eq 5, 3) := by decide +kernel
theorem dX0_takeMinus_22 : decode cX0_takeMinus 22 = .ok (.iconst 0, 1) := by decide +kernel
theorem dX0_takeMinus_23 : decode cX0_takeMinus 23 = .ok (.ireturn, 1) := by decide +kernel
theorem dX0_takeMinus_24 : decode cX0_takeMinus 24 = .ok (.aload_n 0, 1) := by decide +kernel
theorem dX0_takeMinus_25 : decode cX0_takeMinus 25 = .ok (.iconst 1, 1) := by decide +kernel
theorem dX0_takeMinus_26 : decode cX0_takeMinus 26 = .ok (.putfield 29, 3) := by decide +kernel
theorem dX0_takeMinus_29 : decode cX0_takeMinus 29 = .ok (.iconst 1, 1) := by decide +kernel
theorem dX0_takeMinus_30 : decode cX0_takeMinus 30 = .ok (.ireturn, 1) := by decide +kernel
theorem dX0_takeComma_0 : decode cX0_takeComma 0 = .ok (.aload_n 0, 1) := by decide +kernel
theorem dX0_takeComma_1 : decode cX0_takeComma 1 = .ok (.getfield 33, 3) := by decide +kernel
theorem dX0_takeComma_4 : decode cX0_takeComma 4 = .ok (.ifCond .ne 11, 3) := by decide +kernel
theorem dX0_takeComma_7 : decode cX0_takeComma 7 = .ok (.aload_n 0, 1) := by decide +kernel
theorem dX0_takeComma_8 : decode cX0_takeComma 8 = .ok (.getfield 39, 3) := by decide +kernel
theorem dX0_takeComma_11 : decode cX0_takeComma 11 = .ok (.iconst (-1), 1) := by decide +kernel
theorem dX0_takeComma_12 : decode cX0_takeComma 12 = .ok (.if_icmp .ne 5, 3) := by decide +kernel
theorem dX0_takeComma_15 : decode cX0_takeComma 15 = .ok (.iconst 0, 1) := by decide +kernel
theorem dX0_takeComma_16 : decode cX0_takeComma 16 = .ok (.ireturn, 1) := by decide +kernel
theorem dX0_takeComma_17 : decode cX0_takeComma 17 = .ok (.aload_n 0, 1) := by decide +kernel
theorem dX0_takeComma_18 : decode cX0_takeComma 18 = .ok (.aload_n 0, 1) := by decide +kernel
theorem dX0_takeComma_19 : decode cX0_takeComma 19 = .ok (.getfield 39, 3) := by decide +kernel
theorem dX0_takeComma_22 : decode cX0_takeComma 22 = .ok (.putfield 36, 3) := by decide +kernel
theorem dX0_takeComma_25 : decode cX0_takeComma 25 = .ok (.aload_n 0, 1) := by decide +kernel
theorem dX0_takeComma_26 : decode cX0_takeComma 26 = .ok (.iconst (-1), 1) := by decide +kernel
theorem dX0_takeComma_27 : decode cX0_takeComma 27 = .ok (.putfield 39, 3) := by decide +kernel
theorem dX0_takeComma_30 : decode cX0_takeComma 30 = .ok (.aload_n 0, 1) := by decide +kernel
theorem dX0_takeComma_31 : decode cX0_takeComma 31 = .ok (.iconst 1, 1) := by decide +kernel
theorem dX0_takeComma_32 : decode cX0_takeComma 32 = .ok (.putfield 33, 3) := by decide +kernel
theorem dX0_takeComma_35 : decode cX0_takeComma 35 = .ok (.iconst 1, 1) := by decide +kernel
theorem dX0_takeComma_36 : decode cX0_takeComma 36 = .ok (.ireturn, 1) := by decide +kernel
theorem dX0_takeDigit_0 : decode cX0_takeDigit 0 = .ok (.aload_n 0, 1) := by decide +kernel
theorem dX0_takeDigit_1 : decode cX0_takeDigit 1 = .ok (.getfield 39, 3) := by decide +kernel
theorem dX0_takeDigit_4 : decode cX0_takeDigit 4 = .ok (.iconst (-1), 1) := by decide +kernel
theorem dX0_takeDigit_5 : decode cX0_takeDigit 5 = .ok (.if_icmp .ne 10, 3) := by decide +kernel
theorem dX0_takeDigit_8 : decode cX0_takeDigit 8 = .ok (.aload_n 0, 1) := by decide +kernel
theorem dX0_takeDigit_9 : decode cX0_takeDigit 9 = .ok (.iload_n 1, 1) := by decide +kernel
theorem dX0_takeDigit_10 : decode cX0_takeDigit 10 = .ok (.putfield 39, 3) := by decide +kernel
theorem dX0_takeDigit_13 : decode cX0_takeDigit 13 = .ok (.iconst 1, 1) := by decide +kernel
theorem dX0_takeDigit_14 : decode cX0_takeDigit 14 = .ok (.ireturn, 1) := by decide +kernel
theorem dX0_takeDigit_15 : decode cX0_takeDigit 15 = .ok (.aload_n 0, 1) := by decide +kernel
theorem dX0_takeDigit_16 : decode cX0_takeDigit 16 = .ok (.getfield 39, 3) := by decide +kernel
theorem dX0_takeDigit_19 : decode cX0_takeDigit 19 = .ok (.ifCond .eq 17, 3) := by decide +kernel
theorem dX0_takeDigit_22 : decode cX0_takeDigit 22 = .ok (.aload_n 0, 1) := by decide +kernel
theorem dX0_takeDigit_23 : decode cX0_takeDigit 23 = .ok (.getfield 39, 3) := by decide +kernel
theorem dX0_takeDigit_26 : decode cX0_takeDigit 26 = .ok (.bipush 10, 2) := by decide +kernel
theorem dX0_takeDigit_28 : decode cX0_takeDigit 28 = .ok (.imul, 1) := by decide +kernel
theorem dX0_takeDigit_29 : decode cX0_takeDigit 29 = .ok (.iload_n 1, 1) := by decide +kernel
theorem dX0_takeDigit_30 : decode cX0_takeDigit 30 = .ok (.iadd, 1) := by decide +kernel
theorem dX0_takeDigit_31 : decode cX0_takeDigit 31 = .ok (.bipush 24, 2) := by decide +kernel
theorem dX0_takeDigit_33 : decode cX0_takeDigit 33 = .ok (.if_icmp .lt 5, 3) := by decide +kernel
theorem dX0_takeDigit_36 : decode cX0_takeDigit 36 = .ok (.iconst 0, 1) := by decide +kernel
theorem dX0_takeDigit_37 : decode cX0_takeDigit 37 = .ok (.ireturn, 1) := by decide +kernel
theorem dX0_takeDigit_38 : decode cX0_takeDigit 38 = .ok (.aload_n 0, 1) := by decide +kernel
theorem dX0_takeDigit_39 : decode cX0_takeDigit 39 = .ok (.aload_n 0, 1) := by decide +kernel
theorem dX0_takeDigit_40 : decode cX0_takeDigit 40 = .ok (.getfield 39, 3) := by decide +kernel
theorem dX0_takeDigit_43 : decode cX0_takeDigit 43 = .ok (.bipush 10, 2) := by decide +kernel
theorem dX0_takeDigit_45 : decode cX0_takeDigit 45 = .ok (.imul, 1) := by decide +kernel
theorem dX0_takeDigit_46 : decode cX0_takeDigit 46 = .ok (.iload_n 1, 1) := by decide +kernel
theorem dX0_takeDigit_47 : decode cX0_takeDigit 47 = .ok (.iadd, 1) := by decide +kernel
theorem dX0_takeDigit_48 : decode cX0_takeDigit 48 = .ok (.putfield 39, 3) := by decide +kernel
theorem dX0_takeDigit_51 : decode cX0_takeDigit 51 = .ok (.iconst 1, 1) := by decide +kernel
theorem dX0_takeDigit_52 : decode cX0_takeDigit 52 = .ok (.ireturn, 1) := by decide +kernel
theorem dX1_init_0 : decode cX1_init 0 = .ok (.aload_n 0, 1) := by decide +kernel
theorem dX1_init_1 : decode cX1_init 1 = .ok (.invokespecial 3, 3) := by decide +kernel
theorem dX1_init_4 : decode cX1_init 4 = .ok (.aload_n 0, 1) := by decide +kernel
theorem dX1_init_5 : decode cX1_init 5 = .ok (.iconst 0, 1) := by decide +kernel
theorem dX1_init_6 : decode cX1_init 6 = .ok (.putfield 9, 3) := by decide +kernel
theorem dX1_init_9 : decode cX1_init 9 = .ok (.aload_n 0, 1) := by decide +kernel
theorem dX1_init_10 : decode cX1_init 10 = .ok (.iconst 0, 1) := by decide +kernel
theorem dX1_init_11 : decode cX1_init 11 = .ok (.putfield 15, 3) := by decide +kernel
theorem dX1_init_14 : decode cX1_init 14 = .ok (.aload_n 0, 1) := by decide +kernel
theorem dX1_init_15 : decode cX1_init 15 = .ok (.iconst 0, 1) := by decide +kernel
theorem dX1_init_16 : decode cX1_init 16 = .ok (.putfield 18, 3) := by decide +kernel
theorem dX1_init_19 : decode cX1_init 19 = .ok (.aload_n 0, 1) := by decide +kernel
theorem dX1_init_20 : decode cX1_init 20 = .ok (.iconst 0, 1) := by decide +kernel
theorem dX1_init_21 : decode cX1_init 21 = .ok (.putfield 21, 3) := by decide +kernel
theorem dX1_init_24 : decode cX1_init 24 = .ok (.aload_n 0, 1) := by decide +kernel
theorem dX1_init_25 : decode cX1_init 25 = .ok (.iconst 0, 1) := by decide +kernel
theorem dX1_init_26 : decode cX1_init 26 = .ok (.putfield 24, 3) := by decide +kernel
theorem dX1_init_29 : decode cX1_init 29 = .ok (.aload_n 0, 1) := by decide +kernel
theorem dX1_init_30 : decode cX1_init 30 = .ok (.iconst 0, 1) := by decide +kernel
theorem dX1_init_31 : decode cX1_init 31 = .ok (.putfield 27, 3) := by decide +kernel
theorem dX1_init_34 : decode cX1_init 34 = .ok (.aload_n 0, 1) := by decide +kernel
theorem dX1_init_35 : decode cX1_init 35 = .ok (.iconst 0, 1) := by decide +kernel
theorem dX1_init_36 : decode cX1_init 36 = .ok (.putfield 30, 3) := by decide +kernel
theorem dX1_init_39 : decode cX1_init 39 = .ok (.aload_n 0, 1) := by decide +kernel
theorem dX1_init_40 : decode cX1_init 40 = .ok (.iconst 0, 1) := by decide +kernel
theorem dX1_init_41 : decode cX1_init 41 = .ok (.putfield 33, 3) := by decide +kernel
theorem dX1_init_44 : decode cX1_init 44 = .ok (.aload_n 0, 1) := by decide +kernel
theorem dX1_init_45 : decode cX1_init 45 = .ok (.lconst 0, 1) := by decide +kernel
theorem dX1_init_46 : decode cX1_init 46 = .ok (.putfield 36, 3) := by decide +kernel
theorem dX1_init_49 : decode cX1_init 49 = .ok (.return_, 1) := by decide +kernel
theorem dX1_aim_0 : decode cX1_aim 0 = .ok (.iload_n 3, 1) := by decide +kernel
theorem dX1_aim_1 : decode cX1_aim 1 = .ok (.iload_n 1, 1) := by decide +kernel
theorem dX1_aim_2 : decode cX1_aim 2 = .ok (.isub, 1) := by decide +kernel
theorem dX1_aim_3 : decode cX1_aim 3 = .ok (.istore 5, 2) := by decide +kernel
theorem dX1_aim_5 : decode cX1_aim 5 = .ok (.iload 4, 2) := by decide +kernel
theorem dX1_aim_7 : decode cX1_aim 7 = .ok (.iload_n 2, 1) := by decide +kernel
theorem dX1_aim_8 : decode cX1_aim 8 = .ok (.isub, 1) := by decide +kernel
theorem dX1_aim_9 : decode cX1_aim 9 = .ok (.istore 6, 2) := by decide +kernel
theorem dX1_aim_11 : decode cX1_aim 11 = .ok (.iload 5, 2) := by decide +kernel
theorem dX1_aim_13 : decode cX1_aim 13 = .ok (.invokestatic 40, 3) := by decide +kernel
theorem dX1_aim_16 : decode cX1_aim 16 = .ok (.iload 6, 2) := by decide +kernel
theorem dX1_aim_18 : decode cX1_aim 18 = .ok (.invokestatic 40, 3) := by decide +kernel
theorem dX1_aim_21 : decode cX1_aim 21 = .ok (.invokestatic 46, 3) := by decide +kernel
theorem dX1_aim_24 : decode cX1_aim 24 = .ok (.istore 7, 2) := by decide +kernel
theorem dX1_aim_26 : decode cX1_aim 26 = .ok (.iload 5, 2) := by decide +kernel
theorem dX1_aim_28 : decode cX1_aim 28 = .ok (.ifCond .lt 13, 3) := by decide +kernel
theorem dX1_aim_31 : decode cX1_aim 31 = .ok (.iload 5, 2) := by decide +kernel
theorem dX1_aim_33 : decode cX1_aim 33 = .ok (.ifCond .ne 12, 3) := by decide +kernel
theorem dX1_aim_36 : decode cX1_aim 36 = .ok (.iload 6, 2) := by decide +kernel
theorem dX1_aim_38 : decode cX1_aim 38 = .ok (.ifCond .ge 7, 3) := by decide +kernel
theorem dX1_aim_41 : decode cX1_aim 41 = .ok (.iconst 1, 1) := by decide +kernel
theorem dX1_aim_42 : decode cX1_aim 42 = .ok (.goto 4, 3) := by decide +kernel
theorem dX1_aim_45 : decode cX1_aim 45 = .ok (.iconst 0, 1) := by decide +kernel
theorem dX1_aim_46 : decode cX1_aim 46 = .ok (.istore 8, 2) := by decide +kernel
theorem dX1_aim_48 : decode cX1_aim 48 = .ok (.iload 8, 2) := by decide +kernel
theorem dX1_aim_50 : decode cX1_aim 50 = .ok (.ifCond .eq 9, 3) := by decide +kernel
theorem dX1_aim_53 : decode cX1_aim 53 = .ok (.iload 7, 2) := by decide +kernel
theorem dX1_aim_55 : decode cX1_aim 55 = .ok (.ineg, 1) := by decide +kernel
theorem dX1_aim_56 : decode cX1_aim 56 = .ok (.goto 5, 3) := by decide +kernel
theorem dX1_aim_59 : decode cX1_aim 59 = .ok (.iload 7, 2) := by decide +kernel
theorem dX1_aim_61 : decode cX1_aim 61 = .ok (.istore 9, 2) := by decide +kernel
theorem dX1_aim_63 : decode cX1_aim 63 = .ok (.aload_n 0, 1) := by decide +kernel
theorem dX1_aim_64 : decode cX1_aim 64 = .ok (.iload 9, 2) := by decide +kernel
theorem dX1_aim_66 : decode cX1_aim 66 = .ok (.ifCond .eq 11, 3) := by decide +kernel
theorem dX1_aim_69 : decode cX1_aim 69 = .ok (.iload 5, 2) := by decide +kernel
theorem dX1_aim_71 : decode cX1_aim 71 = .ok (.iload 9, 2) := by decide +kernel
theorem dX1_aim_73 : decode cX1_aim 73 = .ok (.idiv, 1) := by decide +kernel
theorem dX1_aim_74 : decode cX1_aim 74 = .ok (.goto 4, 3) := by decide +kernel
theorem dX1_aim_77 : decode cX1_aim 77 = .ok (.iconst 0, 1) := by decide +kernel
theorem dX1_aim_78 : decode cX1_aim 78 = .ok (.putfield 15, 3) := by decide +kernel
theorem dX1_aim_81 : decode cX1_aim 81 = .ok (.aload_n 0, 1) := by decide +kernel
theorem dX1_aim_82 : decode cX1_aim 82 = .ok (.iload 9, 2) := by decide +kernel
theorem dX1_aim_84 : decode cX1_aim 84 = .ok (.ifCond .eq 11, 3) := by decide +kernel
theorem dX1_aim_87 : decode cX1_aim 87 = .ok (.iload 6, 2) := by decide +kernel
theorem dX1_aim_89 : decode cX1_aim 89 = .ok (.iload 9, 2) := by decide +kernel
theorem dX1_aim_91 : decode cX1_aim 91 = .ok (.idiv, 1) := by decide +kernel
theorem dX1_aim_92 : decode cX1_aim 92 = .ok (.goto 4, 3) := by decide +kernel
theorem dX1_aim_95 : decode cX1_aim 95 = .ok (.iconst 0, 1) := by decide +kernel
theorem dX1_aim_96 : decode cX1_aim 96 = .ok (.putfield 18, 3) := by decide +kernel
theorem dX1_aim_99 : decode cX1_aim 99 = .ok (.aload_n 0, 1) := by decide +kernel
theorem dX1_aim_100 : decode cX1_aim 100 = .ok (.iload_n 1, 1) := by decide +kernel
theorem dX1_aim_101 : decode cX1_aim 101 = .ok (.putfield 24, 3) := by decide +kernel
theorem dX1_aim_104 : decode cX1_aim 104 = .ok (.aload_n 0, 1) := by decide +kernel
theorem dX1_aim_105 : decode cX1_aim 105 = .ok (.iload_n 2, 1) := by decide +kernel
theorem dX1_aim_106 : decode cX1_aim 106 = .ok (.putfield 27, 3) := by decide +kernel
theorem dX1_aim_109 : decode cX1_aim 109 = .ok (.aload_n 0, 1) := by decide +kernel
theorem dX1_aim_110 : decode cX1_aim 110 = .ok (.iconst 0, 1) := by decide +kernel
theorem dX1_aim_111 : decode cX1_aim 111 = .ok (.putfield 9, 3) := by decide +kernel
theorem dX1_aim_114 : decode cX1_aim 114 = .ok (.aload_n 0, 1) := by decide +kernel
theorem dX1_aim_115 : decode cX1_aim 115 = .ok (.lconst 0, 1) := by decide +kernel
theorem dX1_aim_116 : decode cX1_aim 116 = .ok (.putfield 36, 3) := by decide +kernel
theorem dX1_aim_119 : decode cX1_aim 119 = .ok (.aload_n 0, 1) := by decide +kernel
theorem dX1_aim_120 : decode cX1_aim 120 = .ok (.iconst 0, 1) := by decide +kernel
theorem dX1_aim_121 : decode cX1_aim 121 = .ok (.putfield 30, 3) := by decide +kernel
theorem dX1_aim_124 : decode cX1_aim 124 = .ok (.aload_n 0, 1) := by decide +kernel
theorem dX1_aim_125 : decode cX1_aim 125 = .ok (.iconst 0, 1) := by decide +kernel
theorem dX1_aim_126 : decode cX1_aim 126 = .ok (.putfield 33, 3) := by decide +kernel
theorem dX1_aim_129 : decode cX1_aim 129 = .ok (.return_, 1) := by decide +kernel
theorem dX1_join_0 : decode cX1_join 0 = .ok (.aload_n 0, 1) := by decide +kernel
theorem dX1_join_1 : decode cX1_join 1 = .ok (.iload_n 2, 1) := by decide +kernel
theorem dX1_join_2 : decode cX1_join 2 = .ok (.iload_n 3, 1) := by decide +kernel
theorem dX1_join_3 : decode cX1_join 3 = .ok (.invokevirtual 50, 3) := by decide +kernel
theorem dX1_join_6 : decode cX1_join 6 = .ok (.istore 4, 2) := by decide +kernel
theorem dX1_join_8 : decode cX1_join 8 = .ok (.aload_n 0, 1) := by decide +kernel
theorem dX1_join_9 : decode cX1_join 9 = .ok (.aload_n 0, 1) := by decide +kernel
theorem dX1_join_10 : decode cX1_join 10 = .ok (.getfield 9, 3) := by decide +kernel
theorem dX1_join_13 : decode cX1_join 13 = .ok (.iconst 1, 1) := by decide +kernel
theorem dX1_join_14 : decode cX1_join 14 = .ok (.iload_n 1, 1) := by decide +kernel
theorem dX1_join_15 : decode cX1_join 15 = .ok (.ishl, 1) := by decide +kernel
theorem dX1_join_16 : decode cX1_join 16 = .ok (.ior, 1) := by decide +kernel
theorem dX1_join_17 : decode cX1_join 17 = .ok (.putfield 9, 3) := by decide +kernel
theorem dX1_join_20 : decode cX1_join 20 = .ok (.aload_n 0, 1) := by decide +kernel
theorem dX1_join_21 : decode cX1_join 21 = .ok (.aload_n 0, 1) := by decide +kernel
theorem dX1_join_22 : decode cX1_join 22 = .ok (.getfield 36, 3) := by decide +kernel
theorem dX1_join_25 : decode cX1_join 25 = .ok (.lconst 1, 1) := by decide +kernel
theorem dX1_join_26 : decode cX1_join 26 = .ok (.bipush 24, 2) := by decide +kernel
theorem dX1_join_28 : decode cX1_join 28 = .ok (.iload 4, 2) := by decide +kernel
theorem dX1_join_30 : decode cX1_join 30 = .ok (.iadd, 1) := by decide +kernel
theorem dX1_join_31 : decode cX1_join 31 = .ok (.lshl, 1) := by decide +kernel
theorem dX1_join_32 : decode cX1_join 32 = .ok (.lor, 1) := by decide +kernel
theorem dX1_join_33 : decode cX1_join 33 = .ok (.putfield 36, 3) := by decide +kernel
theorem dX1_join_36 : decode cX1_join 36 = .ok (.aload_n 0, 1) := by decide +kernel
theorem dX1_join_37 : decode cX1_join 37 = .ok (.aload_n 0, 1) := by decide +kernel
theorem dX1_join_38 : decode cX1_join 38 = .ok (.getfield 30, 3) := by decide +kernel
theorem dX1_join_41 : decode cX1_join 41 = .ok (.iload 4, 2) := by decide +kernel
theorem dX1_join_43 : decode cX1_join 43 = .ok (.invokestatic 53, 3) := by decide +kernel
theorem dX1_join_46 : decode cX1_join 46 = .ok (.putfield 30, 3) := by decide +kernel
theorem dX1_join_49 : decode cX1_join 49 = .ok (.aload_n 0, 1) := by decide +kernel
theorem dX1_join_50 : decode cX1_join 50 = .ok (.aload_n 0, 1) := by decide +kernel
theorem dX1_join_51 : decode cX1_join 51 = .ok (.getfield 33, 3) := by decide +kernel
theorem dX1_join_54 : decode cX1_join 54 = .ok (.iload 4, 2) := by decide +kernel
theorem dX1_join_56 : decode cX1_join 56 = .ok (.invokestatic 56, 3) := by decide +kernel
theorem dX1_join_59 : decode cX1_join 59 = .ok (.putfield 33, 3) := by decide +kernel
theorem dX1_join_62 : decode cX1_join 62 = .ok (.return_, 1) := by decide +kernel
theorem dX1_widestGap_0 : decode cX1_widestGap 0 = .ok (.iconst 0, 1) := by decide +kernel
theorem dX1_widestGap_1 : decode cX1_widestGap 1 = .ok (.istore_n 1, 1) := by decide +kernel
theorem dX1_widestGap_2 : decode cX1_widestGap 2 = .ok (.aload_n 0, 1) := by decide +kernel
theorem dX1_widestGap_3 : decode cX1_widestGap 3 = .ok (.getfield 30, 3) := by decide +kernel
theorem dX1_widestGap_6 : decode cX1_widestGap 6 = .ok (.istore_n 2, 1) := by decide +kernel
theorem dX1_widestGap_7 : decode cX1_widestGap 7 = .ok (.aload_n 0, 1) := by decide +kernel
theorem dX1_widestGap_8 : decode cX1_widestGap 8 = .ok (.getfield 30, 3) := by decide +kernel
theorem dX1_widestGap_11 : decode cX1_widestGap 11 = .ok (.iconst 1, 1) := by decide +kernel
theorem dX1_widestGap_12 : decode cX1_widestGap 12 = .ok (.iadd, 1) := by decide +kernel
theorem dX1_widestGap_13 : decode cX1_widestGap 13 = .ok (.istore_n 3, 1) := by decide +kernel
theorem dX1_widestGap_14 : decode cX1_widestGap 14 = .ok (.iload_n 3, 1) := by decide +kernel
theorem dX1_widestGap_15 : decode cX1_widestGap 15 = .ok (.aload_n 0, 1) := by decide +kernel
theorem dX1_widestGap_16 : decode cX1_widestGap 16 = .ok (.getfield 33, 3) := by decide +kernel
theorem dX1_widestGap_19 : decode cX1_widestGap 19 = .ok (.if_icmp .gt 35, 3) := by decide +kernel
theorem dX1_widestGap_22 : decode cX1_widestGap 22 = .ok (.aload_n 0, 1) := by decide +kernel
theorem dX1_widestGap_23 : decode cX1_widestGap 23 = .ok (.getfield 36, 3) := by decide +kernel
theorem dX1_widestGap_26 : decode cX1_widestGap 26 = .ok (.bipush 24, 2) := by decide +kernel
theorem dX1_widestGap_28 : decode cX1_widestGap 28 = .ok (.iload_n 3, 1) := by decide +kernel
theorem dX1_widestGap_29 : decode cX1_widestGap 29 = .ok (.iadd, 1) := by decide +kernel
theorem dX1_widestGap_30 : decode cX1_widestGap 30 = .ok (.lshr, 1) := by decide +kernel
theorem dX1_widestGap_31 : decode cX1_widestGap 31 = .ok (.lconst 1, 1) := by decide +kernel
theorem dX1_widestGap_32 : decode cX1_widestGap 32 = .ok (.land, 1) := by decide +kernel
theorem dX1_widestGap_33 : decode cX1_widestGap 33 = .ok (.lconst 1, 1) := by decide +kernel
theorem dX1_widestGap_34 : decode cX1_widestGap 34 = .ok (.lcmp, 1) := by decide +kernel
theorem dX1_widestGap_35 : decode cX1_widestGap 35 = .ok (.ifCond .ne 13, 3) := by decide +kernel
theorem dX1_widestGap_38 : decode cX1_widestGap 38 = .ok (.iload_n 1, 1) := by decide +kernel
theorem dX1_widestGap_39 : decode cX1_widestGap 39 = .ok (.iload_n 3, 1) := by decide +kernel
theorem dX1_widestGap_40 : decode cX1_widestGap 40 = .ok (.iload_n 2, 1) := by decide +kernel
theorem dX1_widestGap_41 : decode cX1_widestGap 41 = .ok (.isub, 1) := by decide +kernel
theorem dX1_widestGap_42 : decode cX1_widestGap 42 = .ok (.invokestatic 56, 3) := by decide +kernel
theorem dX1_widestGap_45 : decode cX1_widestGap 45 = .ok (.istore_n 1, 1) := by decide +kernel
theorem dX1_widestGap_46 : decode cX1_widestGap 46 = .ok (.iload_n 3, 1) := by decide +kernel
theorem dX1_widestGap_47 : decode cX1_widestGap 47 = .ok (.istore_n 2, 1) := by decide +kernel
theorem dX1_widestGap_48 : decode cX1_widestGap 48 = .ok (.iinc 3 1, 3) := by decide +kernel
theorem dX1_widestGap_51 : decode cX1_widestGap 51 = .ok (.goto (-37), 3) := by decide +kernel
theorem dX1_widestGap_54 : decode cX1_widestGap 54 = .ok (.iload_n 1, 1) := by decide +kernel
theorem dX1_widestGap_55 : decode cX1_widestGap 55 = .ok (.ireturn, 1) := by decide +kernel
theorem dX1_spread_0 : decode cX1_spread 0 = .ok (.iconst 0, 1) := by decide +kernel
theorem dX1_spread_1 : decode cX1_spread 1 = .ok (.istore_n 2, 1) := by decide +kernel
theorem dX1_spread_2 : decode cX1_spread 2 = .ok (.iload_n 2, 1) := by decide +kernel
theorem dX1_spread_3 : decode cX1_spread 3 = .ok (.iload_n 1, 1) := by decide +kernel
theorem dX1_spread_4 : decode cX1_spread 4 = .ok (.if_icmp .ge 45, 3) := by decide +kernel
theorem dX1_spread_7 : decode cX1_spread 7 = .ok (.aload_n 0, 1) := by decide +kernel
theorem dX1_spread_8 : decode cX1_spread 8 = .ok (.aload_n 0, 1) := by decide +kernel
theorem dX1_spread_9 : decode cX1_spread 9 = .ok (.getfield 30, 3) := by decide +kernel
theorem dX1_spread_12 : decode cX1_spread 12 = .ok (.iconst 1, 1) := by decide +kernel
theorem dX1_spread_13 : decode cX1_spread 13 = .ok (.isub, 1) := by decide +kernel
theorem dX1_spread_14 : decode cX1_spread 14 = .ok (.invokevirtual 59, 3) := by decide +kernel
theorem dX1_spread_17 : decode cX1_spread 17 = .ok (.aload_n 0, 1) := by decide +kernel
theorem dX1_spread_18 : decode cX1_spread 18 = .ok (.aload_n 0, 1) := by decide +kernel
theorem dX1_spread_19 : decode cX1_spread 19 = .ok (.getfield 30, 3) := by decide +kernel
theorem dX1_spread_22 : decode cX1_spread 22 = .ok (.iconst 1, 1) := by decide +kernel
theorem dX1_spread_23 : decode cX1_spread 23 = .ok (.isub, 1) := by decide +kernel
theorem dX1_spread_24 : decode cX1_spread 24 = .ok (.invokevirtual 62, 3) := by decide +kernel
theorem dX1_spread_27 : decode cX1_spread 27 = .ok (.invokestatic 65, 3) := by decide +kernel
theorem dX1_spread_30 : decode cX1_spread 30 = .ok (.ifCond .eq 19, 3) := by decide +kernel
theorem dX1_spread_33 : decode cX1_spread 33 = .ok (.aload_n 0, 1) := by decide +kernel
theorem dX1_spread_34 : decode cX1_spread 34 = .ok (.dup, 1) := by decide +kernel
theorem dX1_spread_35 : decode cX1_spread 35 = .ok (.getfield 30, 3) := by decide +kernel
theorem dX1_spread_38 : decode cX1_spread 38 = .ok (.iconst 1, 1) := by decide +kernel
theorem dX1_spread_39 : decode cX1_spread 39 = .ok (.isub, 1) := by decide +kernel
theorem dX1_spread_40 : decode cX1_spread 40 = .ok (.putfield 30, 3) := by decide +kernel
theorem dX1_spread_43 : decode cX1_spread 43 = .ok (.iinc 2 1, 3) := by decide +kernel
theorem dX1_spread_46 : decode cX1_spread 46 = .ok (.goto (-44), 3) := by decide +kernel
theorem dX1_spread_49 : decode cX1_spread 49 = .ok (.iconst 0, 1) := by decide +kernel
theorem dX1_spread_50 : decode cX1_spread 50 = .ok (.istore_n 2, 1) := by decide +kernel
theorem dX1_spread_51 : decode cX1_spread 51 = .ok (.iload_n 2, 1) := by decide +kernel
theorem dX1_spread_52 : decode cX1_spread 52 = .ok (.iload_n 1, 1) := by decide +kernel
theorem dX1_spread_53 : decode cX1_spread 53 = .ok (.if_icmp .ge 45, 3) := by decide +kernel
theorem dX1_spread_56 : decode cX1_spread 56 = .ok (.aload_n 0, 1) := by decide +kernel
theorem dX1_spread_57 : decode cX1_spread 57 = .ok (.aload_n 0, 1) := by decide +kernel
theorem dX1_spread_58 : decode cX1_spread 58 = .ok (.getfield 33, 3) := by decide +kernel
theorem dX1_spread_61 : decode cX1_spread 61 = .ok (.iconst 1, 1) := by decide +kernel
theorem dX1_spread_62 : decode cX1_spread 62 = .ok (.iadd, 1) := by decide +kernel
theorem dX1_spread_63 : decode cX1_spread 63 = .ok (.invokevirtual 59, 3) := by decide +kernel
theorem dX1_spread_66 : decode cX1_spread 66 = .ok (.aload_n 0, 1) := by decide +kernel
theorem dX1_spread_67 : decode cX1_spread 67 = .ok (.aload_n 0, 1) := by decide +kernel
theorem dX1_spread_68 : decode cX1_spread 68 = .ok (.getfield 33, 3) := by decide +kernel
theorem dX1_spread_71 : decode cX1_spread 71 = .ok (.iconst 1, 1) := by decide +kernel
theorem dX1_spread_72 : decode cX1_spread 72 = .ok (.iadd, 1) := by decide +kernel
theorem dX1_spread_73 : decode cX1_spread 73 = .ok (.invokevirtual 62, 3) := by decide +kernel
theorem dX1_spread_76 : decode cX1_spread 76 = .ok (.invokestatic 65, 3) := by decide +kernel
theorem dX1_spread_79 : decode cX1_spread 79 = .ok (.ifCond .eq 19, 3) := by decide +kernel
theorem dX1_spread_82 : decode cX1_spread 82 = .ok (.aload_n 0, 1) := by decide +kernel
theorem dX1_spread_83 : decode cX1_spread 83 = .ok (.dup, 1) := by decide +kernel
theorem dX1_spread_84 : decode cX1_spread 84 = .ok (.getfield 33, 3) := by decide +kernel
theorem dX1_spread_87 : decode cX1_spread 87 = .ok (.iconst 1, 1) := by decide +kernel
theorem dX1_spread_88 : decode cX1_spread 88 = .ok (.iadd, 1) := by decide +kernel
theorem dX1_spread_89 : decode cX1_spread 89 = .ok (.putfield 33, 3) := by decide +kernel
theorem dX1_spread_92 : decode cX1_spread 92 = .ok (.iinc 2 1, 3) := by decide +kernel
theorem dX1_spread_95 : decode cX1_spread 95 = .ok (.goto (-44), 3) := by decide +kernel
theorem dX1_spread_98 : decode cX1_spread 98 = .ok (.aload_n 0, 1) := by decide +kernel
theorem dX1_spread_99 : decode cX1_spread 99 = .ok (.aload_n 0, 1) := by decide +kernel
theorem dX1_spread_100 : decode cX1_spread 100 = .ok (.getfield 33, 3) := by decide +kernel
theorem dX1_spread_103 : decode cX1_spread 103 = .ok (.aload_n 0, 1) := by decide +kernel
theorem dX1_spread_104 : decode cX1_spread 104 = .ok (.getfield 30, 3) := by decide +kernel
theorem dX1_spread_107 : decode cX1_spread 107 = .ok (.isub, 1) := by decide +kernel
theorem dX1_spread_108 : decode cX1_spread 108 = .ok (.iconst 1, 1) := by decide +kernel
theorem dX1_spread_109 : decode cX1_spread 109 = .ok (.iadd, 1) := by decide +kernel
theorem dX1_spread_110 : decode cX1_spread 110 = .ok (.putfield 21, 3) := by decide +kernel
theorem dX1_spread_113 : decode cX1_spread 113 = .ok (.return_, 1) := by decide +kernel
theorem dX1_cellAt_0 : decode cX1_cellAt 0 = .ok (.aload_n 0, 1) := by decide +kernel
theorem dX1_cellAt_1 : decode cX1_cellAt 1 = .ok (.aload_n 0, 1) := by decide +kernel
theorem dX1_cellAt_2 : decode cX1_cellAt 2 = .ok (.getfield 30, 3) := by decide +kernel
theorem dX1_cellAt_5 : decode cX1_cellAt 5 = .ok (.iload_n 1, 1) := by decide +kernel
theorem dX1_cellAt_6 : decode cX1_cellAt 6 = .ok (.iadd, 1) := by decide +kernel
theorem dX1_cellAt_7 : decode cX1_cellAt 7 = .ok (.invokevirtual 59, 3) := by decide +kernel
theorem dX1_cellAt_10 : decode cX1_cellAt 10 = .ok (.bipush 24, 2) := by decide +kernel
theorem dX1_cellAt_12 : decode cX1_cellAt 12 = .ok (.imul, 1) := by decide +kernel
theorem dX1_cellAt_13 : decode cX1_cellAt 13 = .ok (.aload_n 0, 1) := by decide +kernel
theorem dX1_cellAt_14 : decode cX1_cellAt 14 = .ok (.aload_n 0, 1) := by decide +kernel
theorem dX1_cellAt_15 : decode cX1_cellAt 15 = .ok (.getfield 30, 3) := by decide +kernel
theorem dX1_cellAt_18 : decode cX1_cellAt 18 = .ok (.iload_n 1, 1) := by decide +kernel
theorem dX1_cellAt_19 : decode cX1_cellAt 19 = .ok (.iadd, 1) := by decide +kernel
theorem dX1_cellAt_20 : decode cX1_cellAt 20 = .ok (.invokevirtual 62, 3) := by decide +kernel
theorem dX1_cellAt_23 : decode cX1_cellAt 23 = .ok (.iadd, 1) := by decide +kernel
theorem dX1_cellAt_24 : decode cX1_cellAt 24 = .ok (.ireturn, 1) := by decide +kernel
theorem dX1_trackAt_0 : decode cX1_trackAt 0 = .ok (.aload_n 0, 1) := by decide +kernel
theorem dX1_trackAt_1 : decode cX1_trackAt 1 = .ok (.getfield 24, 3) := by decide +kernel
theorem dX1_trackAt_4 : decode cX1_trackAt 4 = .ok (.iload_n 1, 1) := by decide +kernel
theorem dX1_trackAt_5 : decode cX1_trackAt 5 = .ok (.aload_n 0, 1) := by decide +kernel
theorem dX1_trackAt_6 : decode cX1_trackAt 6 = .ok (.getfield 15, 3) := by decide +kernel
theorem dX1_trackAt_9 : decode cX1_trackAt 9 = .ok (.imul, 1) := by decide +kernel
theorem dX1_trackAt_10 : decode cX1_trackAt 10 = .ok (.iadd, 1) := by decide +kernel
theorem dX1_trackAt_11 : decode cX1_trackAt 11 = .ok (.ireturn, 1) := by decide +kernel
theorem dX1_sectorAt_0 : decode cX1_sectorAt 0 = .ok (.aload_n 0, 1) := by decide +kernel
theorem dX1_sectorAt_1 : decode cX1_sectorAt 1 = .ok (.getfield 27, 3) := by decide +kernel
theorem dX1_sectorAt_4 : decode cX1_sectorAt 4 = .ok (.iload_n 1, 1) := by decide +kernel
theorem dX1_sectorAt_5 : decode cX1_sectorAt 5 = .ok (.aload_n 0, 1) := by decide +kernel
theorem dX1_sectorAt_6 : decode cX1_sectorAt 6 = .ok (.getfield 18, 3) := by decide +kernel
theorem dX1_sectorAt_9 : decode cX1_sectorAt 9 = .ok (.imul, 1) := by decide +kernel
theorem dX1_sectorAt_10 : decode cX1_sectorAt 10 = .ok (.iadd, 1) := by decide +kernel
theorem dX1_sectorAt_11 : decode cX1_sectorAt 11 = .ok (.ireturn, 1) := by decide +kernel
theorem dX1_stepsTo_0 : decode cX1_stepsTo 0 = .ok (.aload_n 0, 1) := by decide +kernel
theorem dX1_stepsTo_1 : decode cX1_stepsTo 1 = .ok (.getfield 15, 3) := by decide +kernel
theorem dX1_stepsTo_4 : decode cX1_stepsTo 4 = .ok (.ifCond .eq 15, 3) := by decide +kernel
theorem dX1_stepsTo_7 : decode cX1_stepsTo 7 = .ok (.iload_n 1, 1) := by decide +kernel
theorem dX1_stepsTo_8 : decode cX1_stepsTo 8 = .ok (.aload_n 0, 1) := by decide +kernel
theorem dX1_stepsTo_9 : decode cX1_stepsTo 9 = .ok (.getfield 24, 3) := by decide +kernel
theorem dX1_stepsTo_12 : decode cX1_stepsTo 12 = .ok (.isub, 1) := by decide +kernel
theorem dX1_stepsTo_13 : decode cX1_stepsTo 13 = .ok (.aload_n 0, 1) := by decide +kernel
theorem dX1_stepsTo_14 : decode cX1_stepsTo 14 = .ok (.getfield 15, 3) := by decide +kernel
theorem dX1_stepsTo_17 : decode cX1_stepsTo 17 = .ok (.idiv, 1) := by decide +kernel
theorem dX1_stepsTo_18 : decode cX1_stepsTo 18 = .ok (.ireturn, 1) := by decide +kernel
theorem dX1_stepsTo_19 : decode cX1_stepsTo 19 = .ok (.aload_n 0, 1) := by decide +kernel
theorem dX1_stepsTo_20 : decode cX1_stepsTo 20 = .ok (.getfield 18, 3) := by decide +kernel
theorem dX1_stepsTo_23 : decode cX1_stepsTo 23 = .ok (.ifCond .eq 17, 3) := by decide +kernel
theorem dX1_stepsTo_26 : decode cX1_stepsTo 26 = .ok (.iload_n 2, 1) := by decide +kernel
theorem dX1_stepsTo_27 : decode cX1_stepsTo 27 = .ok (.aload_n 0, 1) := by decide +kernel
theorem dX1_stepsTo_28 : decode cX1_stepsTo 28 = .ok (.getfield 27, 3) := by decide +kernel
theorem dX1_stepsTo_31 : decode cX1_stepsTo 31 = .ok (.isub, 1) := by decide +kernel
theorem dX1_stepsTo_32 : decode cX1_stepsTo 32 = .ok (.aload_n 0, 1) := by decide +kernel
theorem dX1_stepsTo_33 : decode cX1_stepsTo 33 = .ok (.getfield 18, 3) := by decide +kernel
theorem dX1_stepsTo_36 : decode cX1_stepsTo 36 = .ok (.idiv, 1) := by decide +kernel
theorem dX1_stepsTo_37 : decode cX1_stepsTo 37 = .ok (.goto 4, 3) := by decide +kernel
theorem dX1_stepsTo_40 : decode cX1_stepsTo 40 = .ok (.iconst 0, 1) := by decide +kernel
theorem dX1_stepsTo_41 : decode cX1_stepsTo 41 = .ok (.ireturn, 1) := by decide +kernel
theorem dX1_commonDivisor_0 : decode cX1_commonDivisor 0 = .ok (.iload_n 0, 1) := by decide +kernel
theorem dX1_commonDivisor_1 : decode cX1_commonDivisor 1 = .ok (.iload_n 1, 1) := by decide +kernel
theorem dX1_commonDivisor_2 : decode cX1_commonDivisor 2 = .ok (.if_icmp .le 7, 3) := by decide +kernel
theorem dX1_commonDivisor_5 : decode cX1_commonDivisor 5 = .ok (.iload_n 0, 1) := by decide +kernel
theorem dX1_commonDivisor_6 : decode cX1_commonDivisor 6 = .ok (.goto 4, 3) := by decide +kernel
theorem dX1_commonDivisor_9 : decode cX1_commonDivisor 9 = .ok (.iload_n 1, 1) := by decide +kernel
theorem dX1_commonDivisor_10 : decode cX1_commonDivisor 10 = .ok (.istore_n 2, 1) := by decide +kernel
theorem dX1_commonDivisor_11 : decode cX1_commonDivisor 11 = .ok (.iload_n 2, 1) := by decide +kernel
theorem dX1_commonDivisor_12 : decode cX1_commonDivisor 12 = .ok (.istore_n 3, 1) := by decide +kernel
theorem dX1_commonDivisor_13 : decode cX1_commonDivisor 13 = .ok (.iload_n 3, 1) := by decide +kernel
theorem dX1_commonDivisor_14 : decode cX1_commonDivisor 14 = .ok (.iconst 1, 1) := by decide +kernel
theorem dX1_commonDivisor_15 : decode cX1_commonDivisor 15 = .ok (.if_icmp .le 23, 3) := by decide +kernel
theorem dX1_commonDivisor_18 : decode cX1_commonDivisor 18 = .ok (.iload_n 0, 1) := by decide +kernel
theorem dX1_commonDivisor_19 : decode cX1_commonDivisor 19 = .ok (.iload_n 3, 1) := by decide +kernel
theorem dX1_commonDivisor_20 : decode cX1_commonDivisor 20 = .ok (.irem, 1) := by decide +kernel
theorem dX1_commonDivisor_21 : decode cX1_commonDivisor 21 = .ok (.ifCond .ne 11, 3) := by decide +kernel
theorem dX1_commonDivisor_24 : decode cX1_commonDivisor 24 = .ok (.iload_n 1, 1) := by decide +kernel
theorem dX1_commonDivisor_25 : decode cX1_commonDivisor 25 = .ok (.iload_n 3, 1) := by decide +kernel
theorem dX1_commonDivisor_26 : decode cX1_commonDivisor 26 = .ok (.irem, 1) := by decide +kernel
theorem dX1_commonDivisor_27 : decode cX1_commonDivisor 27 = .ok (.ifCond .ne 5, 3) := by decide +kernel
theorem dX1_commonDivisor_30 : decode cX1_commonDivisor 30 = .ok (.iload_n 3, 1) := by decide +kernel
theorem dX1_commonDivisor_31 : decode cX1_commonDivisor 31 = .ok (.ireturn, 1) := by decide +kernel
theorem dX1_commonDivisor_32 : decode cX1_commonDivisor 32 = .ok (.iinc 3 (-1), 3) := by decide +kernel
theorem dX1_commonDivisor_35 : decode cX1_commonDivisor 35 = .ok (.goto (-22), 3) := by decide +kernel
theorem dX1_commonDivisor_38 : decode cX1_commonDivisor 38 = .ok (.iload_n 2, 1) := by decide +kernel
theorem dX1_commonDivisor_39 : decode cX1_commonDivisor 39 = .ok (.ifCond .le 7, 3) := by decide +kernel
theorem dX1_commonDivisor_42 : decode cX1_commonDivisor 42 = .ok (.iconst 1, 1) := by decide +kernel
theorem dX1_commonDivisor_43 : decode cX1_commonDivisor 43 = .ok (.goto 4, 3) := by decide +kernel
theorem dX1_commonDivisor_46 : decode cX1_commonDivisor 46 = .ok (.iconst 0, 1) := by decide +kernel
theorem dX1_commonDivisor_47 : decode cX1_commonDivisor 47 = .ok (.ireturn, 1) := by decide +kernel
theorem dX2_init_0 : decode cX2_init 0 = .ok (.aload_n 0, 1) := by decide +kernel
theorem dX2_init_1 : decode cX2_init 1 = .ok (.invokespecial 3, 3) := by decide +kernel
theorem dX2_init_4 : decode cX2_init 4 = .ok (.aload_n 0, 1) := by decide +kernel
theorem dX2_init_5 : decode cX2_init 5 = .ok (.bipush 22, 2) := by decide +kernel
theorem dX2_init_7 : decode cX2_init 7 = .ok (.anewarray 9, 3) := by decide +kernel
theorem dX2_init_10 : decode cX2_init 10 = .ok (.putfield 11, 3) := by decide +kernel
theorem dX2_init_13 : decode cX2_init 13 = .ok (.aload_n 0, 1) := by decide +kernel
theorem dX2_init_14 : decode cX2_init 14 = .ok (.sipush 576, 3) := by decide +kernel
theorem dX2_init_17 : decode cX2_init 17 = .ok (.newarray .int, 2) := by decide +kernel
theorem dX2_init_19 : decode cX2_init 19 = .ok (.putfield 17, 3) := by decide +kernel
theorem dX2_init_22 : decode cX2_init 22 = .ok (.aload_n 0, 1) := by decide +kernel
theorem dX2_init_23 : decode cX2_init 23 = .ok (.sipush 576, 3) := by decide +kernel
theorem dX2_init_26 : decode cX2_init 26 = .ok (.newarray .boolean, 2) := by decide +kernel
theorem dX2_init_28 : decode cX2_init 28 = .ok (.putfield 21, 3) := by decide +kernel
theorem dX2_init_31 : decode cX2_init 31 = .ok (.aload_n 0, 1) := by decide +kernel
theorem dX2_init_32 : decode cX2_init 32 = .ok (.bipush 12, 2) := by decide +kernel
theorem dX2_init_34 : decode cX2_init 34 = .ok (.newarray .int, 2) := by decide +kernel
theorem dX2_init_36 : decode cX2_init 36 = .ok (.putfield 25, 3) := by decide +kernel
theorem dX2_init_39 : decode cX2_init 39 = .ok (.aload_n 0, 1) := by decide +kernel
theorem dX2_init_40 : decode cX2_init 40 = .ok (.bipush 12, 2) := by decide +kernel
theorem dX2_init_42 : decode cX2_init 42 = .ok (.newarray .int, 2) := by decide +kernel
theorem dX2_init_44 : decode cX2_init 44 = .ok (.putfield 28, 3) := by decide +kernel
theorem dX2_init_47 : decode cX2_init 47 = .ok (.aload_n 0, 1) := by decide +kernel
theorem dX2_init_48 : decode cX2_init 48 = .ok (.iconst 0, 1) := by decide +kernel
theorem dX2_init_49 : decode cX2_init 49 = .ok (.putfield 31, 3) := by decide +kernel
theorem dX2_init_52 : decode cX2_init 52 = .ok (.aload_n 0, 1) := by decide +kernel
theorem dX2_init_53 : decode cX2_init 53 = .ok (.iconst 0, 1) := by decide +kernel
theorem dX2_init_54 : decode cX2_init 54 = .ok (.putfield 35, 3) := by decide +kernel
theorem dX2_init_57 : decode cX2_init 57 = .ok (.aload_n 0, 1) := by decide +kernel
theorem dX2_init_58 : decode cX2_init 58 = .ok (.iconst 0, 1) := by decide +kernel
theorem dX2_init_59 : decode cX2_init 59 = .ok (.putfield 38, 3) := by decide +kernel
theorem dX2_init_62 : decode cX2_init 62 = .ok (.iconst 0, 1) := by decide +kernel
theorem dX2_init_63 : decode cX2_init 63 = .ok (.istore_n 1, 1) := by decide +kernel
theorem dX2_init_64 : decode cX2_init 64 = .ok (.iload_n 1, 1) := by decide +kernel
theorem dX2_init_65 : decode cX2_init 65 = .ok (.aload_n 0, 1) := by decide +kernel
theorem dX2_init_66 : decode cX2_init 66 = .ok (.getfield 11, 3) := by decide +kernel
theorem dX2_init_69 : decode cX2_init 69 = .ok (.arraylength, 1) := by decide +kernel
theorem dX2_init_70 : decode cX2_init 70 = .ok (.if_icmp .ge 22, 3) := by decide +kernel
theorem dX2_init_73 : decode cX2_init 73 = .ok (.aload_n 0, 1) := by decide +kernel
theorem dX2_init_74 : decode cX2_init 74 = .ok (.getfield 11, 3) := by decide +kernel
theorem dX2_init_77 : decode cX2_init 77 = .ok (.iload_n 1, 1) := by decide +kernel
theorem dX2_init_78 : decode cX2_init 78 = .ok (.new 9, 3) := by decide +kernel
theorem dX2_init_81 : decode cX2_init 81 = .ok (.dup, 1) := by decide +kernel
theorem dX2_init_82 : decode cX2_init 82 = .ok (.invokespecial 41, 3) := by decide +kernel
theorem dX2_init_85 : decode cX2_init 85 = .ok (.aastore, 1) := by decide +kernel
theorem dX2_init_86 : decode cX2_init 86 = .ok (.iinc 1 1, 3) := by decide +kernel
theorem dX2_init_89 : decode cX2_init 89 = .ok (.goto (-25), 3) := by decide +kernel
theorem dX2_init_92 : decode cX2_init 92 = .ok (.return_, 1) := by decide +kernel
theorem dX2_build_0 : decode cX2_build 0 = .ok (.aload_n 0, 1) := by decide +kernel
theorem dX2_build_1 : decode cX2_build 1 = .ok (.invokevirtual 42, 3) := by decide +kernel
theorem dX2_build_4 : decode cX2_build 4 = .ok (.aload_n 0, 1) := by decide +kernel
theorem dX2_build_5 : decode cX2_build 5 = .ok (.aload_n 1, 1) := by decide +kernel
theorem dX2_build_6 : decode cX2_build 6 = .ok (.invokevirtual 45, 3) := by decide +kernel
theorem dX2_build_9 : decode cX2_build 9 = .ok (.iconst 0, 1) := by decide +kernel
theorem dX2_build_10 : decode cX2_build 10 = .ok (.istore_n 2, 1) := by decide +kernel
theorem dX2_build_11 : decode cX2_build 11 = .ok (.iload_n 2, 1) := by decide +kernel
theorem dX2_build_12 : decode cX2_build 12 = .ok (.aload_n 0, 1) := by decide +kernel
theorem dX2_build_13 : decode cX2_build 13 = .ok (.getfield 31, 3) := by decide +kernel
theorem dX2_build_16 : decode cX2_build 16 = .ok (.if_icmp .ge 51, 3) := by decide +kernel
theorem dX2_build_19 : decode cX2_build 19 = .ok (.iload_n 2, 1) := by decide +kernel
theorem dX2_build_20 : decode cX2_build 20 = .ok (.iconst 1, 1) := by decide +kernel
theorem dX2_build_21 : decode cX2_build 21 = .ok (.iadd, 1) := by decide +kernel
theorem dX2_build_22 : decode cX2_build 22 = .ok (.istore_n 3, 1) := by decide +kernel
theorem dX2_build_23 : decode cX2_build 23 = .ok (.iload_n 3, 1) := by decide +kernel
theorem dX2_build_24 : decode cX2_build 24 = .ok (.aload_n 0, 1) := by decide +kernel
theorem dX2_build_25 : decode cX2_build 25 = .ok (.getfield 31, 3) := by decide +kernel
theorem dX2_build_28 : decode cX2_build 28 = .ok (.if_icmp .ge 33, 3) := by decide +kernel
theorem dX2_build_31 : decode cX2_build 31 = .ok (.aload_n 0, 1) := by decide +kernel
theorem dX2_build_32 : decode cX2_build 32 = .ok (.aload_n 1, 1) := by decide +kernel
theorem dX2_build_33 : decode cX2_build 33 = .ok (.iload_n 2, 1) := by decide +kernel
theorem dX2_build_34 : decode cX2_build 34 = .ok (.iload_n 3, 1) := by decide +kernel
theorem dX2_build_35 : decode cX2_build 35 = .ok (.invokevirtual 49, 3) := by decide +kernel
theorem dX2_build_38 : decode cX2_build 38 = .ok (.ifCond .eq 17, 3) := by decide +kernel
theorem dX2_build_41 : decode cX2_build 41 = .ok (.aload_n 0, 1) := by decide +kernel
theorem dX2_build_42 : decode cX2_build 42 = .ok (.aload_n 0, 1) := by decide +kernel
theorem dX2_build_43 : decode cX2_build 43 = .ok (.aload_n 0, 1) := by decide +kernel
theorem dX2_build_44 : decode cX2_build 44 = .ok (.getfield 35, 3) := by decide +kernel
theorem dX2_build_47 : decode cX2_build 47 = .ok (.iconst 1, 1) := by decide +kernel
theorem dX2_build_48 : decode cX2_build 48 = .ok (.isub, 1) := by decide +kernel
theorem dX2_build_49 : decode cX2_build 49 = .ok (.invokevirtual 53, 3) := by decide +kernel
theorem dX2_build_52 : decode cX2_build 52 = .ok (.invokevirtual 57, 3) := by decide +kernel
theorem dX2_build_55 : decode cX2_build 55 = .ok (.iinc 3 1, 3) := by decide +kernel
theorem dX2_build_58 : decode cX2_build 58 = .ok (.goto (-35), 3) := by decide +kernel
theorem dX2_build_61 : decode cX2_build 61 = .ok (.iinc 2 1, 3) := by decide +kernel
theorem dX2_build_64 : decode cX2_build 64 = .ok (.goto (-53), 3) := by decide +kernel
theorem dX2_build_67 : decode cX2_build 67 = .ok (.iconst 0, 1) := by decide +kernel
theorem dX2_build_68 : decode cX2_build 68 = .ok (.istore_n 2, 1) := by decide +kernel
theorem dX2_build_69 : decode cX2_build 69 = .ok (.iload_n 2, 1) := by decide +kernel
theorem dX2_build_70 : decode cX2_build 70 = .ok (.sipush 576, 3) := by decide +kernel
theorem dX2_build_73 : decode cX2_build 73 = .ok (.if_icmp .ge 27, 3) := by decide +kernel
theorem dX2_build_76 : decode cX2_build 76 = .ok (.aload_n 0, 1) := by decide +kernel
theorem dX2_build_77 : decode cX2_build 77 = .ok (.iload_n 2, 1) := by decide +kernel
theorem dX2_build_78 : decode cX2_build 78 = .ok (.invokevirtual 61, 3) := by decide +kernel
theorem dX2_build_81 : decode cX2_build 81 = .ok (.ifCond .eq 13, 3) := by decide +kernel
theorem dX2_build_84 : decode cX2_build 84 = .ok (.aload_n 0, 1) := by decide +kernel
theorem dX2_build_85 : decode cX2_build 85 = .ok (.dup, 1) := by decide +kernel
theorem dX2_build_86 : decode cX2_build 86 = .ok (.getfield 38, 3) := by decide +kernel
theorem dX2_build_89 : decode cX2_build 89 = .ok (.iconst 1, 1) := by decide +kernel
theorem dX2_build_90 : decode cX2_build 90 = .ok (.iadd, 1) := by decide +kernel
theorem dX2_build_91 : decode cX2_build 91 = .ok (.putfield 38, 3) := by decide +kernel
theorem dX2_build_94 : decode cX2_build 94 = .ok (.iinc 2 1, 3) := by decide +kernel
theorem dX2_build_97 : decode cX2_build 97 = .ok (.goto (-28), 3) := by decide +kernel
theorem dX2_build_100 : decode cX2_build 100 = .ok (.return_, 1) := by decide +kernel
theorem dX2_isSpot_0 : decode cX2_isSpot 0 = .ok (.iload_n 1, 1) := by decide +kernel
theorem dX2_isSpot_1 : decode cX2_isSpot 1 = .ok (.invokestatic 65, 3) := by decide +kernel
theorem dX2_isSpot_4 : decode cX2_isSpot 4 = .ok (.ifCond .eq 16, 3) := by decide +kernel
theorem dX2_isSpot_7 : decode cX2_isSpot 7 = .ok (.aload_n 0, 1) := by decide +kernel
theorem dX2_isSpot_8 : decode cX2_isSpot 8 = .ok (.getfield 21, 3) := by decide +kernel
theorem dX2_isSpot_11 : decode cX2_isSpot 11 = .ok (.iload_n 1, 1) := by decide +kernel
theorem dX2_isSpot_12 : decode cX2_isSpot 12 = .ok (.baload, 1) := by decide +kernel
theorem dX2_isSpot_13 : decode cX2_isSpot 13 = .ok (.ifCond .eq 7, 3) := by decide +kernel
theorem dX2_isSpot_16 : decode cX2_isSpot 16 = .ok (.iconst 1, 1) := by decide +kernel
theorem dX2_isSpot_17 : decode cX2_isSpot 17 = .ok (.goto 4, 3) := by decide +kernel
theorem dX2_isSpot_20 : decode cX2_isSpot 20 = .ok (.iconst 0, 1) := by decide +kernel
theorem dX2_isSpot_21 : decode cX2_isSpot 21 = .ok (.ireturn, 1) := by decide +kernel
theorem dX2_isAvoided_0 : decode cX2_isAvoided 0 = .ok (.iload_n 1, 1) := by decide +kernel
theorem dX2_isAvoided_1 : decode cX2_isAvoided 1 = .ok (.invokestatic 65, 3) := by decide +kernel
theorem dX2_isAvoided_4 : decode cX2_isAvoided 4 = .ok (.ifCond .eq 25, 3) := by decide +kernel
theorem dX2_isAvoided_7 : decode cX2_isAvoided 7 = .ok (.aload_n 0, 1) := by decide +kernel
theorem dX2_isAvoided_8 : decode cX2_isAvoided 8 = .ok (.getfield 21, 3) := by decide +kernel
theorem dX2_isAvoided_11 : decode cX2_isAvoided 11 = .ok (.iload_n 1, 1) := by decide +kernel
theorem dX2_isAvoided_12 : decode cX2_isAvoided 12 = .ok (.baload, 1) := by decide +kernel
theorem dX2_isAvoided_13 : decode cX2_isAvoided 13 = .ok (.ifCond .ne 16, 3) := by decide +kernel
theorem dX2_isAvoided_16 : decode cX2_isAvoided 16 = .ok (.aload_n 0, 1) := by decide +kernel
theorem dX2_isAvoided_17 : decode cX2_isAvoided 17 = .ok (.getfield 17, 3) := by decide +kernel
theorem dX2_isAvoided_20 : decode cX2_isAvoided 20 = .ok (.iload_n 1, 1) := by decide +kernel
theorem dX2_isAvoided_21 : decode cX2_isAvoided 21 = .ok (.iaload, 1) := by decide +kernel
theorem dX2_isAvoided_22 : decode cX2_isAvoided 22 = .ok (.ifCond .le 7, 3) := by decide +kernel
theorem dX2_isAvoided_25 : decode cX2_isAvoided 25 = .ok (.iconst 1, 1) := by decide +kernel
theorem dX2_isAvoided_26 : decode cX2_isAvoided 26 = .ok (.goto 4, 3) := by decide +kernel
theorem dX2_isAvoided_29 : decode cX2_isAvoided 29 = .ok (.iconst 0, 1) := by decide +kernel
theorem dX2_isAvoided_30 : decode cX2_isAvoided 30 = .ok (.ireturn, 1) := by decide +kernel
theorem dX2_isGood_0 : decode cX2_isGood 0 = .ok (.iload_n 1, 1) := by decide +kernel
theorem dX2_isGood_1 : decode cX2_isGood 1 = .ok (.invokestatic 65, 3) := by decide +kernel
theorem dX2_isGood_4 : decode cX2_isGood 4 = .ok (.ifCond .eq 25, 3) := by decide +kernel
theorem dX2_isGood_7 : decode cX2_isGood 7 = .ok (.aload_n 0, 1) := by decide +kernel
theorem dX2_isGood_8 : decode cX2_isGood 8 = .ok (.getfield 21, 3) := by decide +kernel
theorem dX2_isGood_11 : decode cX2_isGood 11 = .ok (.iload_n 1, 1) := by decide +kernel
theorem dX2_isGood_12 : decode cX2_isGood 12 = .ok (.baload, 1) := by decide +kernel
theorem dX2_isGood_13 : decode cX2_isGood 13 = .ok (.ifCond .ne 16, 3) := by decide +kernel
theorem dX2_isGood_16 : decode cX2_isGood 16 = .ok (.aload_n 0, 1) := by decide +kernel
theorem dX2_isGood_17 : decode cX2_isGood 17 = .ok (.getfield 17, 3) := by decide +kernel
theorem dX2_isGood_20 : decode cX2_isGood 20 = .ok (.iload_n 1, 1) := by decide +kernel
theorem dX2_isGood_21 : decode cX2_isGood 21 = .ok (.iaload, 1) := by decide +kernel
theorem dX2_isGood_22 : decode cX2_isGood 22 = .ok (.ifCond .ne 7, 3) := by decide +kernel
theorem dX2_isGood_25 : decode cX2_isGood 25 = .ok (.iconst 1, 1) := by decide +kernel
theorem dX2_isGood_26 : decode cX2_isGood 26 = .ok (.goto 4, 3) := by decide +kernel
theorem dX2_isGood_29 : decode cX2_isGood 29 = .ok (.iconst 0, 1) := by decide +kernel
theorem dX2_isGood_30 : decode cX2_isGood 30 = .ok (.ireturn, 1) := by decide +kernel
theorem dX2_hitsOf_0 : decode cX2_hitsOf 0 = .ok (.iload_n 1, 1) := by decide +kernel
theorem dX2_hitsOf_1 : decode cX2_hitsOf 1 = .ok (.invokestatic 65, 3) := by decide +kernel
theorem dX2_hitsOf_4 : decode cX2_hitsOf 4 = .ok (.ifCond .eq 12, 3) := by decide +kernel
theorem dX2_hitsOf_7 : decode cX2_hitsOf 7 = .ok (.aload_n 0, 1) := by decide +kernel
theorem dX2_hitsOf_8 : decode cX2_hitsOf 8 = .ok (.getfield 17, 3) := by decide +kernel
theorem dX2_hitsOf_11 : decode cX2_hitsOf 11 = .ok (.iload_n 1, 1) := by decide +kernel
theorem dX2_hitsOf_12 : decode cX2_hitsOf 12 = .ok (.iaload, 1) := by decide +kernel
theorem dX2_hitsOf_13 : decode cX2_hitsOf 13 = .ok (.goto 4, 3) := by decide +kernel
theorem dX2_hitsOf_16 : decode cX2_hitsOf 16 = .ok (.iconst 0, 1) := by decide +kernel
theorem dX2_hitsOf_17 : decode cX2_hitsOf 17 = .ok (.ireturn, 1) := by decide +kernel
theorem dX2_lineAt_0 : decode cX2_lineAt 0 = .ok (.iload_n 1, 1) := by decide +kernel
theorem dX2_lineAt_1 : decode cX2_lineAt 1 = .ok (.ifCond .lt 29, 3) := by decide +kernel
theorem dX2_lineAt_4 : decode cX2_lineAt 4 = .ok (.iload_n 1, 1) := by decide +kernel
theorem dX2_lineAt_5 : decode cX2_lineAt 5 = .ok (.aload_n 0, 1) := by decide +kernel
theorem dX2_lineAt_6 : decode cX2_lineAt 6 = .ok (.getfield 35, 3) := by decide +kernel
theorem dX2_lineAt_9 : decode cX2_lineAt 9 = .ok (.if_icmp .ge 21, 3) := by decide +kernel
theorem dX2_lineAt_12 : decode cX2_lineAt 12 = .ok (.iload_n 1, 1) := by decide +kernel
theorem dX2_lineAt_13 : decode cX2_lineAt 13 = .ok (.aload_n 0, 1) := by decide +kernel
theorem dX2_lineAt_14 : decode cX2_lineAt 14 = .ok (.getfield 11, 3) := by decide +kernel
theorem dX2_lineAt_17 : decode cX2_lineAt 17 = .ok (.arraylength, 1) := by decide +kernel
theorem dX2_lineAt_18 : decode cX2_lineAt 18 = .ok (.if_icmp .ge 12, 3) := by decide +kernel
theorem dX2_lineAt_21 : decode cX2_lineAt 21 = .ok (.aload_n 0, 1) := by decide +kernel
theorem dX2_lineAt_22 : decode cX2_lineAt 22 = .ok (.getfield 11, 3) := by decide +kernel
theorem dX2_lineAt_25 : decode cX2_lineAt 25 = .ok (.iload_n 1, 1) := by decide +kernel
theorem dX2_lineAt_26 : decode cX2_lineAt 26 = .ok (.aaload, 1) := by decide +kernel
theorem dX2_lineAt_27 : decode cX2_lineAt 27 = .ok (.goto 4, 3) := by decide +kernel
theorem dX2_lineAt_30 : decode cX2_lineAt 30 = .ok (.aconst_null, 1) := by decide +kernel
theorem dX2_lineAt_31 : decode cX2_lineAt 31 = .ok (.areturn, 1) := by decide +kernel
theorem dX2_clear_0 : decode cX2_clear 0 = .ok (.iconst 0, 1) := by decide +kernel
theorem dX2_clear_1 : decode cX2_clear 1 = .ok (.istore_n 1, 1) := by decide +kernel
theorem dX2_clear_2 : decode cX2_clear 2 = .ok (.iload_n 1, 1) := by decide +kernel
theorem dX2_clear_3 : decode cX2_clear 3 = .ok (.sipush 576, 3) := by decide +kernel
theorem dX2_clear_6 : decode cX2_clear 6 = .ok (.if_icmp .ge 23, 3) := by decide +kernel
theorem dX2_clear_9 : decode cX2_clear 9 = .ok (.aload_n 0, 1) := by decide +kernel
theorem dX2_clear_10 : decode cX2_clear 10 = .ok (.getfield 17, 3) := by decide +kernel
theorem dX2_clear_13 : decode cX2_clear 13 = .ok (.iload_n 1, 1) := by decide +kernel
theorem dX2_clear_14 : decode cX2_clear 14 = .ok (.iconst 0, 1) := by decide +kernel
theorem dX2_clear_15 : decode cX2_clear 15 = .ok (.iastore, 1) := by decide +kernel
theorem dX2_clear_16 : decode cX2_clear 16 = .ok (.aload_n 0, 1) := by decide +kernel
theorem dX2_clear_17 : decode cX2_clear 17 = .ok (.getfield 21, 3) := by decide +kernel
theorem dX2_clear_20 : decode cX2_clear 20 = .ok (.iload_n 1, 1) := by decide +kernel
theorem dX2_clear_21 : decode cX2_clear 21 = .ok (.iconst 0, 1) := by decide +kernel
theorem dX2_clear_22 : decode cX2_clear 22 = .ok (.bastore, 1) := by decide +kernel
theorem dX2_clear_23 : decode cX2_clear 23 = .ok (.iinc 1 1, 3) := by decide +kernel
theorem dX2_clear_26 : decode cX2_clear 26 = .ok (.goto (-24), 3) := by decide +kernel
theorem dX2_clear_29 : decode cX2_clear 29 = .ok (.aload_n 0, 1) := by decide +kernel
theorem dX2_clear_30 : decode cX2_clear 30 = .ok (.iconst 0, 1) := by decide +kernel
theorem dX2_clear_31 : decode cX2_clear 31 = .ok (.putfield 31, 3) := by decide +kernel
theorem dX2_clear_34 : decode cX2_clear 34 = .ok (.aload_n 0, 1) := by decide +kernel
theorem dX2_clear_35 : decode cX2_clear 35 = .ok (.iconst 0, 1) := by decide +kernel
theorem dX2_clear_36 : decode cX2_clear 36 = .ok (.putfield 35, 3) := by decide +kernel
theorem dX2_clear_39 : decode cX2_clear 39 = .ok (.aload_n 0, 1) := by decide +kernel
theorem dX2_clear_40 : decode cX2_clear 40 = .ok (.iconst 0, 1) := by decide +kernel
theorem dX2_clear_41 : decode cX2_clear 41 = .ok (.putfield 38, 3) := by decide +kernel
theorem dX2_clear_44 : decode cX2_clear 44 = .ok (.return_, 1) := by decide +kernel
theorem dX2_takeSpots_0 : decode cX2_takeSpots 0 = .ok (.iconst 0, 1) := by decide +kernel
theorem dX2_takeSpots_1 : decode cX2_takeSpots 1 = .ok (.istore_n 2, 1) := by decide +kernel
theorem dX2_takeSpots_2 : decode cX2_takeSpots 2 = .ok (.iload_n 2, 1) := by decide +kernel
theorem dX2_takeSpots_3 : decode cX2_takeSpots 3 = .ok (.aload_n 1, 1) := by decide +kernel
theorem dX2_takeSpots_4 : decode cX2_takeSpots 4 = .ok (.getfield 68, 3) := by decide +kernel
theorem dX2_takeSpots_7 : decode cX2_takeSpots 7 = .ok (.if_icmp .ge 65, 3) := by decide +kernel
theorem dX2_takeSpots_10 : decode cX2_takeSpots 10 = .ok (.iload_n 2, 1) := by decide +kernel
theorem dX2_takeSpots_11 : decode cX2_takeSpots 11 = .ok (.bipush 12, 2) := by decide +kernel
theorem dX2_takeSpots_13 : decode cX2_takeSpots 13 = .ok (.if_icmp .ge 59, 3) := by decide +kernel
theorem dX2_takeSpots_16 : decode cX2_takeSpots 16 = .ok (.aload_n 1, 1) := by decide +kernel
theorem dX2_takeSpots_17 : decode cX2_takeSpots 17 = .ok (.iload_n 2, 1) := by decide +kernel
theorem dX2_takeSpots_18 : decode cX2_takeSpots 18 = .ok (.invokevirtual 71, 3) := by decide +kernel
theorem dX2_takeSpots_21 : decode cX2_takeSpots 21 = .ok (.istore_n 3, 1) := by decide +kernel
theorem dX2_takeSpots_22 : decode cX2_takeSpots 22 = .ok (.iload_n 3, 1) := by decide +kernel
theorem dX2_takeSpots_23 : decode cX2_takeSpots 23 = .ok (.invokestatic 65, 3) := by decide +kernel
theorem dX2_takeSpots_26 : decode cX2_takeSpots 26 = .ok (.ifCond .eq 40, 3) := by decide +kernel
theorem dX2_takeSpots_29 : decode cX2_takeSpots 29 = .ok (.aload_n 0, 1) := by decide +kernel
theorem dX2_takeSpots_30 : decode cX2_takeSpots 30 = .ok (.getfield 21, 3) := by decide +kernel
theorem dX2_takeSpots_33 : decode cX2_takeSpots 33 = .ok (.iload_n 3, 1) := by decide +kernel
theorem dX2_takeSpots_34 : decode cX2_takeSpots 34 = .ok (.iconst 1, 1) := by decide +kernel
theorem dX2_takeSpots_35 : decode cX2_takeSpots 35 = .ok (.bastore, 1) := by decide +kernel
theorem dX2_takeSpots_36 : decode cX2_takeSpots 36 = .ok (.aload_n 0, 1) := by decide +kernel
theorem dX2_takeSpots_37 : decode cX2_takeSpots 37 = .ok (.getfield 25, 3) := by decide +kernel
theorem dX2_takeSpots_40 : decode cX2_takeSpots 40 = .ok (.iload_n 2, 1) := by decide +kernel
theorem dX2_takeSpots_41 : decode cX2_takeSpots 41 = .ok (.iload_n 3, 1) := by decide +kernel
theorem dX2_takeSpots_42 : decode cX2_takeSpots 42 = .ok (.bipush 24, 2) := by decide +kernel
theorem dX2_takeSpots_44 : decode cX2_takeSpots 44 = .ok (.idiv, 1) := by decide +kernel
theorem dX2_takeSpots_45 : decode cX2_takeSpots 45 = .ok (.iastore, 1) := by decide +kernel
theorem dX2_takeSpots_46 : decode cX2_takeSpots 46 = .ok (.aload_n 0, 1) := by decide +kernel
theorem dX2_takeSpots_47 : decode cX2_takeSpots 47 = .ok (.getfield 28, 3) := by decide +kernel
theorem dX2_takeSpots_50 : decode cX2_takeSpots 50 = .ok (.iload_n 2, 1) := by decide +kernel
theorem dX2_takeSpots_51 : decode cX2_takeSpots 51 = .ok (.iload_n 3, 1) := by decide +kernel
theorem dX2_takeSpots_52 : decode cX2_takeSpots 52 = .ok (.bipush 24, 2) := by decide +kernel
theorem dX2_takeSpots_54 : decode cX2_takeSpots 54 = .ok (.irem, 1) := by decide +kernel
theorem dX2_takeSpots_55 : decode cX2_takeSpots 55 = .ok (.iastore, 1) := by decide +kernel
theorem dX2_takeSpots_56 : decode cX2_takeSpots 56 = .ok (.aload_n 0, 1) := by decide +kernel
theorem dX2_takeSpots_57 : decode cX2_takeSpots 57 = .ok (.dup, 1) := by decide +kernel
theorem dX2_takeSpots_58 : decode cX2_takeSpots 58 = .ok (.getfield 31, 3) := by decide +kernel
theorem dX2_takeSpots_61 : decode cX2_takeSpots 61 = .ok (.iconst 1, 1) := by decide +kernel
theorem dX2_takeSpots_62 : decode cX2_takeSpots 62 = .ok (.iadd, 1) := by decide +kernel
theorem dX2_takeSpots_63 : decode cX2_takeSpots 63 = .ok (.putfield 31, 3) := by decide +kernel
theorem dX2_takeSpots_66 : decode cX2_takeSpots 66 = .ok (.iinc 2 1, 3) := by decide +kernel
theorem dX2_takeSpots_69 : decode cX2_takeSpots 69 = .ok (.goto (-67), 3) := by decide +kernel
theorem dX2_takeSpots_72 : decode cX2_takeSpots 72 = .ok (.return_, 1) := by decide +kernel
theorem dX2_addLine_0 : decode cX2_addLine 0 = .ok (.aload_n 0, 1) := by decide +kernel
theorem dX2_addLine_1 : decode cX2_addLine 1 = .ok (.iload_n 2, 1) := by decide +kernel
theorem dX2_addLine_2 : decode cX2_addLine 2 = .ok (.iload_n 3, 1) := by decide +kernel
theorem dX2_addLine_3 : decode cX2_addLine 3 = .ok (.invokevirtual 75, 3) := by decide +kernel
theorem dX2_addLine_6 : decode cX2_addLine 6 = .ok (.istore 4, 2) := by decide +kernel
theorem dX2_addLine_8 : decode cX2_addLine 8 = .ok (.iload 4, 2) := by decide +kernel
theorem dX2_addLine_10 : decode cX2_addLine 10 = .ok (.iconst 1, 1) := by decide +kernel
theorem dX2_addLine_11 : decode cX2_addLine 11 = .ok (.iload_n 3, 1) := by decide +kernel
theorem dX2_addLine_12 : decode cX2_addLine 12 = .ok (.ishl, 1) := by decide +kernel
theorem dX2_addLine_13 : decode cX2_addLine 13 = .ok (.iconst 1, 1) := by decide +kernel
theorem dX2_addLine_14 : decode cX2_addLine 14 = .ok (.isub, 1) := by decide +kernel
theorem dX2_addLine_15 : decode cX2_addLine 15 = .ok (.iand, 1) := by decide +kernel
theorem dX2_addLine_16 : decode cX2_addLine 16 = .ok (.iconst 1, 1) := by decide +kernel
theorem dX2_addLine_17 : decode cX2_addLine 17 = .ok (.iload_n 2, 1) := by decide +kernel
theorem dX2_addLine_18 : decode cX2_addLine 18 = .ok (.ishl, 1) := by decide +kernel
theorem dX2_addLine_19 : decode cX2_addLine 19 = .ok (.if_icmp .eq 7, 3) := by decide +kernel
theorem dX2_addLine_22 : decode cX2_addLine 22 = .ok (.iconst 1, 1) := by decide +kernel
theorem dX2_addLine_23 : decode cX2_addLine 23 = .ok (.goto 4, 3) := by decide +kernel
theorem dX2_addLine_26 : decode cX2_addLine 26 = .ok (.iconst 0, 1) := by decide +kernel
theorem dX2_addLine_27 : decode cX2_addLine 27 = .ok (.istore 5, 2) := by decide +kernel
theorem dX2_addLine_29 : decode cX2_addLine 29 = .ok (.iload 5, 2) := by decide +kernel
theorem dX2_addLine_31 : decode cX2_addLine 31 = .ok (.ifCond .ne 47, 3) := by decide +kernel
theorem dX2_addLine_34 : decode cX2_addLine 34 = .ok (.iload 4, 2) := by decide +kernel
theorem dX2_addLine_36 : decode cX2_addLine 36 = .ok (.invokestatic 79, 3) := by decide +kernel
theorem dX2_addLine_39 : decode cX2_addLine 39 = .ok (.aload_n 1, 1) := by decide +kernel
theorem dX2_addLine_40 : decode cX2_addLine 40 = .ok (.iconst 0, 1) := by decide +kernel
theorem dX2_addLine_41 : decode cX2_addLine 41 = .ok (.invokevirtual 84, 3) := by decide +kernel
theorem dX2_addLine_44 : decode cX2_addLine 44 = .ok (.if_icmp .lt 34, 3) := by decide +kernel
theorem dX2_addLine_47 : decode cX2_addLine 47 = .ok (.aload_n 0, 1) := by decide +kernel
theorem dX2_addLine_48 : decode cX2_addLine 48 = .ok (.getfield 35, 3) := by decide +kernel
theorem dX2_addLine_51 : decode cX2_addLine 51 = .ok (.ifCond .lt 27, 3) := by decide +kernel
theorem dX2_addLine_54 : decode cX2_addLine 54 = .ok (.aload_n 0, 1) := by decide +kernel
theorem dX2_addLine_55 : decode cX2_addLine 55 = .ok (.getfield 35, 3) := by decide +kernel
theorem dX2_addLine_58 : decode cX2_addLine 58 = .ok (.aload_n 0, 1) := by decide +kernel
theorem dX2_addLine_59 : decode cX2_addLine 59 = .ok (.getfield 11, 3) := by decide +kernel
theorem dX2_addLine_62 : decode cX2_addLine 62 = .ok (.arraylength, 1) := by decide +kernel
theorem dX2_addLine_63 : decode cX2_addLine 63 = .ok (.if_icmp .ge 15, 3) := by decide +kernel
theorem dX2_addLine_66 : decode cX2_addLine 66 = .ok (.aload_n 0, 1) := by decide +kernel
theorem dX2_addLine_67 : decode cX2_addLine 67 = .ok (.getfield 11, 3) := by decide +kernel
theorem dX2_addLine_70 : decode cX2_addLine 70 = .ok (.aload_n 0, 1) := by decide +kernel
theorem dX2_addLine_71 : decode cX2_addLine 71 = .ok (.getfield 35, 3) := by decide +kernel
theorem dX2_addLine_74 : decode cX2_addLine 74 = .ok (.aaload, 1) := by decide +kernel
theorem dX2_addLine_75 : decode cX2_addLine 75 = .ok (.ifnonnull 5, 3) := by decide +kernel
theorem dX2_addLine_78 : decode cX2_addLine 78 = .ok (.iconst 0, 1) := by decide +kernel
theorem dX2_addLine_79 : decode cX2_addLine 79 = .ok (.ireturn, 1) := by decide +kernel
theorem dX2_addLine_80 : decode cX2_addLine 80 = .ok (.aload_n 0, 1) := by decide +kernel
theorem dX2_addLine_81 : decode cX2_addLine 81 = .ok (.getfield 11, 3) := by decide +kernel
theorem dX2_addLine_84 : decode cX2_addLine 84 = .ok (.aload_n 0, 1) := by decide +kernel
theorem dX2_addLine_85 : decode cX2_addLine 85 = .ok (.getfield 35, 3) := by decide +kernel
theorem dX2_addLine_88 : decode cX2_addLine 88 = .ok (.aaload, 1) := by decide +kernel
theorem dX2_addLine_89 : decode cX2_addLine 89 = .ok (.astore 6, 2) := by decide +kernel
theorem dX2_addLine_91 : decode cX2_addLine 91 = .ok (.aload 6, 2) := by decide +kernel
theorem dX2_addLine_93 : decode cX2_addLine 93 = .ok (.aload_n 0, 1) := by decide +kernel
theorem dX2_addLine_94 : decode cX2_addLine 94 = .ok (.iload_n 2, 1) := by decide +kernel
theorem dX2_addLine_95 : decode cX2_addLine 95 = .ok (.invokevirtual 87, 3) := by decide +kernel
theorem dX2_addLine_98 : decode cX2_addLine 98 = .ok (.aload_n 0, 1) := by decide +kernel
theorem dX2_addLine_99 : decode cX2_addLine 99 = .ok (.iload_n 2, 1) := by decide +kernel
theorem dX2_addLine_100 : decode cX2_addLine 100 = .ok (.invokevirtual 90, 3) := by decide +kernel
theorem dX2_addLine_103 : decode cX2_addLine 103 = .ok (.aload_n 0, 1) := by decide +kernel
theorem dX2_addLine_104 : decode cX2_addLine 104 = .ok (.iload_n 3, 1) := by decide +kernel
theorem dX2_addLine_105 : decode cX2_addLine 105 = .ok (.invokevirtual 87, 3) := by decide +kernel
theorem dX2_addLine_108 : decode cX2_addLine 108 = .ok (.aload_n 0, 1) := by decide +kernel
theorem dX2_addLine_109 : decode cX2_addLine 109 = .ok (.iload_n 3, 1) := by decide +kernel
theorem dX2_addLine_110 : decode cX2_addLine 110 = .ok (.invokevirtual 90, 3) := by decide +kernel
theorem dX2_addLine_113 : decode cX2_addLine 113 = .ok (.invokevirtual 93, 3) := by decide +kernel
theorem dX2_addLine_116 : decode cX2_addLine 116 = .ok (.iload_n 2, 1) := by decide +kernel
theorem dX2_addLine_117 : decode cX2_addLine 117 = .ok (.istore 7, 2) := by decide +kernel
theorem dX2_addLine_119 : decode cX2_addLine 119 = .ok (.iload 7, 2) := by decide +kernel
theorem dX2_addLine_121 : decode cX2_addLine 121 = .ok (.aload_n 0, 1) := by decide +kernel
theorem dX2_addLine_122 : decode cX2_addLine 122 = .ok (.getfield 31, 3) := by decide +kernel
theorem dX2_addLine_125 : decode cX2_addLine 125 = .ok (.if_icmp .ge 39, 3) := by decide +kernel
theorem dX2_addLine_128 : decode cX2_addLine 128 = .ok (.iload 4, 2) := by decide +kernel
theorem dX2_addLine_130 : decode cX2_addLine 130 = .ok (.iload 7, 2) := by decide +kernel
theorem dX2_addLine_132 : decode cX2_addLine 132 = .ok (.ishr, 1) := by decide +kernel
theorem dX2_addLine_133 : decode cX2_addLine 133 = .ok (.iconst 1, 1) := by decide +kernel
theorem dX2_addLine_134 : decode cX2_addLine 134 = .ok (.iand, 1) := by decide +kernel
theorem dX2_addLine_135 : decode cX2_addLine 135 = .ok (.iconst 1, 1) := by decide +kernel
theorem dX2_addLine_136 : decode cX2_addLine 136 = .ok (.if_icmp .ne 22, 3) := by decide +kernel
theorem dX2_addLine_139 : decode cX2_addLine 139 = .ok (.aload 6, 2) := by decide +kernel
theorem dX2_addLine_141 : decode cX2_addLine 141 = .ok (.iload 7, 2) := by decide +kernel
theorem dX2_addLine_143 : decode cX2_addLine 143 = .ok (.aload_n 0, 1) := by decide +kernel
theorem dX2_addLine_144 : decode cX2_addLine 144 = .ok (.iload 7, 2) := by decide +kernel
theorem dX2_addLine_146 : decode cX2_addLine 146 = .ok (.invokevirtual 87, 3) := by decide +kernel
theorem dX2_addLine_149 : decode cX2_addLine 149 = .ok (.aload_n 0, 1) := by decide +kernel
theorem dX2_addLine_150 : decode cX2_addLine 150 = .ok (.iload 7, 2) := by decide +kernel
theorem dX2_addLine_152 : decode cX2_addLine 152 = .ok (.invokevirtual 90, 3) := by decide +kernel
theorem dX2_addLine_155 : decode cX2_addLine 155 = .ok (.invokevirtual 97, 3) := by decide +kernel
theorem dX2_addLine_158 : decode cX2_addLine 158 = .ok (.iinc 7 1, 3) := by decide +kernel
theorem dX2_addLine_161 : decode cX2_addLine 161 = .ok (.goto (-42), 3) := by decide +kernel
theorem dX2_addLine_164 : decode cX2_addLine 164 = .ok (.aload 6, 2) := by decide +kernel
theorem dX2_addLine_166 : decode cX2_addLine 166 = .ok (.invokevirtual 101, 3) := by decide +kernel
theorem dX2_addLine_169 : decode cX2_addLine 169 = .ok (.aload_n 1, 1) := by decide +kernel
theorem dX2_addLine_170 : decode cX2_addLine 170 = .ok (.iconst 1, 1) := by decide +kernel
theorem dX2_addLine_171 : decode cX2_addLine 171 = .ok (.invokevirtual 84, 3) := by decide +kernel
theorem dX2_addLine_174 : decode cX2_addLine 174 = .ok (.if_icmp .le 5, 3) := by decide +kernel
theorem dX2_addLine_177 : decode cX2_addLine 177 = .ok (.iconst 0, 1) := by decide +kernel
theorem dX2_addLine_178 : decode cX2_addLine 178 = .ok (.ireturn, 1) := by decide +kernel
theorem dX2_addLine_179 : decode cX2_addLine 179 = .ok (.aload 6, 2) := by decide +kernel
theorem dX2_addLine_181 : decode cX2_addLine 181 = .ok (.aload_n 1, 1) := by decide +kernel
theorem dX2_addLine_182 : decode cX2_addLine 182 = .ok (.iconst 2, 1) := by decide +kernel
theorem dX2_addLine_183 : decode cX2_addLine 183 = .ok (.invokevirtual 84, 3) := by decide +kernel
theorem dX2_addLine_186 : decode cX2_addLine 186 = .ok (.invokevirtual 105, 3) := by decide +kernel
theorem dX2_addLine_189 : decode cX2_addLine 189 = .ok (.aload_n 0, 1) := by decide +kernel
theorem dX2_addLine_190 : decode cX2_addLine 190 = .ok (.dup, 1) := by decide +kernel
theorem dX2_addLine_191 : decode cX2_addLine 191 = .ok (.getfield 35, 3) := by decide +kernel
theorem dX2_addLine_194 : decode cX2_addLine 194 = .ok (.iconst 1, 1) := by decide +kernel
theorem dX2_addLine_195 : decode cX2_addLine 195 = .ok (.iadd, 1) := by decide +kernel
theorem dX2_addLine_196 : decode cX2_addLine 196 = .ok (.putfield 35, 3) := by decide +kernel
theorem dX2_addLine_199 : decode cX2_addLine 199 = .ok (.iconst 1, 1) := by decide +kernel
theorem dX2_addLine_200 : decode cX2_addLine 200 = .ok (.ireturn, 1) := by decide +kernel
theorem dX2_trackOf_0 : decode cX2_trackOf 0 = .ok (.iload_n 1, 1) := by decide +kernel
theorem dX2_trackOf_1 : decode cX2_trackOf 1 = .ok (.ifCond .lt 21, 3) := by decide +kernel
theorem dX2_trackOf_4 : decode cX2_trackOf 4 = .ok (.iload_n 1, 1) := by decide +kernel
theorem dX2_trackOf_5 : decode cX2_trackOf 5 = .ok (.aload_n 0, 1) := by decide +kernel
theorem dX2_trackOf_6 : decode cX2_trackOf 6 = .ok (.getfield 25, 3) := by decide +kernel
theorem dX2_trackOf_9 : decode cX2_trackOf 9 = .ok (.arraylength, 1) := by decide +kernel
theorem dX2_trackOf_10 : decode cX2_trackOf 10 = .ok (.if_icmp .ge 12, 3) := by decide +kernel
theorem dX2_trackOf_13 : decode cX2_trackOf 13 = .ok (.aload_n 0, 1) := by decide +kernel
theorem dX2_trackOf_14 : decode cX2_trackOf 14 = .ok (.getfield 25, 3) := by decide +kernel
theorem dX2_trackOf_17 : decode cX2_trackOf 17 = .ok (.iload_n 1, 1) := by decide +kernel
theorem dX2_trackOf_18 : decode cX2_trackOf 18 = .ok (.iaload, 1) := by decide +kernel
theorem dX2_trackOf_19 : decode cX2_trackOf 19 = .ok (.goto 4, 3) := by decide +kernel
theorem dX2_trackOf_22 : decode cX2_trackOf 22 = .ok (.iconst 0, 1) := by decide +kernel
theorem dX2_trackOf_23 : decode cX2_trackOf 23 = .ok (.ireturn, 1) := by decide +kernel
theorem dX2_sectorOf_0 : decode cX2_sectorOf 0 = .ok (.iload_n 1, 1) := by decide +kernel
theorem dX2_sectorOf_1 : decode cX2_sectorOf 1 = .ok (.ifCond .lt 21, 3) := by decide +kernel
theorem dX2_sectorOf_4 : decode cX2_sectorOf 4 = .ok (.iload_n 1, 1) := by decide +kernel
theorem dX2_sectorOf_5 : decode cX2_sectorOf 5 = .ok (.aload_n 0, 1) := by decide +kernel
theorem dX2_sectorOf_6 : decode cX2_sectorOf 6 = .ok (.getfield 28, 3) := by decide +kernel
theorem dX2_sectorOf_9 : decode cX2_sectorOf 9 = .ok (.arraylength, 1) := by decide +kernel
theorem dX2_sectorOf_10 : decode cX2_sectorOf 10 = .ok (.if_icmp .ge 12, 3) := by decide +kernel
theorem dX2_sectorOf_13 : decode cX2_sectorOf 13 = .ok (.aload_n 0, 1) := by decide +kernel
theorem dX2_sectorOf_14 : decode cX2_sectorOf 14 = .ok (.getfield 28, 3) := by decide +kernel
theorem dX2_sectorOf_17 : decode cX2_sectorOf 17 = .ok (.iload_n 1, 1) := by decide +kernel
theorem dX2_sectorOf_18 : decode cX2_sectorOf 18 = .ok (.iaload, 1) := by decide +kernel
theorem dX2_sectorOf_19 : decode cX2_sectorOf 19 = .ok (.goto 4, 3) := by decide +kernel
theorem dX2_sectorOf_22 : decode cX2_sectorOf 22 = .ok (.iconst 0, 1) := by decide +kernel
theorem dX2_sectorOf_23 : decode cX2_sectorOf 23 = .ok (.ireturn, 1) := by decide +kernel
theorem dX2_spotsInLineWith_0 : decode cX2_spotsInLineWith 0 = .ok (.iconst 0, 1) := by decide +kernel
theorem dX2_spotsInLineWith_1 : decode cX2_spotsInLineWith 1 = .ok (.istore_n 3, 1) := by decide +kernel
theorem dX2_spotsInLineWith_2 : decode cX2_spotsInLineWith 2 = .ok (.aload_n 0, 1) := by decide +kernel
theorem dX2_spotsInLineWith_3 : decode cX2_spotsInLineWith 3 = .ok (.iload_n 2, 1) := by decide +kernel
theorem dX2_spotsInLineWith_4 : decode cX2_spotsInLineWith 4 = .ok (.invokevirtual 87, 3) := by decide +kernel
theorem dX2_spotsInLineWith_7 : decode cX2_spotsInLineWith 7 = .ok (.aload_n 0, 1) := by decide +kernel
theorem dX2_spotsInLineWith_8 : decode cX2_spotsInLineWith 8 = .ok (.iload_n 1, 1) := by decide +kernel
theorem dX2_spotsInLineWith_9 : decode cX2_spotsInLineWith 9 = .ok (.invokevirtual 87, 3) := by decide +kernel
theorem dX2_spotsInLineWith_12 : decode cX2_spotsInLineWith 12 = .ok (.isub, 1) := by decide +kernel
theorem dX2_spotsInLineWith_13 : decode cX2_spotsInLineWith 13 = .ok (.istore 4, 2) := by decide +kernel
theorem dX2_spotsInLineWith_15 : decode cX2_spotsInLineWith 15 = .ok (.aload_n 0, 1) := by decide +kernel
theorem dX2_spotsInLineWith_16 : decode cX2_spotsInLineWith 16 = .ok (.iload_n 2, 1) := by decide +kernel
theorem dX2_spotsInLineWith_17 : decode cX2_spotsInLineWith 17 = .ok (.invokevirtual 90, 3) := by decide +kernel
theorem dX2_spotsInLineWith_20 : decode cX2_spotsInLineWith 20 = .ok (.aload_n 0, 1) := by decide +kernel
theorem dX2_spotsInLineWith_21 : decode cX2_spotsInLineWith 21 = .ok (.iload_n 1, 1) := by decide +kernel
theorem dX2_spotsInLineWith_22 : decode cX2_spotsInLineWith 22 = .ok (.invokevirtual 90, 3) := by decide +kernel
theorem dX2_spotsInLineWith_25 : decode cX2_spotsInLineWith 25 = .ok (.isub, 1) := by decide +kernel
theorem dX2_spotsInLineWith_26 : decode cX2_spotsInLineWith 26 = .ok (.istore 5, 2) := by decide +kernel
theorem dX2_spotsInLineWith_28 : decode cX2_spotsInLineWith 28 = .ok (.iconst 0, 1) := by decide +kernel
theorem dX2_spotsInLineWith_29 : decode cX2_spotsInLineWith 29 = .ok (.istore 6, 2) := by decide +kernel
theorem dX2_spotsInLineWith_31 : decode cX2_spotsInLineWith 31 = .ok (.iload 6, 2) := by decide +kernel
theorem dX2_spotsInLineWith_33 : decode cX2_spotsInLineWith 33 = .ok (.aload_n 0, 1) := by decide +kernel
theorem dX2_spotsInLineWith_34 : decode cX2_spotsInLineWith 34 = .ok (.getfield 31, 3) := by decide +kernel
theorem dX2_spotsInLineWith_37 : decode cX2_spotsInLineWith 37 = .ok (.if_icmp .ge 57, 3) := by decide +kernel
theorem dX2_spotsInLineWith_40 : decode cX2_spotsInLineWith 40 = .ok (.aload_n 0, 1) := by decide +kernel
theorem dX2_spotsInLineWith_41 : decode cX2_spotsInLineWith 41 = .ok (.iload 6, 2) := by decide +kernel
theorem dX2_spotsInLineWith_43 : decode cX2_spotsInLineWith 43 = .ok (.invokevirtual 87, 3) := by decide +kernel
theorem dX2_spotsInLineWith_46 : decode cX2_spotsInLineWith 46 = .ok (.aload_n 0, 1) := by decide +kernel
theorem dX2_spotsInLineWith_47 : decode cX2_spotsInLineWith 47 = .ok (.iload_n 1, 1) := by decide +kernel
theorem dX2_spotsInLineWith_48 : decode cX2_spotsInLineWith 48 = .ok (.invokevirtual 87, 3) := by decide +kernel
theorem dX2_spotsInLineWith_51 : decode cX2_spotsInLineWith 51 = .ok (.isub, 1) := by decide +kernel
theorem dX2_spotsInLineWith_52 : decode cX2_spotsInLineWith 52 = .ok (.istore 7, 2) := by decide +kernel
theorem dX2_spotsInLineWith_54 : decode cX2_spotsInLineWith 54 = .ok (.aload_n 0, 1) := by decide +kernel
theorem dX2_spotsInLineWith_55 : decode cX2_spotsInLineWith 55 = .ok (.iload 6, 2) := by decide +kernel
theorem dX2_spotsInLineWith_57 : decode cX2_spotsInLineWith 57 = .ok (.invokevirtual 90, 3) := by decide +kernel
theorem dX2_spotsInLineWith_60 : decode cX2_spotsInLineWith 60 = .ok (.aload_n 0, 1) := by decide +kernel
theorem dX2_spotsInLineWith_61 : decode cX2_spotsInLineWith 61 = .ok (.iload_n 1, 1) := by decide +kernel
theorem dX2_spotsInLineWith_62 : decode cX2_spotsInLineWith 62 = .ok (.invokevirtual 90, 3) := by decide +kernel
theorem dX2_spotsInLineWith_65 : decode cX2_spotsInLineWith 65 = .ok (.isub, 1) := by decide +kernel
theorem dX2_spotsInLineWith_66 : decode cX2_spotsInLineWith 66 = .ok (.istore 8, 2) := by decide +kernel
theorem dX2_spotsInLineWith_68 : decode cX2_spotsInLineWith 68 = .ok (.iload 7, 2) := by decide +kernel
theorem dX2_spotsInLineWith_70 : decode cX2_spotsInLineWith 70 = .ok (.iload 5, 2) := by decide +kernel
theorem dX2_spotsInLineWith_72 : decode cX2_spotsInLineWith 72 = .ok (.imul, 1) := by decide +kernel
theorem dX2_spotsInLineWith_73 : decode cX2_spotsInLineWith 73 = .ok (.iload 8, 2) := by decide +kernel
theorem dX2_spotsInLineWith_75 : decode cX2_spotsInLineWith 75 = .ok (.iload 4, 2) := by decide +kernel
theorem dX2_spotsInLineWith_77 : decode cX2_spotsInLineWith 77 = .ok (.imul, 1) := by decide +kernel
theorem dX2_spotsInLineWith_78 : decode cX2_spotsInLineWith 78 = .ok (.if_icmp .ne 10, 3) := by decide +kernel
theorem dX2_spotsInLineWith_81 : decode cX2_spotsInLineWith 81 = .ok (.iload_n 3, 1) := by decide +kernel
theorem dX2_spotsInLineWith_82 : decode cX2_spotsInLineWith 82 = .ok (.iconst 1, 1) := by decide +kernel
theorem dX2_spotsInLineWith_83 : decode cX2_spotsInLineWith 83 = .ok (.iload 6, 2) := by decide +kernel
theorem dX2_spotsInLineWith_85 : decode cX2_spotsInLineWith 85 = .ok (.ishl, 1) := by decide +kernel
theorem dX2_spotsInLineWith_86 : decode cX2_spotsInLineWith 86 = .ok (.ior, 1) := by decide +kernel
theorem dX2_spotsInLineWith_87 : decode cX2_spotsInLineWith 87 = .ok (.istore_n 3, 1) := by decide +kernel
theorem dX2_spotsInLineWith_88 : decode cX2_spotsInLineWith 88 = .ok (.iinc 6 1, 3) := by decide +kernel
theorem dX2_spotsInLineWith_91 : decode cX2_spotsInLineWith 91 = .ok (.goto (-60), 3) := by decide +kernel
theorem dX2_spotsInLineWith_94 : decode cX2_spotsInLineWith 94 = .ok (.iload_n 3, 1) := by decide +kernel
theorem dX2_spotsInLineWith_95 : decode cX2_spotsInLineWith 95 = .ok (.ireturn, 1) := by decide +kernel
theorem dX2_hitCells_0 : decode cX2_hitCells 0 = .ok (.iconst 0, 1) := by decide +kernel
theorem dX2_hitCells_1 : decode cX2_hitCells 1 = .ok (.istore_n 2, 1) := by decide +kernel
theorem dX2_hitCells_2 : decode cX2_hitCells 2 = .ok (.aload_n 1, 1) := by decide +kernel
theorem dX2_hitCells_3 : decode cX2_hitCells 3 = .ok (.ifnull 40, 3) := by decide +kernel
theorem dX2_hitCells_6 : decode cX2_hitCells 6 = .ok (.iload_n 2, 1) := by decide +kernel
theorem dX2_hitCells_7 : decode cX2_hitCells 7 = .ok (.aload_n 1, 1) := by decide +kernel
theorem dX2_hitCells_8 : decode cX2_hitCells 8 = .ok (.getfield 109, 3) := by decide +kernel
theorem dX2_hitCells_11 : decode cX2_hitCells 11 = .ok (.if_icmp .ge 32, 3) := by decide +kernel
theorem dX2_hitCells_14 : decode cX2_hitCells 14 = .ok (.aload_n 1, 1) := by decide +kernel
theorem dX2_hitCells_15 : decode cX2_hitCells 15 = .ok (.iload_n 2, 1) := by decide +kernel
theorem dX2_hitCells_16 : decode cX2_hitCells 16 = .ok (.invokevirtual 112, 3) := by decide +kernel
theorem dX2_hitCells_19 : decode cX2_hitCells 19 = .ok (.istore_n 3, 1) := by decide +kernel
theorem dX2_hitCells_20 : decode cX2_hitCells 20 = .ok (.iload_n 3, 1) := by decide +kernel
theorem dX2_hitCells_21 : decode cX2_hitCells 21 = .ok (.invokestatic 65, 3) := by decide +kernel
theorem dX2_hitCells_24 : decode cX2_hitCells 24 = .ok (.ifCond .eq 13, 3) := by decide +kernel
theorem dX2_hitCells_27 : decode cX2_hitCells 27 = .ok (.aload_n 0, 1) := by decide +kernel
theorem dX2_hitCells_28 : decode cX2_hitCells 28 = .ok (.getfield 17, 3) := by decide +kernel
theorem dX2_hitCells_31 : decode cX2_hitCells 31 = .ok (.iload_n 3, 1) := by decide +kernel
theorem dX2_hitCells_32 : decode cX2_hitCells 32 = .ok (.dup2, 1) := by decide +kernel
theorem dX2_hitCells_33 : decode cX2_hitCells 33 = .ok (.iaload, 1) := by decide +kernel
theorem dX2_hitCells_34 : decode cX2_hitCells 34 = .ok (.iconst 1, 1) := by decide +kernel
theorem dX2_hitCells_35 : decode cX2_hitCells 35 = .ok (.iadd, 1) := by decide +kernel
theorem dX2_hitCells_36 : decode cX2_hitCells 36 = .ok (.iastore, 1) := by decide +kernel
theorem dX2_hitCells_37 : decode cX2_hitCells 37 = .ok (.iinc 2 1, 3) := by decide +kernel
theorem dX2_hitCells_40 : decode cX2_hitCells 40 = .ok (.goto (-38), 3) := by decide +kernel
theorem dX2_hitCells_43 : decode cX2_hitCells 43 = .ok (.return_, 1) := by decide +kernel
theorem dX3_init_0 : decode cX3_init 0 = .ok (.aload_n 0, 1) := by decide +kernel
theorem dX3_init_1 : decode cX3_init 1 = .ok (.invokespecial 3, 3) := by decide +kernel
theorem dX3_init_4 : decode cX3_init 4 = .ok (.aload_n 0, 1) := by decide +kernel
theorem dX3_init_5 : decode cX3_init 5 = .ok (.bipush 12, 2) := by decide +kernel
theorem dX3_init_7 : decode cX3_init 7 = .ok (.newarray .int, 2) := by decide +kernel
theorem dX3_init_9 : decode cX3_init 9 = .ok (.putfield 9, 3) := by decide +kernel
theorem dX3_init_12 : decode cX3_init 12 = .ok (.aload_n 0, 1) := by decide +kernel
theorem dX3_init_13 : decode cX3_init 13 = .ok (.iconst 3, 1) := by decide +kernel
theorem dX3_init_14 : decode cX3_init 14 = .ok (.newarray .int, 2) := by decide +kernel
theorem dX3_init_16 : decode cX3_init 16 = .ok (.putfield 15, 3) := by decide +kernel
theorem dX3_init_19 : decode cX3_init 19 = .ok (.aload_n 0, 1) := by decide +kernel
theorem dX3_init_20 : decode cX3_init 20 = .ok (.sipush 480, 3) := by decide +kernel
theorem dX3_init_23 : decode cX3_init 23 = .ok (.newarray .int, 2) := by decide +kernel
theorem dX3_init_25 : decode cX3_init 25 = .ok (.putfield 18, 3) := by decide +kernel
theorem dX3_init_28 : decode cX3_init 28 = .ok (.aload_n 0, 1) := by decide +kernel
theorem dX3_init_29 : decode cX3_init 29 = .ok (.sipush 480, 3) := by decide +kernel
theorem dX3_init_32 : decode cX3_init 32 = .ok (.newarray .int, 2) := by decide +kernel
theorem dX3_init_34 : decode cX3_init 34 = .ok (.putfield 21, 3) := by decide +kernel
theorem dX3_init_37 : decode cX3_init 37 = .ok (.aload_n 0, 1) := by decide +kernel
theorem dX3_init_38 : decode cX3_init 38 = .ok (.sipush 576, 3) := by decide +kernel
theorem dX3_init_41 : decode cX3_init 41 = .ok (.newarray .int, 2) := by decide +kernel
theorem dX3_init_43 : decode cX3_init 43 = .ok (.putfield 24, 3) := by decide +kernel
theorem dX3_init_46 : decode cX3_init 46 = .ok (.aload_n 0, 1) := by decide +kernel
theorem dX3_init_47 : decode cX3_init 47 = .ok (.iconst 0, 1) := by decide +kernel
theorem dX3_init_48 : decode cX3_init 48 = .ok (.putfield 27, 3) := by decide +kernel
theorem dX3_init_51 : decode cX3_init 51 = .ok (.aload_n 0, 1) := by decide +kernel
theorem dX3_init_52 : decode cX3_init 52 = .ok (.iconst 0, 1) := by decide +kernel
theorem dX3_init_53 : decode cX3_init 53 = .ok (.putfield 31, 3) := by decide +kernel
theorem dX3_init_56 : decode cX3_init 56 = .ok (.aload_n 0, 1) := by decide +kernel
theorem dX3_init_57 : decode cX3_init 57 = .ok (.iconst 0, 1) := by decide +kernel
theorem dX3_init_58 : decode cX3_init 58 = .ok (.putfield 34, 3) := by decide +kernel
theorem dX3_init_61 : decode cX3_init 61 = .ok (.iconst 0, 1) := by decide +kernel
theorem dX3_init_62 : decode cX3_init 62 = .ok (.istore_n 1, 1) := by decide +kernel
theorem dX3_init_63 : decode cX3_init 63 = .ok (.iload_n 1, 1) := by decide +kernel
theorem dX3_init_64 : decode cX3_init 64 = .ok (.aload_n 0, 1) := by decide +kernel
theorem dX3_init_65 : decode cX3_init 65 = .ok (.getfield 15, 3) := by decide +kernel
theorem dX3_init_68 : decode cX3_init 68 = .ok (.arraylength, 1) := by decide +kernel
theorem dX3_init_69 : decode cX3_init 69 = .ok (.if_icmp .ge 28, 3) := by decide +kernel
theorem dX3_init_72 : decode cX3_init 72 = .ok (.iload_n 1, 1) := by decide +kernel
theorem dX3_init_73 : decode cX3_init 73 = .ok (.getstatic 37, 3) := by decide +kernel
theorem dX3_init_76 : decode cX3_init 76 = .ok (.arraylength, 1) := by decide +kernel
theorem dX3_init_77 : decode cX3_init 77 = .ok (.if_icmp .ge 20, 3) := by decide +kernel
theorem dX3_init_80 : decode cX3_init 80 = .ok (.aload_n 0, 1) := by decide +kernel
theorem dX3_init_81 : decode cX3_init 81 = .ok (.getfield 15, 3) := by decide +kernel
theorem dX3_init_84 : decode cX3_init 84 = .ok (.iload_n 1, 1) := by decide +kernel
theorem dX3_init_85 : decode cX3_init 85 = .ok (.getstatic 37, 3) := by decide +kernel
theorem dX3_init_88 : decode cX3_init 88 = .ok (.iload_n 1, 1) := by decide +kernel
theorem dX3_init_89 : decode cX3_init 89 = .ok (.iaload, 1) := by decide +kernel
theorem dX3_init_90 : decode cX3_init 90 = .ok (.iastore, 1) := by decide +kernel
theorem dX3_init_91 : decode cX3_init 91 = .ok (.iinc 1 1, 3) := by decide +kernel
theorem dX3_init_94 : decode cX3_init 94 = .ok (.goto (-31), 3) := by decide +kernel
theorem dX3_init_97 : decode cX3_init 97 = .ok (.iconst 0, 1) := by decide +kernel
theorem dX3_init_98 : decode cX3_init 98 = .ok (.istore_n 1, 1) := by decide +kernel
theorem dX3_init_99 : decode cX3_init 99 = .ok (.iload_n 1, 1) := by decide +kernel
theorem dX3_init_100 : decode cX3_init 100 = .ok (.aload_n 0, 1) := by decide +kernel
theorem dX3_init_101 : decode cX3_init 101 = .ok (.getfield 18, 3) := by decide +kernel
theorem dX3_init_104 : decode cX3_init 104 = .ok (.arraylength, 1) := by decide +kernel
theorem dX3_init_105 : decode cX3_init 105 = .ok (.if_icmp .ge 32, 3) := by decide +kernel
theorem dX3_init_108 : decode cX3_init 108 = .ok (.iload_n 1, 1) := by decide +kernel
theorem dX3_init_109 : decode cX3_init 109 = .ok (.aload_n 0, 1) := by decide +kernel
theorem dX3_init_110 : decode cX3_init 110 = .ok (.getfield 21, 3) := by decide +kernel
theorem dX3_init_113 : decode cX3_init 113 = .ok (.arraylength, 1) := by decide +kernel
theorem dX3_init_114 : decode cX3_init 114 = .ok (.if_icmp .ge 23, 3) := by decide +kernel
theorem dX3_init_117 : decode cX3_init 117 = .ok (.aload_n 0, 1) := by decide +kernel
theorem dX3_init_118 : decode cX3_init 118 = .ok (.getfield 18, 3) := by decide +kernel
theorem dX3_init_121 : decode cX3_init 121 = .ok (.iload_n 1, 1) := by decide +kernel
theorem dX3_init_122 : decode cX3_init 122 = .ok (.iconst (-1), 1) := by decide +kernel
theorem dX3_init_123 : decode cX3_init 123 = .ok (.iastore, 1) := by decide +kernel
theorem dX3_init_124 : decode cX3_init 124 = .ok (.aload_n 0, 1) := by decide +kernel
theorem dX3_init_125 : decode cX3_init 125 = .ok (.getfield 21, 3) := by decide +kernel
theorem dX3_init_128 : decode cX3_init 128 = .ok (.iload_n 1, 1) := by decide +kernel
theorem dX3_init_129 : decode cX3_init 129 = .ok (.iconst (-1), 1) := by decide +kernel
theorem dX3_init_130 : decode cX3_init 130 = .ok (.iastore, 1) := by decide +kernel
theorem dX3_init_131 : decode cX3_init 131 = .ok (.iinc 1 1, 3) := by decide +kernel
theorem dX3_init_134 : decode cX3_init 134 = .ok (.goto (-35), 3) := by decide +kernel
theorem dX3_init_137 : decode cX3_init 137 = .ok (.iconst 0, 1) := by decide +kernel
theorem dX3_init_138 : decode cX3_init 138 = .ok (.istore_n 1, 1) := by decide +kernel
theorem dX3_init_139 : decode cX3_init 139 = .ok (.iload_n 1, 1) := by decide +kernel
theorem dX3_init_140 : decode cX3_init 140 = .ok (.aload_n 0, 1) := by decide +kernel
theorem dX3_init_141 : decode cX3_init 141 = .ok (.getfield 24, 3) := by decide +kernel
theorem dX3_init_144 : decode cX3_init 144 = .ok (.arraylength, 1) := by decide +kernel
theorem dX3_init_145 : decode cX3_init 145 = .ok (.if_icmp .ge 16, 3) := by decide +kernel
theorem dX3_init_148 : decode cX3_init 148 = .ok (.aload_n 0, 1) := by decide +kernel
theorem dX3_init_149 : decode cX3_init 149 = .ok (.getfield 24, 3) := by decide +kernel
theorem dX3_init_152 : decode cX3_init 152 = .ok (.iload_n 1, 1) := by decide +kernel
theorem dX3_init_153 : decode cX3_init 153 = .ok (.iconst (-1), 1) := by decide +kernel
theorem dX3_init_154 : decode cX3_init 154 = .ok (.iastore, 1) := by decide +kernel
theorem dX3_init_155 : decode cX3_init 155 = .ok (.iinc 1 1, 3) := by decide +kernel
theorem dX3_init_158 : decode cX3_init 158 = .ok (.goto (-19), 3) := by decide +kernel
theorem dX3_init_161 : decode cX3_init 161 = .ok (.return_, 1) := by decide +kernel
theorem dX3_copyFrom_0 : decode cX3_copyFrom 0 = .ok (.aload_n 1, 1) := by decide +kernel
theorem dX3_copyFrom_1 : decode cX3_copyFrom 1 = .ok (.ifnonnull 4, 3) := by decide +kernel
theorem dX3_copyFrom_4 : decode cX3_copyFrom 4 = .ok (.return_, 1) := by decide +kernel
theorem dX3_copyFrom_5 : decode cX3_copyFrom 5 = .ok (.aload_n 1, 1) := by decide +kernel
theorem dX3_copyFrom_6 : decode cX3_copyFrom 6 = .ok (.getfield 9, 3) := by decide +kernel
theorem dX3_copyFrom_9 : decode cX3_copyFrom 9 = .ok (.iconst 0, 1) := by decide +kernel
theorem dX3_copyFrom_10 : decode cX3_copyFrom 10 = .ok (.aload_n 0, 1) := by decide +kernel
theorem dX3_copyFrom_11 : decode cX3_copyFrom 11 = .ok (.getfield 9, 3) := by decide +kernel
theorem dX3_copyFrom_14 : decode cX3_copyFrom 14 = .ok (.iconst 0, 1) := by decide +kernel
theorem dX3_copyFrom_15 : decode cX3_copyFrom 15 = .ok (.bipush 12, 2) := by decide +kernel
theorem dX3_copyFrom_17 : decode cX3_copyFrom 17 = .ok (.invokestatic 40, 3) := by decide +kernel
theorem dX3_copyFrom_20 : decode cX3_copyFrom 20 = .ok (.aload_n 1, 1) := by decide +kernel
theorem dX3_copyFrom_21 : decode cX3_copyFrom 21 = .ok (.getfield 15, 3) := by decide +kernel
theorem dX3_copyFrom_24 : decode cX3_copyFrom 24 = .ok (.iconst 0, 1) := by decide +kernel
theorem dX3_copyFrom_25 : decode cX3_copyFrom 25 = .ok (.aload_n 0, 1) := by decide +kernel
theorem dX3_copyFrom_26 : decode cX3_copyFrom 26 = .ok (.getfield 15, 3) := by decide +kernel
theorem dX3_copyFrom_29 : decode cX3_copyFrom 29 = .ok (.iconst 0, 1) := by decide +kernel
theorem dX3_copyFrom_30 : decode cX3_copyFrom 30 = .ok (.iconst 3, 1) := by decide +kernel
theorem dX3_copyFrom_31 : decode cX3_copyFrom 31 = .ok (.invokestatic 40, 3) := by decide +kernel
theorem dX3_copyFrom_34 : decode cX3_copyFrom 34 = .ok (.aload_n 1, 1) := by decide +kernel
theorem dX3_copyFrom_35 : decode cX3_copyFrom 35 = .ok (.getfield 18, 3) := by decide +kernel
theorem dX3_copyFrom_38 : decode cX3_copyFrom 38 = .ok (.iconst 0, 1) := by decide +kernel
theorem dX3_copyFrom_39 : decode cX3_copyFrom 39 = .ok (.aload_n 0, 1) := by decide +kernel
theorem dX3_copyFrom_40 : decode cX3_copyFrom 40 = .ok (.getfield 18, 3) := by decide +kernel
theorem dX3_copyFrom_43 : decode cX3_copyFrom 43 = .ok (.iconst 0, 1) := by decide +kernel
theorem dX3_copyFrom_44 : decode cX3_copyFrom 44 = .ok (.sipush 480, 3) := by decide +kernel
theorem dX3_copyFrom_47 : decode cX3_copyFrom 47 = .ok (.invokestatic 40, 3) := by decide +kernel
theorem dX3_copyFrom_50 : decode cX3_copyFrom 50 = .ok (.aload_n 1, 1) := by decide +kernel
theorem dX3_copyFrom_51 : decode cX3_copyFrom 51 = .ok (.getfield 21, 3) := by decide +kernel
theorem dX3_copyFrom_54 : decode cX3_copyFrom 54 = .ok (.iconst 0, 1) := by decide +kernel
theorem dX3_copyFrom_55 : decode cX3_copyFrom 55 = .ok (.aload_n 0, 1) := by decide +kernel
theorem dX3_copyFrom_56 : decode cX3_copyFrom 56 = .ok (.getfield 21, 3) := by decide +kernel
theorem dX3_copyFrom_59 : decode cX3_copyFrom 59 = .ok (.iconst 0, 1) := by decide +kernel
theorem dX3_copyFrom_60 : decode cX3_copyFrom 60 = .ok (.sipush 480, 3) := by decide +kernel
theorem dX3_copyFrom_63 : decode cX3_copyFrom 63 = .ok (.invokestatic 40, 3) := by decide +kernel
theorem dX3_copyFrom_66 : decode cX3_copyFrom 66 = .ok (.aload_n 1, 1) := by decide +kernel
theorem dX3_copyFrom_67 : decode cX3_copyFrom 67 = .ok (.getfield 24, 3) := by decide +kernel
theorem dX3_copyFrom_70 : decode cX3_copyFrom 70 = .ok (.iconst 0, 1) := by decide +kernel
theorem dX3_copyFrom_71 : decode cX3_copyFrom 71 = .ok (.aload_n 0, 1) := by decide +kernel
theorem dX3_copyFrom_72 : decode cX3_copyFrom 72 = .ok (.getfield 24, 3) := by decide +kernel
theorem dX3_copyFrom_75 : decode cX3_copyFrom 75 = .ok (.iconst 0, 1) := by decide +kernel
theorem dX3_copyFrom_76 : decode cX3_copyFrom 76 = .ok (.sipush 576, 3) := by decide +kernel
theorem dX3_copyFrom_79 : decode cX3_copyFrom 79 = .ok (.invokestatic 40, 3) := by decide +kernel
theorem dX3_copyFrom_82 : decode cX3_copyFrom 82 = .ok (.aload_n 0, 1) := by decide +kernel
theorem dX3_copyFrom_83 : decode cX3_copyFrom 83 = .ok (.aload_n 1, 1) := by decide +kernel
theorem dX3_copyFrom_84 : decode cX3_copyFrom 84 = .ok (.getfield 27, 3) := by decide +kernel
theorem dX3_copyFrom_87 : decode cX3_copyFrom 87 = .ok (.putfield 27, 3) := by decide +kernel
theorem dX3_copyFrom_90 : decode cX3_copyFrom 90 = .ok (.aload_n 0, 1) := by decide +kernel
theorem dX3_copyFrom_91 : decode cX3_copyFrom 91 = .ok (.aload_n 1, 1) := by decide +kernel
theorem dX3_copyFrom_92 : decode cX3_copyFrom 92 = .ok (.getfield 31, 3) := by decide +kernel
theorem dX3_copyFrom_95 : decode cX3_copyFrom 95 = .ok (.putfield 31, 3) := by decide +kernel
theorem dX3_copyFrom_98 : decode cX3_copyFrom 98 = .ok (.aload_n 0, 1) := by decide +kernel
theorem dX3_copyFrom_99 : decode cX3_copyFrom 99 = .ok (.aload_n 1, 1) := by decide +kernel
theorem dX3_copyFrom_100 : decode cX3_copyFrom 100 = .ok (.getfield 34, 3) := by decide +kernel
theorem dX3_copyFrom_103 : decode cX3_copyFrom 103 = .ok (.putfield 34, 3) := by decide +kernel
theorem dX3_copyFrom_106 : decode cX3_copyFrom 106 = .ok (.return_, 1) := by decide +kernel
theorem dX3_valueOf_0 : decode cX3_valueOf 0 = .ok (.iload_n 1, 1) := by decide +kernel
theorem dX3_valueOf_1 : decode cX3_valueOf 1 = .ok (.invokestatic 46, 3) := by decide +kernel
theorem dX3_valueOf_4 : decode cX3_valueOf 4 = .ok (.ifCond .eq 12, 3) := by decide +kernel
theorem dX3_valueOf_7 : decode cX3_valueOf 7 = .ok (.aload_n 0, 1) := by decide +kernel
theorem dX3_valueOf_8 : decode cX3_valueOf 8 = .ok (.getfield 18, 3) := by decide +kernel
theorem dX3_valueOf_11 : decode cX3_valueOf 11 = .ok (.iload_n 1, 1) := by decide +kernel
theorem dX3_valueOf_12 : decode cX3_valueOf 12 = .ok (.iaload, 1) := by decide +kernel
theorem dX3_valueOf_13 : decode cX3_valueOf 13 = .ok (.goto 4, 3) := by decide +kernel
theorem dX3_valueOf_16 : decode cX3_valueOf 16 = .ok (.iconst (-1), 1) := by decide +kernel
theorem dX3_valueOf_17 : decode cX3_valueOf 17 = .ok (.ireturn, 1) := by decide +kernel
theorem dX3_placeOf_0 : decode cX3_placeOf 0 = .ok (.iload_n 1, 1) := by decide +kernel
theorem dX3_placeOf_1 : decode cX3_placeOf 1 = .ok (.invokestatic 46, 3) := by decide +kernel
theorem dX3_placeOf_4 : decode cX3_placeOf 4 = .ok (.ifCond .eq 12, 3) := by decide +kernel
theorem dX3_placeOf_7 : decode cX3_placeOf 7 = .ok (.aload_n 0, 1) := by decide +kernel
theorem dX3_placeOf_8 : decode cX3_placeOf 8 = .ok (.getfield 21, 3) := by decide +kernel
theorem dX3_placeOf_11 : decode cX3_placeOf 11 = .ok (.iload_n 1, 1) := by decide +kernel
theorem dX3_placeOf_12 : decode cX3_placeOf 12 = .ok (.iaload, 1) := by decide +kernel
theorem dX3_placeOf_13 : decode cX3_placeOf 13 = .ok (.goto 4, 3) := by decide +kernel
theorem dX3_placeOf_16 : decode cX3_placeOf 16 = .ok (.iconst (-1), 1) := by decide +kernel
theorem dX3_placeOf_17 : decode cX3_placeOf 17 = .ok (.ireturn, 1) := by decide +kernel
theorem dX3_holderOf_0 : decode cX3_holderOf 0 = .ok (.iload_n 1, 1) := by decide +kernel
theorem dX3_holderOf_1 : decode cX3_holderOf 1 = .ok (.invokestatic 50, 3) := by decide +kernel
theorem dX3_holderOf_4 : decode cX3_holderOf 4 = .ok (.ifCond .eq 12, 3) := by decide +kernel
theorem dX3_holderOf_7 : decode cX3_holderOf 7 = .ok (.aload_n 0, 1) := by decide +kernel
theorem dX3_holderOf_8 : decode cX3_holderOf 8 = .ok (.getfield 24, 3) := by decide +kernel
theorem dX3_holderOf_11 : decode cX3_holderOf 11 = .ok (.iload_n 1, 1) := by decide +kernel
theorem dX3_holderOf_12 : decode cX3_holderOf 12 = .ok (.iaload, 1) := by decide +kernel
theorem dX3_holderOf_13 : decode cX3_holderOf 13 = .ok (.goto 4, 3) := by decide +kernel
theorem dX3_holderOf_16 : decode cX3_holderOf 16 = .ok (.iconst (-1), 1) := by decide +kernel
theorem dX3_holderOf_17 : decode cX3_holderOf 17 = .ok (.ireturn, 1) := by decide +kernel
theorem dX3_settingOf_0 : decode cX3_settingOf 0 = .ok (.iload_n 1, 1) := by decide +kernel
theorem dX3_settingOf_1 : decode cX3_settingOf 1 = .ok (.invokestatic 53, 3) := by decide +kernel
theorem dX3_settingOf_4 : decode cX3_settingOf 4 = .ok (.ifCond .eq 12, 3) := by decide +kernel
theorem dX3_settingOf_7 : decode cX3_settingOf 7 = .ok (.aload_n 0, 1) := by decide +kernel
theorem dX3_settingOf_8 : decode cX3_settingOf 8 = .ok (.getfield 15, 3) := by decide +kernel
theorem dX3_settingOf_11 : decode cX3_settingOf 11 = .ok (.iload_n 1, 1) := by decide +kernel
theorem dX3_settingOf_12 : decode cX3_settingOf 12 = .ok (.iaload, 1) := by decide +kernel
theorem dX3_settingOf_13 : decode cX3_settingOf 13 = .ok (.goto 4, 3) := by decide +kernel
theorem dX3_settingOf_16 : decode cX3_settingOf 16 = .ok (.iconst (-1), 1) := by decide +kernel
theorem dX3_settingOf_17 : decode cX3_settingOf 17 = .ok (.ireturn, 1) := by decide +kernel
theorem dX3_changeSetting_0 : decode cX3_changeSetting 0 = .ok (.iload_n 1, 1) := by decide +kernel
theorem dX3_changeSetting_1 : decode cX3_changeSetting 1 = .ok (.invokestatic 53, 3) := by decide +kernel
theorem dX3_changeSetting_4 : decode cX3_changeSetting 4 = .ok (.ifCond .eq 10, 3) := by decide +kernel
theorem dX3_changeSetting_7 : decode cX3_changeSetting 7 = .ok (.aload_n 0, 1) := by decide +kernel
theorem dX3_changeSetting_8 : decode cX3_changeSetting 8 = .ok (.getfield 15, 3) := by decide +kernel
theorem dX3_changeSetting_11 : decode cX3_changeSetting 11 = .ok (.iload_n 1, 1) := by decide +kernel
theorem dX3_changeSetting_12 : decode cX3_changeSetting 12 = .ok (.iload_n 2, 1) := by decide +kernel
theorem dX3_changeSetting_13 : decode cX3_changeSetting 13 = .ok (.iastore, 1) := by decide +kernel
theorem dX3_changeSetting_14 : decode cX3_changeSetting 14 = .ok (.return_, 1) := by decide +kernel
theorem dX3_place_0 : decode cX3_place 0 = .ok (.iload_n 1, 1) := by decide +kernel
theorem dX3_place_1 : decode cX3_place 1 = .ok (.invokestatic 46, 3) := by decide +kernel
theorem dX3_place_4 : decode cX3_place 4 = .ok (.ifCond .eq 10, 3) := by decide +kernel
theorem dX3_place_7 : decode cX3_place 7 = .ok (.iload_n 2, 1) := by decide +kernel
theorem dX3_place_8 : decode cX3_place 8 = .ok (.invokestatic 50, 3) := by decide +kernel
theorem dX3_place_11 : decode cX3_place 11 = .ok (.ifCond .ne 4, 3) := by decide +kernel
theorem dX3_place_14 : decode cX3_place 14 = .ok (.return_, 1) := by decide +kernel
theorem dX3_place_15 : decode cX3_place 15 = .ok (.aload_n 0, 1) := by decide +kernel
theorem dX3_place_16 : decode cX3_place 16 = .ok (.getfield 21, 3) := by decide +kernel
theorem dX3_place_19 : decode cX3_place 19 = .ok (.iload_n 1, 1) := by decide +kernel
theorem dX3_place_20 : decode cX3_place 20 = .ok (.iaload, 1) := by decide +kernel
theorem dX3_place_21 : decode cX3_place 21 = .ok (.istore 4, 2) := by decide +kernel
theorem dX3_place_23 : decode cX3_place 23 = .ok (.iload 4, 2) := by decide +kernel
theorem dX3_place_25 : decode cX3_place 25 = .ok (.invokestatic 50, 3) := by decide +kernel
theorem dX3_place_28 : decode cX3_place 28 = .ok (.ifCond .eq 27, 3) := by decide +kernel
theorem dX3_place_31 : decode cX3_place 31 = .ok (.iload 4, 2) := by decide +kernel
theorem dX3_place_33 : decode cX3_place 33 = .ok (.iload_n 2, 1) := by decide +kernel
theorem dX3_place_34 : decode cX3_place 34 = .ok (.if_icmp .eq 21, 3) := by decide +kernel
theorem dX3_place_37 : decode cX3_place 37 = .ok (.aload_n 0, 1) := by decide +kernel
theorem dX3_place_38 : decode cX3_place 38 = .ok (.getfield 24, 3) := by decide +kernel
theorem dX3_place_41 : decode cX3_place 41 = .ok (.iload 4, 2) := by decide +kernel
theorem dX3_place_43 : decode cX3_place 43 = .ok (.iconst (-1), 1) := by decide +kernel
theorem dX3_place_44 : decode cX3_place 44 = .ok (.iastore, 1) := by decide +kernel
theorem dX3_place_45 : decode cX3_place 45 = .ok (.aload_n 0, 1) := by decide +kernel
theorem dX3_place_46 : decode cX3_place 46 = .ok (.dup, 1) := by decide +kernel
theorem dX3_place_47 : decode cX3_place 47 = .ok (.getfield 34, 3) := by decide +kernel
theorem dX3_place_50 : decode cX3_place 50 = .ok (.iconst 1, 1) := by decide +kernel
theorem dX3_place_51 : decode cX3_place 51 = .ok (.iadd, 1) := by decide +kernel
theorem dX3_place_52 : decode cX3_place 52 = .ok (.putfield 34, 3) := by decide +kernel
theorem dX3_place_55 : decode cX3_place 55 = .ok (.aload_n 0, 1) := by decide +kernel
theorem dX3_place_56 : decode cX3_place 56 = .ok (.getfield 24, 3) := by decide +kernel
theorem dX3_place_59 : decode cX3_place 59 = .ok (.iload_n 2, 1) := by decide +kernel
theorem dX3_place_60 : decode cX3_place 60 = .ok (.iload_n 1, 1) := by decide +kernel
theorem dX3_place_61 : decode cX3_place 61 = .ok (.iastore, 1) := by decide +kernel
theorem dX3_place_62 : decode cX3_place 62 = .ok (.aload_n 0, 1) := by decide +kernel
theorem dX3_place_63 : decode cX3_place 63 = .ok (.getfield 21, 3) := by decide +kernel
theorem dX3_place_66 : decode cX3_place 66 = .ok (.iload_n 1, 1) := by decide +kernel
theorem dX3_place_67 : decode cX3_place 67 = .ok (.iload_n 2, 1) := by decide +kernel
theorem dX3_place_68 : decode cX3_place 68 = .ok (.iastore, 1) := by decide +kernel
theorem dX3_place_69 : decode cX3_place 69 = .ok (.aload_n 0, 1) := by decide +kernel
theorem dX3_place_70 : decode cX3_place 70 = .ok (.getfield 18, 3) := by decide +kernel
theorem dX3_place_73 : decode cX3_place 73 = .ok (.iload_n 1, 1) := by decide +kernel
theorem dX3_place_74 : decode cX3_place 74 = .ok (.iload_n 3, 1) := by decide +kernel
theorem dX3_place_75 : decode cX3_place 75 = .ok (.iastore, 1) := by decide +kernel
theorem dX3_place_76 : decode cX3_place 76 = .ok (.return_, 1) := by decide +kernel
theorem dX3_forget_0 : decode cX3_forget 0 = .ok (.aload_n 0, 1) := by decide +kernel
theorem dX3_forget_1 : decode cX3_forget 1 = .ok (.iload_n 1, 1) := by decide +kernel
theorem dX3_forget_2 : decode cX3_forget 2 = .ok (.invokevirtual 56, 3) := by decide +kernel
theorem dX3_forget_5 : decode cX3_forget 5 = .ok (.istore_n 2, 1) := by decide +kernel
theorem dX3_forget_6 : decode cX3_forget 6 = .ok (.iload_n 1, 1) := by decide +kernel
theorem dX3_forget_7 : decode cX3_forget 7 = .ok (.invokestatic 46, 3) := by decide +kernel
theorem dX3_forget_10 : decode cX3_forget 10 = .ok (.ifCond .eq 10, 3) := by decide +kernel
theorem dX3_forget_13 : decode cX3_forget 13 = .ok (.iload_n 2, 1) := by decide +kernel
theorem dX3_forget_14 : decode cX3_forget 14 = .ok (.invokestatic 50, 3) := by decide +kernel
theorem dX3_forget_17 : decode cX3_forget 17 = .ok (.ifCond .ne 4, 3) := by decide +kernel
theorem dX3_forget_20 : decode cX3_forget 20 = .ok (.return_, 1) := by decide +kernel
theorem dX3_forget_21 : decode cX3_forget 21 = .ok (.aload_n 0, 1) := by decide +kernel
theorem dX3_forget_22 : decode cX3_forget 22 = .ok (.getfield 24, 3) := by decide +kernel
theorem dX3_forget_25 : decode cX3_forget 25 = .ok (.iload_n 2, 1) := by decide +kernel
theorem dX3_forget_26 : decode cX3_forget 26 = .ok (.iconst (-1), 1) := by decide +kernel
theorem dX3_forget_27 : decode cX3_forget 27 = .ok (.iastore, 1) := by decide +kernel
theorem dX3_forget_28 : decode cX3_forget 28 = .ok (.aload_n 0, 1) := by decide +kernel
theorem dX3_forget_29 : decode cX3_forget 29 = .ok (.getfield 21, 3) := by decide +kernel
theorem dX3_forget_32 : decode cX3_forget 32 = .ok (.iload_n 1, 1) := by decide +kernel
theorem dX3_forget_33 : decode cX3_forget 33 = .ok (.iconst (-1), 1) := by decide +kernel
theorem dX3_forget_34 : decode cX3_forget 34 = .ok (.iastore, 1) := by decide +kernel
theorem dX3_forget_35 : decode cX3_forget 35 = .ok (.aload_n 0, 1) := by decide +kernel
theorem dX3_forget_36 : decode cX3_forget 36 = .ok (.getfield 18, 3) := by decide +kernel
theorem dX3_forget_39 : decode cX3_forget 39 = .ok (.iload_n 1, 1) := by decide +kernel
theorem dX3_forget_40 : decode cX3_forget 40 = .ok (.iconst (-1), 1) := by decide +kernel
theorem dX3_forget_41 : decode cX3_forget 41 = .ok (.iastore, 1) := by decide +kernel
theorem dX3_forget_42 : decode cX3_forget 42 = .ok (.return_, 1) := by decide +kernel
theorem dX3_cellOfSpot_0 : decode cX3_cellOfSpot 0 = .ok (.iload_n 1, 1) := by decide +kernel
theorem dX3_cellOfSpot_1 : decode cX3_cellOfSpot 1 = .ok (.ifCond .lt 29, 3) := by decide +kernel
theorem dX3_cellOfSpot_4 : decode cX3_cellOfSpot 4 = .ok (.iload_n 1, 1) := by decide +kernel
theorem dX3_cellOfSpot_5 : decode cX3_cellOfSpot 5 = .ok (.aload_n 0, 1) := by decide +kernel
theorem dX3_cellOfSpot_6 : decode cX3_cellOfSpot 6 = .ok (.getfield 27, 3) := by decide +kernel
theorem dX3_cellOfSpot_9 : decode cX3_cellOfSpot 9 = .ok (.if_icmp .ge 21, 3) := by decide +kernel
theorem dX3_cellOfSpot_12 : decode cX3_cellOfSpot 12 = .ok (.iload_n 1, 1) := by decide +kernel
theorem dX3_cellOfSpot_13 : decode cX3_cellOfSpot 13 = .ok (.aload_n 0, 1) := by decide +kernel
theorem dX3_cellOfSpot_14 : decode cX3_cellOfSpot 14 = .ok (.getfield 9, 3) := by decide +kernel
theorem dX3_cellOfSpot_17 : decode cX3_cellOfSpot 17 = .ok (.arraylength, 1) := by decide +kernel
theorem dX3_cellOfSpot_18 : decode cX3_cellOfSpot 18 = .ok (.if_icmp .ge 12, 3) := by decide +kernel
theorem dX3_cellOfSpot_21 : decode cX3_cellOfSpot 21 = .ok (.aload_n 0, 1) := by decide +kernel
theorem dX3_cellOfSpot_22 : decode cX3_cellOfSpot 22 = .ok (.getfield 9, 3) := by decide +kernel
theorem dX3_cellOfSpot_25 : decode cX3_cellOfSpot 25 = .ok (.iload_n 1, 1) := by decide +kernel
theorem dX3_cellOfSpot_26 : decode cX3_cellOfSpot 26 = .ok (.iaload, 1) := by decide +kernel
theorem dX3_cellOfSpot_27 : decode cX3_cellOfSpot 27 = .ok (.goto 4, 3) := by decide +kernel
theorem dX3_cellOfSpot_30 : decode cX3_cellOfSpot 30 = .ok (.iconst (-1), 1) := by decide +kernel
theorem dX3_cellOfSpot_31 : decode cX3_cellOfSpot 31 = .ok (.ireturn, 1) := by decide +kernel
theorem dX3_spotAt_0 : decode cX3_spotAt 0 = .ok (.iconst 0, 1) := by decide +kernel
theorem dX3_spotAt_1 : decode cX3_spotAt 1 = .ok (.istore_n 2, 1) := by decide +kernel
theorem dX3_spotAt_2 : decode cX3_spotAt 2 = .ok (.iload_n 2, 1) := by decide +kernel
theorem dX3_spotAt_3 : decode cX3_spotAt 3 = .ok (.aload_n 0, 1) := by decide +kernel
theorem dX3_spotAt_4 : decode cX3_spotAt 4 = .ok (.getfield 27, 3) := by decide +kernel
theorem dX3_spotAt_7 : decode cX3_spotAt 7 = .ok (.if_icmp .ge 20, 3) := by decide +kernel
theorem dX3_spotAt_10 : decode cX3_spotAt 10 = .ok (.aload_n 0, 1) := by decide +kernel
theorem dX3_spotAt_11 : decode cX3_spotAt 11 = .ok (.iload_n 2, 1) := by decide +kernel
theorem dX3_spotAt_12 : decode cX3_spotAt 12 = .ok (.invokevirtual 60, 3) := by decide +kernel
theorem dX3_spotAt_15 : decode cX3_spotAt 15 = .ok (.iload_n 1, 1) := by decide +kernel
theorem dX3_spotAt_16 : decode cX3_spotAt 16 = .ok (.if_icmp .ne 5, 3) := by decide +kernel
theorem dX3_spotAt_19 : decode cX3_spotAt 19 = .ok (.iload_n 2, 1) := by decide +kernel
theorem dX3_spotAt_20 : decode cX3_spotAt 20 = .ok (.ireturn, 1) := by decide +kernel
theorem dX3_spotAt_21 : decode cX3_spotAt 21 = .ok (.iinc 2 1, 3) := by decide +kernel
theorem dX3_spotAt_24 : decode cX3_spotAt 24 = .ok (.goto (-22), 3) := by decide +kernel
theorem dX3_spotAt_27 : decode cX3_spotAt 27 = .ok (.iconst (-1), 1) := by decide +kernel
theorem dX3_spotAt_28 : decode cX3_spotAt 28 = .ok (.ireturn, 1) := by decide +kernel
theorem dX3_canAddSpot_0 : decode cX3_canAddSpot 0 = .ok (.iload_n 1, 1) := by decide +kernel
theorem dX3_canAddSpot_1 : decode cX3_canAddSpot 1 = .ok (.invokestatic 50, 3) := by decide +kernel
theorem dX3_canAddSpot_4 : decode cX3_canAddSpot 4 = .ok (.ifCond .eq 35, 3) := by decide +kernel
theorem dX3_canAddSpot_7 : decode cX3_canAddSpot 7 = .ok (.aload_n 0, 1) := by decide +kernel
theorem dX3_canAddSpot_8 : decode cX3_canAddSpot 8 = .ok (.getfield 27, 3) := by decide +kernel
theorem dX3_canAddSpot_11 : decode cX3_canAddSpot 11 = .ok (.ifCond .lt 28, 3) := by decide +kernel
theorem dX3_canAddSpot_14 : decode cX3_canAddSpot 14 = .ok (.aload_n 0, 1) := by decide +kernel
theorem dX3_canAddSpot_15 : decode cX3_canAddSpot 15 = .ok (.getfield 27, 3) := by decide +kernel
theorem dX3_canAddSpot_18 : decode cX3_canAddSpot 18 = .ok (.aload_n 0, 1) := by decide +kernel
theorem dX3_canAddSpot_19 : decode cX3_canAddSpot 19 = .ok (.getfield 9, 3) := by decide +kernel
theorem dX3_canAddSpot_22 : decode cX3_canAddSpot 22 = .ok (.arraylength, 1) := by decide +kernel
theorem dX3_canAddSpot_23 : decode cX3_canAddSpot 23 = .ok (.if_icmp .ge 16, 3) := by decide +kernel
theorem dX3_canAddSpot_26 : decode cX3_canAddSpot 26 = .ok (.aload_n 0, 1) := by decide +kernel
theorem dX3_canAddSpot_27 : decode cX3_canAddSpot 27 = .ok (.iload_n 1, 1) := by decide +kernel
theorem dX3_canAddSpot_28 : decode cX3_canAddSpot 28 = .ok (.invokevirtual 63, 3) := by decide +kernel
theorem dX3_canAddSpot_31 : decode cX3_canAddSpot 31 = .ok (.iconst (-1), 1) := by decide +kernel
theorem dX3_canAddSpot_32 : decode cX3_canAddSpot 32 = .ok (.if_icmp .ne 7, 3) := by decide +kernel
theorem dX3_canAddSpot_35 : decode cX3_canAddSpot 35 = .ok (.iconst 1, 1) := by decide +kernel
theorem dX3_canAddSpot_36 : decode cX3_canAddSpot 36 = .ok (.goto 4, 3) := by decide +kernel
theorem dX3_canAddSpot_39 : decode cX3_canAddSpot 39 = .ok (.iconst 0, 1) := by decide +kernel
theorem dX3_canAddSpot_40 : decode cX3_canAddSpot 40 = .ok (.ireturn, 1) := by decide +kernel
theorem dX3_addSpot_0 : decode cX3_addSpot 0 = .ok (.aload_n 0, 1) := by decide +kernel
theorem dX3_addSpot_1 : decode cX3_addSpot 1 = .ok (.iload_n 1, 1) := by decide +kernel
theorem dX3_addSpot_2 : decode cX3_addSpot 2 = .ok (.invokevirtual 66, 3) := by decide +kernel
theorem dX3_addSpot_5 : decode cX3_addSpot 5 = .ok (.ifCond .ne 4, 3) := by decide +kernel
theorem dX3_addSpot_8 : decode cX3_addSpot 8 = .ok (.return_, 1) := by decide +kernel
theorem dX3_addSpot_9 : decode cX3_addSpot 9 = .ok (.aload_n 0, 1) := by decide +kernel
theorem dX3_addSpot_10 : decode cX3_addSpot 10 = .ok (.getfield 9, 3) := by decide +kernel
theorem dX3_addSpot_13 : decode cX3_addSpot 13 = .ok (.aload_n 0, 1) := by decide +kernel
theorem dX3_addSpot_14 : decode cX3_addSpot 14 = .ok (.getfield 27, 3) := by decide +kernel
theorem dX3_addSpot_17 : decode cX3_addSpot 17 = .ok (.iload_n 1, 1) := by decide +kernel
theorem dX3_addSpot_18 : decode cX3_addSpot 18 = .ok (.iastore, 1) := by decide +kernel
theorem dX3_addSpot_19 : decode cX3_addSpot 19 = .ok (.aload_n 0, 1) := by decide +kernel
theorem dX3_addSpot_20 : decode cX3_addSpot 20 = .ok (.dup, 1) := by decide +kernel
theorem dX3_addSpot_21 : decode cX3_addSpot 21 = .ok (.getfield 27, 3) := by decide +kernel
theorem dX3_addSpot_24 : decode cX3_addSpot 24 = .ok (.iconst 1, 1) := by decide +kernel
theorem dX3_addSpot_25 : decode cX3_addSpot 25 = .ok (.iadd, 1) := by decide +kernel
theorem dX3_addSpot_26 : decode cX3_addSpot 26 = .ok (.putfield 27, 3) := by decide +kernel
theorem dX3_addSpot_29 : decode cX3_addSpot 29 = .ok (.aload_n 0, 1) := by decide +kernel
theorem dX3_addSpot_30 : decode cX3_addSpot 30 = .ok (.iload_n 1, 1) := by decide +kernel
theorem dX3_addSpot_31 : decode cX3_addSpot 31 = .ok (.invokevirtual 69, 3) := by decide +kernel
theorem dX3_addSpot_34 : decode cX3_addSpot 34 = .ok (.istore_n 2, 1) := by decide +kernel
theorem dX3_addSpot_35 : decode cX3_addSpot 35 = .ok (.iload_n 2, 1) := by decide +kernel
theorem dX3_addSpot_36 : decode cX3_addSpot 36 = .ok (.iconst (-1), 1) := by decide +kernel
theorem dX3_addSpot_37 : decode cX3_addSpot 37 = .ok (.if_icmp .eq 18, 3) := by decide +kernel
theorem dX3_addSpot_40 : decode cX3_addSpot 40 = .ok (.aload_n 0, 1) := by decide +kernel
theorem dX3_addSpot_41 : decode cX3_addSpot 41 = .ok (.iload_n 2, 1) := by decide +kernel
theorem dX3_addSpot_42 : decode cX3_addSpot 42 = .ok (.invokevirtual 72, 3) := by decide +kernel
theorem dX3_addSpot_45 : decode cX3_addSpot 45 = .ok (.aload_n 0, 1) := by decide +kernel
theorem dX3_addSpot_46 : decode cX3_addSpot 46 = .ok (.dup, 1) := by decide +kernel
theorem dX3_addSpot_47 : decode cX3_addSpot 47 = .ok (.getfield 31, 3) := by decide +kernel
theorem dX3_addSpot_50 : decode cX3_addSpot 50 = .ok (.iconst 1, 1) := by decide +kernel
theorem dX3_addSpot_51 : decode cX3_addSpot 51 = .ok (.iadd, 1) := by decide +kernel
theorem dX3_addSpot_52 : decode cX3_addSpot 52 = .ok (.putfield 31, 3) := by decide +kernel
theorem dX3_addSpot_55 : decode cX3_addSpot 55 = .ok (.return_, 1) := by decide +kernel
theorem dX3_removeSpot_0 : decode cX3_removeSpot 0 = .ok (.aload_n 0, 1) := by decide +kernel
theorem dX3_removeSpot_1 : decode cX3_removeSpot 1 = .ok (.iload_n 1, 1) := by decide +kernel
theorem dX3_removeSpot_2 : decode cX3_removeSpot 2 = .ok (.invokevirtual 63, 3) := by decide +kernel
theorem dX3_removeSpot_5 : decode cX3_removeSpot 5 = .ok (.istore_n 2, 1) := by decide +kernel
theorem dX3_removeSpot_6 : decode cX3_removeSpot 6 = .ok (.iload_n 2, 1) := by decide +kernel
theorem dX3_removeSpot_7 : decode cX3_removeSpot 7 = .ok (.iconst (-1), 1) := by decide +kernel
theorem dX3_removeSpot_8 : decode cX3_removeSpot 8 = .ok (.if_icmp .ne 4, 3) := by decide +kernel
theorem dX3_removeSpot_11 : decode cX3_removeSpot 11 = .ok (.return_, 1) := by decide +kernel
theorem dX3_removeSpot_12 : decode cX3_removeSpot 12 = .ok (.iload_n 2, 1) := by decide +kernel
theorem dX3_removeSpot_13 : decode cX3_removeSpot 13 = .ok (.iconst 1, 1) := by decide +kernel
theorem dX3_removeSpot_14 : decode cX3_removeSpot 14 = .ok (.iadd, 1) := by decide +kernel
theorem dX3_removeSpot_15 : decode cX3_removeSpot 15 = .ok (.istore_n 3, 1) := by decide +kernel
theorem dX3_removeSpot_16 : decode cX3_removeSpot 16 = .ok (.iload_n 3, 1) := by decide +kernel
theorem dX3_removeSpot_17 : decode cX3_removeSpot 17 = .ok (.ifCond .le 40, 3) := by decide +kernel
theorem dX3_removeSpot_20 : decode cX3_removeSpot 20 = .ok (.iload_n 3, 1) := by decide +kernel
theorem dX3_removeSpot_21 : decode cX3_removeSpot 21 = .ok (.aload_n 0, 1) := by decide +kernel
theorem dX3_removeSpot_22 : decode cX3_removeSpot 22 = .ok (.getfield 27, 3) := by decide +kernel
theorem dX3_removeSpot_25 : decode cX3_removeSpot 25 = .ok (.if_icmp .ge 32, 3) := by decide +kernel
theorem dX3_removeSpot_28 : decode cX3_removeSpot 28 = .ok (.iload_n 3, 1) := by decide +kernel
theorem dX3_removeSpot_29 : decode cX3_removeSpot 29 = .ok (.aload_n 0, 1) := by decide +kernel
theorem dX3_removeSpot_30 : decode cX3_removeSpot 30 = .ok (.getfield 9, 3) := by decide +kernel
theorem dX3_removeSpot_33 : decode cX3_removeSpot 33 = .ok (.arraylength, 1) := by decide +kernel
theorem dX3_removeSpot_34 : decode cX3_removeSpot 34 = .ok (.if_icmp .ge 23, 3) := by decide +kernel
theorem dX3_removeSpot_37 : decode cX3_removeSpot 37 = .ok (.aload_n 0, 1) := by decide +kernel
theorem dX3_removeSpot_38 : decode cX3_removeSpot 38 = .ok (.getfield 9, 3) := by decide +kernel
theorem dX3_removeSpot_41 : decode cX3_removeSpot 41 = .ok (.iload_n 3, 1) := by decide +kernel
theorem dX3_removeSpot_42 : decode cX3_removeSpot 42 = .ok (.iconst 1, 1) := by decide +kernel
theorem dX3_removeSpot_43 : decode cX3_removeSpot 43 = .ok (.isub, 1) := by decide +kernel
theorem dX3_removeSpot_44 : decode cX3_removeSpot 44 = .ok (.aload_n 0, 1) := by decide +kernel
theorem dX3_removeSpot_45 : decode cX3_removeSpot 45 = .ok (.getfield 9, 3) := by decide +kernel
theorem dX3_removeSpot_48 : decode cX3_removeSpot 48 = .ok (.iload_n 3, 1) := by decide +kernel
theorem dX3_removeSpot_49 : decode cX3_removeSpot 49 = .ok (.iaload, 1) := by decide +kernel
theorem dX3_removeSpot_50 : decode cX3_removeSpot 50 = .ok (.iastore, 1) := by decide +kernel
theorem dX3_removeSpot_51 : decode cX3_removeSpot 51 = .ok (.iinc 3 1, 3) := by decide +kernel
theorem dX3_removeSpot_54 : decode cX3_removeSpot 54 = .ok (.goto (-38), 3) := by decide +kernel
theorem dX3_removeSpot_57 : decode cX3_removeSpot 57 = .ok (.aload_n 0, 1) := by decide +kernel
theorem dX3_removeSpot_58 : decode cX3_removeSpot 58 = .ok (.dup, 1) := by decide +kernel
theorem dX3_removeSpot_59 : decode cX3_removeSpot 59 = .ok (.getfield 27, 3) := by decide +kernel
theorem dX3_removeSpot_62 : decode cX3_removeSpot 62 = .ok (.iconst 1, 1) := by decide +kernel
theorem dX3_removeSpot_63 : decode cX3_removeSpot 63 = .ok (.isub, 1) := by decide +kernel
theorem dX3_removeSpot_64 : decode cX3_removeSpot 64 = .ok (.putfield 27, 3) := by decide +kernel
theorem dX3_removeSpot_67 : decode cX3_removeSpot 67 = .ok (.return_, 1) := by decide +kernel
theorem dX4_init_0 : decode cX4_init 0 = .ok (.aload_n 0, 1) := by decide +kernel
theorem dX4_init_1 : decode cX4_init 1 = .ok (.invokespecial 1, 3) := by decide +kernel
theorem dX4_init_4 : decode cX4_init 4 = .ok (.aload_n 0, 1) := by decide +kernel
theorem dX4_init_5 : decode cX4_init 5 = .ok (.new 7, 3) := by decide +kernel
theorem dX4_init_8 : decode cX4_init 8 = .ok (.dup, 1) := by decide +kernel
theorem dX4_init_9 : decode cX4_init 9 = .ok (.invokespecial 9, 3) := by decide +kernel
theorem dX4_init_12 : decode cX4_init 12 = .ok (.putfield 10, 3) := by decide +kernel
theorem dX4_init_15 : decode cX4_init 15 = .ok (.aload_n 0, 1) := by decide +kernel
theorem dX4_init_16 : decode cX4_init 16 = .ok (.new 16, 3) := by decide +kernel
theorem dX4_init_19 : decode cX4_init 19 = .ok (.dup, 1) := by decide +kernel
theorem dX4_init_20 : decode cX4_init 20 = .ok (.invokespecial 18, 3) := by decide +kernel
theorem dX4_init_23 : decode cX4_init 23 = .ok (.putfield 19, 3) := by decide +kernel
theorem dX4_init_26 : decode cX4_init 26 = .ok (.aload_n 0, 1) := by decide +kernel
theorem dX4_init_27 : decode cX4_init 27 = .ok (.bipush 6, 2) := by decide +kernel
theorem dX4_init_29 : decode cX4_init 29 = .ok (.anewarray 7, 3) := by decide +kernel
theorem dX4_init_32 : decode cX4_init 32 = .ok (.putfield 23, 3) := by decide +kernel
theorem dX4_init_35 : decode cX4_init 35 = .ok (.aload_n 0, 1) := by decide +kernel
theorem dX4_init_36 : decode cX4_init 36 = .ok (.iconst 0, 1) := by decide +kernel
theorem dX4_init_37 : decode cX4_init 37 = .ok (.putfield 27, 3) := by decide +kernel
theorem dX4_init_40 : decode cX4_init 40 = .ok (.aload_n 0, 1) := by decide +kernel
theorem dX4_init_41 : decode cX4_init 41 = .ok (.new 31, 3) := by decide +kernel
theorem dX4_init_44 : decode cX4_init 44 = .ok (.dup, 1) := by decide +kernel
theorem dX4_init_45 : decode cX4_init 45 = .ok (.invokespecial 33, 3) := by decide +kernel
theorem dX4_init_48 : decode cX4_init 48 = .ok (.putfield 34, 3) := by decide +kernel
theorem dX4_init_51 : decode cX4_init 51 = .ok (.aload_n 0, 1) := by decide +kernel
theorem dX4_init_52 : decode cX4_init 52 = .ok (.new 7, 3) := by decide +kernel
theorem dX4_init_55 : decode cX4_init 55 = .ok (.dup, 1) := by decide +kernel
theorem dX4_init_56 : decode cX4_init 56 = .ok (.invokespecial 9, 3) := by decide +kernel
theorem dX4_init_59 : decode cX4_init 59 = .ok (.putfield 38, 3) := by decide +kernel
theorem dX4_init_62 : decode cX4_init 62 = .ok (.aload_n 0, 1) := by decide +kernel
theorem dX4_init_63 : decode cX4_init 63 = .ok (.new 16, 3) := by decide +kernel
theorem dX4_init_66 : decode cX4_init 66 = .ok (.dup, 1) := by decide +kernel
theorem dX4_init_67 : decode cX4_init 67 = .ok (.invokespecial 18, 3) := by decide +kernel
theorem dX4_init_70 : decode cX4_init 70 = .ok (.putfield 41, 3) := by decide +kernel
theorem dX4_init_73 : decode cX4_init 73 = .ok (.iconst 0, 1) := by decide +kernel
theorem dX4_init_74 : decode cX4_init 74 = .ok (.istore_n 1, 1) := by decide +kernel
theorem dX4_init_75 : decode cX4_init 75 = .ok (.iload_n 1, 1) := by decide +kernel
theorem dX4_init_76 : decode cX4_init 76 = .ok (.aload_n 0, 1) := by decide +kernel
theorem dX4_init_77 : decode cX4_init 77 = .ok (.getfield 23, 3) := by decide +kernel
theorem dX4_init_80 : decode cX4_init 80 = .ok (.arraylength, 1) := by decide +kernel
theorem dX4_init_81 : decode cX4_init 81 = .ok (.if_icmp .ge 22, 3) := by decide +kernel
theorem dX4_init_84 : decode cX4_init 84 = .ok (.aload_n 0, 1) := by decide +kernel
theorem dX4_init_85 : decode cX4_init 85 = .ok (.getfield 23, 3) := by decide +kernel
theorem dX4_init_88 : decode cX4_init 88 = .ok (.iload_n 1, 1) := by decide +kernel
theorem dX4_init_89 : decode cX4_init 89 = .ok (.new 7, 3) := by decide +kernel
theorem dX4_init_92 : decode cX4_init 92 = .ok (.dup, 1) := by decide +kernel
theorem dX4_init_93 : decode cX4_init 93 = .ok (.invokespecial 9, 3) := by decide +kernel
theorem dX4_init_96 : decode cX4_init 96 = .ok (.aastore, 1) := by decide +kernel
theorem dX4_init_97 : decode cX4_init 97 = .ok (.iinc 1 1, 3) := by decide +kernel
theorem dX4_init_100 : decode cX4_init 100 = .ok (.goto (-25), 3) := by decide +kernel
theorem dX4_init_103 : decode cX4_init 103 = .ok (.return_, 1) := by decide +kernel
theorem dX4_write_0 : decode cX4_write 0 = .ok (.iload_n 1, 1) := by decide +kernel
theorem dX4_write_1 : decode cX4_write 1 = .ok (.invokestatic 44, 3) := by decide +kernel
theorem dX4_write_4 : decode cX4_write 4 = .ok (.ifCond .ne 13, 3) := by decide +kernel
theorem dX4_write_7 : decode cX4_write 7 = .ok (.new 48, 3) := by decide +kernel
theorem dX4_write_10 : decode cX4_write 10 = .ok (.dup, 1) := by decide +kernel
theorem dX4_write_11 : decode cX4_write 11 = .ok (.ldc 50, 2) := by decide +kernel
theorem dX4_write_13 : decode cX4_write 13 = .ok (.invokespecial 52, 3) := by decide +kernel
theorem dX4_write_16 : decode cX4_write 16 = .ok (.athrow, 1) := by decide +kernel
theorem dX4_write_17 : decode cX4_write 17 = .ok (.iload_n 2, 1) := by decide +kernel
theorem dX4_write_18 : decode cX4_write 18 = .ok (.invokestatic 55, 3) := by decide +kernel
theorem dX4_write_21 : decode cX4_write 21 = .ok (.ifCond .ne 13, 3) := by decide +kernel
theorem dX4_write_24 : decode cX4_write 24 = .ok (.new 58, 3) := by decide +kernel
theorem dX4_write_27 : decode cX4_write 27 = .ok (.dup, 1) := by decide +kernel
theorem dX4_write_28 : decode cX4_write 28 = .ok (.ldc 60, 2) := by decide +kernel
theorem dX4_write_30 : decode cX4_write 30 = .ok (.invokespecial 62, 3) := by decide +kernel
theorem dX4_write_33 : decode cX4_write 33 = .ok (.athrow, 1) := by decide +kernel
theorem dX4_write_34 : decode cX4_write 34 = .ok (.aload_n 0, 1) := by decide +kernel
theorem dX4_write_35 : decode cX4_write 35 = .ok (.getfield 10, 3) := by decide +kernel
theorem dX4_write_38 : decode cX4_write 38 = .ok (.aload_n 0, 1) := by decide +kernel
theorem dX4_write_39 : decode cX4_write 39 = .ok (.getfield 19, 3) := by decide +kernel
theorem dX4_write_42 : decode cX4_write 42 = .ok (.iload_n 1, 1) := by decide +kernel
theorem dX4_write_43 : decode cX4_write 43 = .ok (.invokestatic 63, 3) := by decide +kernel
theorem dX4_write_46 : decode cX4_write 46 = .ok (.istore_n 3, 1) := by decide +kernel
theorem dX4_write_47 : decode cX4_write 47 = .ok (.iload_n 3, 1) := by decide +kernel
theorem dX4_write_48 : decode cX4_write 48 = .ok (.iconst (-1), 1) := by decide +kernel
theorem dX4_write_49 : decode cX4_write 49 = .ok (.if_icmp .ne 13, 3) := by decide +kernel
theorem dX4_write_52 : decode cX4_write 52 = .ok (.new 67, 3) := by decide +kernel
theorem dX4_write_55 : decode cX4_write 55 = .ok (.dup, 1) := by decide +kernel
theorem dX4_write_56 : decode cX4_write 56 = .ok (.ldc 69, 2) := by decide +kernel
theorem dX4_write_58 : decode cX4_write 58 = .ok (.invokespecial 71, 3) := by decide +kernel
theorem dX4_write_61 : decode cX4_write 61 = .ok (.athrow, 1) := by decide +kernel
theorem dX4_write_62 : decode cX4_write 62 = .ok (.aload_n 0, 1) := by decide +kernel
theorem dX4_write_63 : decode cX4_write 63 = .ok (.invokevirtual 72, 3) := by decide +kernel
theorem dX4_write_66 : decode cX4_write 66 = .ok (.aload_n 0, 1) := by decide +kernel
theorem dX4_write_67 : decode cX4_write 67 = .ok (.getfield 10, 3) := by decide +kernel
theorem dX4_write_70 : decode cX4_write 70 = .ok (.iload_n 1, 1) := by decide +kernel
theorem dX4_write_71 : decode cX4_write 71 = .ok (.iload_n 3, 1) := by decide +kernel
theorem dX4_write_72 : decode cX4_write 72 = .ok (.iload_n 2, 1) := by decide +kernel
theorem dX4_write_73 : decode cX4_write 73 = .ok (.invokevirtual 75, 3) := by decide +kernel
theorem dX4_write_76 : decode cX4_write 76 = .ok (.iload_n 3, 1) := by decide +kernel
theorem dX4_write_77 : decode cX4_write 77 = .ok (.ireturn, 1) := by decide +kernel
theorem dX4_fill_0 : decode cX4_fill 0 = .ok (.iload_n 1, 1) := by decide +kernel
theorem dX4_fill_1 : decode cX4_fill 1 = .ok (.invokestatic 44, 3) := by decide +kernel
theorem dX4_fill_4 : decode cX4_fill 4 = .ok (.ifCond .eq 12, 3) := by decide +kernel
theorem dX4_fill_7 : decode cX4_fill 7 = .ok (.iload_n 2, 1) := by decide +kernel
theorem dX4_fill_8 : decode cX4_fill 8 = .ok (.sipush 480, 3) := by decide +kernel
theorem dX4_fill_11 : decode cX4_fill 11 = .ok (.iload_n 1, 1) := by decide +kernel
theorem dX4_fill_12 : decode cX4_fill 12 = .ok (.isub, 1) := by decide +kernel
theorem dX4_fill_13 : decode cX4_fill 13 = .ok (.if_icmp .le 13, 3) := by decide +kernel
theorem dX4_fill_16 : decode cX4_fill 16 = .ok (.new 48, 3) := by decide +kernel
theorem dX4_fill_19 : decode cX4_fill 19 = .ok (.dup, 1) := by decide +kernel
theorem dX4_fill_20 : decode cX4_fill 20 = .ok (.ldc 79, 2) := by decide +kernel
theorem dX4_fill_22 : decode cX4_fill 22 = .ok (.invokespecial 52, 3) := by decide +kernel
theorem dX4_fill_25 : decode cX4_fill 25 = .ok (.athrow, 1) := by decide +kernel
theorem dX4_fill_26 : decode cX4_fill 26 = .ok (.iload_n 2, 1) := by decide +kernel
theorem dX4_fill_27 : decode cX4_fill 27 = .ok (.iconst 1, 1) := by decide +kernel
theorem dX4_fill_28 : decode cX4_fill 28 = .ok (.if_icmp .lt 16, 3) := by decide +kernel
theorem dX4_fill_31 : decode cX4_fill 31 = .ok (.iload_n 2, 1) := by decide +kernel
theorem dX4_fill_32 : decode cX4_fill 32 = .ok (.bipush 48, 2) := by decide +kernel
theorem dX4_fill_34 : decode cX4_fill 34 = .ok (.if_icmp .gt 10, 3) := by decide +kernel
theorem dX4_fill_37 : decode cX4_fill 37 = .ok (.iload_n 3, 1) := by decide +kernel
theorem dX4_fill_38 : decode cX4_fill 38 = .ok (.invokestatic 55, 3) := by decide +kernel
theorem dX4_fill_41 : decode cX4_fill 41 = .ok (.ifCond .ne 13, 3) := by decide +kernel
theorem dX4_fill_44 : decode cX4_fill 44 = .ok (.new 58, 3) := by decide +kernel
theorem dX4_fill_47 : decode cX4_fill 47 = .ok (.dup, 1) := by decide +kernel
theorem dX4_fill_48 : decode cX4_fill 48 = .ok (.ldc 81, 2) := by decide +kernel
theorem dX4_fill_50 : decode cX4_fill 50 = .ok (.invokespecial 62, 3) := by decide +kernel
theorem dX4_fill_53 : decode cX4_fill 53 = .ok (.athrow, 1) := by decide +kernel
theorem dX4_fill_54 : decode cX4_fill 54 = .ok (.aload_n 0, 1) := by decide +kernel
theorem dX4_fill_55 : decode cX4_fill 55 = .ok (.invokevirtual 72, 3) := by decide +kernel
theorem dX4_fill_58 : decode cX4_fill 58 = .ok (.iconst 0, 1) := by decide +kernel
theorem dX4_fill_59 : decode cX4_fill 59 = .ok (.istore 4, 2) := by decide +kernel
theorem dX4_fill_61 : decode cX4_fill 61 = .ok (.iload 4, 2) := by decide +kernel
theorem dX4_fill_63 : decode cX4_fill 63 = .ok (.iload_n 2, 1) := by decide +kernel
theorem dX4_fill_64 : decode cX4_fill 64 = .ok (.if_icmp .ge 49, 3) := by decide +kernel
theorem dX4_fill_67 : decode cX4_fill 67 = .ok (.aload_n 0, 1) := by decide +kernel
theorem dX4_fill_68 : decode cX4_fill 68 = .ok (.getfield 10, 3) := by decide +kernel
theorem dX4_fill_71 : decode cX4_fill 71 = .ok (.aload_n 0, 1) := by decide +kernel
theorem dX4_fill_72 : decode cX4_fill 72 = .ok (.getfield 19, 3) := by decide +kernel
theorem dX4_fill_75 : decode cX4_fill 75 = .ok (.iload_n 1, 1) := by decide +kernel
theorem dX4_fill_76 : decode cX4_fill 76 = .ok (.iload 4, 2) := by decide +kernel
theorem dX4_fill_78 : decode cX4_fill 78 = .ok (.iadd, 1) := by decide +kernel
theorem dX4_fill_79 : decode cX4_fill 79 = .ok (.invokestatic 63, 3) := by decide +kernel
theorem dX4_fill_82 : decode cX4_fill 82 = .ok (.istore 5, 2) := by decide +kernel
theorem dX4_fill_84 : decode cX4_fill 84 = .ok (.iload 5, 2) := by decide +kernel
theorem dX4_fill_86 : decode cX4_fill 86 = .ok (.iconst (-1), 1) := by decide +kernel
theorem dX4_fill_87 : decode cX4_fill 87 = .ok (.if_icmp .ne 6, 3) := by decide +kernel
theorem dX4_fill_90 : decode cX4_fill 90 = .ok (.iload 4, 2) := by decide +kernel
theorem dX4_fill_92 : decode cX4_fill 92 = .ok (.ireturn, 1) := by decide +kernel
theorem dX4_fill_93 : decode cX4_fill 93 = .ok (.aload_n 0, 1) := by decide +kernel
theorem dX4_fill_94 : decode cX4_fill 94 = .ok (.getfield 10, 3) := by decide +kernel
theorem dX4_fill_97 : decode cX4_fill 97 = .ok (.iload_n 1, 1) := by decide +kernel
theorem dX4_fill_98 : decode cX4_fill 98 = .ok (.iload 4, 2) := by decide +kernel
theorem dX4_fill_100 : decode cX4_fill 100 = .ok (.iadd, 1) := by decide +kernel
theorem dX4_fill_101 : decode cX4_fill 101 = .ok (.iload 5, 2) := by decide +kernel
theorem dX4_fill_103 : decode cX4_fill 103 = .ok (.iload_n 3, 1) := by decide +kernel
theorem dX4_fill_104 : decode cX4_fill 104 = .ok (.invokevirtual 75, 3) := by decide +kernel
theorem dX4_fill_107 : decode cX4_fill 107 = .ok (.iinc 4 1, 3) := by decide +kernel
theorem dX4_fill_110 : decode cX4_fill 110 = .ok (.goto (-49), 3) := by decide +kernel
theorem dX4_fill_113 : decode cX4_fill 113 = .ok (.iload_n 2, 1) := by decide +kernel
theorem dX4_fill_114 : decode cX4_fill 114 = .ok (.ireturn, 1) := by decide +kernel
theorem dX4_drop_0 : decode cX4_drop 0 = .ok (.iload_n 1, 1) := by decide +kernel
theorem dX4_drop_1 : decode cX4_drop 1 = .ok (.invokestatic 44, 3) := by decide +kernel
theorem dX4_drop_4 : decode cX4_drop 4 = .ok (.ifCond .ne 13, 3) := by decide +kernel
theorem dX4_drop_7 : decode cX4_drop 7 = .ok (.new 48, 3) := by decide +kernel
theorem dX4_drop_10 : decode cX4_drop 10 = .ok (.dup, 1) := by decide +kernel
theorem dX4_drop_11 : decode cX4_drop 11 = .ok (.ldc 50, 2) := by decide +kernel
theorem dX4_drop_13 : decode cX4_drop 13 = .ok (.invokespecial 52, 3) := by decide +kernel
theorem dX4_drop_16 : decode cX4_drop 16 = .ok (.athrow, 1) := by decide +kernel
theorem dX4_drop_17 : decode cX4_drop 17 = .ok (.aload_n 0, 1) := by decide +kernel
theorem dX4_drop_18 : decode cX4_drop 18 = .ok (.invokevirtual 72, 3) := by decide +kernel
theorem dX4_drop_21 : decode cX4_drop 21 = .ok (.aload_n 0, 1) := by decide +kernel
theorem dX4_drop_22 : decode cX4_drop 22 = .ok (.getfield 10, 3) := by decide +kernel
theorem dX4_drop_25 : decode cX4_drop 25 = .ok (.iload_n 1, 1) := by decide +kernel
theorem dX4_drop_26 : decode cX4_drop 26 = .ok (.invokevirtual 83, 3) := by decide +kernel
theorem dX4_drop_29 : decode cX4_drop 29 = .ok (.istore_n 2, 1) := by decide +kernel
theorem dX4_drop_30 : decode cX4_drop 30 = .ok (.aload_n 0, 1) := by decide +kernel
theorem dX4_drop_31 : decode cX4_drop 31 = .ok (.getfield 10, 3) := by decide +kernel
theorem dX4_drop_34 : decode cX4_drop 34 = .ok (.iload_n 1, 1) := by decide +kernel
theorem dX4_drop_35 : decode cX4_drop 35 = .ok (.invokevirtual 87, 3) := by decide +kernel
theorem dX4_drop_38 : decode cX4_drop 38 = .ok (.iload_n 2, 1) := by decide +kernel
theorem dX4_drop_39 : decode cX4_drop 39 = .ok (.ireturn, 1) := by decide +kernel
theorem dX4_fail_0 : decode cX4_fail 0 = .ok (.iload_n 1, 1) := by decide +kernel
theorem dX4_fail_1 : decode cX4_fail 1 = .ok (.iload_n 2, 1) := by decide +kernel
theorem dX4_fail_2 : decode cX4_fail 2 = .ok (.invokestatic 91, 3) := by decide +kernel
theorem dX4_fail_5 : decode cX4_fail 5 = .ok (.ifCond .ne 13, 3) := by decide +kernel
theorem dX4_fail_8 : decode cX4_fail 8 = .ok (.new 58, 3) := by decide +kernel
theorem dX4_fail_11 : decode cX4_fail 11 = .ok (.dup, 1) := by decide +kernel
theorem dX4_fail_12 : decode cX4_fail 12 = .ok (.ldc 95, 2) := by decide +kernel
theorem dX4_fail_14 : decode cX4_fail 14 = .ok (.invokespecial 62, 3) := by decide +kernel
theorem dX4_fail_17 : decode cX4_fail 17 = .ok (.athrow, 1) := by decide +kernel
theorem dX4_fail_18 : decode cX4_fail 18 = .ok (.iload_n 1, 1) := by decide +kernel
theorem dX4_fail_19 : decode cX4_fail 19 = .ok (.iload_n 2, 1) := by decide +kernel
theorem dX4_fail_20 : decode cX4_fail 20 = .ok (.invokestatic 97, 3) := by decide +kernel
theorem dX4_fail_23 : decode cX4_fail 23 = .ok (.istore_n 3, 1) := by decide +kernel
theorem dX4_fail_24 : decode cX4_fail 24 = .ok (.aload_n 0, 1) := by decide +kernel
theorem dX4_fail_25 : decode cX4_fail 25 = .ok (.getfield 10, 3) := by decide +kernel
theorem dX4_fail_28 : decode cX4_fail 28 = .ok (.iload_n 3, 1) := by decide +kernel
theorem dX4_fail_29 : decode cX4_fail 29 = .ok (.invokevirtual 101, 3) := by decide +kernel
theorem dX4_fail_32 : decode cX4_fail 32 = .ok (.ifCond .ne 13, 3) := by decide +kernel
theorem dX4_fail_35 : decode cX4_fail 35 = .ok (.new 67, 3) := by decide +kernel
theorem dX4_fail_38 : decode cX4_fail 38 = .ok (.dup, 1) := by decide +kernel
theorem dX4_fail_39 : decode cX4_fail 39 = .ok (.ldc 104, 2) := by decide +kernel
theorem dX4_fail_41 : decode cX4_fail 41 = .ok (.invokespecial 71, 3) := by decide +kernel
theorem dX4_fail_44 : decode cX4_fail 44 = .ok (.athrow, 1) := by decide +kernel
theorem dX4_fail_45 : decode cX4_fail 45 = .ok (.aload_n 0, 1) := by decide +kernel
theorem dX4_fail_46 : decode cX4_fail 46 = .ok (.invokevirtual 72, 3) := by decide +kernel
theorem dX4_fail_49 : decode cX4_fail 49 = .ok (.aload_n 0, 1) := by decide +kernel
theorem dX4_fail_50 : decode cX4_fail 50 = .ok (.getfield 10, 3) := by decide +kernel
theorem dX4_fail_53 : decode cX4_fail 53 = .ok (.iload_n 3, 1) := by decide +kernel
theorem dX4_fail_54 : decode cX4_fail 54 = .ok (.invokevirtual 106, 3) := by decide +kernel
theorem dX4_fail_57 : decode cX4_fail 57 = .ok (.aload_n 0, 1) := by decide +kernel
theorem dX4_fail_58 : decode cX4_fail 58 = .ok (.getfield 19, 3) := by decide +kernel
theorem dX4_fail_61 : decode cX4_fail 61 = .ok (.aload_n 0, 1) := by decide +kernel
theorem dX4_fail_62 : decode cX4_fail 62 = .ok (.getfield 10, 3) := by decide +kernel
theorem dX4_fail_65 : decode cX4_fail 65 = .ok (.invokevirtual 109, 3) := by decide +kernel
theorem dX4_fail_68 : decode cX4_fail 68 = .ok (.aload_n 0, 1) := by decide +kernel
theorem dX4_fail_69 : decode cX4_fail 69 = .ok (.getfield 19, 3) := by decide +kernel
theorem dX4_fail_72 : decode cX4_fail 72 = .ok (.getfield 113, 3) := by decide +kernel
theorem dX4_fail_75 : decode cX4_fail 75 = .ok (.ireturn, 1) := by decide +kernel
theorem dX4_heal_0 : decode cX4_heal 0 = .ok (.iload_n 1, 1) := by decide +kernel
theorem dX4_heal_1 : decode cX4_heal 1 = .ok (.iload_n 2, 1) := by decide +kernel
theorem dX4_heal_2 : decode cX4_heal 2 = .ok (.invokestatic 91, 3) := by decide +kernel
theorem dX4_heal_5 : decode cX4_heal 5 = .ok (.ifCond .ne 13, 3) := by decide +kernel
theorem dX4_heal_8 : decode cX4_heal 8 = .ok (.new 58, 3) := by decide +kernel
theorem dX4_heal_11 : decode cX4_heal 11 = .ok (.dup, 1) := by decide +kernel
theorem dX4_heal_12 : decode cX4_heal 12 = .ok (.ldc 95, 2) := by decide +kernel
theorem dX4_heal_14 : decode cX4_heal 14 = .ok (.invokespecial 62, 3) := by decide +kernel
theorem dX4_heal_17 : decode cX4_heal 17 = .ok (.athrow, 1) := by decide +kernel
theorem dX4_heal_18 : decode cX4_heal 18 = .ok (.iload_n 1, 1) := by decide +kernel
theorem dX4_heal_19 : decode cX4_heal 19 = .ok (.iload_n 2, 1) := by decide +kernel
theorem dX4_heal_20 : decode cX4_heal 20 = .ok (.invokestatic 97, 3) := by decide +kernel
theorem dX4_heal_23 : decode cX4_heal 23 = .ok (.istore_n 3, 1) := by decide +kernel
theorem dX4_heal_24 : decode cX4_heal 24 = .ok (.aload_n 0, 1) := by decide +kernel
theorem dX4_heal_25 : decode cX4_heal 25 = .ok (.getfield 10, 3) := by decide +kernel
theorem dX4_heal_28 : decode cX4_heal 28 = .ok (.iload_n 3, 1) := by decide +kernel
theorem dX4_heal_29 : decode cX4_heal 29 = .ok (.invokevirtual 116, 3) := by decide +kernel
theorem dX4_heal_32 : decode cX4_heal 32 = .ok (.iconst (-1), 1) := by decide +kernel
theorem dX4_heal_33 : decode cX4_heal 33 = .ok (.if_icmp .ne 13, 3) := by decide +kernel
theorem dX4_heal_36 : decode cX4_heal 36 = .ok (.new 67, 3) := by decide +kernel
theorem dX4_heal_39 : decode cX4_heal 39 = .ok (.dup, 1) := by decide +kernel
theorem dX4_heal_40 : decode cX4_heal 40 = .ok (.ldc 119, 2) := by decide +kernel
theorem dX4_heal_42 : decode cX4_heal 42 = .ok (.invokespecial 71, 3) := by decide +kernel
theorem dX4_heal_45 : decode cX4_heal 45 = .ok (.athrow, 1) := by decide +kernel
theorem dX4_heal_46 : decode cX4_heal 46 = .ok (.aload_n 0, 1) := by decide +kernel
theorem dX4_heal_47 : decode cX4_heal 47 = .ok (.invokevirtual 72, 3) := by decide +kernel
theorem dX4_heal_50 : decode cX4_heal 50 = .ok (.aload_n 0, 1) := by decide +kernel
theorem dX4_heal_51 : decode cX4_heal 51 = .ok (.getfield 10, 3) := by decide +kernel
theorem dX4_heal_54 : decode cX4_heal 54 = .ok (.iload_n 3, 1) := by decide +kernel
theorem dX4_heal_55 : decode cX4_heal 55 = .ok (.invokevirtual 121, 3) := by decide +kernel
theorem dX4_heal_58 : decode cX4_heal 58 = .ok (.aload_n 0, 1) := by decide +kernel
theorem dX4_heal_59 : decode cX4_heal 59 = .ok (.getfield 19, 3) := by decide +kernel
theorem dX4_heal_62 : decode cX4_heal 62 = .ok (.aload_n 0, 1) := by decide +kernel
theorem dX4_heal_63 : decode cX4_heal 63 = .ok (.getfield 10, 3) := by decide +kernel
theorem dX4_heal_66 : decode cX4_heal 66 = .ok (.invokevirtual 109, 3) := by decide +kernel
theorem dX4_heal_69 : decode cX4_heal 69 = .ok (.aload_n 0, 1) := by decide +kernel
theorem dX4_heal_70 : decode cX4_heal 70 = .ok (.getfield 19, 3) := by decide +kernel
theorem dX4_heal_73 : decode cX4_heal 73 = .ok (.getfield 113, 3) := by decide +kernel
theorem dX4_heal_76 : decode cX4_heal 76 = .ok (.ireturn, 1) := by decide +kernel
theorem dX4_tidy_0 : decode cX4_tidy 0 = .ok (.iload_n 1, 1) := by decide +kernel
theorem dX4_tidy_1 : decode cX4_tidy 1 = .ok (.iconst 1, 1) := by decide +kernel
theorem dX4_tidy_2 : decode cX4_tidy 2 = .ok (.if_icmp .lt 9, 3) := by decide +kernel
theorem dX4_tidy_5 : decode cX4_tidy 5 = .ok (.iload_n 1, 1) := by decide +kernel
theorem dX4_tidy_6 : decode cX4_tidy 6 = .ok (.bipush 99, 2) := by decide +kernel
theorem dX4_tidy_8 : decode cX4_tidy 8 = .ok (.if_icmp .le 13, 3) := by decide +kernel
theorem dX4_tidy_11 : decode cX4_tidy 11 = .ok (.new 58, 3) := by decide +kernel
theorem dX4_tidy_14 : decode cX4_tidy 14 = .ok (.dup, 1) := by decide +kernel
theorem dX4_tidy_15 : decode cX4_tidy 15 = .ok (.ldc 124, 2) := by decide +kernel
theorem dX4_tidy_17 : decode cX4_tidy 17 = .ok (.invokespecial 62, 3) := by decide +kernel
theorem dX4_tidy_20 : decode cX4_tidy 20 = .ok (.athrow, 1) := by decide +kernel
theorem dX4_tidy_21 : decode cX4_tidy 21 = .ok (.aload_n 0, 1) := by decide +kernel
theorem dX4_tidy_22 : decode cX4_tidy 22 = .ok (.invokevirtual 72, 3) := by decide +kernel
theorem dX4_tidy_25 : decode cX4_tidy 25 = .ok (.aload_n 0, 1) := by decide +kernel
theorem dX4_tidy_26 : decode cX4_tidy 26 = .ok (.getfield 10, 3) := by decide +kernel
theorem dX4_tidy_29 : decode cX4_tidy 29 = .ok (.aload_n 0, 1) := by decide +kernel
theorem dX4_tidy_30 : decode cX4_tidy 30 = .ok (.getfield 19, 3) := by decide +kernel
theorem dX4_tidy_33 : decode cX4_tidy 33 = .ok (.iload_n 1, 1) := by decide +kernel
theorem dX4_tidy_34 : decode cX4_tidy 34 = .ok (.invokestatic 126, 3) := by decide +kernel
theorem dX4_tidy_37 : decode cX4_tidy 37 = .ok (.ireturn, 1) := by decide +kernel
theorem dX4_set_0 : decode cX4_set 0 = .ok (.iload_n 1, 1) := by decide +kernel
theorem dX4_set_1 : decode cX4_set 1 = .ok (.invokestatic 129, 3) := by decide +kernel
theorem dX4_set_4 : decode cX4_set 4 = .ok (.ifCond .ne 13, 3) := by decide +kernel
theorem dX4_set_7 : decode cX4_set 7 = .ok (.new 48, 3) := by decide +kernel
theorem dX4_set_10 : decode cX4_set 10 = .ok (.dup, 1) := by decide +kernel
theorem dX4_set_11 : decode cX4_set 11 = .ok (.ldc 132, 2) := by decide +kernel
theorem dX4_set_13 : decode cX4_set 13 = .ok (.invokespecial 52, 3) := by decide +kernel
theorem dX4_set_16 : decode cX4_set 16 = .ok (.athrow, 1) := by decide +kernel
theorem dX4_set_17 : decode cX4_set 17 = .ok (.iload_n 1, 1) := by decide +kernel
theorem dX4_set_18 : decode cX4_set 18 = .ok (.iload_n 2, 1) := by decide +kernel
theorem dX4_set_19 : decode cX4_set 19 = .ok (.invokestatic 134, 3) := by decide +kernel
theorem dX4_set_22 : decode cX4_set 22 = .ok (.ifCond .ne 13, 3) := by decide +kernel
theorem dX4_set_25 : decode cX4_set 25 = .ok (.new 58, 3) := by decide +kernel
theorem dX4_set_28 : decode cX4_set 28 = .ok (.dup, 1) := by decide +kernel
theorem dX4_set_29 : decode cX4_set 29 = .ok (.ldc 137, 2) := by decide +kernel
theorem dX4_set_31 : decode cX4_set 31 = .ok (.invokespecial 62, 3) := by decide +kernel
theorem dX4_set_34 : decode cX4_set 34 = .ok (.athrow, 1) := by decide +kernel
theorem dX4_set_35 : decode cX4_set 35 = .ok (.aload_n 0, 1) := by decide +kernel
theorem dX4_set_36 : decode cX4_set 36 = .ok (.invokevirtual 72, 3) := by decide +kernel
theorem dX4_set_39 : decode cX4_set 39 = .ok (.aload_n 0, 1) := by decide +kernel
theorem dX4_set_40 : decode cX4_set 40 = .ok (.getfield 10, 3) := by decide +kernel
theorem dX4_set_43 : decode cX4_set 43 = .ok (.iload_n 1, 1) := by decide +kernel
theorem dX4_set_44 : decode cX4_set 44 = .ok (.invokevirtual 139, 3) := by decide +kernel
theorem dX4_set_47 : decode cX4_set 47 = .ok (.istore_n 3, 1) := by decide +kernel
theorem dX4_set_48 : decode cX4_set 48 = .ok (.aload_n 0, 1) := by decide +kernel
theorem dX4_set_49 : decode cX4_set 49 = .ok (.getfield 10, 3) := by decide +kernel
theorem dX4_set_52 : decode cX4_set 52 = .ok (.iload_n 1, 1) := by decide +kernel
theorem dX4_set_53 : decode cX4_set 53 = .ok (.iload_n 2, 1) := by decide +kernel
theorem dX4_set_54 : decode cX4_set 54 = .ok (.invokevirtual 142, 3) := by decide +kernel
theorem dX4_set_57 : decode cX4_set 57 = .ok (.aload_n 0, 1) := by decide +kernel
theorem dX4_set_58 : decode cX4_set 58 = .ok (.getfield 19, 3) := by decide +kernel
theorem dX4_set_61 : decode cX4_set 61 = .ok (.aload_n 0, 1) := by decide +kernel
theorem dX4_set_62 : decode cX4_set 62 = .ok (.getfield 10, 3) := by decide +kernel
theorem dX4_set_65 : decode cX4_set 65 = .ok (.invokevirtual 109, 3) := by decide +kernel
theorem dX4_set_68 : decode cX4_set 68 = .ok (.iload_n 3, 1) := by decide +kernel
theorem dX4_set_69 : decode cX4_set 69 = .ok (.ireturn, 1) := by decide +kernel
theorem dX4_append_0 : decode cX4_append 0 = .ok (.iload_n 1, 1) := by decide +kernel
theorem dX4_append_1 : decode cX4_append 1 = .ok (.invokestatic 146, 3) := by decide +kernel
theorem dX4_append_4 : decode cX4_append 4 = .ok (.ifCond .ne 13, 3) := by decide +kernel
theorem dX4_append_7 : decode cX4_append 7 = .ok (.new 58, 3) := by decide +kernel
theorem dX4_append_10 : decode cX4_append 10 = .ok (.dup, 1) := by decide +kernel
theorem dX4_append_11 : decode cX4_append 11 = .ok (.ldc 149, 2) := by decide +kernel
theorem dX4_append_13 : decode cX4_append 13 = .ok (.invokespecial 62, 3) := by decide +kernel
theorem dX4_append_16 : decode cX4_append 16 = .ok (.athrow, 1) := by decide +kernel
theorem dX4_append_17 : decode cX4_append 17 = .ok (.aload_n 0, 1) := by decide +kernel
theorem dX4_append_18 : decode cX4_append 18 = .ok (.getfield 34, 3) := by decide +kernel
theorem dX4_append_21 : decode cX4_append 21 = .ok (.invokevirtual 151, 3) := by decide +kernel
theorem dX4_append_24 : decode cX4_append 24 = .ok (.ifCond .eq 13, 3) := by decide +kernel
theorem dX4_append_27 : decode cX4_append 27 = .ok (.new 67, 3) := by decide +kernel
theorem dX4_append_30 : decode cX4_append 30 = .ok (.dup, 1) := by decide +kernel
theorem dX4_append_31 : decode cX4_append 31 = .ok (.ldc 155, 2) := by decide +kernel
theorem dX4_append_33 : decode cX4_append 33 = .ok (.invokespecial 71, 3) := by decide +kernel
theorem dX4_append_36 : decode cX4_append 36 = .ok (.athrow, 1) := by decide +kernel
theorem dX4_append_37 : decode cX4_append 37 = .ok (.aload_n 0, 1) := by decide +kernel
theorem dX4_append_38 : decode cX4_append 38 = .ok (.getfield 34, 3) := by decide +kernel
theorem dX4_append_41 : decode cX4_append 41 = .ok (.iload_n 1, 1) := by decide +kernel
theorem dX4_append_42 : decode cX4_append 42 = .ok (.invokevirtual 157, 3) := by decide +kernel
theorem dX4_append_45 : decode cX4_append 45 = .ok (.aload_n 0, 1) := by decide +kernel
theorem dX4_append_46 : decode cX4_append 46 = .ok (.getfield 34, 3) := by decide +kernel
theorem dX4_append_49 : decode cX4_append 49 = .ok (.getfield 160, 3) := by decide +kernel
theorem dX4_append_52 : decode cX4_append 52 = .ok (.ireturn, 1) := by decide +kernel
theorem dX4_clearBuffer_0 : decode cX4_clearBuffer 0 = .ok (.aload_n 0, 1) := by decide +kernel
theorem dX4_clearBuffer_1 : decode cX4_clearBuffer 1 = .ok (.getfield 34, 3) := by decide +kernel
theorem dX4_clearBuffer_4 : decode cX4_clearBuffer 4 = .ok (.getfield 160, 3) := by decide +kernel
theorem dX4_clearBuffer_7 : decode cX4_clearBuffer 7 = .ok (.istore_n 1, 1) := by decide +kernel
theorem dX4_clearBuffer_8 : decode cX4_clearBuffer 8 = .ok (.aload_n 0, 1) := by decide +kernel
theorem dX4_clearBuffer_9 : decode cX4_clearBuffer 9 = .ok (.getfield 34, 3) := by decide +kernel
theorem dX4_clearBuffer_12 : decode cX4_clearBuffer 12 = .ok (.invokevirtual 163, 3) := by decide +kernel
theorem dX4_clearBuffer_15 : decode cX4_clearBuffer 15 = .ok (.iload_n 1, 1) := by decide +kernel
theorem dX4_clearBuffer_16 : decode cX4_clearBuffer 16 = .ok (.ireturn, 1) := by decide +kernel
theorem dX4_firstError_0 : decode cX4_firstError 0 = .ok (.aload_n 0, 1) := by decide +kernel
theorem dX4_firstError_1 : decode cX4_firstError 1 = .ok (.getfield 34, 3) := by decide +kernel
theorem dX4_firstError_4 : decode cX4_firstError 4 = .ok (.invokevirtual 166, 3) := by decide +kernel
theorem dX4_firstError_7 : decode cX4_firstError 7 = .ok (.ireturn, 1) := by decide +kernel
theorem dX4_read_0 : decode cX4_read 0 = .ok (.aload_n 0, 1) := by decide +kernel
theorem dX4_read_1 : decode cX4_read 1 = .ok (.getfield 34, 3) := by decide +kernel
theorem dX4_read_4 : decode cX4_read 4 = .ok (.invokevirtual 170, 3) := by decide +kernel
theorem dX4_read_7 : decode cX4_read 7 = .ok (.ifCond .ne 13, 3) := by decide +kernel
theorem dX4_read_10 : decode cX4_read 10 = .ok (.new 58, 3) := by decide +kernel
theorem dX4_read_13 : decode cX4_read 13 = .ok (.dup, 1) := by decide +kernel
theorem dX4_read_14 : decode cX4_read 14 = .ok (.ldc 173, 2) := by decide +kernel
theorem dX4_read_16 : decode cX4_read 16 = .ok (.invokespecial 62, 3) := by decide +kernel
theorem dX4_read_19 : decode cX4_read 19 = .ok (.athrow, 1) := by decide +kernel
theorem dX4_read_20 : decode cX4_read 20 = .ok (.aload_n 0, 1) := by decide +kernel
theorem dX4_read_21 : decode cX4_read 21 = .ok (.invokevirtual 72, 3) := by decide +kernel
theorem dX4_read_24 : decode cX4_read 24 = .ok (.iconst 0, 1) := by decide +kernel
theorem dX4_read_25 : decode cX4_read 25 = .ok (.istore_n 1, 1) := by decide +kernel
theorem dX4_read_26 : decode cX4_read 26 = .ok (.iload_n 1, 1) := by decide +kernel
theorem dX4_read_27 : decode cX4_read 27 = .ok (.aload_n 0, 1) := by decide +kernel
theorem dX4_read_28 : decode cX4_read 28 = .ok (.getfield 34, 3) := by decide +kernel
theorem dX4_read_31 : decode cX4_read 31 = .ok (.getfield 175, 3) := by decide +kernel
theorem dX4_read_34 : decode cX4_read 34 = .ok (.if_icmp .ge 17, 3) := by decide +kernel
theorem dX4_read_37 : decode cX4_read 37 = .ok (.aload_n 0, 1) := by decide +kernel
theorem dX4_read_38 : decode cX4_read 38 = .ok (.iload_n 1, 1) := by decide +kernel
theorem dX4_read_39 : decode cX4_read 39 = .ok (.invokevirtual 178, 3) := by decide +kernel
theorem dX4_read_42 : decode cX4_read 42 = .ok (.ifCond .eq 9, 3) := by decide +kernel
theorem dX4_read_45 : decode cX4_read 45 = .ok (.iinc 1 1, 3) := by decide +kernel
theorem dX4_read_48 : decode cX4_read 48 = .ok (.goto (-22), 3) := by decide +kernel
theorem dX4_read_51 : decode cX4_read 51 = .ok (.aload_n 0, 1) := by decide +kernel
theorem dX4_read_52 : decode cX4_read 52 = .ok (.getfield 34, 3) := by decide +kernel
theorem dX4_read_55 : decode cX4_read 55 = .ok (.invokevirtual 163, 3) := by decide +kernel
theorem dX4_read_58 : decode cX4_read 58 = .ok (.aload_n 0, 1) := by decide +kernel
theorem dX4_read_59 : decode cX4_read 59 = .ok (.getfield 19, 3) := by decide +kernel
theorem dX4_read_62 : decode cX4_read 62 = .ok (.aload_n 0, 1) := by decide +kernel
theorem dX4_read_63 : decode cX4_read 63 = .ok (.getfield 10, 3) := by decide +kernel
theorem dX4_read_66 : decode cX4_read 66 = .ok (.invokevirtual 109, 3) := by decide +kernel
theorem dX4_read_69 : decode cX4_read 69 = .ok (.iload_n 1, 1) := by decide +kernel
theorem dX4_read_70 : decode cX4_read 70 = .ok (.ireturn, 1) := by decide +kernel
theorem dX4_undo_0 : decode cX4_undo 0 = .ok (.aload_n 0, 1) := by decide +kernel
theorem dX4_undo_1 : decode cX4_undo 1 = .ok (.getfield 27, 3) := by decide +kernel
theorem dX4_undo_4 : decode cX4_undo 4 = .ok (.iconst 1, 1) := by decide +kernel
theorem dX4_undo_5 : decode cX4_undo 5 = .ok (.isub, 1) := by decide +kernel
theorem dX4_undo_6 : decode cX4_undo 6 = .ok (.istore_n 1, 1) := by decide +kernel
theorem dX4_undo_7 : decode cX4_undo 7 = .ok (.iload_n 1, 1) := by decide +kernel
theorem dX4_undo_8 : decode cX4_undo 8 = .ok (.ifCond .lt 21, 3) := by decide +kernel
theorem dX4_undo_11 : decode cX4_undo 11 = .ok (.iload_n 1, 1) := by decide +kernel
theorem dX4_undo_12 : decode cX4_undo 12 = .ok (.aload_n 0, 1) := by decide +kernel
theorem dX4_undo_13 : decode cX4_undo 13 = .ok (.getfield 23, 3) := by decide +kernel
theorem dX4_undo_16 : decode cX4_undo 16 = .ok (.arraylength, 1) := by decide +kernel
theorem dX4_undo_17 : decode cX4_undo 17 = .ok (.if_icmp .ge 12, 3) := by decide +kernel
theorem dX4_undo_20 : decode cX4_undo 20 = .ok (.aload_n 0, 1) := by decide +kernel
theorem dX4_undo_21 : decode cX4_undo 21 = .ok (.getfield 23, 3) := by decide +kernel
theorem dX4_undo_24 : decode cX4_undo 24 = .ok (.iload_n 1, 1) := by decide +kernel
theorem dX4_undo_25 : decode cX4_undo 25 = .ok (.aaload, 1) := by decide +kernel
theorem dX4_undo_26 : decode cX4_undo 26 = .ok (.ifnonnull 13, 3) := by decide +kernel
theorem dX4_undo_29 : decode cX4_undo 29 = .ok (.new 67, 3) := by decide +kernel
theorem dX4_undo_32 : decode cX4_undo 32 = .ok (.dup, 1) := by decide +kernel
theorem dX4_undo_33 : decode cX4_undo 33 = .ok (.ldc 181, 2) := by decide +kernel
theorem dX4_undo_35 : decode cX4_undo 35 = .ok (.invokespecial 71, 3) := by decide +kernel
theorem dX4_undo_38 : decode cX4_undo 38 = .ok (.athrow, 1) := by decide +kernel
theorem dX4_undo_39 : decode cX4_undo 39 = .ok (.aload_n 0, 1) := by decide +kernel
theorem dX4_undo_40 : decode cX4_undo 40 = .ok (.getfield 10, 3) := by decide +kernel
theorem dX4_undo_43 : decode cX4_undo 43 = .ok (.aload_n 0, 1) := by decide +kernel
theorem dX4_undo_44 : decode cX4_undo 44 = .ok (.getfield 23, 3) := by decide +kernel
theorem dX4_undo_47 : decode cX4_undo 47 = .ok (.iload_n 1, 1) := by decide +kernel
theorem dX4_undo_48 : decode cX4_undo 48 = .ok (.aaload, 1) := by decide +kernel
theorem dX4_undo_49 : decode cX4_undo 49 = .ok (.invokevirtual 183, 3) := by decide +kernel
theorem dX4_undo_52 : decode cX4_undo 52 = .ok (.aload_n 0, 1) := by decide +kernel
theorem dX4_undo_53 : decode cX4_undo 53 = .ok (.getfield 19, 3) := by decide +kernel
theorem dX4_undo_56 : decode cX4_undo 56 = .ok (.aload_n 0, 1) := by decide +kernel
theorem dX4_undo_57 : decode cX4_undo 57 = .ok (.getfield 10, 3) := by decide +kernel
theorem dX4_undo_60 : decode cX4_undo 60 = .ok (.invokevirtual 109, 3) := by decide +kernel
theorem dX4_undo_63 : decode cX4_undo 63 = .ok (.aload_n 0, 1) := by decide +kernel
theorem dX4_undo_64 : decode cX4_undo 64 = .ok (.iload_n 1, 1) := by decide +kernel
theorem dX4_undo_65 : decode cX4_undo 65 = .ok (.putfield 27, 3) := by decide +kernel
theorem dX4_undo_68 : decode cX4_undo 68 = .ok (.aload_n 0, 1) := by decide +kernel
theorem dX4_undo_69 : decode cX4_undo 69 = .ok (.getfield 27, 3) := by decide +kernel
theorem dX4_undo_72 : decode cX4_undo 72 = .ok (.ireturn, 1) := by decide +kernel
theorem dX4_cell_0 : decode cX4_cell 0 = .ok (.iload_n 1, 1) := by decide +kernel
theorem dX4_cell_1 : decode cX4_cell 1 = .ok (.iload_n 2, 1) := by decide +kernel
theorem dX4_cell_2 : decode cX4_cell 2 = .ok (.invokestatic 91, 3) := by decide +kernel
theorem dX4_cell_5 : decode cX4_cell 5 = .ok (.ifCond .eq 12, 3) := by decide +kernel
theorem dX4_cell_8 : decode cX4_cell 8 = .ok (.iload_n 3, 1) := by decide +kernel
theorem dX4_cell_9 : decode cX4_cell 9 = .ok (.ifCond .lt 8, 3) := by decide +kernel
theorem dX4_cell_12 : decode cX4_cell 12 = .ok (.iload_n 3, 1) := by decide +kernel
theorem dX4_cell_13 : decode cX4_cell 13 = .ok (.iconst 4, 1) := by decide +kernel
theorem dX4_cell_14 : decode cX4_cell 14 = .ok (.if_icmp .lt 13, 3) := by decide +kernel
theorem dX4_cell_17 : decode cX4_cell 17 = .ok (.new 58, 3) := by decide +kernel
theorem dX4_cell_20 : decode cX4_cell 20 = .ok (.dup, 1) := by decide +kernel
theorem dX4_cell_21 : decode cX4_cell 21 = .ok (.ldc 186, 2) := by decide +kernel
theorem dX4_cell_23 : decode cX4_cell 23 = .ok (.invokespecial 62, 3) := by decide +kernel
theorem dX4_cell_26 : decode cX4_cell 26 = .ok (.athrow, 1) := by decide +kernel
theorem dX4_cell_27 : decode cX4_cell 27 = .ok (.iload_n 1, 1) := by decide +kernel
theorem dX4_cell_28 : decode cX4_cell 28 = .ok (.iload_n 2, 1) := by decide +kernel
theorem dX4_cell_29 : decode cX4_cell 29 = .ok (.invokestatic 97, 3) := by decide +kernel
theorem dX4_cell_32 : decode cX4_cell 32 = .ok (.istore 4, 2) := by decide +kernel
theorem dX4_cell_34 : decode cX4_cell 34 = .ok (.iload_n 3, 1) := by decide +kernel
theorem dX4_cell_35 : decode cX4_cell 35 = .ok (.tableswitch 79 0 2 #[25, 59, 69], 25) := by decide +kernel
theorem dX4_cell_60 : decode cX4_cell 60 = .ok (.aload_n 0, 1) := by decide +kernel
theorem dX4_cell_61 : decode cX4_cell 61 = .ok (.getfield 19, 3) := by decide +kernel
theorem dX4_cell_64 : decode cX4_cell 64 = .ok (.iload 4, 2) := by decide +kernel
theorem dX4_cell_66 : decode cX4_cell 66 = .ok (.invokevirtual 188, 3) := by decide +kernel
theorem dX4_cell_69 : decode cX4_cell 69 = .ok (.ifCond .eq 7, 3) := by decide +kernel
theorem dX4_cell_72 : decode cX4_cell 72 = .ok (.iconst 2, 1) := by decide +kernel
theorem dX4_cell_73 : decode cX4_cell 73 = .ok (.goto 20, 3) := by decide +kernel
theorem dX4_cell_76 : decode cX4_cell 76 = .ok (.aload_n 0, 1) := by decide +kernel
theorem dX4_cell_77 : decode cX4_cell 77 = .ok (.getfield 19, 3) := by decide +kernel
theorem dX4_cell_80 : decode cX4_cell 80 = .ok (.iload 4, 2) := by decide +kernel
theorem dX4_cell_82 : decode cX4_cell 82 = .ok (.invokevirtual 191, 3) := by decide +kernel
theorem dX4_cell_85 : decode cX4_cell 85 = .ok (.ifCond .eq 7, 3) := by decide +kernel
theorem dX4_cell_88 : decode cX4_cell 88 = .ok (.iconst 1, 1) := by decide +kernel
theorem dX4_cell_89 : decode cX4_cell 89 = .ok (.goto 4, 3) := by decide +kernel
theorem dX4_cell_92 : decode cX4_cell 92 = .ok (.iconst 0, 1) := by decide +kernel
theorem dX4_cell_93 : decode cX4_cell 93 = .ok (.ireturn, 1) := by decide +kernel
theorem dX4_cell_94 : decode cX4_cell 94 = .ok (.aload_n 0, 1) := by decide +kernel
theorem dX4_cell_95 : decode cX4_cell 95 = .ok (.getfield 10, 3) := by decide +kernel
theorem dX4_cell_98 : decode cX4_cell 98 = .ok (.iload 4, 2) := by decide +kernel
theorem dX4_cell_100 : decode cX4_cell 100 = .ok (.invokevirtual 194, 3) := by decide +kernel
theorem dX4_cell_103 : decode cX4_cell 103 = .ok (.ireturn, 1) := by decide +kernel
theorem dX4_cell_104 : decode cX4_cell 104 = .ok (.aload_n 0, 1) := by decide +kernel
theorem dX4_cell_105 : decode cX4_cell 105 = .ok (.getfield 19, 3) := by decide +kernel
theorem dX4_cell_108 : decode cX4_cell 108 = .ok (.iload 4, 2) := by decide +kernel
theorem dX4_cell_110 : decode cX4_cell 110 = .ok (.invokevirtual 197, 3) := by decide +kernel
theorem dX4_cell_113 : decode cX4_cell 113 = .ok (.ireturn, 1) := by decide +kernel
theorem dX4_cell_114 : decode cX4_cell 114 = .ok (.aload_n 0, 1) := by decide +kernel
theorem dX4_cell_115 : decode cX4_cell 115 = .ok (.getfield 10, 3) := by decide +kernel
theorem dX4_cell_118 : decode cX4_cell 118 = .ok (.iload 4, 2) := by decide +kernel
theorem dX4_cell_120 : decode cX4_cell 120 = .ok (.invokevirtual 116, 3) := by decide +kernel
theorem dX4_cell_123 : decode cX4_cell 123 = .ok (.ireturn, 1) := by decide +kernel
theorem dX4_block_0 : decode cX4_block 0 = .ok (.iload_n 1, 1) := by decide +kernel
theorem dX4_block_1 : decode cX4_block 1 = .ok (.invokestatic 44, 3) := by decide +kernel
theorem dX4_block_4 : decode cX4_block 4 = .ok (.ifCond .ne 13, 3) := by decide +kernel
theorem dX4_block_7 : decode cX4_block 7 = .ok (.new 48, 3) := by decide +kernel
theorem dX4_block_10 : decode cX4_block 10 = .ok (.dup, 1) := by decide +kernel
theorem dX4_block_11 : decode cX4_block 11 = .ok (.ldc 50, 2) := by decide +kernel
theorem dX4_block_13 : decode cX4_block 13 = .ok (.invokespecial 52, 3) := by decide +kernel
theorem dX4_block_16 : decode cX4_block 16 = .ok (.athrow, 1) := by decide +kernel
theorem dX4_block_17 : decode cX4_block 17 = .ok (.iload_n 2, 1) := by decide +kernel
theorem dX4_block_18 : decode cX4_block 18 = .ok (.ifCond .lt 8, 3) := by decide +kernel
theorem dX4_block_21 : decode cX4_block 21 = .ok (.iload_n 2, 1) := by decide +kernel
theorem dX4_block_22 : decode cX4_block 22 = .ok (.iconst 4, 1) := by decide +kernel
theorem dX4_block_23 : decode cX4_block 23 = .ok (.if_icmp .lt 13, 3) := by decide +kernel
theorem dX4_block_26 : decode cX4_block 26 = .ok (.new 58, 3) := by decide +kernel
theorem dX4_block_29 : decode cX4_block 29 = .ok (.dup, 1) := by decide +kernel
theorem dX4_block_30 : decode cX4_block 30 = .ok (.ldc 200, 2) := by decide +kernel
theorem dX4_block_32 : decode cX4_block 32 = .ok (.invokespecial 62, 3) := by decide +kernel
theorem dX4_block_35 : decode cX4_block 35 = .ok (.athrow, 1) := by decide +kernel
theorem dX4_block_36 : decode cX4_block 36 = .ok (.iload_n 2, 1) := by decide +kernel
theorem dX4_block_37 : decode cX4_block 37 = .ok (.tableswitch 65 0 2 #[27, 36, 45], 27) := by decide +kernel
theorem dX4_block_64 : decode cX4_block 64 = .ok (.aload_n 0, 1) := by decide +kernel
theorem dX4_block_65 : decode cX4_block 65 = .ok (.getfield 10, 3) := by decide +kernel
theorem dX4_block_68 : decode cX4_block 68 = .ok (.iload_n 1, 1) := by decide +kernel
theorem dX4_block_69 : decode cX4_block 69 = .ok (.invokevirtual 83, 3) := by decide +kernel
theorem dX4_block_72 : decode cX4_block 72 = .ok (.ireturn, 1) := by decide +kernel
theorem dX4_block_73 : decode cX4_block 73 = .ok (.aload_n 0, 1) := by decide +kernel
theorem dX4_block_74 : decode cX4_block 74 = .ok (.getfield 10, 3) := by decide +kernel
theorem dX4_block_77 : decode cX4_block 77 = .ok (.iload_n 1, 1) := by decide +kernel
theorem dX4_block_78 : decode cX4_block 78 = .ok (.invokevirtual 202, 3) := by decide +kernel
theorem dX4_block_81 : decode cX4_block 81 = .ok (.ireturn, 1) := by decide +kernel
theorem dX4_block_82 : decode cX4_block 82 = .ok (.aload_n 0, 1) := by decide +kernel
theorem dX4_block_83 : decode cX4_block 83 = .ok (.getfield 10, 3) := by decide +kernel
theorem dX4_block_86 : decode cX4_block 86 = .ok (.iload_n 1, 1) := by decide +kernel
theorem dX4_block_87 : decode cX4_block 87 = .ok (.invokevirtual 202, 3) := by decide +kernel
theorem dX4_block_90 : decode cX4_block 90 = .ok (.invokestatic 205, 3) := by decide +kernel
theorem dX4_block_93 : decode cX4_block 93 = .ok (.ifCond .eq 7, 3) := by decide +kernel
theorem dX4_block_96 : decode cX4_block 96 = .ok (.iconst 1, 1) := by decide +kernel
theorem dX4_block_97 : decode cX4_block 97 = .ok (.goto 4, 3) := by decide +kernel
theorem dX4_block_100 : decode cX4_block 100 = .ok (.iconst 0, 1) := by decide +kernel
theorem dX4_block_101 : decode cX4_block 101 = .ok (.ireturn, 1) := by decide +kernel
theorem dX4_block_102 : decode cX4_block 102 = .ok (.aload_n 0, 1) := by decide +kernel
theorem dX4_block_103 : decode cX4_block 103 = .ok (.getfield 10, 3) := by decide +kernel
theorem dX4_block_106 : decode cX4_block 106 = .ok (.aload_n 0, 1) := by decide +kernel
theorem dX4_block_107 : decode cX4_block 107 = .ok (.getfield 19, 3) := by decide +kernel
theorem dX4_block_110 : decode cX4_block 110 = .ok (.iload_n 1, 1) := by decide +kernel
theorem dX4_block_111 : decode cX4_block 111 = .ok (.invokestatic 63, 3) := by decide +kernel
theorem dX4_block_114 : decode cX4_block 114 = .ok (.ireturn, 1) := by decide +kernel
theorem dX4_line_0 : decode cX4_line 0 = .ok (.aload_n 0, 1) := by decide +kernel
theorem dX4_line_1 : decode cX4_line 1 = .ok (.getfield 19, 3) := by decide +kernel
theorem dX4_line_4 : decode cX4_line 4 = .ok (.iload_n 1, 1) := by decide +kernel
theorem dX4_line_5 : decode cX4_line 5 = .ok (.invokevirtual 208, 3) := by decide +kernel
theorem dX4_line_8 : decode cX4_line 8 = .ok (.astore_n 3, 1) := by decide +kernel
theorem dX4_line_9 : decode cX4_line 9 = .ok (.aload_n 3, 1) := by decide +kernel
theorem dX4_line_10 : decode cX4_line 10 = .ok (.ifnonnull 13, 3) := by decide +kernel
theorem dX4_line_13 : decode cX4_line 13 = .ok (.new 48, 3) := by decide +kernel
theorem dX4_line_16 : decode cX4_line 16 = .ok (.dup, 1) := by decide +kernel
theorem dX4_line_17 : decode cX4_line 17 = .ok (.ldc 212, 2) := by decide +kernel
theorem dX4_line_19 : decode cX4_line 19 = .ok (.invokespecial 52, 3) := by decide +kernel
theorem dX4_line_22 : decode cX4_line 22 = .ok (.athrow, 1) := by decide +kernel
theorem dX4_line_23 : decode cX4_line 23 = .ok (.iload_n 2, 1) := by decide +kernel
theorem dX4_line_24 : decode cX4_line 24 = .ok (.ifCond .lt 9, 3) := by decide +kernel
theorem dX4_line_27 : decode cX4_line 27 = .ok (.iload_n 2, 1) := by decide +kernel
theorem dX4_line_28 : decode cX4_line 28 = .ok (.bipush 6, 2) := by decide +kernel
theorem dX4_line_30 : decode cX4_line 30 = .ok (.if_icmp .lt 13, 3) := by decide +kernel
theorem dX4_line_33 : decode cX4_line 33 = .ok (.new 58, 3) := by decide +kernel
theorem dX4_line_36 : decode cX4_line 36 = .ok (.dup, 1) := by decide +kernel
theorem dX4_line_37 : decode cX4_line 37 = .ok (.ldc 214, 2) := by decide +kernel
theorem dX4_line_39 : decode cX4_line 39 = .ok (.invokespecial 62, 3) := by decide +kernel
theorem dX4_line_42 : decode cX4_line 42 = .ok (.athrow, 1) := by decide +kernel
theorem dX4_line_43 : decode cX4_line 43 = .ok (.aload_n 0, 1) := by decide +kernel
theorem dX4_line_44 : decode cX4_line 44 = .ok (.aload_n 3, 1) := by decide +kernel
theorem dX4_line_45 : decode cX4_line 45 = .ok (.iload_n 2, 1) := by decide +kernel
theorem dX4_line_46 : decode cX4_line 46 = .ok (.invokevirtual 216, 3) := by decide +kernel
theorem dX4_line_49 : decode cX4_line 49 = .ok (.ireturn, 1) := by decide +kernel
theorem dX4_count_0 : decode cX4_count 0 = .ok (.iload_n 1, 1) := by decide +kernel
theorem dX4_count_1 : decode cX4_count 1 = .ok (.ifCond .lt 9, 3) := by decide +kernel
theorem dX4_count_4 : decode cX4_count 4 = .ok (.iload_n 1, 1) := by decide +kernel
theorem dX4_count_5 : decode cX4_count 5 = .ok (.bipush 10, 2) := by decide +kernel
theorem dX4_count_7 : decode cX4_count 7 = .ok (.if_icmp .lt 13, 3) := by decide +kernel
theorem dX4_count_10 : decode cX4_count 10 = .ok (.new 58, 3) := by decide +kernel
theorem dX4_count_13 : decode cX4_count 13 = .ok (.dup, 1) := by decide +kernel
theorem dX4_count_14 : decode cX4_count 14 = .ok (.ldc 220, 2) := by decide +kernel
theorem dX4_count_16 : decode cX4_count 16 = .ok (.invokespecial 62, 3) := by decide +kernel
theorem dX4_count_19 : decode cX4_count 19 = .ok (.athrow, 1) := by decide +kernel
theorem dX4_count_20 : decode cX4_count 20 = .ok (.aload_n 0, 1) := by decide +kernel
theorem dX4_count_21 : decode cX4_count 21 = .ok (.iload_n 1, 1) := by decide +kernel
theorem dX4_count_22 : decode cX4_count 22 = .ok (.invokevirtual 222, 3) := by decide +kernel
theorem dX4_count_25 : decode cX4_count 25 = .ok (.ireturn, 1) := by decide +kernel
theorem dX4_setting_0 : decode cX4_setting 0 = .ok (.iload_n 1, 1) := by decide +kernel
theorem dX4_setting_1 : decode cX4_setting 1 = .ok (.invokestatic 129, 3) := by decide +kernel
theorem dX4_setting_4 : decode cX4_setting 4 = .ok (.ifCond .ne 13, 3) := by decide +kernel
theorem dX4_setting_7 : decode cX4_setting 7 = .ok (.new 48, 3) := by decide +kernel
theorem dX4_setting_10 : decode cX4_setting 10 = .ok (.dup, 1) := by decide +kernel
theorem dX4_setting_11 : decode cX4_setting 11 = .ok (.ldc 132, 2) := by decide +kernel
theorem dX4_setting_13 : decode cX4_setting 13 = .ok (.invokespecial 52, 3) := by decide +kernel
theorem dX4_setting_16 : decode cX4_setting 16 = .ok (.athrow, 1) := by decide +kernel
theorem dX4_setting_17 : decode cX4_setting 17 = .ok (.aload_n 0, 1) := by decide +kernel
theorem dX4_setting_18 : decode cX4_setting 18 = .ok (.getfield 10, 3) := by decide +kernel
theorem dX4_setting_21 : decode cX4_setting 21 = .ok (.iload_n 1, 1) := by decide +kernel
theorem dX4_setting_22 : decode cX4_setting 22 = .ok (.invokevirtual 139, 3) := by decide +kernel
theorem dX4_setting_25 : decode cX4_setting 25 = .ok (.ireturn, 1) := by decide +kernel
theorem dX4_ifFailed_0 : decode cX4_ifFailed 0 = .ok (.iload_n 1, 1) := by decide +kernel
theorem dX4_ifFailed_1 : decode cX4_ifFailed 1 = .ok (.iload_n 2, 1) := by decide +kernel
theorem dX4_ifFailed_2 : decode cX4_ifFailed 2 = .ok (.invokestatic 91, 3) := by decide +kernel
theorem dX4_ifFailed_5 : decode cX4_ifFailed 5 = .ok (.ifCond .eq 12, 3) := by decide +kernel
theorem dX4_ifFailed_8 : decode cX4_ifFailed 8 = .ok (.iload_n 3, 1) := by decide +kernel
theorem dX4_ifFailed_9 : decode cX4_ifFailed 9 = .ok (.ifCond .lt 8, 3) := by decide +kernel
theorem dX4_ifFailed_12 : decode cX4_ifFailed 12 = .ok (.iload_n 3, 1) := by decide +kernel
theorem dX4_ifFailed_13 : decode cX4_ifFailed 13 = .ok (.iconst 4, 1) := by decide +kernel
theorem dX4_ifFailed_14 : decode cX4_ifFailed 14 = .ok (.if_icmp .lt 13, 3) := by decide +kernel
theorem dX4_ifFailed_17 : decode cX4_ifFailed 17 = .ok (.new 58, 3) := by decide +kernel
theorem dX4_ifFailed_20 : decode cX4_ifFailed 20 = .ok (.dup, 1) := by decide +kernel
theorem dX4_ifFailed_21 : decode cX4_ifFailed 21 = .ok (.ldc 186, 2) := by decide +kernel
theorem dX4_ifFailed_23 : decode cX4_ifFailed 23 = .ok (.invokespecial 62, 3) := by decide +kernel
theorem dX4_ifFailed_26 : decode cX4_ifFailed 26 = .ok (.athrow, 1) := by decide +kernel
theorem dX4_ifFailed_27 : decode cX4_ifFailed 27 = .ok (.iload_n 1, 1) := by decide +kernel
theorem dX4_ifFailed_28 : decode cX4_ifFailed 28 = .ok (.iload_n 2, 1) := by decide +kernel
theorem dX4_ifFailed_29 : decode cX4_ifFailed 29 = .ok (.invokestatic 97, 3) := by decide +kernel
theorem dX4_ifFailed_32 : decode cX4_ifFailed 32 = .ok (.istore 4, 2) := by decide +kernel
theorem dX4_ifFailed_34 : decode cX4_ifFailed 34 = .ok (.aload_n 0, 1) := by decide +kernel
theorem dX4_ifFailed_35 : decode cX4_ifFailed 35 = .ok (.iload 4, 2) := by decide +kernel
theorem dX4_ifFailed_37 : decode cX4_ifFailed 37 = .ok (.invokevirtual 225, 3) := by decide +kernel
theorem dX4_ifFailed_40 : decode cX4_ifFailed 40 = .ok (.ifCond .eq 11, 3) := by decide +kernel
theorem dX4_ifFailed_43 : decode cX4_ifFailed 43 = .ok (.aload_n 0, 1) := by decide +kernel
theorem dX4_ifFailed_44 : decode cX4_ifFailed 44 = .ok (.iload_n 3, 1) := by decide +kernel
theorem dX4_ifFailed_45 : decode cX4_ifFailed 45 = .ok (.invokevirtual 228, 3) := by decide +kernel
theorem dX4_ifFailed_48 : decode cX4_ifFailed 48 = .ok (.goto 4, 3) := by decide +kernel
theorem dX4_ifFailed_51 : decode cX4_ifFailed 51 = .ok (.iconst (-1), 1) := by decide +kernel
theorem dX4_ifFailed_52 : decode cX4_ifFailed 52 = .ok (.ireturn, 1) := by decide +kernel
theorem dX4_worst_0 : decode cX4_worst 0 = .ok (.iconst (-1), 1) := by decide +kernel
theorem dX4_worst_1 : decode cX4_worst 1 = .ok (.istore_n 1, 1) := by decide +kernel
theorem dX4_worst_2 : decode cX4_worst 2 = .ok (.iconst 0, 1) := by decide +kernel
theorem dX4_worst_3 : decode cX4_worst 3 = .ok (.istore_n 2, 1) := by decide +kernel
theorem dX4_worst_4 : decode cX4_worst 4 = .ok (.iload_n 2, 1) := by decide +kernel
theorem dX4_worst_5 : decode cX4_worst 5 = .ok (.sipush 576, 3) := by decide +kernel
theorem dX4_worst_8 : decode cX4_worst 8 = .ok (.if_icmp .ge 46, 3) := by decide +kernel
theorem dX4_worst_11 : decode cX4_worst 11 = .ok (.aload_n 0, 1) := by decide +kernel
theorem dX4_worst_12 : decode cX4_worst 12 = .ok (.getfield 19, 3) := by decide +kernel
theorem dX4_worst_15 : decode cX4_worst 15 = .ok (.iload_n 2, 1) := by decide +kernel
theorem dX4_worst_16 : decode cX4_worst 16 = .ok (.invokevirtual 191, 3) := by decide +kernel
theorem dX4_worst_19 : decode cX4_worst 19 = .ok (.ifCond .eq 29, 3) := by decide +kernel
theorem dX4_worst_22 : decode cX4_worst 22 = .ok (.iload_n 1, 1) := by decide +kernel
theorem dX4_worst_23 : decode cX4_worst 23 = .ok (.iconst (-1), 1) := by decide +kernel
theorem dX4_worst_24 : decode cX4_worst 24 = .ok (.if_icmp .eq 22, 3) := by decide +kernel
theorem dX4_worst_27 : decode cX4_worst 27 = .ok (.aload_n 0, 1) := by decide +kernel
theorem dX4_worst_28 : decode cX4_worst 28 = .ok (.getfield 19, 3) := by decide +kernel
theorem dX4_worst_31 : decode cX4_worst 31 = .ok (.iload_n 2, 1) := by decide +kernel
theorem dX4_worst_32 : decode cX4_worst 32 = .ok (.invokevirtual 197, 3) := by decide +kernel
theorem dX4_worst_35 : decode cX4_worst 35 = .ok (.aload_n 0, 1) := by decide +kernel
theorem dX4_worst_36 : decode cX4_worst 36 = .ok (.getfield 19, 3) := by decide +kernel
theorem dX4_worst_39 : decode cX4_worst 39 = .ok (.iload_n 1, 1) := by decide +kernel
theorem dX4_worst_40 : decode cX4_worst 40 = .ok (.invokevirtual 197, 3) := by decide +kernel
theorem dX4_worst_43 : decode cX4_worst 43 = .ok (.if_icmp .le 5, 3) := by decide +kernel
theorem dX4_worst_46 : decode cX4_worst 46 = .ok (.iload_n 2, 1) := by decide +kernel
theorem dX4_worst_47 : decode cX4_worst 47 = .ok (.istore_n 1, 1) := by decide +kernel
theorem dX4_worst_48 : decode cX4_worst 48 = .ok (.iinc 2 1, 3) := by decide +kernel
theorem dX4_worst_51 : decode cX4_worst 51 = .ok (.goto (-47), 3) := by decide +kernel
theorem dX4_worst_54 : decode cX4_worst 54 = .ok (.iload_n 1, 1) := by decide +kernel
theorem dX4_worst_55 : decode cX4_worst 55 = .ok (.ireturn, 1) := by decide +kernel
theorem dX4_untidy_0 : decode cX4_untidy 0 = .ok (.aload_n 0, 1) := by decide +kernel
theorem dX4_untidy_1 : decode cX4_untidy 1 = .ok (.getfield 38, 3) := by decide +kernel
theorem dX4_untidy_4 : decode cX4_untidy 4 = .ok (.aload_n 0, 1) := by decide +kernel
theorem dX4_untidy_5 : decode cX4_untidy 5 = .ok (.getfield 10, 3) := by decide +kernel
theorem dX4_untidy_8 : decode cX4_untidy 8 = .ok (.invokevirtual 183, 3) := by decide +kernel
theorem dX4_untidy_11 : decode cX4_untidy 11 = .ok (.aload_n 0, 1) := by decide +kernel
theorem dX4_untidy_12 : decode cX4_untidy 12 = .ok (.getfield 38, 3) := by decide +kernel
theorem dX4_untidy_15 : decode cX4_untidy 15 = .ok (.aload_n 0, 1) := by decide +kernel
theorem dX4_untidy_16 : decode cX4_untidy 16 = .ok (.getfield 19, 3) := by decide +kernel
theorem dX4_untidy_19 : decode cX4_untidy 19 = .ok (.sipush 480, 3) := by decide +kernel
theorem dX4_untidy_22 : decode cX4_untidy 22 = .ok (.invokestatic 126, 3) := by decide +kernel
theorem dX4_untidy_25 : decode cX4_untidy 25 = .ok (.ireturn, 1) := by decide +kernel
theorem dX4_find_0 : decode cX4_find 0 = .ok (.iload_n 1, 1) := by decide +kernel
theorem dX4_find_1 : decode cX4_find 1 = .ok (.invokestatic 55, 3) := by decide +kernel
theorem dX4_find_4 : decode cX4_find 4 = .ok (.ifCond .ne 13, 3) := by decide +kernel
theorem dX4_find_7 : decode cX4_find 7 = .ok (.new 58, 3) := by decide +kernel
theorem dX4_find_10 : decode cX4_find 10 = .ok (.dup, 1) := by decide +kernel
theorem dX4_find_11 : decode cX4_find 11 = .ok (.ldc 60, 2) := by decide +kernel
theorem dX4_find_13 : decode cX4_find 13 = .ok (.invokespecial 62, 3) := by decide +kernel
theorem dX4_find_16 : decode cX4_find 16 = .ok (.athrow, 1) := by decide +kernel
theorem dX4_find_17 : decode cX4_find 17 = .ok (.iconst 0, 1) := by decide +kernel
theorem dX4_find_18 : decode cX4_find 18 = .ok (.istore_n 2, 1) := by decide +kernel
theorem dX4_find_19 : decode cX4_find 19 = .ok (.iload_n 2, 1) := by decide +kernel
theorem dX4_find_20 : decode cX4_find 20 = .ok (.sipush 480, 3) := by decide +kernel
theorem dX4_find_23 : decode cX4_find 23 = .ok (.if_icmp .ge 23, 3) := by decide +kernel
theorem dX4_find_26 : decode cX4_find 26 = .ok (.aload_n 0, 1) := by decide +kernel
theorem dX4_find_27 : decode cX4_find 27 = .ok (.getfield 10, 3) := by decide +kernel
theorem dX4_find_30 : decode cX4_find 30 = .ok (.iload_n 2, 1) := by decide +kernel
theorem dX4_find_31 : decode cX4_find 31 = .ok (.invokevirtual 83, 3) := by decide +kernel
theorem dX4_find_34 : decode cX4_find 34 = .ok (.iload_n 1, 1) := by decide +kernel
theorem dX4_find_35 : decode cX4_find 35 = .ok (.if_icmp .ne 5, 3) := by decide +kernel
theorem dX4_find_38 : decode cX4_find 38 = .ok (.iload_n 2, 1) := by decide +kernel
theorem dX4_find_39 : decode cX4_find 39 = .ok (.ireturn, 1) := by decide +kernel
theorem dX4_find_40 : decode cX4_find 40 = .ok (.iinc 2 1, 3) := by decide +kernel
theorem dX4_find_43 : decode cX4_find 43 = .ok (.goto (-24), 3) := by decide +kernel
theorem dX4_find_46 : decode cX4_find 46 = .ok (.iconst (-1), 1) := by decide +kernel
theorem dX4_find_47 : decode cX4_find 47 = .ok (.ireturn, 1) := by decide +kernel
theorem dX4_goodShare_0 : decode cX4_goodShare 0 = .ok (.sipush 576, 3) := by decide +kernel
theorem dX4_goodShare_3 : decode cX4_goodShare 3 = .ok (.aload_n 0, 1) := by decide +kernel
theorem dX4_goodShare_4 : decode cX4_goodShare 4 = .ok (.getfield 10, 3) := by decide +kernel
theorem dX4_goodShare_7 : decode cX4_goodShare 7 = .ok (.getfield 231, 3) := by decide +kernel
theorem dX4_goodShare_10 : decode cX4_goodShare 10 = .ok (.isub, 1) := by decide +kernel
theorem dX4_goodShare_11 : decode cX4_goodShare 11 = .ok (.aload_n 0, 1) := by decide +kernel
theorem dX4_goodShare_12 : decode cX4_goodShare 12 = .ok (.getfield 19, 3) := by decide +kernel
theorem dX4_goodShare_15 : decode cX4_goodShare 15 = .ok (.getfield 234, 3) := by decide +kernel
theorem dX4_goodShare_18 : decode cX4_goodShare 18 = .ok (.isub, 1) := by decide +kernel
theorem dX4_goodShare_19 : decode cX4_goodShare 19 = .ok (.i2d, 1) := by decide +kernel
theorem dX4_goodShare_20 : decode cX4_goodShare 20 = .ok (.ldc2_w 237, 3) := by decide +kernel
theorem dX4_goodShare_23 : decode cX4_goodShare 23 = .ok (.ddiv, 1) := by decide +kernel
theorem dX4_goodShare_24 : decode cX4_goodShare 24 = .ok (.dreturn, 1) := by decide +kernel
theorem dX4_digest_0 : decode cX4_digest 0 = .ok (.ldc2_w 239, 3) := by decide +kernel
theorem dX4_digest_3 : decode cX4_digest 3 = .ok (.lstore_n 1, 1) := by decide +kernel
theorem dX4_digest_4 : decode cX4_digest 4 = .ok (.iconst 0, 1) := by decide +kernel
theorem dX4_digest_5 : decode cX4_digest 5 = .ok (.istore_n 3, 1) := by decide +kernel
theorem dX4_digest_6 : decode cX4_digest 6 = .ok (.iload_n 3, 1) := by decide +kernel
theorem dX4_digest_7 : decode cX4_digest 7 = .ok (.bipush 10, 2) := by decide +kernel
theorem dX4_digest_9 : decode cX4_digest 9 = .ok (.if_icmp .ge 20, 3) := by decide +kernel
theorem dX4_digest_12 : decode cX4_digest 12 = .ok (.lload_n 1, 1) := by decide +kernel
theorem dX4_digest_13 : decode cX4_digest 13 = .ok (.aload_n 0, 1) := by decide +kernel
theorem dX4_digest_14 : decode cX4_digest 14 = .ok (.iload_n 3, 1) := by decide +kernel
theorem dX4_digest_15 : decode cX4_digest 15 = .ok (.invokevirtual 222, 3) := by decide +kernel
theorem dX4_digest_18 : decode cX4_digest 18 = .ok (.i2l, 1) := by decide +kernel
theorem dX4_digest_19 : decode cX4_digest 19 = .ok (.invokestatic 241, 3) := by decide +kernel
theorem dX4_digest_22 : decode cX4_digest 22 = .ok (.lstore_n 1, 1) := by decide +kernel
theorem dX4_digest_23 : decode cX4_digest 23 = .ok (.iinc 3 1, 3) := by decide +kernel
theorem dX4_digest_26 : decode cX4_digest 26 = .ok (.goto (-20), 3) := by decide +kernel
theorem dX4_digest_29 : decode cX4_digest 29 = .ok (.iconst 0, 1) := by decide +kernel
theorem dX4_digest_30 : decode cX4_digest 30 = .ok (.istore_n 3, 1) := by decide +kernel
theorem dX4_digest_31 : decode cX4_digest 31 = .ok (.iload_n 3, 1) := by decide +kernel
theorem dX4_digest_32 : decode cX4_digest 32 = .ok (.iconst 3, 1) := by decide +kernel
theorem dX4_digest_33 : decode cX4_digest 33 = .ok (.if_icmp .ge 23, 3) := by decide +kernel
theorem dX4_digest_36 : decode cX4_digest 36 = .ok (.lload_n 1, 1) := by decide +kernel
theorem dX4_digest_37 : decode cX4_digest 37 = .ok (.aload_n 0, 1) := by decide +kernel
theorem dX4_digest_38 : decode cX4_digest 38 = .ok (.getfield 10, 3) := by decide +kernel
theorem dX4_digest_41 : decode cX4_digest 41 = .ok (.iload_n 3, 1) := by decide +kernel
theorem dX4_digest_42 : decode cX4_digest 42 = .ok (.invokevirtual 139, 3) := by decide +kernel
theorem dX4_digest_45 : decode cX4_digest 45 = .ok (.i2l, 1) := by decide +kernel
theorem dX4_digest_46 : decode cX4_digest 46 = .ok (.invokestatic 241, 3) := by decide +kernel
theorem dX4_digest_49 : decode cX4_digest 49 = .ok (.lstore_n 1, 1) := by decide +kernel
theorem dX4_digest_50 : decode cX4_digest 50 = .ok (.iinc 3 1, 3) := by decide +kernel
theorem dX4_digest_53 : decode cX4_digest 53 = .ok (.goto (-22), 3) := by decide +kernel
theorem dX4_digest_56 : decode cX4_digest 56 = .ok (.aload_n 0, 1) := by decide +kernel
theorem dX4_digest_57 : decode cX4_digest 57 = .ok (.lload_n 1, 1) := by decide +kernel
theorem dX4_digest_58 : decode cX4_digest 58 = .ok (.invokevirtual 245, 3) := by decide +kernel
theorem dX4_digest_61 : decode cX4_digest 61 = .ok (.lstore_n 1, 1) := by decide +kernel
theorem dX4_digest_62 : decode cX4_digest 62 = .ok (.aload_n 0, 1) := by decide +kernel
theorem dX4_digest_63 : decode cX4_digest 63 = .ok (.lload_n 1, 1) := by decide +kernel
theorem dX4_digest_64 : decode cX4_digest 64 = .ok (.invokevirtual 249, 3) := by decide +kernel
theorem dX4_digest_67 : decode cX4_digest 67 = .ok (.lstore_n 1, 1) := by decide +kernel
theorem dX4_digest_68 : decode cX4_digest 68 = .ok (.aload_n 0, 1) := by decide +kernel
theorem dX4_digest_69 : decode cX4_digest 69 = .ok (.lload_n 1, 1) := by decide +kernel
theorem dX4_digest_70 : decode cX4_digest 70 = .ok (.invokevirtual 252, 3) := by decide +kernel
theorem dX4_digest_73 : decode cX4_digest 73 = .ok (.lstore_n 1, 1) := by decide +kernel
theorem dX4_digest_74 : decode cX4_digest 74 = .ok (.aload_n 0, 1) := by decide +kernel
theorem dX4_digest_75 : decode cX4_digest 75 = .ok (.lload_n 1, 1) := by decide +kernel
theorem dX4_digest_76 : decode cX4_digest 76 = .ok (.invokevirtual 255, 3) := by decide +kernel
theorem dX4_digest_79 : decode cX4_digest 79 = .ok (.lstore_n 1, 1) := by decide +kernel
theorem dX4_digest_80 : decode cX4_digest 80 = .ok (.lload_n 1, 1) := by decide +kernel
theorem dX4_digest_81 : decode cX4_digest 81 = .ok (.aload_n 0, 1) := by decide +kernel
theorem dX4_digest_82 : decode cX4_digest 82 = .ok (.invokevirtual 258, 3) := by decide +kernel
theorem dX4_digest_85 : decode cX4_digest 85 = .ok (.i2l, 1) := by decide +kernel
theorem dX4_digest_86 : decode cX4_digest 86 = .ok (.invokestatic 241, 3) := by decide +kernel
theorem dX4_digest_89 : decode cX4_digest 89 = .ok (.lstore_n 1, 1) := by decide +kernel
theorem dX4_digest_90 : decode cX4_digest 90 = .ok (.lload_n 1, 1) := by decide +kernel
theorem dX4_digest_91 : decode cX4_digest 91 = .ok (.aload_n 0, 1) := by decide +kernel
theorem dX4_digest_92 : decode cX4_digest 92 = .ok (.invokevirtual 261, 3) := by decide +kernel
theorem dX4_digest_95 : decode cX4_digest 95 = .ok (.i2l, 1) := by decide +kernel
theorem dX4_digest_96 : decode cX4_digest 96 = .ok (.invokestatic 241, 3) := by decide +kernel
theorem dX4_digest_99 : decode cX4_digest 99 = .ok (.lstore_n 1, 1) := by decide +kernel
theorem dX4_digest_100 : decode cX4_digest 100 = .ok (.lload_n 1, 1) := by decide +kernel
theorem dX4_digest_101 : decode cX4_digest 101 = .ok (.aload_n 0, 1) := by decide +kernel
theorem dX4_digest_102 : decode cX4_digest 102 = .ok (.invokevirtual 264, 3) := by decide +kernel
theorem dX4_digest_105 : decode cX4_digest 105 = .ok (.invokestatic 268, 3) := by decide +kernel
theorem dX4_digest_108 : decode cX4_digest 108 = .ok (.invokestatic 241, 3) := by decide +kernel
theorem dX4_digest_111 : decode cX4_digest 111 = .ok (.lstore_n 1, 1) := by decide +kernel
theorem dX4_digest_112 : decode cX4_digest 112 = .ok (.aload_n 0, 1) := by decide +kernel
theorem dX4_digest_113 : decode cX4_digest 113 = .ok (.lload_n 1, 1) := by decide +kernel
theorem dX4_digest_114 : decode cX4_digest 114 = .ok (.invokevirtual 272, 3) := by decide +kernel
theorem dX4_digest_117 : decode cX4_digest 117 = .ok (.lreturn, 1) := by decide +kernel
theorem dX4_inDrive_0 : decode cX4_inDrive 0 = .ok (.iload_n 0, 1) := by decide +kernel
theorem dX4_inDrive_1 : decode cX4_inDrive 1 = .ok (.ifCond .lt 23, 3) := by decide +kernel
theorem dX4_inDrive_4 : decode cX4_inDrive 4 = .ok (.iload_n 0, 1) := by decide +kernel
theorem dX4_inDrive_5 : decode cX4_inDrive 5 = .ok (.bipush 24, 2) := by decide +kernel
theorem dX4_inDrive_7 : decode cX4_inDrive 7 = .ok (.if_icmp .ge 17, 3) := by decide +kernel
theorem dX4_inDrive_10 : decode cX4_inDrive 10 = .ok (.iload_n 1, 1) := by decide +kernel
theorem dX4_inDrive_11 : decode cX4_inDrive 11 = .ok (.ifCond .lt 13, 3) := by decide +kernel
theorem dX4_inDrive_14 : decode cX4_inDrive 14 = .ok (.iload_n 1, 1) := by decide +kernel
theorem dX4_inDrive_15 : decode cX4_inDrive 15 = .ok (.bipush 24, 2) := by decide +kernel
theorem dX4_inDrive_17 : decode cX4_inDrive 17 = .ok (.if_icmp .ge 7, 3) := by decide +kernel
theorem dX4_inDrive_20 : decode cX4_inDrive 20 = .ok (.iconst 1, 1) := by decide +kernel
theorem dX4_inDrive_21 : decode cX4_inDrive 21 = .ok (.goto 4, 3) := by decide +kernel
theorem dX4_inDrive_24 : decode cX4_inDrive 24 = .ok (.iconst 0, 1) := by decide +kernel
theorem dX4_inDrive_25 : decode cX4_inDrive 25 = .ok (.ireturn, 1) := by decide +kernel
theorem dX4_cellNumber_0 : decode cX4_cellNumber 0 = .ok (.iload_n 0, 1) := by decide +kernel
theorem dX4_cellNumber_1 : decode cX4_cellNumber 1 = .ok (.bipush 24, 2) := by decide +kernel
theorem dX4_cellNumber_3 : decode cX4_cellNumber 3 = .ok (.imul, 1) := by decide +kernel
theorem dX4_cellNumber_4 : decode cX4_cellNumber 4 = .ok (.iload_n 1, 1) := by decide +kernel
theorem dX4_cellNumber_5 : decode cX4_cellNumber 5 = .ok (.iadd, 1) := by decide +kernel
theorem dX4_cellNumber_6 : decode cX4_cellNumber 6 = .ok (.ireturn, 1) := by decide +kernel
theorem dX4_isCell_0 : decode cX4_isCell 0 = .ok (.iload_n 0, 1) := by decide +kernel
theorem dX4_isCell_1 : decode cX4_isCell 1 = .ok (.ifCond .lt 14, 3) := by decide +kernel
theorem dX4_isCell_4 : decode cX4_isCell 4 = .ok (.iload_n 0, 1) := by decide +kernel
theorem dX4_isCell_5 : decode cX4_isCell 5 = .ok (.sipush 576, 3) := by decide +kernel
theorem dX4_isCell_8 : decode cX4_isCell 8 = .ok (.if_icmp .ge 7, 3) := by decide +kernel
theorem dX4_isCell_11 : decode cX4_isCell 11 = .ok (.iconst 1, 1) := by decide +kernel
theorem dX4_isCell_12 : decode cX4_isCell 12 = .ok (.goto 4, 3) := by decide +kernel
theorem dX4_isCell_15 : decode cX4_isCell 15 = .ok (.iconst 0, 1) := by decide +kernel
theorem dX4_isCell_16 : decode cX4_isCell 16 = .ok (.ireturn, 1) := by decide +kernel
theorem dX4_isSpare_0 : decode cX4_isSpare 0 = .ok (.iload_n 0, 1) := by decide +kernel
theorem dX4_isSpare_1 : decode cX4_isSpare 1 = .ok (.sipush 480, 3) := by decide +kernel
theorem dX4_isSpare_4 : decode cX4_isSpare 4 = .ok (.if_icmp .lt 14, 3) := by decide +kernel
theorem dX4_isSpare_7 : decode cX4_isSpare 7 = .ok (.iload_n 0, 1) := by decide +kernel
theorem dX4_isSpare_8 : decode cX4_isSpare 8 = .ok (.sipush 576, 3) := by decide +kernel
theorem dX4_isSpare_11 : decode cX4_isSpare 11 = .ok (.if_icmp .ge 7, 3) := by decide +kernel
theorem dX4_isSpare_14 : decode cX4_isSpare 14 = .ok (.iconst 1, 1) := by decide +kernel
theorem dX4_isSpare_15 : decode cX4_isSpare 15 = .ok (.goto 4, 3) := by decide +kernel
theorem dX4_isSpare_18 : decode cX4_isSpare 18 = .ok (.iconst 0, 1) := by decide +kernel
theorem dX4_isSpare_19 : decode cX4_isSpare 19 = .ok (.ireturn, 1) := by decide +kernel
theorem dX4_isBlock_0 : decode cX4_isBlock 0 = .ok (.iload_n 0, 1) := by decide +kernel
theorem dX4_isBlock_1 : decode cX4_isBlock 1 = .ok (.ifCond .lt 14, 3) := by decide +kernel
theorem dX4_isBlock_4 : decode cX4_isBlock 4 = .ok (.iload_n 0, 1) := by decide +kernel
theorem dX4_isBlock_5 : decode cX4_isBlock 5 = .ok (.sipush 480, 3) := by decide +kernel
theorem dX4_isBlock_8 : decode cX4_isBlock 8 = .ok (.if_icmp .ge 7, 3) := by decide +kernel
theorem dX4_isBlock_11 : decode cX4_isBlock 11 = .ok (.iconst 1, 1) := by decide +kernel
theorem dX4_isBlock_12 : decode cX4_isBlock 12 = .ok (.goto 4, 3) := by decide +kernel
theorem dX4_isBlock_15 : decode cX4_isBlock 15 = .ok (.iconst 0, 1) := by decide +kernel
theorem dX4_isBlock_16 : decode cX4_isBlock 16 = .ok (.ireturn, 1) := by decide +kernel
theorem dX4_isValue_0 : decode cX4_isValue 0 = .ok (.iload_n 0, 1) := by decide +kernel
theorem dX4_isValue_1 : decode cX4_isValue 1 = .ok (.ifCond .lt 14, 3) := by decide +kernel
theorem dX4_isValue_4 : decode cX4_isValue 4 = .ok (.iload_n 0, 1) := by decide +kernel
theorem dX4_isValue_5 : decode cX4_isValue 5 = .ok (.sipush 999, 3) := by decide +kernel
theorem dX4_isValue_8 : decode cX4_isValue 8 = .ok (.if_icmp .gt 7, 3) := by decide +kernel
theorem dX4_isValue_11 : decode cX4_isValue 11 = .ok (.iconst 1, 1) := by decide +kernel
theorem dX4_isValue_12 : decode cX4_isValue 12 = .ok (.goto 4, 3) := by decide +kernel
theorem dX4_isValue_15 : decode cX4_isValue 15 = .ok (.iconst 0, 1) := by decide +kernel
theorem dX4_isValue_16 : decode cX4_isValue 16 = .ok (.ireturn, 1) := by decide +kernel
theorem dX4_isSetting_0 : decode cX4_isSetting 0 = .ok (.iload_n 0, 1) := by decide +kernel
theorem dX4_isSetting_1 : decode cX4_isSetting 1 = .ok (.ifCond .lt 12, 3) := by decide +kernel
theorem dX4_isSetting_4 : decode cX4_isSetting 4 = .ok (.iload_n 0, 1) := by decide +kernel
theorem dX4_isSetting_5 : decode cX4_isSetting 5 = .ok (.iconst 3, 1) := by decide +kernel
theorem dX4_isSetting_6 : decode cX4_isSetting 6 = .ok (.if_icmp .ge 7, 3) := by decide +kernel
theorem dX4_isSetting_9 : decode cX4_isSetting 9 = .ok (.iconst 1, 1) := by decide +kernel
theorem dX4_isSetting_10 : decode cX4_isSetting 10 = .ok (.goto 4, 3) := by decide +kernel
theorem dX4_isSetting_13 : decode cX4_isSetting 13 = .ok (.iconst 0, 1) := by decide +kernel
theorem dX4_isSetting_14 : decode cX4_isSetting 14 = .ok (.ireturn, 1) := by decide +kernel
theorem dX4_fitsSetting_0 : decode cX4_fitsSetting 0 = .ok (.iload_n 0, 1) := by decide +kernel
theorem dX4_fitsSetting_1 : decode cX4_fitsSetting 1 = .ok (.invokestatic 129, 3) := by decide +kernel
theorem dX4_fitsSetting_4 : decode cX4_fitsSetting 4 = .ok (.ifCond .eq 25, 3) := by decide +kernel
theorem dX4_fitsSetting_7 : decode cX4_fitsSetting 7 = .ok (.iload_n 1, 1) := by decide +kernel
theorem dX4_fitsSetting_8 : decode cX4_fitsSetting 8 = .ok (.getstatic 275, 3) := by decide +kernel
theorem dX4_fitsSetting_11 : decode cX4_fitsSetting 11 = .ok (.iload_n 0, 1) := by decide +kernel
theorem dX4_fitsSetting_12 : decode cX4_fitsSetting 12 = .ok (.iaload, 1) := by decide +kernel
theorem dX4_fitsSetting_13 : decode cX4_fitsSetting 13 = .ok (.if_icmp .lt 16, 3) := by decide +kernel
theorem dX4_fitsSetting_16 : decode cX4_fitsSetting 16 = .ok (.iload_n 1, 1) := by decide +kernel
theorem dX4_fitsSetting_17 : decode cX4_fitsSetting 17 = .ok (.getstatic 279, 3) := by decide +kernel
theorem dX4_fitsSetting_20 : decode cX4_fitsSetting 20 = .ok (.iload_n 0, 1) := by decide +kernel
theorem dX4_fitsSetting_21 : decode cX4_fitsSetting 21 = .ok (.iaload, 1) := by decide +kernel
theorem dX4_fitsSetting_22 : decode cX4_fitsSetting 22 = .ok (.if_icmp .gt 7, 3) := by decide +kernel
theorem dX4_fitsSetting_25 : decode cX4_fitsSetting 25 = .ok (.iconst 1, 1) := by decide +kernel
theorem dX4_fitsSetting_26 : decode cX4_fitsSetting 26 = .ok (.goto 4, 3) := by decide +kernel
theorem dX4_fitsSetting_29 : decode cX4_fitsSetting 29 = .ok (.iconst 0, 1) := by decide +kernel
theorem dX4_fitsSetting_30 : decode cX4_fitsSetting 30 = .ok (.ireturn, 1) := by decide +kernel
theorem dX4_saveState_0 : decode cX4_saveState 0 = .ok (.aload_n 0, 1) := by decide +kernel
theorem dX4_saveState_1 : decode cX4_saveState 1 = .ok (.getfield 27, 3) := by decide +kernel
theorem dX4_saveState_4 : decode cX4_saveState 4 = .ok (.aload_n 0, 1) := by decide +kernel
theorem dX4_saveState_5 : decode cX4_saveState 5 = .ok (.getfield 23, 3) := by decide +kernel
theorem dX4_saveState_8 : decode cX4_saveState 8 = .ok (.arraylength, 1) := by decide +kernel
theorem dX4_saveState_9 : decode cX4_saveState 9 = .ok (.if_icmp .lt 7, 3) := by decide +kernel
theorem dX4_saveState_12 : decode cX4_saveState 12 = .ok (.aload_n 0, 1) := by decide +kernel
theorem dX4_saveState_13 : decode cX4_saveState 13 = .ok (.invokevirtual 282, 3) := by decide +kernel
theorem dX4_saveState_16 : decode cX4_saveState 16 = .ok (.aload_n 0, 1) := by decide +kernel
theorem dX4_saveState_17 : decode cX4_saveState 17 = .ok (.getfield 27, 3) := by decide +kernel
theorem dX4_saveState_20 : decode cX4_saveState 20 = .ok (.ifCond .lt 53, 3) := by decide +kernel
theorem dX4_saveState_23 : decode cX4_saveState 23 = .ok (.aload_n 0, 1) := by decide +kernel
theorem dX4_saveState_24 : decode cX4_saveState 24 = .ok (.getfield 27, 3) := by decide +kernel
theorem dX4_saveState_27 : decode cX4_saveState 27 = .ok (.aload_n 0, 1) := by decide +kernel
theorem dX4_saveState_28 : decode cX4_saveState 28 = .ok (.getfield 23, 3) := by decide +kernel
theorem dX4_saveState_31 : decode cX4_saveState 31 = .ok (.arraylength, 1) := by decide +kernel
theorem dX4_saveState_32 : decode cX4_saveState 32 = .ok (.if_icmp .ge 41, 3) := by decide +kernel
theorem dX4_saveState_35 : decode cX4_saveState 35 = .ok (.aload_n 0, 1) := by decide +kernel
theorem dX4_saveState_36 : decode cX4_saveState 36 = .ok (.getfield 23, 3) := by decide +kernel
theorem dX4_saveState_39 : decode cX4_saveState 39 = .ok (.aload_n 0, 1) := by decide +kernel
theorem dX4_saveState_40 : decode cX4_saveState 40 = .ok (.getfield 27, 3) := by decide +kernel
theorem dX4_saveState_43 : decode cX4_saveState 43 = .ok (.aaload, 1) := by decide +kernel
theorem dX4_saveState_44 : decode cX4_saveState 44 = .ok (.ifnull 29, 3) := by decide +kernel
theorem dX4_saveState_47 : decode cX4_saveState 47 = .ok (.aload_n 0, 1) := by decide +kernel
theorem dX4_saveState_48 : decode cX4_saveState 48 = .ok (.getfield 23, 3) := by decide +kernel
theorem dX4_saveState_51 : decode cX4_saveState 51 = .ok (.aload_n 0, 1) := by decide +kernel
theorem dX4_saveState_52 : decode cX4_saveState 52 = .ok (.getfield 27, 3) := by decide +kernel
theorem dX4_saveState_55 : decode cX4_saveState 55 = .ok (.aaload, 1) := by decide +kernel
theorem dX4_saveState_56 : decode cX4_saveState 56 = .ok (.aload_n 0, 1) := by decide +kernel
theorem dX4_saveState_57 : decode cX4_saveState 57 = .ok (.getfield 10, 3) := by decide +kernel
theorem dX4_saveState_60 : decode cX4_saveState 60 = .ok (.invokevirtual 183, 3) := by decide +kernel
theorem dX4_saveState_63 : decode cX4_saveState 63 = .ok (.aload_n 0, 1) := by decide +kernel
theorem dX4_saveState_64 : decode cX4_saveState 64 = .ok (.dup, 1) := by decide +kernel
theorem dX4_saveState_65 : decode cX4_saveState 65 = .ok (.getfield 27, 3) := by decide +kernel
theorem dX4_saveState_68 : decode cX4_saveState 68 = .ok (.iconst 1, 1) := by decide +kernel
theorem dX4_saveState_69 : decode cX4_saveState 69 = .ok (.iadd, 1) := by decide +kernel
theorem dX4_saveState_70 : decode cX4_saveState 70 = .ok (.putfield 27, 3) := by decide +kernel
theorem dX4_saveState_73 : decode cX4_saveState 73 = .ok (.return_, 1) := by decide +kernel
theorem dX4_moveOldestToEnd_0 : decode cX4_moveOldestToEnd 0 = .ok (.iconst 1, 1) := by decide +kernel
theorem dX4_moveOldestToEnd_1 : decode cX4_moveOldestToEnd 1 = .ok (.istore_n 1, 1) := by decide +kernel
theorem dX4_moveOldestToEnd_2 : decode cX4_moveOldestToEnd 2 = .ok (.iload_n 1, 1) := by decide +kernel
theorem dX4_moveOldestToEnd_3 : decode cX4_moveOldestToEnd 3 = .ok (.aload_n 0, 1) := by decide +kernel
theorem dX4_moveOldestToEnd_4 : decode cX4_moveOldestToEnd 4 = .ok (.getfield 23, 3) := by decide +kernel
theorem dX4_moveOldestToEnd_7 : decode cX4_moveOldestToEnd 7 = .ok (.arraylength, 1) := by decide +kernel
theorem dX4_moveOldestToEnd_8 : decode cX4_moveOldestToEnd 8 = .ok (.if_icmp .ge 39, 3) := by decide +kernel
theorem dX4_moveOldestToEnd_11 : decode cX4_moveOldestToEnd 11 = .ok (.aload_n 0, 1) := by decide +kernel
theorem dX4_moveOldestToEnd_12 : decode cX4_moveOldestToEnd 12 = .ok (.getfield 23, 3) := by decide +kernel
theorem dX4_moveOldestToEnd_15 : decode cX4_moveOldestToEnd 15 = .ok (.iload_n 1, 1) := by decide +kernel
theorem dX4_moveOldestToEnd_16 : decode cX4_moveOldestToEnd 16 = .ok (.iconst 1, 1) := by decide +kernel
theorem dX4_moveOldestToEnd_17 : decode cX4_moveOldestToEnd 17 = .ok (.isub, 1) := by decide +kernel
theorem dX4_moveOldestToEnd_18 : decode cX4_moveOldestToEnd 18 = .ok (.aaload, 1) := by decide +kernel
theorem dX4_moveOldestToEnd_19 : decode cX4_moveOldestToEnd 19 = .ok (.astore_n 2, 1) := by decide +kernel
theorem dX4_moveOldestToEnd_20 : decode cX4_moveOldestToEnd 20 = .ok (.aload_n 0, 1) := by decide +kernel
theorem dX4_moveOldestToEnd_21 : decode cX4_moveOldestToEnd 21 = .ok (.getfield 23, 3) := by decide +kernel
theorem dX4_moveOldestToEnd_24 : decode cX4_moveOldestToEnd 24 = .ok (.iload_n 1, 1) := by decide +kernel
theorem dX4_moveOldestToEnd_25 : decode cX4_moveOldestToEnd 25 = .ok (.iconst 1, 1) := by decide +kernel
theorem dX4_moveOldestToEnd_26 : decode cX4_moveOldestToEnd 26 = .ok (.isub, 1) := by decide +kernel
theorem dX4_moveOldestToEnd_27 : decode cX4_moveOldestToEnd 27 = .ok (.aload_n 0, 1) := by decide +kernel
theorem dX4_moveOldestToEnd_28 : decode cX4_moveOldestToEnd 28 = .ok (.getfield 23, 3) := by decide +kernel
theorem dX4_moveOldestToEnd_31 : decode cX4_moveOldestToEnd 31 = .ok (.iload_n 1, 1) := by decide +kernel
theorem dX4_moveOldestToEnd_32 : decode cX4_moveOldestToEnd 32 = .ok (.aaload, 1) := by decide +kernel
theorem dX4_moveOldestToEnd_33 : decode cX4_moveOldestToEnd 33 = .ok (.aastore, 1) := by decide +kernel
theorem dX4_moveOldestToEnd_34 : decode cX4_moveOldestToEnd 34 = .ok (.aload_n 0, 1) := by decide +kernel
theorem dX4_moveOldestToEnd_35 : decode cX4_moveOldestToEnd 35 = .ok (.getfield 23, 3) := by decide +kernel
theorem dX4_moveOldestToEnd_38 : decode cX4_moveOldestToEnd 38 = .ok (.iload_n 1, 1) := by decide +kernel
theorem dX4_moveOldestToEnd_39 : decode cX4_moveOldestToEnd 39 = .ok (.aload_n 2, 1) := by decide +kernel
theorem dX4_moveOldestToEnd_40 : decode cX4_moveOldestToEnd 40 = .ok (.aastore, 1) := by decide +kernel
theorem dX4_moveOldestToEnd_41 : decode cX4_moveOldestToEnd 41 = .ok (.iinc 1 1, 3) := by decide +kernel
theorem dX4_moveOldestToEnd_44 : decode cX4_moveOldestToEnd 44 = .ok (.goto (-42), 3) := by decide +kernel
theorem dX4_moveOldestToEnd_47 : decode cX4_moveOldestToEnd 47 = .ok (.aload_n 0, 1) := by decide +kernel
theorem dX4_moveOldestToEnd_48 : decode cX4_moveOldestToEnd 48 = .ok (.aload_n 0, 1) := by decide +kernel
theorem dX4_moveOldestToEnd_49 : decode cX4_moveOldestToEnd 49 = .ok (.getfield 23, 3) := by decide +kernel
theorem dX4_moveOldestToEnd_52 : decode cX4_moveOldestToEnd 52 = .ok (.arraylength, 1) := by decide +kernel
theorem dX4_moveOldestToEnd_53 : decode cX4_moveOldestToEnd 53 = .ok (.iconst 1, 1) := by decide +kernel
theorem dX4_moveOldestToEnd_54 : decode cX4_moveOldestToEnd 54 = .ok (.isub, 1) := by decide +kernel
theorem dX4_moveOldestToEnd_55 : decode cX4_moveOldestToEnd 55 = .ok (.putfield 27, 3) := by decide +kernel
theorem dX4_moveOldestToEnd_58 : decode cX4_moveOldestToEnd 58 = .ok (.return_, 1) := by decide +kernel
theorem dX4_cellForWriting_0 : decode cX4_cellForWriting 0 = .ok (.aload_n 0, 1) := by decide +kernel
theorem dX4_cellForWriting_1 : decode cX4_cellForWriting 1 = .ok (.iload_n 2, 1) := by decide +kernel
theorem dX4_cellForWriting_2 : decode cX4_cellForWriting 2 = .ok (.invokevirtual 202, 3) := by decide +kernel
theorem dX4_cellForWriting_5 : decode cX4_cellForWriting 5 = .ok (.istore_n 3, 1) := by decide +kernel
theorem dX4_cellForWriting_6 : decode cX4_cellForWriting 6 = .ok (.aload_n 1, 1) := by decide +kernel
theorem dX4_cellForWriting_7 : decode cX4_cellForWriting 7 = .ok (.iload_n 3, 1) := by decide +kernel
theorem dX4_cellForWriting_8 : decode cX4_cellForWriting 8 = .ok (.invokevirtual 285, 3) := by decide +kernel
theorem dX4_cellForWriting_11 : decode cX4_cellForWriting 11 = .ok (.ifCond .eq 5, 3) := by decide +kernel
theorem dX4_cellForWriting_14 : decode cX4_cellForWriting 14 = .ok (.iload_n 3, 1) := by decide +kernel
theorem dX4_cellForWriting_15 : decode cX4_cellForWriting 15 = .ok (.ireturn, 1) := by decide +kernel
theorem dX4_cellForWriting_16 : decode cX4_cellForWriting 16 = .ok (.aload_n 1, 1) := by decide +kernel
theorem dX4_cellForWriting_17 : decode cX4_cellForWriting 17 = .ok (.iload_n 2, 1) := by decide +kernel
theorem dX4_cellForWriting_18 : decode cX4_cellForWriting 18 = .ok (.invokevirtual 285, 3) := by decide +kernel
theorem dX4_cellForWriting_21 : decode cX4_cellForWriting 21 = .ok (.ifCond .eq 7, 3) := by decide +kernel
theorem dX4_cellForWriting_24 : decode cX4_cellForWriting 24 = .ok (.iload_n 2, 1) := by decide +kernel
theorem dX4_cellForWriting_25 : decode cX4_cellForWriting 25 = .ok (.goto 8, 3) := by decide +kernel
theorem dX4_cellForWriting_28 : decode cX4_cellForWriting 28 = .ok (.aload_n 0, 1) := by decide +kernel
theorem dX4_cellForWriting_29 : decode cX4_cellForWriting 29 = .ok (.aload_n 1, 1) := by decide +kernel
theorem dX4_cellForWriting_30 : decode cX4_cellForWriting 30 = .ok (.invokestatic 288, 3) := by decide +kernel
theorem dX4_cellForWriting_33 : decode cX4_cellForWriting 33 = .ok (.ireturn, 1) := by decide +kernel
theorem dX4_lowestFreeSpare_0 : decode cX4_lowestFreeSpare 0 = .ok (.sipush 480, 3) := by decide +kernel
theorem dX4_lowestFreeSpare_3 : decode cX4_lowestFreeSpare 3 = .ok (.istore_n 2, 1) := by decide +kernel
theorem dX4_lowestFreeSpare_4 : decode cX4_lowestFreeSpare 4 = .ok (.iload_n 2, 1) := by decide +kernel
theorem dX4_lowestFreeSpare_5 : decode cX4_lowestFreeSpare 5 = .ok (.sipush 576, 3) := by decide +kernel
theorem dX4_lowestFreeSpare_8 : decode cX4_lowestFreeSpare 8 = .ok (.if_icmp .ge 28, 3) := by decide +kernel
theorem dX4_lowestFreeSpare_11 : decode cX4_lowestFreeSpare 11 = .ok (.aload_n 1, 1) := by decide +kernel
theorem dX4_lowestFreeSpare_12 : decode cX4_lowestFreeSpare 12 = .ok (.iload_n 2, 1) := by decide +kernel
theorem dX4_lowestFreeSpare_13 : decode cX4_lowestFreeSpare 13 = .ok (.invokevirtual 285, 3) := by decide +kernel
theorem dX4_lowestFreeSpare_16 : decode cX4_lowestFreeSpare 16 = .ok (.ifCond .eq 14, 3) := by decide +kernel
theorem dX4_lowestFreeSpare_19 : decode cX4_lowestFreeSpare 19 = .ok (.aload_n 0, 1) := by decide +kernel
theorem dX4_lowestFreeSpare_20 : decode cX4_lowestFreeSpare 20 = .ok (.iload_n 2, 1) := by decide +kernel
theorem dX4_lowestFreeSpare_21 : decode cX4_lowestFreeSpare 21 = .ok (.invokevirtual 194, 3) := by decide +kernel
theorem dX4_lowestFreeSpare_24 : decode cX4_lowestFreeSpare 24 = .ok (.iconst (-1), 1) := by decide +kernel
theorem dX4_lowestFreeSpare_25 : decode cX4_lowestFreeSpare 25 = .ok (.if_icmp .ne 5, 3) := by decide +kernel
theorem dX4_lowestFreeSpare_28 : decode cX4_lowestFreeSpare 28 = .ok (.iload_n 2, 1) := by decide +kernel
theorem dX4_lowestFreeSpare_29 : decode cX4_lowestFreeSpare 29 = .ok (.ireturn, 1) := by decide +kernel
theorem dX4_lowestFreeSpare_30 : decode cX4_lowestFreeSpare 30 = .ok (.iinc 2 1, 3) := by decide +kernel
theorem dX4_lowestFreeSpare_33 : decode cX4_lowestFreeSpare 33 = .ok (.goto (-29), 3) := by decide +kernel
theorem dX4_lowestFreeSpare_36 : decode cX4_lowestFreeSpare 36 = .ok (.iconst (-1), 1) := by decide +kernel
theorem dX4_lowestFreeSpare_37 : decode cX4_lowestFreeSpare 37 = .ok (.ireturn, 1) := by decide +kernel
theorem dX4_tidyUp_0 : decode cX4_tidyUp 0 = .ok (.iconst 0, 1) := by decide +kernel
theorem dX4_tidyUp_1 : decode cX4_tidyUp 1 = .ok (.istore_n 3, 1) := by decide +kernel
theorem dX4_tidyUp_2 : decode cX4_tidyUp 2 = .ok (.iconst 0, 1) := by decide +kernel
theorem dX4_tidyUp_3 : decode cX4_tidyUp 3 = .ok (.istore 4, 2) := by decide +kernel
theorem dX4_tidyUp_5 : decode cX4_tidyUp 5 = .ok (.iload 4, 2) := by decide +kernel
theorem dX4_tidyUp_7 : decode cX4_tidyUp 7 = .ok (.sipush 480, 3) := by decide +kernel
theorem dX4_tidyUp_10 : decode cX4_tidyUp 10 = .ok (.if_icmp .ge 46, 3) := by decide +kernel
theorem dX4_tidyUp_13 : decode cX4_tidyUp 13 = .ok (.iload_n 3, 1) := by decide +kernel
theorem dX4_tidyUp_14 : decode cX4_tidyUp 14 = .ok (.iload_n 2, 1) := by decide +kernel
theorem dX4_tidyUp_15 : decode cX4_tidyUp 15 = .ok (.if_icmp .ge 41, 3) := by decide +kernel
theorem dX4_tidyUp_18 : decode cX4_tidyUp 18 = .ok (.aload_n 0, 1) := by decide +kernel
theorem dX4_tidyUp_19 : decode cX4_tidyUp 19 = .ok (.aload_n 1, 1) := by decide +kernel
theorem dX4_tidyUp_20 : decode cX4_tidyUp 20 = .ok (.iload 4, 2) := by decide +kernel
theorem dX4_tidyUp_22 : decode cX4_tidyUp 22 = .ok (.invokestatic 292, 3) := by decide +kernel
theorem dX4_tidyUp_25 : decode cX4_tidyUp 25 = .ok (.istore 5, 2) := by decide +kernel
theorem dX4_tidyUp_27 : decode cX4_tidyUp 27 = .ok (.iload 5, 2) := by decide +kernel
theorem dX4_tidyUp_29 : decode cX4_tidyUp 29 = .ok (.iconst (-1), 1) := by decide +kernel
theorem dX4_tidyUp_30 : decode cX4_tidyUp 30 = .ok (.if_icmp .eq 20, 3) := by decide +kernel
theorem dX4_tidyUp_33 : decode cX4_tidyUp 33 = .ok (.aload_n 0, 1) := by decide +kernel
theorem dX4_tidyUp_34 : decode cX4_tidyUp 34 = .ok (.iload 4, 2) := by decide +kernel
theorem dX4_tidyUp_36 : decode cX4_tidyUp 36 = .ok (.iload 5, 2) := by decide +kernel
theorem dX4_tidyUp_38 : decode cX4_tidyUp 38 = .ok (.aload_n 0, 1) := by decide +kernel
theorem dX4_tidyUp_39 : decode cX4_tidyUp 39 = .ok (.iload 4, 2) := by decide +kernel
theorem dX4_tidyUp_41 : decode cX4_tidyUp 41 = .ok (.invokevirtual 83, 3) := by decide +kernel
theorem dX4_tidyUp_44 : decode cX4_tidyUp 44 = .ok (.invokevirtual 75, 3) := by decide +kernel
theorem dX4_tidyUp_47 : decode cX4_tidyUp 47 = .ok (.iinc 3 1, 3) := by decide +kernel
theorem dX4_tidyUp_50 : decode cX4_tidyUp 50 = .ok (.iinc 4 1, 3) := by decide +kernel
theorem dX4_tidyUp_53 : decode cX4_tidyUp 53 = .ok (.goto (-48), 3) := by decide +kernel
theorem dX4_tidyUp_56 : decode cX4_tidyUp 56 = .ok (.iload_n 3, 1) := by decide +kernel
theorem dX4_tidyUp_57 : decode cX4_tidyUp 57 = .ok (.ireturn, 1) := by decide +kernel
theorem dX4_cellForTidying_0 : decode cX4_cellForTidying 0 = .ok (.aload_n 0, 1) := by decide +kernel
theorem dX4_cellForTidying_1 : decode cX4_cellForTidying 1 = .ok (.iload_n 2, 1) := by decide +kernel
theorem dX4_cellForTidying_2 : decode cX4_cellForTidying 2 = .ok (.invokevirtual 202, 3) := by decide +kernel
theorem dX4_cellForTidying_5 : decode cX4_cellForTidying 5 = .ok (.istore_n 3, 1) := by decide +kernel
theorem dX4_cellForTidying_6 : decode cX4_cellForTidying 6 = .ok (.iload_n 3, 1) := by decide +kernel
theorem dX4_cellForTidying_7 : decode cX4_cellForTidying 7 = .ok (.iconst (-1), 1) := by decide +kernel
theorem dX4_cellForTidying_8 : decode cX4_cellForTidying 8 = .ok (.if_icmp .eq 16, 3) := by decide +kernel
theorem dX4_cellForTidying_11 : decode cX4_cellForTidying 11 = .ok (.iload_n 3, 1) := by decide +kernel
theorem dX4_cellForTidying_12 : decode cX4_cellForTidying 12 = .ok (.iload_n 2, 1) := by decide +kernel
theorem dX4_cellForTidying_13 : decode cX4_cellForTidying 13 = .ok (.if_icmp .ne 13, 3) := by decide +kernel
theorem dX4_cellForTidying_16 : decode cX4_cellForTidying 16 = .ok (.aload_n 1, 1) := by decide +kernel
theorem dX4_cellForTidying_17 : decode cX4_cellForTidying 17 = .ok (.iload_n 3, 1) := by decide +kernel
theorem dX4_cellForTidying_18 : decode cX4_cellForTidying 18 = .ok (.invokevirtual 285, 3) := by decide +kernel
theorem dX4_cellForTidying_21 : decode cX4_cellForTidying 21 = .ok (.ifCond .eq 5, 3) := by decide +kernel
theorem dX4_cellForTidying_24 : decode cX4_cellForTidying 24 = .ok (.iconst (-1), 1) := by decide +kernel
theorem dX4_cellForTidying_25 : decode cX4_cellForTidying 25 = .ok (.ireturn, 1) := by decide +kernel
theorem dX4_cellForTidying_26 : decode cX4_cellForTidying 26 = .ok (.aload_n 1, 1) := by decide +kernel
theorem dX4_cellForTidying_27 : decode cX4_cellForTidying 27 = .ok (.iload_n 2, 1) := by decide +kernel
theorem dX4_cellForTidying_28 : decode cX4_cellForTidying 28 = .ok (.invokevirtual 285, 3) := by decide +kernel
theorem dX4_cellForTidying_31 : decode cX4_cellForTidying 31 = .ok (.ifCond .eq 5, 3) := by decide +kernel
theorem dX4_cellForTidying_34 : decode cX4_cellForTidying 34 = .ok (.iload_n 2, 1) := by decide +kernel
theorem dX4_cellForTidying_35 : decode cX4_cellForTidying 35 = .ok (.ireturn, 1) := by decide +kernel
theorem dX4_cellForTidying_36 : decode cX4_cellForTidying 36 = .ok (.aload_n 1, 1) := by decide +kernel
theorem dX4_cellForTidying_37 : decode cX4_cellForTidying 37 = .ok (.iload_n 3, 1) := by decide +kernel
theorem dX4_cellForTidying_38 : decode cX4_cellForTidying 38 = .ok (.invokevirtual 285, 3) := by decide +kernel
theorem dX4_cellForTidying_41 : decode cX4_cellForTidying 41 = .ok (.ifCond .eq 7, 3) := by decide +kernel
theorem dX4_cellForTidying_44 : decode cX4_cellForTidying 44 = .ok (.iconst (-1), 1) := by decide +kernel
theorem dX4_cellForTidying_45 : decode cX4_cellForTidying 45 = .ok (.goto 8, 3) := by decide +kernel
theorem dX4_cellForTidying_48 : decode cX4_cellForTidying 48 = .ok (.aload_n 0, 1) := by decide +kernel
theorem dX4_cellForTidying_49 : decode cX4_cellForTidying 49 = .ok (.aload_n 1, 1) := by decide +kernel
theorem dX4_cellForTidying_50 : decode cX4_cellForTidying 50 = .ok (.invokestatic 288, 3) := by decide +kernel
theorem dX4_cellForTidying_53 : decode cX4_cellForTidying 53 = .ok (.ireturn, 1) := by decide +kernel
theorem dX4_follow_0 : decode cX4_follow 0 = .ok (.aload_n 0, 1) := by decide +kernel
theorem dX4_follow_1 : decode cX4_follow 1 = .ok (.getfield 34, 3) := by decide +kernel
theorem dX4_follow_4 : decode cX4_follow 4 = .ok (.iload_n 1, 1) := by decide +kernel
theorem dX4_follow_5 : decode cX4_follow 5 = .ok (.invokevirtual 295, 3) := by decide +kernel
theorem dX4_follow_8 : decode cX4_follow 8 = .ok (.istore_n 2, 1) := by decide +kernel
theorem dX4_follow_9 : decode cX4_follow 9 = .ok (.aload_n 0, 1) := by decide +kernel
theorem dX4_follow_10 : decode cX4_follow 10 = .ok (.getfield 34, 3) := by decide +kernel
theorem dX4_follow_13 : decode cX4_follow 13 = .ok (.iload_n 1, 1) := by decide +kernel
theorem dX4_follow_14 : decode cX4_follow 14 = .ok (.invokevirtual 298, 3) := by decide +kernel
theorem dX4_follow_17 : decode cX4_follow 17 = .ok (.ifCond .eq 27, 3) := by decide +kernel
theorem dX4_follow_20 : decode cX4_follow 20 = .ok (.aload_n 0, 1) := by decide +kernel
theorem dX4_follow_21 : decode cX4_follow 21 = .ok (.getfield 10, 3) := by decide +kernel
theorem dX4_follow_24 : decode cX4_follow 24 = .ok (.iload_n 2, 1) := by decide +kernel
theorem dX4_follow_25 : decode cX4_follow 25 = .ok (.invokevirtual 116, 3) := by decide +kernel
theorem dX4_follow_28 : decode cX4_follow 28 = .ok (.iconst (-1), 1) := by decide +kernel
theorem dX4_follow_29 : decode cX4_follow 29 = .ok (.if_icmp .ne 5, 3) := by decide +kernel
theorem dX4_follow_32 : decode cX4_follow 32 = .ok (.iconst 0, 1) := by decide +kernel
theorem dX4_follow_33 : decode cX4_follow 33 = .ok (.ireturn, 1) := by decide +kernel
theorem dX4_follow_34 : decode cX4_follow 34 = .ok (.aload_n 0, 1) := by decide +kernel
theorem dX4_follow_35 : decode cX4_follow 35 = .ok (.getfield 10, 3) := by decide +kernel
theorem dX4_follow_38 : decode cX4_follow 38 = .ok (.iload_n 2, 1) := by decide +kernel
theorem dX4_follow_39 : decode cX4_follow 39 = .ok (.invokevirtual 121, 3) := by decide +kernel
theorem dX4_follow_42 : decode cX4_follow 42 = .ok (.iconst 1, 1) := by decide +kernel
theorem dX4_follow_43 : decode cX4_follow 43 = .ok (.ireturn, 1) := by decide +kernel
theorem dX4_follow_44 : decode cX4_follow 44 = .ok (.aload_n 0, 1) := by decide +kernel
theorem dX4_follow_45 : decode cX4_follow 45 = .ok (.getfield 10, 3) := by decide +kernel
theorem dX4_follow_48 : decode cX4_follow 48 = .ok (.iload_n 2, 1) := by decide +kernel
theorem dX4_follow_49 : decode cX4_follow 49 = .ok (.invokevirtual 101, 3) := by decide +kernel
theorem dX4_follow_52 : decode cX4_follow 52 = .ok (.ifCond .ne 5, 3) := by decide +kernel
theorem dX4_follow_55 : decode cX4_follow 55 = .ok (.iconst 0, 1) := by decide +kernel
theorem dX4_follow_56 : decode cX4_follow 56 = .ok (.ireturn, 1) := by decide +kernel
theorem dX4_follow_57 : decode cX4_follow 57 = .ok (.aload_n 0, 1) := by decide +kernel
theorem dX4_follow_58 : decode cX4_follow 58 = .ok (.getfield 10, 3) := by decide +kernel
theorem dX4_follow_61 : decode cX4_follow 61 = .ok (.iload_n 2, 1) := by decide +kernel
theorem dX4_follow_62 : decode cX4_follow 62 = .ok (.invokevirtual 106, 3) := by decide +kernel
theorem dX4_follow_65 : decode cX4_follow 65 = .ok (.iconst 1, 1) := by decide +kernel
theorem dX4_follow_66 : decode cX4_follow 66 = .ok (.ireturn, 1) := by decide +kernel
theorem dX4_numberOf_0 : decode cX4_numberOf 0 = .ok (.iload_n 1, 1) := by decide +kernel
theorem dX4_numberOf_1 : decode cX4_numberOf 1 = .ok (.tableswitch 118 0 8 #[51, 59, 67, 75, 80, 85, 97, 102, 110], 51) := by decide +kernel
theorem dX4_numberOf_52 : decode cX4_numberOf 52 = .ok (.aload_n 0, 1) := by decide +kernel
theorem dX4_numberOf_53 : decode cX4_numberOf 53 = .ok (.getfield 10, 3) := by decide +kernel
theorem dX4_numberOf_56 : decode cX4_numberOf 56 = .ok (.getfield 231, 3) := by decide +kernel
theorem dX4_numberOf_59 : decode cX4_numberOf 59 = .ok (.ireturn, 1) := by decide +kernel
theorem dX4_numberOf_60 : decode cX4_numberOf 60 = .ok (.aload_n 0, 1) := by decide +kernel
theorem dX4_numberOf_61 : decode cX4_numberOf 61 = .ok (.getfield 19, 3) := by decide +kernel
theorem dX4_numberOf_64 : decode cX4_numberOf 64 = .ok (.getfield 113, 3) := by decide +kernel
theorem dX4_numberOf_67 : decode cX4_numberOf 67 = .ok (.ireturn, 1) := by decide +kernel
theorem dX4_numberOf_68 : decode cX4_numberOf 68 = .ok (.aload_n 0, 1) := by decide +kernel
theorem dX4_numberOf_69 : decode cX4_numberOf 69 = .ok (.getfield 19, 3) := by decide +kernel
theorem dX4_numberOf_72 : decode cX4_numberOf 72 = .ok (.getfield 234, 3) := by decide +kernel
theorem dX4_numberOf_75 : decode cX4_numberOf 75 = .ok (.ireturn, 1) := by decide +kernel
theorem dX4_numberOf_76 : decode cX4_numberOf 76 = .ok (.aload_n 0, 1) := by decide +kernel
theorem dX4_numberOf_77 : decode cX4_numberOf 77 = .ok (.invokevirtual 301, 3) := by decide +kernel
theorem dX4_numberOf_80 : decode cX4_numberOf 80 = .ok (.ireturn, 1) := by decide +kernel
theorem dX4_numberOf_81 : decode cX4_numberOf 81 = .ok (.aload_n 0, 1) := by decide +kernel
theorem dX4_numberOf_82 : decode cX4_numberOf 82 = .ok (.invokevirtual 304, 3) := by decide +kernel
theorem dX4_numberOf_85 : decode cX4_numberOf 85 = .ok (.ireturn, 1) := by decide +kernel
theorem dX4_numberOf_86 : decode cX4_numberOf 86 = .ok (.aload_n 0, 1) := by decide +kernel
theorem dX4_numberOf_87 : decode cX4_numberOf 87 = .ok (.getfield 10, 3) := by decide +kernel
theorem dX4_numberOf_90 : decode cX4_numberOf 90 = .ok (.aload_n 0, 1) := by decide +kernel
theorem dX4_numberOf_91 : decode cX4_numberOf 91 = .ok (.getfield 19, 3) := by decide +kernel
theorem dX4_numberOf_94 : decode cX4_numberOf 94 = .ok (.invokestatic 307, 3) := by decide +kernel
theorem dX4_numberOf_97 : decode cX4_numberOf 97 = .ok (.ireturn, 1) := by decide +kernel
theorem dX4_numberOf_98 : decode cX4_numberOf 98 = .ok (.aload_n 0, 1) := by decide +kernel
theorem dX4_numberOf_99 : decode cX4_numberOf 99 = .ok (.invokevirtual 310, 3) := by decide +kernel
theorem dX4_numberOf_102 : decode cX4_numberOf 102 = .ok (.ireturn, 1) := by decide +kernel
theorem dX4_numberOf_103 : decode cX4_numberOf 103 = .ok (.aload_n 0, 1) := by decide +kernel
theorem dX4_numberOf_104 : decode cX4_numberOf 104 = .ok (.getfield 10, 3) := by decide +kernel
theorem dX4_numberOf_107 : decode cX4_numberOf 107 = .ok (.getfield 313, 3) := by decide +kernel
theorem dX4_numberOf_110 : decode cX4_numberOf 110 = .ok (.ireturn, 1) := by decide +kernel
theorem dX4_numberOf_111 : decode cX4_numberOf 111 = .ok (.aload_n 0, 1) := by decide +kernel
theorem dX4_numberOf_112 : decode cX4_numberOf 112 = .ok (.getfield 10, 3) := by decide +kernel
theorem dX4_numberOf_115 : decode cX4_numberOf 115 = .ok (.getfield 316, 3) := by decide +kernel
theorem dX4_numberOf_118 : decode cX4_numberOf 118 = .ok (.ireturn, 1) := by decide +kernel
theorem dX4_numberOf_119 : decode cX4_numberOf 119 = .ok (.aload_n 0, 1) := by decide +kernel
theorem dX4_numberOf_120 : decode cX4_numberOf 120 = .ok (.getfield 27, 3) := by decide +kernel
theorem dX4_numberOf_123 : decode cX4_numberOf 123 = .ok (.ireturn, 1) := by decide +kernel
theorem dX4_blocksWithValues_0 : decode cX4_blocksWithValues 0 = .ok (.iconst 0, 1) := by decide +kernel
theorem dX4_blocksWithValues_1 : decode cX4_blocksWithValues 1 = .ok (.istore_n 1, 1) := by decide +kernel
theorem dX4_blocksWithValues_2 : decode cX4_blocksWithValues 2 = .ok (.iconst 0, 1) := by decide +kernel
theorem dX4_blocksWithValues_3 : decode cX4_blocksWithValues 3 = .ok (.istore_n 2, 1) := by decide +kernel
theorem dX4_blocksWithValues_4 : decode cX4_blocksWithValues 4 = .ok (.iload_n 2, 1) := by decide +kernel
theorem dX4_blocksWithValues_5 : decode cX4_blocksWithValues 5 = .ok (.sipush 480, 3) := by decide +kernel
theorem dX4_blocksWithValues_8 : decode cX4_blocksWithValues 8 = .ok (.if_icmp .ge 24, 3) := by decide +kernel
theorem dX4_blocksWithValues_11 : decode cX4_blocksWithValues 11 = .ok (.aload_n 0, 1) := by decide +kernel
theorem dX4_blocksWithValues_12 : decode cX4_blocksWithValues 12 = .ok (.getfield 10, 3) := by decide +kernel
theorem dX4_blocksWithValues_15 : decode cX4_blocksWithValues 15 = .ok (.iload_n 2, 1) := by decide +kernel
theorem dX4_blocksWithValues_16 : decode cX4_blocksWithValues 16 = .ok (.invokevirtual 83, 3) := by decide +kernel
theorem dX4_blocksWithValues_19 : decode cX4_blocksWithValues 19 = .ok (.iconst (-1), 1) := by decide +kernel
theorem dX4_blocksWithValues_20 : decode cX4_blocksWithValues 20 = .ok (.if_icmp .eq 6, 3) := by decide +kernel
theorem dX4_blocksWithValues_23 : decode cX4_blocksWithValues 23 = .ok (.iinc 1 1, 3) := by decide +kernel
theorem dX4_blocksWithValues_26 : decode cX4_blocksWithValues 26 = .ok (.iinc 2 1, 3) := by decide +kernel
theorem dX4_blocksWithValues_29 : decode cX4_blocksWithValues 29 = .ok (.goto (-25), 3) := by decide +kernel
theorem dX4_blocksWithValues_32 : decode cX4_blocksWithValues 32 = .ok (.iload_n 1, 1) := by decide +kernel
theorem dX4_blocksWithValues_33 : decode cX4_blocksWithValues 33 = .ok (.ireturn, 1) := by decide +kernel
theorem dX4_blocksInSpares_0 : decode cX4_blocksInSpares 0 = .ok (.iconst 0, 1) := by decide +kernel
theorem dX4_blocksInSpares_1 : decode cX4_blocksInSpares 1 = .ok (.istore_n 1, 1) := by decide +kernel
theorem dX4_blocksInSpares_2 : decode cX4_blocksInSpares 2 = .ok (.sipush 480, 3) := by decide +kernel
theorem dX4_blocksInSpares_5 : decode cX4_blocksInSpares 5 = .ok (.istore_n 2, 1) := by decide +kernel
theorem dX4_blocksInSpares_6 : decode cX4_blocksInSpares 6 = .ok (.iload_n 2, 1) := by decide +kernel
theorem dX4_blocksInSpares_7 : decode cX4_blocksInSpares 7 = .ok (.sipush 576, 3) := by decide +kernel
theorem dX4_blocksInSpares_10 : decode cX4_blocksInSpares 10 = .ok (.if_icmp .ge 24, 3) := by decide +kernel
theorem dX4_blocksInSpares_13 : decode cX4_blocksInSpares 13 = .ok (.aload_n 0, 1) := by decide +kernel
theorem dX4_blocksInSpares_14 : decode cX4_blocksInSpares 14 = .ok (.getfield 10, 3) := by decide +kernel
theorem dX4_blocksInSpares_17 : decode cX4_blocksInSpares 17 = .ok (.iload_n 2, 1) := by decide +kernel
theorem dX4_blocksInSpares_18 : decode cX4_blocksInSpares 18 = .ok (.invokevirtual 194, 3) := by decide +kernel
theorem dX4_blocksInSpares_21 : decode cX4_blocksInSpares 21 = .ok (.iconst (-1), 1) := by decide +kernel
theorem dX4_blocksInSpares_22 : decode cX4_blocksInSpares 22 = .ok (.if_icmp .eq 6, 3) := by decide +kernel
theorem dX4_blocksInSpares_25 : decode cX4_blocksInSpares 25 = .ok (.iinc 1 1, 3) := by decide +kernel
theorem dX4_blocksInSpares_28 : decode cX4_blocksInSpares 28 = .ok (.iinc 2 1, 3) := by decide +kernel
theorem dX4_blocksInSpares_31 : decode cX4_blocksInSpares 31 = .ok (.goto (-25), 3) := by decide +kernel
theorem dX4_blocksInSpares_34 : decode cX4_blocksInSpares 34 = .ok (.iload_n 1, 1) := by decide +kernel
theorem dX4_blocksInSpares_35 : decode cX4_blocksInSpares 35 = .ok (.ireturn, 1) := by decide +kernel
theorem dX4_blocksInBadCells_0 : decode cX4_blocksInBadCells 0 = .ok (.iconst 0, 1) := by decide +kernel
theorem dX4_blocksInBadCells_1 : decode cX4_blocksInBadCells 1 = .ok (.istore_n 2, 1) := by decide +kernel
theorem dX4_blocksInBadCells_2 : decode cX4_blocksInBadCells 2 = .ok (.iconst 0, 1) := by decide +kernel
theorem dX4_blocksInBadCells_3 : decode cX4_blocksInBadCells 3 = .ok (.istore_n 3, 1) := by decide +kernel
theorem dX4_blocksInBadCells_4 : decode cX4_blocksInBadCells 4 = .ok (.iload_n 3, 1) := by decide +kernel
theorem dX4_blocksInBadCells_5 : decode cX4_blocksInBadCells 5 = .ok (.sipush 576, 3) := by decide +kernel
theorem dX4_blocksInBadCells_8 : decode cX4_blocksInBadCells 8 = .ok (.if_icmp .ge 29, 3) := by decide +kernel
theorem dX4_blocksInBadCells_11 : decode cX4_blocksInBadCells 11 = .ok (.aload_n 0, 1) := by decide +kernel
theorem dX4_blocksInBadCells_12 : decode cX4_blocksInBadCells 12 = .ok (.iload_n 3, 1) := by decide +kernel
theorem dX4_blocksInBadCells_13 : decode cX4_blocksInBadCells 13 = .ok (.invokevirtual 194, 3) := by decide +kernel
theorem dX4_blocksInBadCells_16 : decode cX4_blocksInBadCells 16 = .ok (.iconst (-1), 1) := by decide +kernel
theorem dX4_blocksInBadCells_17 : decode cX4_blocksInBadCells 17 = .ok (.if_icmp .eq 14, 3) := by decide +kernel
theorem dX4_blocksInBadCells_20 : decode cX4_blocksInBadCells 20 = .ok (.aload_n 1, 1) := by decide +kernel
theorem dX4_blocksInBadCells_21 : decode cX4_blocksInBadCells 21 = .ok (.iload_n 3, 1) := by decide +kernel
theorem dX4_blocksInBadCells_22 : decode cX4_blocksInBadCells 22 = .ok (.invokevirtual 285, 3) := by decide +kernel
theorem dX4_blocksInBadCells_25 : decode cX4_blocksInBadCells 25 = .ok (.ifCond .ne 6, 3) := by decide +kernel
theorem dX4_blocksInBadCells_28 : decode cX4_blocksInBadCells 28 = .ok (.iinc 2 1, 3) := by decide +kernel
theorem dX4_blocksInBadCells_31 : decode cX4_blocksInBadCells 31 = .ok (.iinc 3 1, 3) := by decide +kernel
theorem dX4_blocksInBadCells_34 : decode cX4_blocksInBadCells 34 = .ok (.goto (-30), 3) := by decide +kernel
theorem dX4_blocksInBadCells_37 : decode cX4_blocksInBadCells 37 = .ok (.iload_n 2, 1) := by decide +kernel
theorem dX4_blocksInBadCells_38 : decode cX4_blocksInBadCells 38 = .ok (.ireturn, 1) := by decide +kernel
theorem dX4_freeSpares_0 : decode cX4_freeSpares 0 = .ok (.iconst 0, 1) := by decide +kernel
theorem dX4_freeSpares_1 : decode cX4_freeSpares 1 = .ok (.istore_n 1, 1) := by decide +kernel
theorem dX4_freeSpares_2 : decode cX4_freeSpares 2 = .ok (.sipush 480, 3) := by decide +kernel
theorem dX4_freeSpares_5 : decode cX4_freeSpares 5 = .ok (.istore_n 2, 1) := by decide +kernel
theorem dX4_freeSpares_6 : decode cX4_freeSpares 6 = .ok (.iload_n 2, 1) := by decide +kernel
theorem dX4_freeSpares_7 : decode cX4_freeSpares 7 = .ok (.sipush 576, 3) := by decide +kernel
theorem dX4_freeSpares_10 : decode cX4_freeSpares 10 = .ok (.if_icmp .ge 35, 3) := by decide +kernel
theorem dX4_freeSpares_13 : decode cX4_freeSpares 13 = .ok (.aload_n 0, 1) := by decide +kernel
theorem dX4_freeSpares_14 : decode cX4_freeSpares 14 = .ok (.getfield 19, 3) := by decide +kernel
theorem dX4_freeSpares_17 : decode cX4_freeSpares 17 = .ok (.iload_n 2, 1) := by decide +kernel
theorem dX4_freeSpares_18 : decode cX4_freeSpares 18 = .ok (.invokevirtual 285, 3) := by decide +kernel
theorem dX4_freeSpares_21 : decode cX4_freeSpares 21 = .ok (.ifCond .eq 18, 3) := by decide +kernel
theorem dX4_freeSpares_24 : decode cX4_freeSpares 24 = .ok (.aload_n 0, 1) := by decide +kernel
theorem dX4_freeSpares_25 : decode cX4_freeSpares 25 = .ok (.getfield 10, 3) := by decide +kernel
theorem dX4_freeSpares_28 : decode cX4_freeSpares 28 = .ok (.iload_n 2, 1) := by decide +kernel
theorem dX4_freeSpares_29 : decode cX4_freeSpares 29 = .ok (.invokevirtual 194, 3) := by decide +kernel
theorem dX4_freeSpares_32 : decode cX4_freeSpares 32 = .ok (.iconst (-1), 1) := by decide +kernel
theorem dX4_freeSpares_33 : decode cX4_freeSpares 33 = .ok (.if_icmp .ne 6, 3) := by decide +kernel
theorem dX4_freeSpares_36 : decode cX4_freeSpares 36 = .ok (.iinc 1 1, 3) := by decide +kernel
theorem dX4_freeSpares_39 : decode cX4_freeSpares 39 = .ok (.iinc 2 1, 3) := by decide +kernel
theorem dX4_freeSpares_42 : decode cX4_freeSpares 42 = .ok (.goto (-36), 3) := by decide +kernel
theorem dX4_freeSpares_45 : decode cX4_freeSpares 45 = .ok (.iload_n 1, 1) := by decide +kernel
theorem dX4_freeSpares_46 : decode cX4_freeSpares 46 = .ok (.ireturn, 1) := by decide +kernel
theorem dX4_lineProperty_0 : decode cX4_lineProperty 0 = .ok (.iload_n 2, 1) := by decide +kernel
theorem dX4_lineProperty_1 : decode cX4_lineProperty 1 = .ok (.tableswitch 64 0 4 #[35, 40, 48, 53, 59], 35) := by decide +kernel
theorem dX4_lineProperty_36 : decode cX4_lineProperty 36 = .ok (.aload_n 1, 1) := by decide +kernel
theorem dX4_lineProperty_37 : decode cX4_lineProperty 37 = .ok (.getfield 319, 3) := by decide +kernel
theorem dX4_lineProperty_40 : decode cX4_lineProperty 40 = .ok (.ireturn, 1) := by decide +kernel
theorem dX4_lineProperty_41 : decode cX4_lineProperty 41 = .ok (.aload_n 1, 1) := by decide +kernel
theorem dX4_lineProperty_42 : decode cX4_lineProperty 42 = .ok (.getfield 319, 3) := by decide +kernel
theorem dX4_lineProperty_45 : decode cX4_lineProperty 45 = .ok (.invokestatic 324, 3) := by decide +kernel
theorem dX4_lineProperty_48 : decode cX4_lineProperty 48 = .ok (.ireturn, 1) := by decide +kernel
theorem dX4_lineProperty_49 : decode cX4_lineProperty 49 = .ok (.aload_n 1, 1) := by decide +kernel
theorem dX4_lineProperty_50 : decode cX4_lineProperty 50 = .ok (.getfield 329, 3) := by decide +kernel
theorem dX4_lineProperty_53 : decode cX4_lineProperty 53 = .ok (.ireturn, 1) := by decide +kernel
theorem dX4_lineProperty_54 : decode cX4_lineProperty 54 = .ok (.aload_n 0, 1) := by decide +kernel
theorem dX4_lineProperty_55 : decode cX4_lineProperty 55 = .ok (.aload_n 1, 1) := by decide +kernel
theorem dX4_lineProperty_56 : decode cX4_lineProperty 56 = .ok (.invokevirtual 332, 3) := by decide +kernel
theorem dX4_lineProperty_59 : decode cX4_lineProperty 59 = .ok (.ireturn, 1) := by decide +kernel
theorem dX4_lineProperty_60 : decode cX4_lineProperty 60 = .ok (.aload_n 1, 1) := by decide +kernel
theorem dX4_lineProperty_61 : decode cX4_lineProperty 61 = .ok (.getfield 336, 3) := by decide +kernel
theorem dX4_lineProperty_64 : decode cX4_lineProperty 64 = .ok (.ireturn, 1) := by decide +kernel
theorem dX4_lineProperty_65 : decode cX4_lineProperty 65 = .ok (.aload_n 1, 1) := by decide +kernel
theorem dX4_lineProperty_66 : decode cX4_lineProperty 66 = .ok (.getfield 339, 3) := by decide +kernel
theorem dX4_lineProperty_69 : decode cX4_lineProperty 69 = .ok (.bipush 24, 2) := by decide +kernel
theorem dX4_lineProperty_71 : decode cX4_lineProperty 71 = .ok (.iadd, 1) := by decide +kernel
theorem dX4_lineProperty_72 : decode cX4_lineProperty 72 = .ok (.ireturn, 1) := by decide +kernel
theorem dX4_takenCellsToAvoid_0 : decode cX4_takenCellsToAvoid 0 = .ok (.iconst 0, 1) := by decide +kernel
theorem dX4_takenCellsToAvoid_1 : decode cX4_takenCellsToAvoid 1 = .ok (.istore_n 2, 1) := by decide +kernel
theorem dX4_takenCellsToAvoid_2 : decode cX4_takenCellsToAvoid 2 = .ok (.iconst 0, 1) := by decide +kernel
theorem dX4_takenCellsToAvoid_3 : decode cX4_takenCellsToAvoid 3 = .ok (.istore_n 3, 1) := by decide +kernel
theorem dX4_takenCellsToAvoid_4 : decode cX4_takenCellsToAvoid 4 = .ok (.iload_n 3, 1) := by decide +kernel
theorem dX4_takenCellsToAvoid_5 : decode cX4_takenCellsToAvoid 5 = .ok (.aload_n 1, 1) := by decide +kernel
theorem dX4_takenCellsToAvoid_6 : decode cX4_takenCellsToAvoid 6 = .ok (.getfield 329, 3) := by decide +kernel
theorem dX4_takenCellsToAvoid_9 : decode cX4_takenCellsToAvoid 9 = .ok (.if_icmp .ge 44, 3) := by decide +kernel
theorem dX4_takenCellsToAvoid_12 : decode cX4_takenCellsToAvoid 12 = .ok (.aload_n 1, 1) := by decide +kernel
theorem dX4_takenCellsToAvoid_13 : decode cX4_takenCellsToAvoid 13 = .ok (.iload_n 3, 1) := by decide +kernel
theorem dX4_takenCellsToAvoid_14 : decode cX4_takenCellsToAvoid 14 = .ok (.invokevirtual 342, 3) := by decide +kernel
theorem dX4_takenCellsToAvoid_17 : decode cX4_takenCellsToAvoid 17 = .ok (.istore 4, 2) := by decide +kernel
theorem dX4_takenCellsToAvoid_19 : decode cX4_takenCellsToAvoid 19 = .ok (.aload_n 0, 1) := by decide +kernel
theorem dX4_takenCellsToAvoid_20 : decode cX4_takenCellsToAvoid 20 = .ok (.getfield 19, 3) := by decide +kernel
theorem dX4_takenCellsToAvoid_23 : decode cX4_takenCellsToAvoid 23 = .ok (.iload 4, 2) := by decide +kernel
theorem dX4_takenCellsToAvoid_25 : decode cX4_takenCellsToAvoid 25 = .ok (.invokevirtual 191, 3) := by decide +kernel
theorem dX4_takenCellsToAvoid_28 : decode cX4_takenCellsToAvoid 28 = .ok (.ifCond .eq 19, 3) := by decide +kernel
theorem dX4_takenCellsToAvoid_31 : decode cX4_takenCellsToAvoid 31 = .ok (.aload_n 0, 1) := by decide +kernel
theorem dX4_takenCellsToAvoid_32 : decode cX4_takenCellsToAvoid 32 = .ok (.getfield 10, 3) := by decide +kernel
theorem dX4_takenCellsToAvoid_35 : decode cX4_takenCellsToAvoid 35 = .ok (.iload 4, 2) := by decide +kernel
theorem dX4_takenCellsToAvoid_37 : decode cX4_takenCellsToAvoid 37 = .ok (.invokevirtual 194, 3) := by decide +kernel
theorem dX4_takenCellsToAvoid_40 : decode cX4_takenCellsToAvoid 40 = .ok (.iconst (-1), 1) := by decide +kernel
theorem dX4_takenCellsToAvoid_41 : decode cX4_takenCellsToAvoid 41 = .ok (.if_icmp .eq 6, 3) := by decide +kernel
theorem dX4_takenCellsToAvoid_44 : decode cX4_takenCellsToAvoid 44 = .ok (.iinc 2 1, 3) := by decide +kernel
theorem dX4_takenCellsToAvoid_47 : decode cX4_takenCellsToAvoid 47 = .ok (.iinc 3 1, 3) := by decide +kernel
theorem dX4_takenCellsToAvoid_50 : decode cX4_takenCellsToAvoid 50 = .ok (.goto (-46), 3) := by decide +kernel
theorem dX4_takenCellsToAvoid_53 : decode cX4_takenCellsToAvoid 53 = .ok (.iload_n 2, 1) := by decide +kernel
theorem dX4_takenCellsToAvoid_54 : decode cX4_takenCellsToAvoid 54 = .ok (.ireturn, 1) := by decide +kernel
theorem dX4_tryFailing_0 : decode cX4_tryFailing 0 = .ok (.aload_n 0, 1) := by decide +kernel
theorem dX4_tryFailing_1 : decode cX4_tryFailing 1 = .ok (.getfield 10, 3) := by decide +kernel
theorem dX4_tryFailing_4 : decode cX4_tryFailing 4 = .ok (.iload_n 1, 1) := by decide +kernel
theorem dX4_tryFailing_5 : decode cX4_tryFailing 5 = .ok (.invokevirtual 101, 3) := by decide +kernel
theorem dX4_tryFailing_8 : decode cX4_tryFailing 8 = .ok (.ifCond .ne 5, 3) := by decide +kernel
theorem dX4_tryFailing_11 : decode cX4_tryFailing 11 = .ok (.iconst 0, 1) := by decide +kernel
theorem dX4_tryFailing_12 : decode cX4_tryFailing 12 = .ok (.ireturn, 1) := by decide +kernel
theorem dX4_tryFailing_13 : decode cX4_tryFailing 13 = .ok (.aload_n 0, 1) := by decide +kernel
theorem dX4_tryFailing_14 : decode cX4_tryFailing 14 = .ok (.getfield 38, 3) := by decide +kernel
theorem dX4_tryFailing_17 : decode cX4_tryFailing 17 = .ok (.aload_n 0, 1) := by decide +kernel
theorem dX4_tryFailing_18 : decode cX4_tryFailing 18 = .ok (.getfield 10, 3) := by decide +kernel
theorem dX4_tryFailing_21 : decode cX4_tryFailing 21 = .ok (.invokevirtual 183, 3) := by decide +kernel
theorem dX4_tryFailing_24 : decode cX4_tryFailing 24 = .ok (.aload_n 0, 1) := by decide +kernel
theorem dX4_tryFailing_25 : decode cX4_tryFailing 25 = .ok (.getfield 38, 3) := by decide +kernel
theorem dX4_tryFailing_28 : decode cX4_tryFailing 28 = .ok (.iload_n 1, 1) := by decide +kernel
theorem dX4_tryFailing_29 : decode cX4_tryFailing 29 = .ok (.invokevirtual 106, 3) := by decide +kernel
theorem dX4_tryFailing_32 : decode cX4_tryFailing 32 = .ok (.aload_n 0, 1) := by decide +kernel
theorem dX4_tryFailing_33 : decode cX4_tryFailing 33 = .ok (.getfield 41, 3) := by decide +kernel
theorem dX4_tryFailing_36 : decode cX4_tryFailing 36 = .ok (.aload_n 0, 1) := by decide +kernel
theorem dX4_tryFailing_37 : decode cX4_tryFailing 37 = .ok (.getfield 38, 3) := by decide +kernel
theorem dX4_tryFailing_40 : decode cX4_tryFailing 40 = .ok (.invokevirtual 109, 3) := by decide +kernel
theorem dX4_tryFailing_43 : decode cX4_tryFailing 43 = .ok (.iconst 1, 1) := by decide +kernel
theorem dX4_tryFailing_44 : decode cX4_tryFailing 44 = .ok (.ireturn, 1) := by decide +kernel
theorem dX4_forecast_0 : decode cX4_forecast 0 = .ok (.iload_n 1, 1) := by decide +kernel
theorem dX4_forecast_1 : decode cX4_forecast 1 = .ok (.tableswitch 59 0 2 #[27, 35, 43], 27) := by decide +kernel
theorem dX4_forecast_28 : decode cX4_forecast 28 = .ok (.aload_n 0, 1) := by decide +kernel
theorem dX4_forecast_29 : decode cX4_forecast 29 = .ok (.getfield 41, 3) := by decide +kernel
theorem dX4_forecast_32 : decode cX4_forecast 32 = .ok (.getfield 113, 3) := by decide +kernel
theorem dX4_forecast_35 : decode cX4_forecast 35 = .ok (.ireturn, 1) := by decide +kernel
theorem dX4_forecast_36 : decode cX4_forecast 36 = .ok (.aload_n 0, 1) := by decide +kernel
theorem dX4_forecast_37 : decode cX4_forecast 37 = .ok (.getfield 41, 3) := by decide +kernel
theorem dX4_forecast_40 : decode cX4_forecast 40 = .ok (.getfield 234, 3) := by decide +kernel
theorem dX4_forecast_43 : decode cX4_forecast 43 = .ok (.ireturn, 1) := by decide +kernel
theorem dX4_forecast_44 : decode cX4_forecast 44 = .ok (.aload_n 0, 1) := by decide +kernel
theorem dX4_forecast_45 : decode cX4_forecast 45 = .ok (.getfield 38, 3) := by decide +kernel
theorem dX4_forecast_48 : decode cX4_forecast 48 = .ok (.getfield 313, 3) := by decide +kernel
theorem dX4_forecast_51 : decode cX4_forecast 51 = .ok (.aload_n 0, 1) := by decide +kernel
theorem dX4_forecast_52 : decode cX4_forecast 52 = .ok (.getfield 10, 3) := by decide +kernel
theorem dX4_forecast_55 : decode cX4_forecast 55 = .ok (.getfield 313, 3) := by decide +kernel
theorem dX4_forecast_58 : decode cX4_forecast 58 = .ok (.isub, 1) := by decide +kernel
theorem dX4_forecast_59 : decode cX4_forecast 59 = .ok (.ireturn, 1) := by decide +kernel
theorem dX4_forecast_60 : decode cX4_forecast 60 = .ok (.aload_n 0, 1) := by decide +kernel
theorem dX4_forecast_61 : decode cX4_forecast 61 = .ok (.getfield 38, 3) := by decide +kernel
theorem dX4_forecast_64 : decode cX4_forecast 64 = .ok (.aload_n 0, 1) := by decide +kernel
theorem dX4_forecast_65 : decode cX4_forecast 65 = .ok (.getfield 41, 3) := by decide +kernel
theorem dX4_forecast_68 : decode cX4_forecast 68 = .ok (.invokestatic 307, 3) := by decide +kernel
theorem dX4_forecast_71 : decode cX4_forecast 71 = .ok (.ireturn, 1) := by decide +kernel
theorem dX4_mix_0 : decode cX4_mix 0 = .ok (.ldc2_w 345, 3) := by decide +kernel
theorem dX4_mix_3 : decode cX4_mix 3 = .ok (.lload_n 0, 1) := by decide +kernel
theorem dX4_mix_4 : decode cX4_mix 4 = .ok (.lmul, 1) := by decide +kernel
theorem dX4_mix_5 : decode cX4_mix 5 = .ok (.lload_n 2, 1) := by decide +kernel
theorem dX4_mix_6 : decode cX4_mix 6 = .ok (.ladd, 1) := by decide +kernel
theorem dX4_mix_7 : decode cX4_mix 7 = .ok (.lreturn, 1) := by decide +kernel
theorem dX4_hashSpotsAndLines_0 : decode cX4_hashSpotsAndLines 0 = .ok (.lload_n 1, 1) := by decide +kernel
theorem dX4_hashSpotsAndLines_1 : decode cX4_hashSpotsAndLines 1 = .ok (.lstore_n 3, 1) := by decide +kernel
theorem dX4_hashSpotsAndLines_2 : decode cX4_hashSpotsAndLines 2 = .ok (.iconst 0, 1) := by decide +kernel
theorem dX4_hashSpotsAndLines_3 : decode cX4_hashSpotsAndLines 3 = .ok (.istore 5, 2) := by decide +kernel
theorem dX4_hashSpotsAndLines_5 : decode cX4_hashSpotsAndLines 5 = .ok (.iload 5, 2) := by decide +kernel
theorem dX4_hashSpotsAndLines_7 : decode cX4_hashSpotsAndLines 7 = .ok (.aload_n 0, 1) := by decide +kernel
theorem dX4_hashSpotsAndLines_8 : decode cX4_hashSpotsAndLines 8 = .ok (.getfield 10, 3) := by decide +kernel
theorem dX4_hashSpotsAndLines_11 : decode cX4_hashSpotsAndLines 11 = .ok (.getfield 231, 3) := by decide +kernel
theorem dX4_hashSpotsAndLines_14 : decode cX4_hashSpotsAndLines 14 = .ok (.if_icmp .ge 24, 3) := by decide +kernel
theorem dX4_hashSpotsAndLines_17 : decode cX4_hashSpotsAndLines 17 = .ok (.lload_n 3, 1) := by decide +kernel
theorem dX4_hashSpotsAndLines_18 : decode cX4_hashSpotsAndLines 18 = .ok (.aload_n 0, 1) := by decide +kernel
theorem dX4_hashSpotsAndLines_19 : decode cX4_hashSpotsAndLines 19 = .ok (.getfield 10, 3) := by decide +kernel
theorem dX4_hashSpotsAndLines_22 : decode cX4_hashSpotsAndLines 22 = .ok (.iload 5, 2) := by decide +kernel
theorem dX4_hashSpotsAndLines_24 : decode cX4_hashSpotsAndLines 24 = .ok (.invokevirtual 347, 3) := by decide +kernel
theorem dX4_hashSpotsAndLines_27 : decode cX4_hashSpotsAndLines 27 = .ok (.i2l, 1) := by decide +kernel
theorem dX4_hashSpotsAndLines_28 : decode cX4_hashSpotsAndLines 28 = .ok (.invokestatic 241, 3) := by decide +kernel
theorem dX4_hashSpotsAndLines_31 : decode cX4_hashSpotsAndLines 31 = .ok (.lstore_n 3, 1) := by decide +kernel
theorem dX4_hashSpotsAndLines_32 : decode cX4_hashSpotsAndLines 32 = .ok (.iinc 5 1, 3) := by decide +kernel
theorem dX4_hashSpotsAndLines_35 : decode cX4_hashSpotsAndLines 35 = .ok (.goto (-30), 3) := by decide +kernel
theorem dX4_hashSpotsAndLines_38 : decode cX4_hashSpotsAndLines 38 = .ok (.iconst 0, 1) := by decide +kernel
theorem dX4_hashSpotsAndLines_39 : decode cX4_hashSpotsAndLines 39 = .ok (.istore 5, 2) := by decide +kernel
theorem dX4_hashSpotsAndLines_41 : decode cX4_hashSpotsAndLines 41 = .ok (.iload 5, 2) := by decide +kernel
theorem dX4_hashSpotsAndLines_43 : decode cX4_hashSpotsAndLines 43 = .ok (.aload_n 0, 1) := by decide +kernel
theorem dX4_hashSpotsAndLines_44 : decode cX4_hashSpotsAndLines 44 = .ok (.getfield 19, 3) := by decide +kernel
theorem dX4_hashSpotsAndLines_47 : decode cX4_hashSpotsAndLines 47 = .ok (.getfield 113, 3) := by decide +kernel
theorem dX4_hashSpotsAndLines_50 : decode cX4_hashSpotsAndLines 50 = .ok (.if_icmp .ge 55, 3) := by decide +kernel
theorem dX4_hashSpotsAndLines_53 : decode cX4_hashSpotsAndLines 53 = .ok (.aload_n 0, 1) := by decide +kernel
theorem dX4_hashSpotsAndLines_54 : decode cX4_hashSpotsAndLines 54 = .ok (.getfield 19, 3) := by decide +kernel
theorem dX4_hashSpotsAndLines_57 : decode cX4_hashSpotsAndLines 57 = .ok (.iload 5, 2) := by decide +kernel
theorem dX4_hashSpotsAndLines_59 : decode cX4_hashSpotsAndLines 59 = .ok (.invokevirtual 208, 3) := by decide +kernel
theorem dX4_hashSpotsAndLines_62 : decode cX4_hashSpotsAndLines 62 = .ok (.astore 6, 2) := by decide +kernel
theorem dX4_hashSpotsAndLines_64 : decode cX4_hashSpotsAndLines 64 = .ok (.iconst 0, 1) := by decide +kernel
theorem dX4_hashSpotsAndLines_65 : decode cX4_hashSpotsAndLines 65 = .ok (.istore 7, 2) := by decide +kernel
theorem dX4_hashSpotsAndLines_67 : decode cX4_hashSpotsAndLines 67 = .ok (.aload 6, 2) := by decide +kernel
theorem dX4_hashSpotsAndLines_69 : decode cX4_hashSpotsAndLines 69 = .ok (.ifnull 30, 3) := by decide +kernel
theorem dX4_hashSpotsAndLines_72 : decode cX4_hashSpotsAndLines 72 = .ok (.iload 7, 2) := by decide +kernel
theorem dX4_hashSpotsAndLines_74 : decode cX4_hashSpotsAndLines 74 = .ok (.bipush 6, 2) := by decide +kernel
theorem dX4_hashSpotsAndLines_76 : decode cX4_hashSpotsAndLines 76 = .ok (.if_icmp .ge 23, 3) := by decide +kernel
theorem dX4_hashSpotsAndLines_79 : decode cX4_hashSpotsAndLines 79 = .ok (.lload_n 3, 1) := by decide +kernel
theorem dX4_hashSpotsAndLines_80 : decode cX4_hashSpotsAndLines 80 = .ok (.aload_n 0, 1) := by decide +kernel
theorem dX4_hashSpotsAndLines_81 : decode cX4_hashSpotsAndLines 81 = .ok (.aload 6, 2) := by decide +kernel
theorem dX4_hashSpotsAndLines_83 : decode cX4_hashSpotsAndLines 83 = .ok (.iload 7, 2) := by decide +kernel
theorem dX4_hashSpotsAndLines_85 : decode cX4_hashSpotsAndLines 85 = .ok (.invokevirtual 216, 3) := by decide +kernel
theorem dX4_hashSpotsAndLines_88 : decode cX4_hashSpotsAndLines 88 = .ok (.i2l, 1) := by decide +kernel
theorem dX4_hashSpotsAndLines_89 : decode cX4_hashSpotsAndLines 89 = .ok (.invokestatic 241, 3) := by decide +kernel
theorem dX4_hashSpotsAndLines_92 : decode cX4_hashSpotsAndLines 92 = .ok (.lstore_n 3, 1) := by decide +kernel
theorem dX4_hashSpotsAndLines_93 : decode cX4_hashSpotsAndLines 93 = .ok (.iinc 7 1, 3) := by decide +kernel
theorem dX4_hashSpotsAndLines_96 : decode cX4_hashSpotsAndLines 96 = .ok (.goto (-29), 3) := by decide +kernel
theorem dX4_hashSpotsAndLines_99 : decode cX4_hashSpotsAndLines 99 = .ok (.iinc 5 1, 3) := by decide +kernel
theorem dX4_hashSpotsAndLines_102 : decode cX4_hashSpotsAndLines 102 = .ok (.goto (-61), 3) := by decide +kernel
theorem dX4_hashSpotsAndLines_105 : decode cX4_hashSpotsAndLines 105 = .ok (.lload_n 3, 1) := by decide +kernel
theorem dX4_hashSpotsAndLines_106 : decode cX4_hashSpotsAndLines 106 = .ok (.lreturn, 1) := by decide +kernel
theorem dX4_hashAvoidedCells_0 : decode cX4_hashAvoidedCells 0 = .ok (.lload_n 1, 1) := by decide +kernel
theorem dX4_hashAvoidedCells_1 : decode cX4_hashAvoidedCells 1 = .ok (.lstore_n 3, 1) := by decide +kernel
theorem dX4_hashAvoidedCells_2 : decode cX4_hashAvoidedCells 2 = .ok (.iconst 0, 1) := by decide +kernel
theorem dX4_hashAvoidedCells_3 : decode cX4_hashAvoidedCells 3 = .ok (.istore 5, 2) := by decide +kernel
theorem dX4_hashAvoidedCells_5 : decode cX4_hashAvoidedCells 5 = .ok (.iload 5, 2) := by decide +kernel
theorem dX4_hashAvoidedCells_7 : decode cX4_hashAvoidedCells 7 = .ok (.sipush 576, 3) := by decide +kernel
theorem dX4_hashAvoidedCells_10 : decode cX4_hashAvoidedCells 10 = .ok (.if_icmp .ge 42, 3) := by decide +kernel
theorem dX4_hashAvoidedCells_13 : decode cX4_hashAvoidedCells 13 = .ok (.aload_n 0, 1) := by decide +kernel
theorem dX4_hashAvoidedCells_14 : decode cX4_hashAvoidedCells 14 = .ok (.getfield 19, 3) := by decide +kernel
theorem dX4_hashAvoidedCells_17 : decode cX4_hashAvoidedCells 17 = .ok (.iload 5, 2) := by decide +kernel
theorem dX4_hashAvoidedCells_19 : decode cX4_hashAvoidedCells 19 = .ok (.invokevirtual 191, 3) := by decide +kernel
theorem dX4_hashAvoidedCells_22 : decode cX4_hashAvoidedCells 22 = .ok (.ifCond .eq 24, 3) := by decide +kernel
theorem dX4_hashAvoidedCells_25 : decode cX4_hashAvoidedCells 25 = .ok (.lload_n 3, 1) := by decide +kernel
theorem dX4_hashAvoidedCells_26 : decode cX4_hashAvoidedCells 26 = .ok (.iload 5, 2) := by decide +kernel
theorem dX4_hashAvoidedCells_28 : decode cX4_hashAvoidedCells 28 = .ok (.i2l, 1) := by decide +kernel
theorem dX4_hashAvoidedCells_29 : decode cX4_hashAvoidedCells 29 = .ok (.invokestatic 241, 3) := by decide +kernel
theorem dX4_hashAvoidedCells_32 : decode cX4_hashAvoidedCells 32 = .ok (.aload_n 0, 1) := by decide +kernel
theorem dX4_hashAvoidedCells_33 : decode cX4_hashAvoidedCells 33 = .ok (.getfield 19, 3) := by decide +kernel
theorem dX4_hashAvoidedCells_36 : decode cX4_hashAvoidedCells 36 = .ok (.iload 5, 2) := by decide +kernel
theorem dX4_hashAvoidedCells_38 : decode cX4_hashAvoidedCells 38 = .ok (.invokevirtual 197, 3) := by decide +kernel
theorem dX4_hashAvoidedCells_41 : decode cX4_hashAvoidedCells 41 = .ok (.i2l, 1) := by decide +kernel
theorem dX4_hashAvoidedCells_42 : decode cX4_hashAvoidedCells 42 = .ok (.invokestatic 241, 3) := by decide +kernel
theorem dX4_hashAvoidedCells_45 : decode cX4_hashAvoidedCells 45 = .ok (.lstore_n 3, 1) := by decide +kernel
theorem dX4_hashAvoidedCells_46 : decode cX4_hashAvoidedCells 46 = .ok (.iinc 5 1, 3) := by decide +kernel
theorem dX4_hashAvoidedCells_49 : decode cX4_hashAvoidedCells 49 = .ok (.goto (-44), 3) := by decide +kernel
theorem dX4_hashAvoidedCells_52 : decode cX4_hashAvoidedCells 52 = .ok (.lload_n 3, 1) := by decide +kernel
theorem dX4_hashAvoidedCells_53 : decode cX4_hashAvoidedCells 53 = .ok (.lreturn, 1) := by decide +kernel
theorem dX4_hashBlocks_0 : decode cX4_hashBlocks 0 = .ok (.lload_n 1, 1) := by decide +kernel
theorem dX4_hashBlocks_1 : decode cX4_hashBlocks 1 = .ok (.lstore_n 3, 1) := by decide +kernel
theorem dX4_hashBlocks_2 : decode cX4_hashBlocks 2 = .ok (.iconst 0, 1) := by decide +kernel
theorem dX4_hashBlocks_3 : decode cX4_hashBlocks 3 = .ok (.istore 5, 2) := by decide +kernel
theorem dX4_hashBlocks_5 : decode cX4_hashBlocks 5 = .ok (.iload 5, 2) := by decide +kernel
theorem dX4_hashBlocks_7 : decode cX4_hashBlocks 7 = .ok (.sipush 480, 3) := by decide +kernel
theorem dX4_hashBlocks_10 : decode cX4_hashBlocks 10 = .ok (.if_icmp .ge 56, 3) := by decide +kernel
theorem dX4_hashBlocks_13 : decode cX4_hashBlocks 13 = .ok (.aload_n 0, 1) := by decide +kernel
theorem dX4_hashBlocks_14 : decode cX4_hashBlocks 14 = .ok (.getfield 10, 3) := by decide +kernel
theorem dX4_hashBlocks_17 : decode cX4_hashBlocks 17 = .ok (.iload 5, 2) := by decide +kernel
theorem dX4_hashBlocks_19 : decode cX4_hashBlocks 19 = .ok (.invokevirtual 83, 3) := by decide +kernel
theorem dX4_hashBlocks_22 : decode cX4_hashBlocks 22 = .ok (.iconst (-1), 1) := by decide +kernel
theorem dX4_hashBlocks_23 : decode cX4_hashBlocks 23 = .ok (.if_icmp .eq 37, 3) := by decide +kernel
theorem dX4_hashBlocks_26 : decode cX4_hashBlocks 26 = .ok (.lload_n 3, 1) := by decide +kernel
theorem dX4_hashBlocks_27 : decode cX4_hashBlocks 27 = .ok (.iload 5, 2) := by decide +kernel
theorem dX4_hashBlocks_29 : decode cX4_hashBlocks 29 = .ok (.i2l, 1) := by decide +kernel
theorem dX4_hashBlocks_30 : decode cX4_hashBlocks 30 = .ok (.invokestatic 241, 3) := by decide +kernel
theorem dX4_hashBlocks_33 : decode cX4_hashBlocks 33 = .ok (.aload_n 0, 1) := by decide +kernel
theorem dX4_hashBlocks_34 : decode cX4_hashBlocks 34 = .ok (.getfield 10, 3) := by decide +kernel
theorem dX4_hashBlocks_37 : decode cX4_hashBlocks 37 = .ok (.iload 5, 2) := by decide +kernel
theorem dX4_hashBlocks_39 : decode cX4_hashBlocks 39 = .ok (.invokevirtual 83, 3) := by decide +kernel
theorem dX4_hashBlocks_42 : decode cX4_hashBlocks 42 = .ok (.i2l, 1) := by decide +kernel
theorem dX4_hashBlocks_43 : decode cX4_hashBlocks 43 = .ok (.invokestatic 241, 3) := by decide +kernel
theorem dX4_hashBlocks_46 : decode cX4_hashBlocks 46 = .ok (.aload_n 0, 1) := by decide +kernel
theorem dX4_hashBlocks_47 : decode cX4_hashBlocks 47 = .ok (.getfield 10, 3) := by decide +kernel
theorem dX4_hashBlocks_50 : decode cX4_hashBlocks 50 = .ok (.iload 5, 2) := by decide +kernel
theorem dX4_hashBlocks_52 : decode cX4_hashBlocks 52 = .ok (.invokevirtual 202, 3) := by decide +kernel
theorem dX4_hashBlocks_55 : decode cX4_hashBlocks 55 = .ok (.i2l, 1) := by decide +kernel
theorem dX4_hashBlocks_56 : decode cX4_hashBlocks 56 = .ok (.invokestatic 241, 3) := by decide +kernel
theorem dX4_hashBlocks_59 : decode cX4_hashBlocks 59 = .ok (.lstore_n 3, 1) := by decide +kernel
theorem dX4_hashBlocks_60 : decode cX4_hashBlocks 60 = .ok (.iinc 5 1, 3) := by decide +kernel
theorem dX4_hashBlocks_63 : decode cX4_hashBlocks 63 = .ok (.goto (-58), 3) := by decide +kernel
theorem dX4_hashBlocks_66 : decode cX4_hashBlocks 66 = .ok (.lload_n 3, 1) := by decide +kernel
theorem dX4_hashBlocks_67 : decode cX4_hashBlocks 67 = .ok (.lreturn, 1) := by decide +kernel
theorem dX4_hashForecasts_0 : decode cX4_hashForecasts 0 = .ok (.lload_n 1, 1) := by decide +kernel
theorem dX4_hashForecasts_1 : decode cX4_hashForecasts 1 = .ok (.lstore_n 3, 1) := by decide +kernel
theorem dX4_hashForecasts_2 : decode cX4_hashForecasts 2 = .ok (.iconst 0, 1) := by decide +kernel
theorem dX4_hashForecasts_3 : decode cX4_hashForecasts 3 = .ok (.istore 5, 2) := by decide +kernel
theorem dX4_hashForecasts_5 : decode cX4_hashForecasts 5 = .ok (.iload 5, 2) := by decide +kernel
theorem dX4_hashForecasts_7 : decode cX4_hashForecasts 7 = .ok (.getstatic 350, 3) := by decide +kernel
theorem dX4_hashForecasts_10 : decode cX4_hashForecasts 10 = .ok (.arraylength, 1) := by decide +kernel
theorem dX4_hashForecasts_11 : decode cX4_hashForecasts 11 = .ok (.if_icmp .ge 59, 3) := by decide +kernel
theorem dX4_hashForecasts_14 : decode cX4_hashForecasts 14 = .ok (.aload_n 0, 1) := by decide +kernel
theorem dX4_hashForecasts_15 : decode cX4_hashForecasts 15 = .ok (.getstatic 350, 3) := by decide +kernel
theorem dX4_hashForecasts_18 : decode cX4_hashForecasts 18 = .ok (.iload 5, 2) := by decide +kernel
theorem dX4_hashForecasts_20 : decode cX4_hashForecasts 20 = .ok (.iaload, 1) := by decide +kernel
theorem dX4_hashForecasts_21 : decode cX4_hashForecasts 21 = .ok (.invokevirtual 225, 3) := by decide +kernel
theorem dX4_hashForecasts_24 : decode cX4_hashForecasts 24 = .ok (.istore 6, 2) := by decide +kernel
theorem dX4_hashForecasts_26 : decode cX4_hashForecasts 26 = .ok (.iconst 0, 1) := by decide +kernel
theorem dX4_hashForecasts_27 : decode cX4_hashForecasts 27 = .ok (.istore 7, 2) := by decide +kernel
theorem dX4_hashForecasts_29 : decode cX4_hashForecasts 29 = .ok (.iload 7, 2) := by decide +kernel
theorem dX4_hashForecasts_31 : decode cX4_hashForecasts 31 = .ok (.iconst 4, 1) := by decide +kernel
theorem dX4_hashForecasts_32 : decode cX4_hashForecasts 32 = .ok (.if_icmp .ge 32, 3) := by decide +kernel
theorem dX4_hashForecasts_35 : decode cX4_hashForecasts 35 = .ok (.lload_n 3, 1) := by decide +kernel
theorem dX4_hashForecasts_36 : decode cX4_hashForecasts 36 = .ok (.iload 6, 2) := by decide +kernel
theorem dX4_hashForecasts_38 : decode cX4_hashForecasts 38 = .ok (.ifCond .eq 13, 3) := by decide +kernel
theorem dX4_hashForecasts_41 : decode cX4_hashForecasts 41 = .ok (.aload_n 0, 1) := by decide +kernel
theorem dX4_hashForecasts_42 : decode cX4_hashForecasts 42 = .ok (.iload 7, 2) := by decide +kernel
theorem dX4_hashForecasts_44 : decode cX4_hashForecasts 44 = .ok (.invokevirtual 228, 3) := by decide +kernel
theorem dX4_hashForecasts_47 : decode cX4_hashForecasts 47 = .ok (.i2l, 1) := by decide +kernel
theorem dX4_hashForecasts_48 : decode cX4_hashForecasts 48 = .ok (.goto 6, 3) := by decide +kernel
theorem dX4_hashForecasts_51 : decode cX4_hashForecasts 51 = .ok (.ldc2_w 353, 3) := by decide +kernel
theorem dX4_hashForecasts_54 : decode cX4_hashForecasts 54 = .ok (.invokestatic 241, 3) := by decide +kernel
theorem dX4_hashForecasts_57 : decode cX4_hashForecasts 57 = .ok (.lstore_n 3, 1) := by decide +kernel
theorem dX4_hashForecasts_58 : decode cX4_hashForecasts 58 = .ok (.iinc 7 1, 3) := by decide +kernel
theorem dX4_hashForecasts_61 : decode cX4_hashForecasts 61 = .ok (.goto (-32), 3) := by decide +kernel
theorem dX4_hashForecasts_64 : decode cX4_hashForecasts 64 = .ok (.iinc 5 1, 3) := by decide +kernel
theorem dX4_hashForecasts_67 : decode cX4_hashForecasts 67 = .ok (.goto (-62), 3) := by decide +kernel
theorem dX4_hashForecasts_70 : decode cX4_hashForecasts 70 = .ok (.lload_n 3, 1) := by decide +kernel
theorem dX4_hashForecasts_71 : decode cX4_hashForecasts 71 = .ok (.lreturn, 1) := by decide +kernel
theorem dX4_hashText_0 : decode cX4_hashText 0 = .ok (.lload_n 1, 1) := by decide +kernel
theorem dX4_hashText_1 : decode cX4_hashText 1 = .ok (.aload_n 0, 1) := by decide +kernel
theorem dX4_hashText_2 : decode cX4_hashText 2 = .ok (.getfield 34, 3) := by decide +kernel
theorem dX4_hashText_5 : decode cX4_hashText 5 = .ok (.getfield 160, 3) := by decide +kernel
theorem dX4_hashText_8 : decode cX4_hashText 8 = .ok (.i2l, 1) := by decide +kernel
theorem dX4_hashText_9 : decode cX4_hashText 9 = .ok (.invokestatic 241, 3) := by decide +kernel
theorem dX4_hashText_12 : decode cX4_hashText 12 = .ok (.lstore_n 3, 1) := by decide +kernel
theorem dX4_hashText_13 : decode cX4_hashText 13 = .ok (.iconst 0, 1) := by decide +kernel
theorem dX4_hashText_14 : decode cX4_hashText 14 = .ok (.istore 5, 2) := by decide +kernel
theorem dX4_hashText_16 : decode cX4_hashText 16 = .ok (.iload 5, 2) := by decide +kernel
theorem dX4_hashText_18 : decode cX4_hashText 18 = .ok (.aload_n 0, 1) := by decide +kernel
theorem dX4_hashText_19 : decode cX4_hashText 19 = .ok (.getfield 34, 3) := by decide +kernel
theorem dX4_hashText_22 : decode cX4_hashText 22 = .ok (.getfield 160, 3) := by decide +kernel
theorem dX4_hashText_25 : decode cX4_hashText 25 = .ok (.if_icmp .ge 24, 3) := by decide +kernel
theorem dX4_hashText_28 : decode cX4_hashText 28 = .ok (.lload_n 3, 1) := by decide +kernel
theorem dX4_hashText_29 : decode cX4_hashText 29 = .ok (.aload_n 0, 1) := by decide +kernel
theorem dX4_hashText_30 : decode cX4_hashText 30 = .ok (.getfield 34, 3) := by decide +kernel
theorem dX4_hashText_33 : decode cX4_hashText 33 = .ok (.iload 5, 2) := by decide +kernel
theorem dX4_hashText_35 : decode cX4_hashText 35 = .ok (.invokevirtual 355, 3) := by decide +kernel
theorem dX4_hashText_38 : decode cX4_hashText 38 = .ok (.i2l, 1) := by decide +kernel
theorem dX4_hashText_39 : decode cX4_hashText 39 = .ok (.invokestatic 241, 3) := by decide +kernel
theorem dX4_hashText_42 : decode cX4_hashText 42 = .ok (.lstore_n 3, 1) := by decide +kernel
theorem dX4_hashText_43 : decode cX4_hashText 43 = .ok (.iinc 5 1, 3) := by decide +kernel
theorem dX4_hashText_46 : decode cX4_hashText 46 = .ok (.goto (-30), 3) := by decide +kernel
theorem dX4_hashText_49 : decode cX4_hashText 49 = .ok (.lload_n 3, 1) := by decide +kernel
theorem dX4_hashText_50 : decode cX4_hashText 50 = .ok (.lreturn, 1) := by decide +kernel
theorem dX4_bitsOfShare_0 : decode cX4_bitsOfShare 0 = .ok (.dload_n 0, 1) := by decide +kernel
theorem dX4_bitsOfShare_1 : decode cX4_bitsOfShare 1 = .ok (.dconst 0, 1) := by decide +kernel
theorem dX4_bitsOfShare_2 : decode cX4_bitsOfShare 2 = .ok (.dcmp .g, 1) := by decide +kernel
theorem dX4_bitsOfShare_3 : decode cX4_bitsOfShare 3 = .ok (.ifCond .gt 5, 3) := by decide +kernel
theorem dX4_bitsOfShare_6 : decode cX4_bitsOfShare 6 = .ok (.lconst 0, 1) := by decide +kernel
theorem dX4_bitsOfShare_7 : decode cX4_bitsOfShare 7 = .ok (.lreturn, 1) := by decide +kernel
theorem dX4_bitsOfShare_8 : decode cX4_bitsOfShare 8 = .ok (.ldc2_w 358, 3) := by decide +kernel
theorem dX4_bitsOfShare_11 : decode cX4_bitsOfShare 11 = .ok (.lstore_n 2, 1) := by decide +kernel
theorem dX4_bitsOfShare_12 : decode cX4_bitsOfShare 12 = .ok (.dload_n 0, 1) := by decide +kernel
theorem dX4_bitsOfShare_13 : decode cX4_bitsOfShare 13 = .ok (.dstore 4, 2) := by decide +kernel
theorem dX4_bitsOfShare_15 : decode cX4_bitsOfShare 15 = .ok (.iconst 0, 1) := by decide +kernel
theorem dX4_bitsOfShare_16 : decode cX4_bitsOfShare 16 = .ok (.istore 6, 2) := by decide +kernel
theorem dX4_bitsOfShare_18 : decode cX4_bitsOfShare 18 = .ok (.iload 6, 2) := by decide +kernel
theorem dX4_bitsOfShare_20 : decode cX4_bitsOfShare 20 = .ok (.sipush 1000, 3) := by decide +kernel
theorem dX4_bitsOfShare_23 : decode cX4_bitsOfShare 23 = .ok (.if_icmp .ge 28, 3) := by decide +kernel
theorem dX4_bitsOfShare_26 : decode cX4_bitsOfShare 26 = .ok (.dload 4, 2) := by decide +kernel
theorem dX4_bitsOfShare_28 : decode cX4_bitsOfShare 28 = .ok (.dconst 1, 1) := by decide +kernel
theorem dX4_bitsOfShare_29 : decode cX4_bitsOfShare 29 = .ok (.dcmp .g, 1) := by decide +kernel
theorem dX4_bitsOfShare_30 : decode cX4_bitsOfShare 30 = .ok (.ifCond .ge 21, 3) := by decide +kernel
theorem dX4_bitsOfShare_33 : decode cX4_bitsOfShare 33 = .ok (.dload 4, 2) := by decide +kernel
theorem dX4_bitsOfShare_35 : decode cX4_bitsOfShare 35 = .ok (.ldc2_w 360, 3) := by decide +kernel
theorem dX4_bitsOfShare_38 : decode cX4_bitsOfShare 38 = .ok (.dmul, 1) := by decide +kernel
theorem dX4_bitsOfShare_39 : decode cX4_bitsOfShare 39 = .ok (.dstore 4, 2) := by decide +kernel
theorem dX4_bitsOfShare_41 : decode cX4_bitsOfShare 41 = .ok (.lload_n 2, 1) := by decide +kernel
theorem dX4_bitsOfShare_42 : decode cX4_bitsOfShare 42 = .ok (.lconst 1, 1) := by decide +kernel
theorem dX4_bitsOfShare_43 : decode cX4_bitsOfShare 43 = .ok (.lsub, 1) := by decide +kernel
theorem dX4_bitsOfShare_44 : decode cX4_bitsOfShare 44 = .ok (.lstore_n 2, 1) := by decide +kernel
theorem dX4_bitsOfShare_45 : decode cX4_bitsOfShare 45 = .ok (.iinc 6 1, 3) := by decide +kernel
theorem dX4_bitsOfShare_48 : decode cX4_bitsOfShare 48 = .ok (.goto (-30), 3) := by decide +kernel
theorem dX4_bitsOfShare_51 : decode cX4_bitsOfShare 51 = .ok (.dload 4, 2) := by decide +kernel
theorem dX4_bitsOfShare_53 : decode cX4_bitsOfShare 53 = .ok (.dconst 1, 1) := by decide +kernel
theorem dX4_bitsOfShare_54 : decode cX4_bitsOfShare 54 = .ok (.dsub, 1) := by decide +kernel
theorem dX4_bitsOfShare_55 : decode cX4_bitsOfShare 55 = .ok (.ldc2_w 362, 3) := by decide +kernel
theorem dX4_bitsOfShare_58 : decode cX4_bitsOfShare 58 = .ok (.dmul, 1) := by decide +kernel
theorem dX4_bitsOfShare_59 : decode cX4_bitsOfShare 59 = .ok (.d2l, 1) := by decide +kernel
theorem dX4_bitsOfShare_60 : decode cX4_bitsOfShare 60 = .ok (.lstore 6, 2) := by decide +kernel
theorem dX4_bitsOfShare_62 : decode cX4_bitsOfShare 62 = .ok (.lload_n 2, 1) := by decide +kernel
theorem dX4_bitsOfShare_63 : decode cX4_bitsOfShare 63 = .ok (.bipush 52, 2) := by decide +kernel
theorem dX4_bitsOfShare_65 : decode cX4_bitsOfShare 65 = .ok (.lshl, 1) := by decide +kernel
theorem dX4_bitsOfShare_66 : decode cX4_bitsOfShare 66 = .ok (.lload 6, 2) := by decide +kernel
theorem dX4_bitsOfShare_68 : decode cX4_bitsOfShare 68 = .ok (.lor, 1) := by decide +kernel
theorem dX4_bitsOfShare_69 : decode cX4_bitsOfShare 69 = .ok (.lreturn, 1) := by decide +kernel
theorem dX5_init_0 : decode cX5_init 0 = .ok (.aload_n 0, 1) := by decide +kernel
theorem dX5_init_1 : decode cX5_init 1 = .ok (.invokespecial 1, 3) := by decide +kernel
theorem dX5_init_4 : decode cX5_init 4 = .ok (.aload_n 0, 1) := by decide +kernel
theorem dX5_init_5 : decode cX5_init 5 = .ok (.sipush 1554, 3) := by decide +kernel
theorem dX5_init_8 : decode cX5_init 8 = .ok (.newarray .int, 2) := by decide +kernel
theorem dX5_init_10 : decode cX5_init 10 = .ok (.putfield 7, 3) := by decide +kernel
theorem dX5_init_13 : decode cX5_init 13 = .ok (.aload_n 0, 1) := by decide +kernel
theorem dX5_init_14 : decode cX5_init 14 = .ok (.sipush 9324, 3) := by decide +kernel
theorem dX5_init_17 : decode cX5_init 17 = .ok (.newarray .int, 2) := by decide +kernel
theorem dX5_init_19 : decode cX5_init 19 = .ok (.putfield 13, 3) := by decide +kernel
theorem dX5_init_22 : decode cX5_init 22 = .ok (.aload_n 0, 1) := by decide +kernel
theorem dX5_init_23 : decode cX5_init 23 = .ok (.sipush 1554, 3) := by decide +kernel
theorem dX5_init_26 : decode cX5_init 26 = .ok (.newarray .int, 2) := by decide +kernel
theorem dX5_init_28 : decode cX5_init 28 = .ok (.putfield 16, 3) := by decide +kernel
theorem dX5_init_31 : decode cX5_init 31 = .ok (.aload_n 0, 1) := by decide +kernel
theorem dX5_init_32 : decode cX5_init 32 = .ok (.bipush 60, 2) := by decide +kernel
theorem dX5_init_34 : decode cX5_init 34 = .ok (.newarray .int, 2) := by decide +kernel
theorem dX5_init_36 : decode cX5_init 36 = .ok (.putfield 19, 3) := by decide +kernel
theorem dX5_init_39 : decode cX5_init 39 = .ok (.aload_n 0, 1) := by decide +kernel
theorem dX5_init_40 : decode cX5_init 40 = .ok (.bipush 66, 2) := by decide +kernel
theorem dX5_init_42 : decode cX5_init 42 = .ok (.newarray .int, 2) := by decide +kernel
theorem dX5_init_44 : decode cX5_init 44 = .ok (.putfield 22, 3) := by decide +kernel
theorem dX5_init_47 : decode cX5_init 47 = .ok (.aload_n 0, 1) := by decide +kernel
theorem dX5_init_48 : decode cX5_init 48 = .ok (.bipush 66, 2) := by decide +kernel
theorem dX5_init_50 : decode cX5_init 50 = .ok (.newarray .int, 2) := by decide +kernel
theorem dX5_init_52 : decode cX5_init 52 = .ok (.putfield 25, 3) := by decide +kernel
theorem dX5_init_55 : decode cX5_init 55 = .ok (.aload_n 0, 1) := by decide +kernel
theorem dX5_init_56 : decode cX5_init 56 = .ok (.bipush 66, 2) := by decide +kernel
theorem dX5_init_58 : decode cX5_init 58 = .ok (.newarray .int, 2) := by decide +kernel
theorem dX5_init_60 : decode cX5_init 60 = .ok (.putfield 28, 3) := by decide +kernel
theorem dX5_init_63 : decode cX5_init 63 = .ok (.aload_n 0, 1) := by decide +kernel
theorem dX5_init_64 : decode cX5_init 64 = .ok (.bipush 66, 2) := by decide +kernel
theorem dX5_init_66 : decode cX5_init 66 = .ok (.newarray .int, 2) := by decide +kernel
theorem dX5_init_68 : decode cX5_init 68 = .ok (.putfield 31, 3) := by decide +kernel
theorem dX5_init_71 : decode cX5_init 71 = .ok (.aload_n 0, 1) := by decide +kernel
theorem dX5_init_72 : decode cX5_init 72 = .ok (.bipush 66, 2) := by decide +kernel
theorem dX5_init_74 : decode cX5_init 74 = .ok (.newarray .int, 2) := by decide +kernel
theorem dX5_init_76 : decode cX5_init 76 = .ok (.putfield 34, 3) := by decide +kernel
theorem dX5_init_79 : decode cX5_init 79 = .ok (.aload_n 0, 1) := by decide +kernel
theorem dX5_init_80 : decode cX5_init 80 = .ok (.bipush 66, 2) := by decide +kernel
theorem dX5_init_82 : decode cX5_init 82 = .ok (.newarray .int, 2) := by decide +kernel
theorem dX5_init_84 : decode cX5_init 84 = .ok (.putfield 37, 3) := by decide +kernel
theorem dX5_init_87 : decode cX5_init 87 = .ok (.aload_n 0, 1) := by decide +kernel
theorem dX5_init_88 : decode cX5_init 88 = .ok (.sipush 576, 3) := by decide +kernel
theorem dX5_init_91 : decode cX5_init 91 = .ok (.newarray .int, 2) := by decide +kernel
theorem dX5_init_93 : decode cX5_init 93 = .ok (.putfield 40, 3) := by decide +kernel
theorem dX5_init_96 : decode cX5_init 96 = .ok (.aload_n 0, 1) := by decide +kernel
theorem dX5_init_97 : decode cX5_init 97 = .ok (.sipush 576, 3) := by decide +kernel
theorem dX5_init_100 : decode cX5_init 100 = .ok (.newarray .boolean, 2) := by decide +kernel
theorem dX5_init_102 : decode cX5_init 102 = .ok (.putfield 43, 3) := by decide +kernel
theorem dX5_init_105 : decode cX5_init 105 = .ok (.aload_n 0, 1) := by decide +kernel
theorem dX5_init_106 : decode cX5_init 106 = .ok (.bipush 60, 2) := by decide +kernel
theorem dX5_init_108 : decode cX5_init 108 = .ok (.newarray .int, 2) := by decide +kernel
theorem dX5_init_110 : decode cX5_init 110 = .ok (.putfield 47, 3) := by decide +kernel
theorem dX5_init_113 : decode cX5_init 113 = .ok (.aload_n 0, 1) := by decide +kernel
theorem dX5_init_114 : decode cX5_init 114 = .ok (.getfield 7, 3) := by decide +kernel
theorem dX5_init_117 : decode cX5_init 117 = .ok (.iconst 0, 1) := by decide +kernel
theorem dX5_init_118 : decode cX5_init 118 = .ok (.iconst 3, 1) := by decide +kernel
theorem dX5_init_119 : decode cX5_init 119 = .ok (.iastore, 1) := by decide +kernel
theorem dX5_init_120 : decode cX5_init 120 = .ok (.aload_n 0, 1) := by decide +kernel
theorem dX5_init_121 : decode cX5_init 121 = .ok (.getfield 7, 3) := by decide +kernel
theorem dX5_init_124 : decode cX5_init 124 = .ok (.iconst 1, 1) := by decide +kernel
theorem dX5_init_125 : decode cX5_init 125 = .ok (.iconst 3, 1) := by decide +kernel
theorem dX5_init_126 : decode cX5_init 126 = .ok (.iastore, 1) := by decide +kernel
theorem dX5_init_127 : decode cX5_init 127 = .ok (.aload_n 0, 1) := by decide +kernel
theorem dX5_init_128 : decode cX5_init 128 = .ok (.getfield 7, 3) := by decide +kernel
theorem dX5_init_131 : decode cX5_init 131 = .ok (.iconst 2, 1) := by decide +kernel
theorem dX5_init_132 : decode cX5_init 132 = .ok (.iconst 2, 1) := by decide +kernel
theorem dX5_init_133 : decode cX5_init 133 = .ok (.iastore, 1) := by decide +kernel
theorem dX5_init_134 : decode cX5_init 134 = .ok (.bipush 6, 2) := by decide +kernel
theorem dX5_init_136 : decode cX5_init 136 = .ok (.istore_n 1, 1) := by decide +kernel
theorem dX5_init_137 : decode cX5_init 137 = .ok (.iload_n 1, 1) := by decide +kernel
theorem dX5_init_138 : decode cX5_init 138 = .ok (.sipush 1554, 3) := by decide +kernel
theorem dX5_init_141 : decode cX5_init 141 = .ok (.if_icmp .ge 16, 3) := by decide +kernel
theorem dX5_init_144 : decode cX5_init 144 = .ok (.aload_n 0, 1) := by decide +kernel
theorem dX5_init_145 : decode cX5_init 145 = .ok (.getfield 7, 3) := by decide +kernel
theorem dX5_init_148 : decode cX5_init 148 = .ok (.iload_n 1, 1) := by decide +kernel
theorem dX5_init_149 : decode cX5_init 149 = .ok (.iconst (-1), 1) := by decide +kernel
theorem dX5_init_150 : decode cX5_init 150 = .ok (.iastore, 1) := by decide +kernel
theorem dX5_init_151 : decode cX5_init 151 = .ok (.iinc 1 1, 3) := by decide +kernel
theorem dX5_init_154 : decode cX5_init 154 = .ok (.goto (-17), 3) := by decide +kernel
theorem dX5_init_157 : decode cX5_init 157 = .ok (.return_, 1) := by decide +kernel
theorem dX5_thrown_0 : decode cX5_thrown 0 = .ok (.aload_n 0, 1) := by decide +kernel
theorem dX5_thrown_1 : decode cX5_thrown 1 = .ok (.getfield 50, 3) := by decide +kernel
theorem dX5_thrown_4 : decode cX5_thrown 4 = .ok (.ireturn, 1) := by decide +kernel
theorem dX5_in_0 : decode cX5_in 0 = .ok (.iload_n 0, 1) := by decide +kernel
theorem dX5_in_1 : decode cX5_in 1 = .ok (.iload_n 1, 1) := by decide +kernel
theorem dX5_in_2 : decode cX5_in 2 = .ok (.if_icmp .lt 12, 3) := by decide +kernel
theorem dX5_in_5 : decode cX5_in 5 = .ok (.iload_n 0, 1) := by decide +kernel
theorem dX5_in_6 : decode cX5_in 6 = .ok (.iload_n 2, 1) := by decide +kernel
theorem dX5_in_7 : decode cX5_in 7 = .ok (.if_icmp .gt 7, 3) := by decide +kernel
theorem dX5_in_10 : decode cX5_in 10 = .ok (.iconst 1, 1) := by decide +kernel
theorem dX5_in_11 : decode cX5_in 11 = .ok (.goto 4, 3) := by decide +kernel
theorem dX5_in_14 : decode cX5_in 14 = .ok (.iconst 0, 1) := by decide +kernel
theorem dX5_in_15 : decode cX5_in 15 = .ok (.ireturn, 1) := by decide +kernel
theorem dX5_isPlace_0 : decode cX5_isPlace 0 = .ok (.iload_n 0, 1) := by decide +kernel
theorem dX5_isPlace_1 : decode cX5_isPlace 1 = .ok (.iconst 0, 1) := by decide +kernel
theorem dX5_isPlace_2 : decode cX5_isPlace 2 = .ok (.bipush 23, 2) := by decide +kernel
theorem dX5_isPlace_4 : decode cX5_isPlace 4 = .ok (.invokestatic 54, 3) := by decide +kernel
theorem dX5_isPlace_7 : decode cX5_isPlace 7 = .ok (.ifCond .eq 17, 3) := by decide +kernel
theorem dX5_isPlace_10 : decode cX5_isPlace 10 = .ok (.iload_n 1, 1) := by decide +kernel
theorem dX5_isPlace_11 : decode cX5_isPlace 11 = .ok (.iconst 0, 1) := by decide +kernel
theorem dX5_isPlace_12 : decode cX5_isPlace 12 = .ok (.bipush 23, 2) := by decide +kernel
theorem dX5_isPlace_14 : decode cX5_isPlace 14 = .ok (.invokestatic 54, 3) := by decide +kernel
theorem dX5_isPlace_17 : decode cX5_isPlace 17 = .ok (.ifCond .eq 7, 3) := by decide +kernel
theorem dX5_isPlace_20 : decode cX5_isPlace 20 = .ok (.iconst 1, 1) := by decide +kernel
theorem dX5_isPlace_21 : decode cX5_isPlace 21 = .ok (.goto 4, 3) := by decide +kernel
theorem dX5_isPlace_24 : decode cX5_isPlace 24 = .ok (.iconst 0, 1) := by decide +kernel
theorem dX5_isPlace_25 : decode cX5_isPlace 25 = .ok (.ireturn, 1) := by decide +kernel
theorem dX5_isBlock_0 : decode cX5_isBlock 0 = .ok (.iload_n 0, 1) := by decide +kernel
theorem dX5_isBlock_1 : decode cX5_isBlock 1 = .ok (.iconst 0, 1) := by decide +kernel
theorem dX5_isBlock_2 : decode cX5_isBlock 2 = .ok (.sipush 479, 3) := by decide +kernel
theorem dX5_isBlock_5 : decode cX5_isBlock 5 = .ok (.invokestatic 54, 3) := by decide +kernel
theorem dX5_isBlock_8 : decode cX5_isBlock 8 = .ok (.ireturn, 1) := by decide +kernel
theorem dX5_isValue_0 : decode cX5_isValue 0 = .ok (.iload_n 0, 1) := by decide +kernel
theorem dX5_isValue_1 : decode cX5_isValue 1 = .ok (.iconst 0, 1) := by decide +kernel
theorem dX5_isValue_2 : decode cX5_isValue 2 = .ok (.sipush 999, 3) := by decide +kernel
theorem dX5_isValue_5 : decode cX5_isValue 5 = .ok (.invokestatic 54, 3) := by decide +kernel
theorem dX5_isValue_8 : decode cX5_isValue 8 = .ok (.ireturn, 1) := by decide +kernel
theorem dX5_spot_0 : decode cX5_spot 0 = .ok (.aload_n 0, 1) := by decide +kernel
theorem dX5_spot_1 : decode cX5_spot 1 = .ok (.getfield 7, 3) := by decide +kernel
theorem dX5_spot_4 : decode cX5_spot 4 = .ok (.bipush 6, 2) := by decide +kernel
theorem dX5_spot_6 : decode cX5_spot 6 = .ok (.iload_n 1, 1) := by decide +kernel
theorem dX5_spot_7 : decode cX5_spot 7 = .ok (.iadd, 1) := by decide +kernel
theorem dX5_spot_8 : decode cX5_spot 8 = .ok (.iaload, 1) := by decide +kernel
theorem dX5_spot_9 : decode cX5_spot 9 = .ok (.ireturn, 1) := by decide +kernel
theorem dX5_where_0 : decode cX5_where 0 = .ok (.aload_n 0, 1) := by decide +kernel
theorem dX5_where_1 : decode cX5_where 1 = .ok (.getfield 7, 3) := by decide +kernel
theorem dX5_where_4 : decode cX5_where 4 = .ok (.sipush 498, 3) := by decide +kernel
theorem dX5_where_7 : decode cX5_where 7 = .ok (.iload_n 1, 1) := by decide +kernel
theorem dX5_where_8 : decode cX5_where 8 = .ok (.iadd, 1) := by decide +kernel
theorem dX5_where_9 : decode cX5_where 9 = .ok (.iaload, 1) := by decide +kernel
theorem dX5_where_10 : decode cX5_where 10 = .ok (.ireturn, 1) := by decide +kernel
theorem dX5_taken_0 : decode cX5_taken 0 = .ok (.aload_n 0, 1) := by decide +kernel
theorem dX5_taken_1 : decode cX5_taken 1 = .ok (.getfield 7, 3) := by decide +kernel
theorem dX5_taken_4 : decode cX5_taken 4 = .ok (.sipush 978, 3) := by decide +kernel
theorem dX5_taken_7 : decode cX5_taken 7 = .ok (.iload_n 1, 1) := by decide +kernel
theorem dX5_taken_8 : decode cX5_taken 8 = .ok (.iadd, 1) := by decide +kernel
theorem dX5_taken_9 : decode cX5_taken 9 = .ok (.iaload, 1) := by decide +kernel
theorem dX5_taken_10 : decode cX5_taken 10 = .ok (.ireturn, 1) := by decide +kernel
theorem dX5_spotAt_0 : decode cX5_spotAt 0 = .ok (.iconst (-1), 1) := by decide +kernel
theorem dX5_spotAt_1 : decode cX5_spotAt 1 = .ok (.istore_n 2, 1) := by decide +kernel
theorem dX5_spotAt_2 : decode cX5_spotAt 2 = .ok (.iconst 0, 1) := by decide +kernel
theorem dX5_spotAt_3 : decode cX5_spotAt 3 = .ok (.istore_n 3, 1) := by decide +kernel
theorem dX5_spotAt_4 : decode cX5_spotAt 4 = .ok (.iload_n 3, 1) := by decide +kernel
theorem dX5_spotAt_5 : decode cX5_spotAt 5 = .ok (.aload_n 0, 1) := by decide +kernel
theorem dX5_spotAt_6 : decode cX5_spotAt 6 = .ok (.getfield 7, 3) := by decide +kernel
theorem dX5_spotAt_9 : decode cX5_spotAt 9 = .ok (.iconst 3, 1) := by decide +kernel
theorem dX5_spotAt_10 : decode cX5_spotAt 10 = .ok (.iaload, 1) := by decide +kernel
theorem dX5_spotAt_11 : decode cX5_spotAt 11 = .ok (.if_icmp .ge 24, 3) := by decide +kernel
theorem dX5_spotAt_14 : decode cX5_spotAt 14 = .ok (.aload_n 0, 1) := by decide +kernel
theorem dX5_spotAt_15 : decode cX5_spotAt 15 = .ok (.iload_n 3, 1) := by decide +kernel
theorem dX5_spotAt_16 : decode cX5_spotAt 16 = .ok (.invokevirtual 58, 3) := by decide +kernel
theorem dX5_spotAt_19 : decode cX5_spotAt 19 = .ok (.iload_n 1, 1) := by decide +kernel
theorem dX5_spotAt_20 : decode cX5_spotAt 20 = .ok (.if_icmp .ne 7, 3) := by decide +kernel
theorem dX5_spotAt_23 : decode cX5_spotAt 23 = .ok (.iload_n 3, 1) := by decide +kernel
theorem dX5_spotAt_24 : decode cX5_spotAt 24 = .ok (.goto 4, 3) := by decide +kernel
theorem dX5_spotAt_27 : decode cX5_spotAt 27 = .ok (.iload_n 2, 1) := by decide +kernel
theorem dX5_spotAt_28 : decode cX5_spotAt 28 = .ok (.istore_n 2, 1) := by decide +kernel
theorem dX5_spotAt_29 : decode cX5_spotAt 29 = .ok (.iinc 3 1, 3) := by decide +kernel
theorem dX5_spotAt_32 : decode cX5_spotAt 32 = .ok (.goto (-28), 3) := by decide +kernel
theorem dX5_spotAt_35 : decode cX5_spotAt 35 = .ok (.iload_n 2, 1) := by decide +kernel
theorem dX5_spotAt_36 : decode cX5_spotAt 36 = .ok (.ireturn, 1) := by decide +kernel
theorem dX5_save_0 : decode cX5_save 0 = .ok (.aload_n 0, 1) := by decide +kernel
theorem dX5_save_1 : decode cX5_save 1 = .ok (.getfield 62, 3) := by decide +kernel
theorem dX5_save_4 : decode cX5_save 4 = .ok (.bipush 6, 2) := by decide +kernel
theorem dX5_save_6 : decode cX5_save 6 = .ok (.if_icmp .ne 44, 3) := by decide +kernel
theorem dX5_save_9 : decode cX5_save 9 = .ok (.iconst 0, 1) := by decide +kernel
theorem dX5_save_10 : decode cX5_save 10 = .ok (.istore_n 1, 1) := by decide +kernel
theorem dX5_save_11 : decode cX5_save 11 = .ok (.iload_n 1, 1) := by decide +kernel
theorem dX5_save_12 : decode cX5_save 12 = .ok (.sipush 7770, 3) := by decide +kernel
theorem dX5_save_15 : decode cX5_save 15 = .ok (.if_icmp .ge 25, 3) := by decide +kernel
theorem dX5_save_18 : decode cX5_save 18 = .ok (.aload_n 0, 1) := by decide +kernel
theorem dX5_save_19 : decode cX5_save 19 = .ok (.getfield 13, 3) := by decide +kernel
theorem dX5_save_22 : decode cX5_save 22 = .ok (.iload_n 1, 1) := by decide +kernel
theorem dX5_save_23 : decode cX5_save 23 = .ok (.aload_n 0, 1) := by decide +kernel
theorem dX5_save_24 : decode cX5_save 24 = .ok (.getfield 13, 3) := by decide +kernel
theorem dX5_save_27 : decode cX5_save 27 = .ok (.iload_n 1, 1) := by decide +kernel
theorem dX5_save_28 : decode cX5_save 28 = .ok (.sipush 1554, 3) := by decide +kernel
theorem dX5_save_31 : decode cX5_save 31 = .ok (.iadd, 1) := by decide +kernel
theorem dX5_save_32 : decode cX5_save 32 = .ok (.iaload, 1) := by decide +kernel
theorem dX5_save_33 : decode cX5_save 33 = .ok (.iastore, 1) := by decide +kernel
theorem dX5_save_34 : decode cX5_save 34 = .ok (.iinc 1 1, 3) := by decide +kernel
theorem dX5_save_37 : decode cX5_save 37 = .ok (.goto (-26), 3) := by decide +kernel
theorem dX5_save_40 : decode cX5_save 40 = .ok (.aload_n 0, 1) := by decide +kernel
theorem dX5_save_41 : decode cX5_save 41 = .ok (.dup, 1) := by decide +kernel
theorem dX5_save_42 : decode cX5_save 42 = .ok (.getfield 62, 3) := by decide +kernel
theorem dX5_save_45 : decode cX5_save 45 = .ok (.iconst 1, 1) := by decide +kernel
theorem dX5_save_46 : decode cX5_save 46 = .ok (.isub, 1) := by decide +kernel
theorem dX5_save_47 : decode cX5_save 47 = .ok (.putfield 62, 3) := by decide +kernel
theorem dX5_save_50 : decode cX5_save 50 = .ok (.iconst 0, 1) := by decide +kernel
theorem dX5_save_51 : decode cX5_save 51 = .ok (.istore_n 1, 1) := by decide +kernel
theorem dX5_save_52 : decode cX5_save 52 = .ok (.iload_n 1, 1) := by decide +kernel
theorem dX5_save_53 : decode cX5_save 53 = .ok (.sipush 1554, 3) := by decide +kernel
theorem dX5_save_56 : decode cX5_save 56 = .ok (.if_icmp .ge 30, 3) := by decide +kernel
theorem dX5_save_59 : decode cX5_save 59 = .ok (.aload_n 0, 1) := by decide +kernel
theorem dX5_save_60 : decode cX5_save 60 = .ok (.getfield 13, 3) := by decide +kernel
theorem dX5_save_63 : decode cX5_save 63 = .ok (.aload_n 0, 1) := by decide +kernel
theorem dX5_save_64 : decode cX5_save 64 = .ok (.getfield 62, 3) := by decide +kernel
theorem dX5_save_67 : decode cX5_save 67 = .ok (.sipush 1554, 3) := by decide +kernel
theorem dX5_save_70 : decode cX5_save 70 = .ok (.imul, 1) := by decide +kernel
theorem dX5_save_71 : decode cX5_save 71 = .ok (.iload_n 1, 1) := by decide +kernel
theorem dX5_save_72 : decode cX5_save 72 = .ok (.iadd, 1) := by decide +kernel
theorem dX5_save_73 : decode cX5_save 73 = .ok (.aload_n 0, 1) := by decide +kernel
theorem dX5_save_74 : decode cX5_save 74 = .ok (.getfield 7, 3) := by decide +kernel
theorem dX5_save_77 : decode cX5_save 77 = .ok (.iload_n 1, 1) := by decide +kernel
theorem dX5_save_78 : decode cX5_save 78 = .ok (.iaload, 1) := by decide +kernel
theorem dX5_save_79 : decode cX5_save 79 = .ok (.iastore, 1) := by decide +kernel
theorem dX5_save_80 : decode cX5_save 80 = .ok (.iinc 1 1, 3) := by decide +kernel
theorem dX5_save_83 : decode cX5_save 83 = .ok (.goto (-31), 3) := by decide +kernel
theorem dX5_save_86 : decode cX5_save 86 = .ok (.aload_n 0, 1) := by decide +kernel
theorem dX5_save_87 : decode cX5_save 87 = .ok (.dup, 1) := by decide +kernel
theorem dX5_save_88 : decode cX5_save 88 = .ok (.getfield 62, 3) := by decide +kernel
theorem dX5_save_91 : decode cX5_save 91 = .ok (.iconst 1, 1) := by decide +kernel
theorem dX5_save_92 : decode cX5_save 92 = .ok (.iadd, 1) := by decide +kernel
theorem dX5_save_93 : decode cX5_save 93 = .ok (.putfield 62, 3) := by decide +kernel
theorem dX5_save_96 : decode cX5_save 96 = .ok (.return_, 1) := by decide +kernel
theorem dX5_undo_0 : decode cX5_undo 0 = .ok (.aload_n 0, 1) := by decide +kernel
theorem dX5_undo_1 : decode cX5_undo 1 = .ok (.aload_n 0, 1) := by decide +kernel
theorem dX5_undo_2 : decode cX5_undo 2 = .ok (.getfield 62, 3) := by decide +kernel
theorem dX5_undo_5 : decode cX5_undo 5 = .ok (.ifCond .ne 7, 3) := by decide +kernel
theorem dX5_undo_8 : decode cX5_undo 8 = .ok (.iconst 1, 1) := by decide +kernel
theorem dX5_undo_9 : decode cX5_undo 9 = .ok (.goto 4, 3) := by decide +kernel
theorem dX5_undo_12 : decode cX5_undo 12 = .ok (.iconst 0, 1) := by decide +kernel
theorem dX5_undo_13 : decode cX5_undo 13 = .ok (.putfield 50, 3) := by decide +kernel
theorem dX5_undo_16 : decode cX5_undo 16 = .ok (.aload_n 0, 1) := by decide +kernel
theorem dX5_undo_17 : decode cX5_undo 17 = .ok (.getfield 50, 3) := by decide +kernel
theorem dX5_undo_20 : decode cX5_undo 20 = .ok (.ifCond .le 5, 3) := by decide +kernel
theorem dX5_undo_23 : decode cX5_undo 23 = .ok (.iconst 0, 1) := by decide +kernel
theorem dX5_undo_24 : decode cX5_undo 24 = .ok (.ireturn, 1) := by decide +kernel
theorem dX5_undo_25 : decode cX5_undo 25 = .ok (.aload_n 0, 1) := by decide +kernel
theorem dX5_undo_26 : decode cX5_undo 26 = .ok (.dup, 1) := by decide +kernel
theorem dX5_undo_27 : decode cX5_undo 27 = .ok (.getfield 62, 3) := by decide +kernel
theorem dX5_undo_30 : decode cX5_undo 30 = .ok (.iconst 1, 1) := by decide +kernel
theorem dX5_undo_31 : decode cX5_undo 31 = .ok (.isub, 1) := by decide +kernel
theorem dX5_undo_32 : decode cX5_undo 32 = .ok (.putfield 62, 3) := by decide +kernel
theorem dX5_undo_35 : decode cX5_undo 35 = .ok (.iconst 0, 1) := by decide +kernel
theorem dX5_undo_36 : decode cX5_undo 36 = .ok (.istore_n 1, 1) := by decide +kernel
theorem dX5_undo_37 : decode cX5_undo 37 = .ok (.iload_n 1, 1) := by decide +kernel
theorem dX5_undo_38 : decode cX5_undo 38 = .ok (.sipush 1554, 3) := by decide +kernel
theorem dX5_undo_41 : decode cX5_undo 41 = .ok (.if_icmp .ge 30, 3) := by decide +kernel
theorem dX5_undo_44 : decode cX5_undo 44 = .ok (.aload_n 0, 1) := by decide +kernel
theorem dX5_undo_45 : decode cX5_undo 45 = .ok (.getfield 7, 3) := by decide +kernel
theorem dX5_undo_48 : decode cX5_undo 48 = .ok (.iload_n 1, 1) := by decide +kernel
theorem dX5_undo_49 : decode cX5_undo 49 = .ok (.aload_n 0, 1) := by decide +kernel
theorem dX5_undo_50 : decode cX5_undo 50 = .ok (.getfield 13, 3) := by decide +kernel
theorem dX5_undo_53 : decode cX5_undo 53 = .ok (.aload_n 0, 1) := by decide +kernel
theorem dX5_undo_54 : decode cX5_undo 54 = .ok (.getfield 62, 3) := by decide +kernel
theorem dX5_undo_57 : decode cX5_undo 57 = .ok (.sipush 1554, 3) := by decide +kernel
theorem dX5_undo_60 : decode cX5_undo 60 = .ok (.imul, 1) := by decide +kernel
theorem dX5_undo_61 : decode cX5_undo 61 = .ok (.iload_n 1, 1) := by decide +kernel
theorem dX5_undo_62 : decode cX5_undo 62 = .ok (.iadd, 1) := by decide +kernel
theorem dX5_undo_63 : decode cX5_undo 63 = .ok (.iaload, 1) := by decide +kernel
theorem dX5_undo_64 : decode cX5_undo 64 = .ok (.iastore, 1) := by decide +kernel
theorem dX5_undo_65 : decode cX5_undo 65 = .ok (.iinc 1 1, 3) := by decide +kernel
theorem dX5_undo_68 : decode cX5_undo 68 = .ok (.goto (-31), 3) := by decide +kernel
theorem dX5_undo_71 : decode cX5_undo 71 = .ok (.aload_n 0, 1) := by decide +kernel
theorem dX5_undo_72 : decode cX5_undo 72 = .ok (.getfield 62, 3) := by decide +kernel
theorem dX5_undo_75 : decode cX5_undo 75 = .ok (.ireturn, 1) := by decide +kernel
theorem dX5_putAside_0 : decode cX5_putAside 0 = .ok (.iconst 0, 1) := by decide +kernel
theorem dX5_putAside_1 : decode cX5_putAside 1 = .ok (.istore_n 1, 1) := by decide +kernel
theorem dX5_putAside_2 : decode cX5_putAside 2 = .ok (.iload_n 1, 1) := by decide +kernel
theorem dX5_putAside_3 : decode cX5_putAside 3 = .ok (.sipush 1554, 3) := by decide +kernel
theorem dX5_putAside_6 : decode cX5_putAside 6 = .ok (.if_icmp .ge 21, 3) := by decide +kernel
theorem dX5_putAside_9 : decode cX5_putAside 9 = .ok (.aload_n 0, 1) := by decide +kernel
theorem dX5_putAside_10 : decode cX5_putAside 10 = .ok (.getfield 16, 3) := by decide +kernel
theorem dX5_putAside_13 : decode cX5_putAside 13 = .ok (.iload_n 1, 1) := by decide +kernel
theorem dX5_putAside_14 : decode cX5_putAside 14 = .ok (.aload_n 0, 1) := by decide +kernel
theorem dX5_putAside_15 : decode cX5_putAside 15 = .ok (.getfield 7, 3) := by decide +kernel
theorem dX5_putAside_18 : decode cX5_putAside 18 = .ok (.iload_n 1, 1) := by decide +kernel
theorem dX5_putAside_19 : decode cX5_putAside 19 = .ok (.iaload, 1) := by decide +kernel
theorem dX5_putAside_20 : decode cX5_putAside 20 = .ok (.iastore, 1) := by decide +kernel
theorem dX5_putAside_21 : decode cX5_putAside 21 = .ok (.iinc 1 1, 3) := by decide +kernel
theorem dX5_putAside_24 : decode cX5_putAside 24 = .ok (.goto (-22), 3) := by decide +kernel
theorem dX5_putAside_27 : decode cX5_putAside 27 = .ok (.return_, 1) := by decide +kernel
theorem dX5_bringBack_0 : decode cX5_bringBack 0 = .ok (.iconst 0, 1) := by decide +kernel
theorem dX5_bringBack_1 : decode cX5_bringBack 1 = .ok (.istore_n 1, 1) := by decide +kernel
theorem dX5_bringBack_2 : decode cX5_bringBack 2 = .ok (.iload_n 1, 1) := by decide +kernel
theorem dX5_bringBack_3 : decode cX5_bringBack 3 = .ok (.sipush 1554, 3) := by decide +kernel
theorem dX5_bringBack_6 : decode cX5_bringBack 6 = .ok (.if_icmp .ge 21, 3) := by decide +kernel
theorem dX5_bringBack_9 : decode cX5_bringBack 9 = .ok (.aload_n 0, 1) := by decide +kernel
theorem dX5_bringBack_10 : decode cX5_bringBack 10 = .ok (.getfield 7, 3) := by decide +kernel
theorem dX5_bringBack_13 : decode cX5_bringBack 13 = .ok (.iload_n 1, 1) := by decide +kernel
theorem dX5_bringBack_14 : decode cX5_bringBack 14 = .ok (.aload_n 0, 1) := by decide +kernel
theorem dX5_bringBack_15 : decode cX5_bringBack 15 = .ok (.getfield 16, 3) := by decide +kernel
theorem dX5_bringBack_18 : decode cX5_bringBack 18 = .ok (.iload_n 1, 1) := by decide +kernel
theorem dX5_bringBack_19 : decode cX5_bringBack 19 = .ok (.iaload, 1) := by decide +kernel
theorem dX5_bringBack_20 : decode cX5_bringBack 20 = .ok (.iastore, 1) := by decide +kernel
theorem dX5_bringBack_21 : decode cX5_bringBack 21 = .ok (.iinc 1 1, 3) := by decide +kernel
theorem dX5_bringBack_24 : decode cX5_bringBack 24 = .ok (.goto (-22), 3) := by decide +kernel
theorem dX5_bringBack_27 : decode cX5_bringBack 27 = .ok (.return_, 1) := by decide +kernel
theorem dX5_sizeOf_0 : decode cX5_sizeOf 0 = .ok (.iload_n 0, 1) := by decide +kernel
theorem dX5_sizeOf_1 : decode cX5_sizeOf 1 = .ok (.ifCond .ge 8, 3) := by decide +kernel
theorem dX5_sizeOf_4 : decode cX5_sizeOf 4 = .ok (.iload_n 0, 1) := by decide +kernel
theorem dX5_sizeOf_5 : decode cX5_sizeOf 5 = .ok (.ineg, 1) := by decide +kernel
theorem dX5_sizeOf_6 : decode cX5_sizeOf 6 = .ok (.goto 4, 3) := by decide +kernel
theorem dX5_sizeOf_9 : decode cX5_sizeOf 9 = .ok (.iload_n 0, 1) := by decide +kernel
theorem dX5_sizeOf_10 : decode cX5_sizeOf 10 = .ok (.ireturn, 1) := by decide +kernel
theorem dX5_common_0 : decode cX5_common 0 = .ok (.iload_n 0, 1) := by decide +kernel
theorem dX5_common_1 : decode cX5_common 1 = .ok (.istore_n 2, 1) := by decide +kernel
theorem dX5_common_2 : decode cX5_common 2 = .ok (.iload_n 1, 1) := by decide +kernel
theorem dX5_common_3 : decode cX5_common 3 = .ok (.istore_n 3, 1) := by decide +kernel
theorem dX5_common_4 : decode cX5_common 4 = .ok (.iload_n 3, 1) := by decide +kernel
theorem dX5_common_5 : decode cX5_common 5 = .ok (.ifCond .le 16, 3) := by decide +kernel
theorem dX5_common_8 : decode cX5_common 8 = .ok (.iload_n 2, 1) := by decide +kernel
theorem dX5_common_9 : decode cX5_common 9 = .ok (.iload_n 3, 1) := by decide +kernel
theorem dX5_common_10 : decode cX5_common 10 = .ok (.irem, 1) := by decide +kernel
theorem dX5_common_11 : decode cX5_common 11 = .ok (.istore 4, 2) := by decide +kernel
theorem dX5_common_13 : decode cX5_common 13 = .ok (.iload_n 3, 1) := by decide +kernel
theorem dX5_common_14 : decode cX5_common 14 = .ok (.istore_n 2, 1) := by decide +kernel
theorem dX5_common_15 : decode cX5_common 15 = .ok (.iload 4, 2) := by decide +kernel
theorem dX5_common_17 : decode cX5_common 17 = .ok (.istore_n 3, 1) := by decide +kernel
theorem dX5_common_18 : decode cX5_common 18 = .ok (.goto (-14), 3) := by decide +kernel
theorem dX5_common_21 : decode cX5_common 21 = .ok (.iload_n 2, 1) := by decide +kernel
theorem dX5_common_22 : decode cX5_common 22 = .ok (.ireturn, 1) := by decide +kernel
theorem dX5_tracksApart_0 : decode cX5_tracksApart 0 = .ok (.aload_n 0, 1) := by decide +kernel
theorem dX5_tracksApart_1 : decode cX5_tracksApart 1 = .ok (.iload_n 2, 1) := by decide +kernel
theorem dX5_tracksApart_2 : decode cX5_tracksApart 2 = .ok (.invokevirtual 58, 3) := by decide +kernel
theorem dX5_tracksApart_5 : decode cX5_tracksApart 5 = .ok (.bipush 24, 2) := by decide +kernel
theorem dX5_tracksApart_7 : decode cX5_tracksApart 7 = .ok (.idiv, 1) := by decide +kernel
theorem dX5_tracksApart_8 : decode cX5_tracksApart 8 = .ok (.aload_n 0, 1) := by decide +kernel
theorem dX5_tracksApart_9 : decode cX5_tracksApart 9 = .ok (.iload_n 1, 1) := by decide +kernel
theorem dX5_tracksApart_10 : decode cX5_tracksApart 10 = .ok (.invokevirtual 58, 3) := by decide +kernel
theorem dX5_tracksApart_13 : decode cX5_tracksApart 13 = .ok (.bipush 24, 2) := by decide +kernel
theorem dX5_tracksApart_15 : decode cX5_tracksApart 15 = .ok (.idiv, 1) := by decide +kernel
theorem dX5_tracksApart_16 : decode cX5_tracksApart 16 = .ok (.isub, 1) := by decide +kernel
theorem dX5_tracksApart_17 : decode cX5_tracksApart 17 = .ok (.ireturn, 1) := by decide +kernel
theorem dX5_sectorsApart_0 : decode cX5_sectorsApart 0 = .ok (.aload_n 0, 1) := by decide +kernel
theorem dX5_sectorsApart_1 : decode cX5_sectorsApart 1 = .ok (.iload_n 2, 1) := by decide +kernel
theorem dX5_sectorsApart_2 : decode cX5_sectorsApart 2 = .ok (.invokevirtual 58, 3) := by decide +kernel
theorem dX5_sectorsApart_5 : decode cX5_sectorsApart 5 = .ok (.bipush 24, 2) := by decide +kernel
theorem dX5_sectorsApart_7 : decode cX5_sectorsApart 7 = .ok (.irem, 1) := by decide +kernel
theorem dX5_sectorsApart_8 : decode cX5_sectorsApart 8 = .ok (.aload_n 0, 1) := by decide +kernel
theorem dX5_sectorsApart_9 : decode cX5_sectorsApart 9 = .ok (.iload_n 1, 1) := by decide +kernel
theorem dX5_sectorsApart_10 : decode cX5_sectorsApart 10 = .ok (.invokevirtual 58, 3) := by decide +kernel
theorem dX5_sectorsApart_13 : decode cX5_sectorsApart 13 = .ok (.bipush 24, 2) := by decide +kernel
theorem dX5_sectorsApart_15 : decode cX5_sectorsApart 15 = .ok (.irem, 1) := by decide +kernel
theorem dX5_sectorsApart_16 : decode cX5_sectorsApart 16 = .ok (.isub, 1) := by decide +kernel
theorem dX5_sectorsApart_17 : decode cX5_sectorsApart 17 = .ok (.ireturn, 1) := by decide +kernel
theorem dX5_isStraight_0 : decode cX5_isStraight 0 = .ok (.aload_n 0, 1) := by decide +kernel
theorem dX5_isStraight_1 : decode cX5_isStraight 1 = .ok (.iload_n 1, 1) := by decide +kernel
theorem dX5_isStraight_2 : decode cX5_isStraight 2 = .ok (.iload_n 2, 1) := by decide +kernel
theorem dX5_isStraight_3 : decode cX5_isStraight 3 = .ok (.invokevirtual 65, 3) := by decide +kernel
theorem dX5_isStraight_6 : decode cX5_isStraight 6 = .ok (.aload_n 0, 1) := by decide +kernel
theorem dX5_isStraight_7 : decode cX5_isStraight 7 = .ok (.iload_n 1, 1) := by decide +kernel
theorem dX5_isStraight_8 : decode cX5_isStraight 8 = .ok (.iload_n 3, 1) := by decide +kernel
theorem dX5_isStraight_9 : decode cX5_isStraight 9 = .ok (.invokevirtual 69, 3) := by decide +kernel
theorem dX5_isStraight_12 : decode cX5_isStraight 12 = .ok (.imul, 1) := by decide +kernel
theorem dX5_isStraight_13 : decode cX5_isStraight 13 = .ok (.aload_n 0, 1) := by decide +kernel
theorem dX5_isStraight_14 : decode cX5_isStraight 14 = .ok (.iload_n 1, 1) := by decide +kernel
theorem dX5_isStraight_15 : decode cX5_isStraight 15 = .ok (.iload_n 3, 1) := by decide +kernel
theorem dX5_isStraight_16 : decode cX5_isStraight 16 = .ok (.invokevirtual 65, 3) := by decide +kernel
theorem dX5_isStraight_19 : decode cX5_isStraight 19 = .ok (.aload_n 0, 1) := by decide +kernel
theorem dX5_isStraight_20 : decode cX5_isStraight 20 = .ok (.iload_n 1, 1) := by decide +kernel
theorem dX5_isStraight_21 : decode cX5_isStraight 21 = .ok (.iload_n 2, 1) := by decide +kernel
theorem dX5_isStraight_22 : decode cX5_isStraight 22 = .ok (.invokevirtual 69, 3) := by decide +kernel
theorem dX5_isStraight_25 : decode cX5_isStraight 25 = .ok (.imul, 1) := by decide +kernel
theorem dX5_isStraight_26 : decode cX5_isStraight 26 = .ok (.if_icmp .ne 7, 3) := by decide +kernel
theorem dX5_isStraight_29 : decode cX5_isStraight 29 = .ok (.iconst 1, 1) := by decide +kernel
theorem dX5_isStraight_30 : decode cX5_isStraight 30 = .ok (.goto 4, 3) := by decide +kernel
theorem dX5_isStraight_33 : decode cX5_isStraight 33 = .ok (.iconst 0, 1) := by decide +kernel
theorem dX5_isStraight_34 : decode cX5_isStraight 34 = .ok (.ireturn, 1) := by decide +kernel
theorem dX5_bits_0 : decode cX5_bits 0 = .ok (.iconst 0, 1) := by decide +kernel
theorem dX5_bits_1 : decode cX5_bits 1 = .ok (.istore_n 1, 1) := by decide +kernel
theorem dX5_bits_2 : decode cX5_bits 2 = .ok (.iload_n 0, 1) := by decide +kernel
theorem dX5_bits_3 : decode cX5_bits 3 = .ok (.istore_n 2, 1) := by decide +kernel
theorem dX5_bits_4 : decode cX5_bits 4 = .ok (.iload_n 2, 1) := by decide +kernel
theorem dX5_bits_5 : decode cX5_bits 5 = .ok (.ifCond .eq 15, 3) := by decide +kernel
theorem dX5_bits_8 : decode cX5_bits 8 = .ok (.iinc 1 1, 3) := by decide +kernel
theorem dX5_bits_11 : decode cX5_bits 11 = .ok (.iload_n 2, 1) := by decide +kernel
theorem dX5_bits_12 : decode cX5_bits 12 = .ok (.iload_n 2, 1) := by decide +kernel
theorem dX5_bits_13 : decode cX5_bits 13 = .ok (.iconst 1, 1) := by decide +kernel
theorem dX5_bits_14 : decode cX5_bits 14 = .ok (.isub, 1) := by decide +kernel
theorem dX5_bits_15 : decode cX5_bits 15 = .ok (.iand, 1) := by decide +kernel
theorem dX5_bits_16 : decode cX5_bits 16 = .ok (.istore_n 2, 1) := by decide +kernel
theorem dX5_bits_17 : decode cX5_bits 17 = .ok (.goto (-13), 3) := by decide +kernel
theorem dX5_bits_20 : decode cX5_bits 20 = .ok (.iload_n 1, 1) := by decide +kernel
theorem dX5_bits_21 : decode cX5_bits 21 = .ok (.ireturn, 1) := by decide +kernel
theorem dX5_stepsTo_0 : decode cX5_stepsTo 0 = .ok (.aload_n 0, 1) := by decide +kernel
theorem dX5_stepsTo_1 : decode cX5_stepsTo 1 = .ok (.getfield 25, 3) := by decide +kernel
theorem dX5_stepsTo_4 : decode cX5_stepsTo 4 = .ok (.aload_n 0, 1) := by decide +kernel
theorem dX5_stepsTo_5 : decode cX5_stepsTo 5 = .ok (.getfield 72, 3) := by decide +kernel
theorem dX5_stepsTo_8 : decode cX5_stepsTo 8 = .ok (.iaload, 1) := by decide +kernel
theorem dX5_stepsTo_9 : decode cX5_stepsTo 9 = .ok (.istore_n 3, 1) := by decide +kernel
theorem dX5_stepsTo_10 : decode cX5_stepsTo 10 = .ok (.iload_n 3, 1) := by decide +kernel
theorem dX5_stepsTo_11 : decode cX5_stepsTo 11 = .ok (.ifCond .le 14, 3) := by decide +kernel
theorem dX5_stepsTo_14 : decode cX5_stepsTo 14 = .ok (.aload_n 0, 1) := by decide +kernel
theorem dX5_stepsTo_15 : decode cX5_stepsTo 15 = .ok (.iload_n 1, 1) := by decide +kernel
theorem dX5_stepsTo_16 : decode cX5_stepsTo 16 = .ok (.iload_n 2, 1) := by decide +kernel
theorem dX5_stepsTo_17 : decode cX5_stepsTo 17 = .ok (.invokevirtual 65, 3) := by decide +kernel
theorem dX5_stepsTo_20 : decode cX5_stepsTo 20 = .ok (.iload_n 3, 1) := by decide +kernel
theorem dX5_stepsTo_21 : decode cX5_stepsTo 21 = .ok (.idiv, 1) := by decide +kernel
theorem dX5_stepsTo_22 : decode cX5_stepsTo 22 = .ok (.goto 19, 3) := by decide +kernel
theorem dX5_stepsTo_25 : decode cX5_stepsTo 25 = .ok (.aload_n 0, 1) := by decide +kernel
theorem dX5_stepsTo_26 : decode cX5_stepsTo 26 = .ok (.iload_n 1, 1) := by decide +kernel
theorem dX5_stepsTo_27 : decode cX5_stepsTo 27 = .ok (.iload_n 2, 1) := by decide +kernel
theorem dX5_stepsTo_28 : decode cX5_stepsTo 28 = .ok (.invokevirtual 69, 3) := by decide +kernel
theorem dX5_stepsTo_31 : decode cX5_stepsTo 31 = .ok (.aload_n 0, 1) := by decide +kernel
theorem dX5_stepsTo_32 : decode cX5_stepsTo 32 = .ok (.getfield 28, 3) := by decide +kernel
theorem dX5_stepsTo_35 : decode cX5_stepsTo 35 = .ok (.aload_n 0, 1) := by decide +kernel
theorem dX5_stepsTo_36 : decode cX5_stepsTo 36 = .ok (.getfield 72, 3) := by decide +kernel
theorem dX5_stepsTo_39 : decode cX5_stepsTo 39 = .ok (.iaload, 1) := by decide +kernel
theorem dX5_stepsTo_40 : decode cX5_stepsTo 40 = .ok (.idiv, 1) := by decide +kernel
theorem dX5_stepsTo_41 : decode cX5_stepsTo 41 = .ok (.ireturn, 1) := by decide +kernel
theorem dX5_areNear_0 : decode cX5_areNear 0 = .ok (.iconst 1, 1) := by decide +kernel
theorem dX5_areNear_1 : decode cX5_areNear 1 = .ok (.istore_n 3, 1) := by decide +kernel
theorem dX5_areNear_2 : decode cX5_areNear 2 = .ok (.iconst 0, 1) := by decide +kernel
theorem dX5_areNear_3 : decode cX5_areNear 3 = .ok (.istore 4, 2) := by decide +kernel
theorem dX5_areNear_5 : decode cX5_areNear 5 = .ok (.iload 4, 2) := by decide +kernel
theorem dX5_areNear_7 : decode cX5_areNear 7 = .ok (.aload_n 0, 1) := by decide +kernel
theorem dX5_areNear_8 : decode cX5_areNear 8 = .ok (.getfield 7, 3) := by decide +kernel
theorem dX5_areNear_11 : decode cX5_areNear 11 = .ok (.iconst 3, 1) := by decide +kernel
theorem dX5_areNear_12 : decode cX5_areNear 12 = .ok (.iaload, 1) := by decide +kernel
theorem dX5_areNear_13 : decode cX5_areNear 13 = .ok (.if_icmp .ge 125, 3) := by decide +kernel
theorem dX5_areNear_16 : decode cX5_areNear 16 = .ok (.sipush 1000, 3) := by decide +kernel
theorem dX5_areNear_19 : decode cX5_areNear 19 = .ok (.istore 5, 2) := by decide +kernel
theorem dX5_areNear_21 : decode cX5_areNear 21 = .ok (.iconst 0, 1) := by decide +kernel
theorem dX5_areNear_22 : decode cX5_areNear 22 = .ok (.istore 6, 2) := by decide +kernel
theorem dX5_areNear_24 : decode cX5_areNear 24 = .ok (.iload 6, 2) := by decide +kernel
theorem dX5_areNear_26 : decode cX5_areNear 26 = .ok (.aload_n 0, 1) := by decide +kernel
theorem dX5_areNear_27 : decode cX5_areNear 27 = .ok (.getfield 7, 3) := by decide +kernel
theorem dX5_areNear_30 : decode cX5_areNear 30 = .ok (.iconst 3, 1) := by decide +kernel
theorem dX5_areNear_31 : decode cX5_areNear 31 = .ok (.iaload, 1) := by decide +kernel
theorem dX5_areNear_32 : decode cX5_areNear 32 = .ok (.if_icmp .ge 71, 3) := by decide +kernel
theorem dX5_areNear_35 : decode cX5_areNear 35 = .ok (.iload_n 2, 1) := by decide +kernel
theorem dX5_areNear_36 : decode cX5_areNear 36 = .ok (.iload 4, 2) := by decide +kernel
theorem dX5_areNear_38 : decode cX5_areNear 38 = .ok (.ishr, 1) := by decide +kernel
theorem dX5_areNear_39 : decode cX5_areNear 39 = .ok (.iconst 1, 1) := by decide +kernel
theorem dX5_areNear_40 : decode cX5_areNear 40 = .ok (.iand, 1) := by decide +kernel
theorem dX5_areNear_41 : decode cX5_areNear 41 = .ok (.iconst 1, 1) := by decide +kernel
theorem dX5_areNear_42 : decode cX5_areNear 42 = .ok (.if_icmp .ne 61, 3) := by decide +kernel
theorem dX5_areNear_45 : decode cX5_areNear 45 = .ok (.iload_n 2, 1) := by decide +kernel
theorem dX5_areNear_46 : decode cX5_areNear 46 = .ok (.iload 6, 2) := by decide +kernel
theorem dX5_areNear_48 : decode cX5_areNear 48 = .ok (.ishr, 1) := by decide +kernel
theorem dX5_areNear_49 : decode cX5_areNear 49 = .ok (.iconst 1, 1) := by decide +kernel
theorem dX5_areNear_50 : decode cX5_areNear 50 = .ok (.iand, 1) := by decide +kernel
theorem dX5_areNear_51 : decode cX5_areNear 51 = .ok (.iconst 1, 1) := by decide +kernel
theorem dX5_areNear_52 : decode cX5_areNear 52 = .ok (.if_icmp .ne 21, 3) := by decide +kernel
theorem dX5_areNear_55 : decode cX5_areNear 55 = .ok (.aload_n 0, 1) := by decide +kernel
theorem dX5_areNear_56 : decode cX5_areNear 56 = .ok (.iload_n 1, 1) := by decide +kernel
theorem dX5_areNear_57 : decode cX5_areNear 57 = .ok (.iload 6, 2) := by decide +kernel
theorem dX5_areNear_59 : decode cX5_areNear 59 = .ok (.invokevirtual 75, 3) := by decide +kernel
theorem dX5_areNear_62 : decode cX5_areNear 62 = .ok (.aload_n 0, 1) := by decide +kernel
theorem dX5_areNear_63 : decode cX5_areNear 63 = .ok (.iload_n 1, 1) := by decide +kernel
theorem dX5_areNear_64 : decode cX5_areNear 64 = .ok (.iload 4, 2) := by decide +kernel
theorem dX5_areNear_66 : decode cX5_areNear 66 = .ok (.invokevirtual 75, 3) := by decide +kernel
theorem dX5_areNear_69 : decode cX5_areNear 69 = .ok (.isub, 1) := by decide +kernel
theorem dX5_areNear_70 : decode cX5_areNear 70 = .ok (.goto 4, 3) := by decide +kernel
theorem dX5_areNear_73 : decode cX5_areNear 73 = .ok (.iconst 0, 1) := by decide +kernel
theorem dX5_areNear_74 : decode cX5_areNear 74 = .ok (.istore 7, 2) := by decide +kernel
theorem dX5_areNear_76 : decode cX5_areNear 76 = .ok (.iload 7, 2) := by decide +kernel
theorem dX5_areNear_78 : decode cX5_areNear 78 = .ok (.ifCond .le 15, 3) := by decide +kernel
theorem dX5_areNear_81 : decode cX5_areNear 81 = .ok (.iload 7, 2) := by decide +kernel
theorem dX5_areNear_83 : decode cX5_areNear 83 = .ok (.iload 5, 2) := by decide +kernel
theorem dX5_areNear_85 : decode cX5_areNear 85 = .ok (.if_icmp .ge 8, 3) := by decide +kernel
theorem dX5_areNear_88 : decode cX5_areNear 88 = .ok (.iload 7, 2) := by decide +kernel
theorem dX5_areNear_90 : decode cX5_areNear 90 = .ok (.goto 5, 3) := by decide +kernel
theorem dX5_areNear_93 : decode cX5_areNear 93 = .ok (.iload 5, 2) := by decide +kernel
theorem dX5_areNear_95 : decode cX5_areNear 95 = .ok (.istore 5, 2) := by decide +kernel
theorem dX5_areNear_97 : decode cX5_areNear 97 = .ok (.iinc 6 1, 3) := by decide +kernel
theorem dX5_areNear_100 : decode cX5_areNear 100 = .ok (.goto (-76), 3) := by decide +kernel
theorem dX5_areNear_103 : decode cX5_areNear 103 = .ok (.iload_n 3, 1) := by decide +kernel
theorem dX5_areNear_104 : decode cX5_areNear 104 = .ok (.ifCond .eq 26, 3) := by decide +kernel
theorem dX5_areNear_107 : decode cX5_areNear 107 = .ok (.iload 5, 2) := by decide +kernel
theorem dX5_areNear_109 : decode cX5_areNear 109 = .ok (.sipush 1000, 3) := by decide +kernel
theorem dX5_areNear_112 : decode cX5_areNear 112 = .ok (.if_icmp .eq 14, 3) := by decide +kernel
theorem dX5_areNear_115 : decode cX5_areNear 115 = .ok (.iload 5, 2) := by decide +kernel
theorem dX5_areNear_117 : decode cX5_areNear 117 = .ok (.aload_n 0, 1) := by decide +kernel
theorem dX5_areNear_118 : decode cX5_areNear 118 = .ok (.getfield 7, 3) := by decide +kernel
theorem dX5_areNear_121 : decode cX5_areNear 121 = .ok (.iconst 1, 1) := by decide +kernel
theorem dX5_areNear_122 : decode cX5_areNear 122 = .ok (.iaload, 1) := by decide +kernel
theorem dX5_areNear_123 : decode cX5_areNear 123 = .ok (.if_icmp .gt 7, 3) := by decide +kernel
theorem dX5_areNear_126 : decode cX5_areNear 126 = .ok (.iconst 1, 1) := by decide +kernel
theorem dX5_areNear_127 : decode cX5_areNear 127 = .ok (.goto 4, 3) := by decide +kernel
theorem dX5_areNear_130 : decode cX5_areNear 130 = .ok (.iconst 0, 1) := by decide +kernel
theorem dX5_areNear_131 : decode cX5_areNear 131 = .ok (.istore_n 3, 1) := by decide +kernel
theorem dX5_areNear_132 : decode cX5_areNear 132 = .ok (.iinc 4 1, 3) := by decide +kernel
theorem dX5_areNear_135 : decode cX5_areNear 135 = .ok (.goto (-130), 3) := by decide +kernel
theorem dX5_areNear_138 : decode cX5_areNear 138 = .ok (.iload_n 3, 1) := by decide +kernel
theorem dX5_areNear_139 : decode cX5_areNear 139 = .ok (.ireturn, 1) := by decide +kernel
theorem dX5_layLine_0 : decode cX5_layLine 0 = .ok (.aload_n 0, 1) := by decide +kernel
theorem dX5_layLine_1 : decode cX5_layLine 1 = .ok (.iload_n 1, 1) := by decide +kernel
theorem dX5_layLine_2 : decode cX5_layLine 2 = .ok (.iload_n 2, 1) := by decide +kernel
theorem dX5_layLine_3 : decode cX5_layLine 3 = .ok (.invokevirtual 65, 3) := by decide +kernel
theorem dX5_layLine_6 : decode cX5_layLine 6 = .ok (.istore_n 3, 1) := by decide +kernel
theorem dX5_layLine_7 : decode cX5_layLine 7 = .ok (.aload_n 0, 1) := by decide +kernel
theorem dX5_layLine_8 : decode cX5_layLine 8 = .ok (.iload_n 1, 1) := by decide +kernel
theorem dX5_layLine_9 : decode cX5_layLine 9 = .ok (.iload_n 2, 1) := by decide +kernel
theorem dX5_layLine_10 : decode cX5_layLine 10 = .ok (.invokevirtual 69, 3) := by decide +kernel
theorem dX5_layLine_13 : decode cX5_layLine 13 = .ok (.istore 4, 2) := by decide +kernel
theorem dX5_layLine_15 : decode cX5_layLine 15 = .ok (.iload_n 3, 1) := by decide +kernel
theorem dX5_layLine_16 : decode cX5_layLine 16 = .ok (.invokestatic 78, 3) := by decide +kernel
theorem dX5_layLine_19 : decode cX5_layLine 19 = .ok (.iload 4, 2) := by decide +kernel
theorem dX5_layLine_21 : decode cX5_layLine 21 = .ok (.invokestatic 78, 3) := by decide +kernel
theorem dX5_layLine_24 : decode cX5_layLine 24 = .ok (.invokestatic 81, 3) := by decide +kernel
theorem dX5_layLine_27 : decode cX5_layLine 27 = .ok (.istore 5, 2) := by decide +kernel
theorem dX5_layLine_29 : decode cX5_layLine 29 = .ok (.iload_n 3, 1) := by decide +kernel
theorem dX5_layLine_30 : decode cX5_layLine 30 = .ok (.ifCond .lt 12, 3) := by decide +kernel
theorem dX5_layLine_33 : decode cX5_layLine 33 = .ok (.iload_n 3, 1) := by decide +kernel
theorem dX5_layLine_34 : decode cX5_layLine 34 = .ok (.ifCond .ne 12, 3) := by decide +kernel
theorem dX5_layLine_37 : decode cX5_layLine 37 = .ok (.iload 4, 2) := by decide +kernel
theorem dX5_layLine_39 : decode cX5_layLine 39 = .ok (.ifCond .ge 7, 3) := by decide +kernel
theorem dX5_layLine_42 : decode cX5_layLine 42 = .ok (.iconst (-1), 1) := by decide +kernel
theorem dX5_layLine_43 : decode cX5_layLine 43 = .ok (.goto 4, 3) := by decide +kernel
theorem dX5_layLine_46 : decode cX5_layLine 46 = .ok (.iconst 1, 1) := by decide +kernel
theorem dX5_layLine_47 : decode cX5_layLine 47 = .ok (.istore 6, 2) := by decide +kernel
theorem dX5_layLine_49 : decode cX5_layLine 49 = .ok (.aload_n 0, 1) := by decide +kernel
theorem dX5_layLine_50 : decode cX5_layLine 50 = .ok (.getfield 25, 3) := by decide +kernel
theorem dX5_layLine_53 : decode cX5_layLine 53 = .ok (.aload_n 0, 1) := by decide +kernel
theorem dX5_layLine_54 : decode cX5_layLine 54 = .ok (.getfield 72, 3) := by decide +kernel
theorem dX5_layLine_57 : decode cX5_layLine 57 = .ok (.iload 6, 2) := by decide +kernel
theorem dX5_layLine_59 : decode cX5_layLine 59 = .ok (.iload_n 3, 1) := by decide +kernel
theorem dX5_layLine_60 : decode cX5_layLine 60 = .ok (.imul, 1) := by decide +kernel
theorem dX5_layLine_61 : decode cX5_layLine 61 = .ok (.iload 5, 2) := by decide +kernel
theorem dX5_layLine_63 : decode cX5_layLine 63 = .ok (.idiv, 1) := by decide +kernel
theorem dX5_layLine_64 : decode cX5_layLine 64 = .ok (.iastore, 1) := by decide +kernel
theorem dX5_layLine_65 : decode cX5_layLine 65 = .ok (.aload_n 0, 1) := by decide +kernel
theorem dX5_layLine_66 : decode cX5_layLine 66 = .ok (.getfield 28, 3) := by decide +kernel
theorem dX5_layLine_69 : decode cX5_layLine 69 = .ok (.aload_n 0, 1) := by decide +kernel
theorem dX5_layLine_70 : decode cX5_layLine 70 = .ok (.getfield 72, 3) := by decide +kernel
theorem dX5_layLine_73 : decode cX5_layLine 73 = .ok (.iload 6, 2) := by decide +kernel
theorem dX5_layLine_75 : decode cX5_layLine 75 = .ok (.iload 4, 2) := by decide +kernel
theorem dX5_layLine_77 : decode cX5_layLine 77 = .ok (.imul, 1) := by decide +kernel
theorem dX5_layLine_78 : decode cX5_layLine 78 = .ok (.iload 5, 2) := by decide +kernel
theorem dX5_layLine_80 : decode cX5_layLine 80 = .ok (.idiv, 1) := by decide +kernel
theorem dX5_layLine_81 : decode cX5_layLine 81 = .ok (.iastore, 1) := by decide +kernel
theorem dX5_layLine_82 : decode cX5_layLine 82 = .ok (.iconst 0, 1) := by decide +kernel
theorem dX5_layLine_83 : decode cX5_layLine 83 = .ok (.istore 7, 2) := by decide +kernel
theorem dX5_layLine_85 : decode cX5_layLine 85 = .ok (.iconst 1, 1) := by decide +kernel
theorem dX5_layLine_86 : decode cX5_layLine 86 = .ok (.istore 8, 2) := by decide +kernel
theorem dX5_layLine_88 : decode cX5_layLine 88 = .ok (.iconst 0, 1) := by decide +kernel
theorem dX5_layLine_89 : decode cX5_layLine 89 = .ok (.istore 9, 2) := by decide +kernel
theorem dX5_layLine_91 : decode cX5_layLine 91 = .ok (.iconst 0, 1) := by decide +kernel
theorem dX5_layLine_92 : decode cX5_layLine 92 = .ok (.istore 10, 2) := by decide +kernel
theorem dX5_layLine_94 : decode cX5_layLine 94 = .ok (.iconst 0, 1) := by decide +kernel
theorem dX5_layLine_95 : decode cX5_layLine 95 = .ok (.istore 11, 2) := by decide +kernel
theorem dX5_layLine_97 : decode cX5_layLine 97 = .ok (.iload 11, 2) := by decide +kernel
theorem dX5_layLine_99 : decode cX5_layLine 99 = .ok (.aload_n 0, 1) := by decide +kernel
theorem dX5_layLine_100 : decode cX5_layLine 100 = .ok (.getfield 7, 3) := by decide +kernel
theorem dX5_layLine_103 : decode cX5_layLine 103 = .ok (.iconst 3, 1) := by decide +kernel
theorem dX5_layLine_104 : decode cX5_layLine 104 = .ok (.iaload, 1) := by decide +kernel
theorem dX5_layLine_105 : decode cX5_layLine 105 = .ok (.if_icmp .ge 105, 3) := by decide +kernel
theorem dX5_layLine_108 : decode cX5_layLine 108 = .ok (.aload_n 0, 1) := by decide +kernel
theorem dX5_layLine_109 : decode cX5_layLine 109 = .ok (.iload_n 1, 1) := by decide +kernel
theorem dX5_layLine_110 : decode cX5_layLine 110 = .ok (.iload_n 2, 1) := by decide +kernel
theorem dX5_layLine_111 : decode cX5_layLine 111 = .ok (.iload 11, 2) := by decide +kernel
theorem dX5_layLine_113 : decode cX5_layLine 113 = .ok (.invokevirtual 84, 3) := by decide +kernel
theorem dX5_layLine_116 : decode cX5_layLine 116 = .ok (.ifCond .eq 88, 3) := by decide +kernel
theorem dX5_layLine_119 : decode cX5_layLine 119 = .ok (.iload 7, 2) := by decide +kernel
theorem dX5_layLine_121 : decode cX5_layLine 121 = .ok (.iconst 1, 1) := by decide +kernel
theorem dX5_layLine_122 : decode cX5_layLine 122 = .ok (.iload 11, 2) := by decide +kernel
theorem dX5_layLine_124 : decode cX5_layLine 124 = .ok (.ishl, 1) := by decide +kernel
theorem dX5_layLine_125 : decode cX5_layLine 125 = .ok (.ior, 1) := by decide +kernel
theorem dX5_layLine_126 : decode cX5_layLine 126 = .ok (.istore 7, 2) := by decide +kernel
theorem dX5_layLine_128 : decode cX5_layLine 128 = .ok (.iload 8, 2) := by decide +kernel
theorem dX5_layLine_130 : decode cX5_layLine 130 = .ok (.ifCond .eq 19, 3) := by decide +kernel
theorem dX5_layLine_133 : decode cX5_layLine 133 = .ok (.iload 11, 2) := by decide +kernel
theorem dX5_layLine_135 : decode cX5_layLine 135 = .ok (.iload_n 1, 1) := by decide +kernel
theorem dX5_layLine_136 : decode cX5_layLine 136 = .ok (.if_icmp .eq 9, 3) := by decide +kernel
theorem dX5_layLine_139 : decode cX5_layLine 139 = .ok (.iload 11, 2) := by decide +kernel
theorem dX5_layLine_141 : decode cX5_layLine 141 = .ok (.iload_n 2, 1) := by decide +kernel
theorem dX5_layLine_142 : decode cX5_layLine 142 = .ok (.if_icmp .lt 7, 3) := by decide +kernel
theorem dX5_layLine_145 : decode cX5_layLine 145 = .ok (.iconst 1, 1) := by decide +kernel
theorem dX5_layLine_146 : decode cX5_layLine 146 = .ok (.goto 4, 3) := by decide +kernel
theorem dX5_layLine_149 : decode cX5_layLine 149 = .ok (.iconst 0, 1) := by decide +kernel
theorem dX5_layLine_150 : decode cX5_layLine 150 = .ok (.istore 8, 2) := by decide +kernel
theorem dX5_layLine_152 : decode cX5_layLine 152 = .ok (.aload_n 0, 1) := by decide +kernel
theorem dX5_layLine_153 : decode cX5_layLine 153 = .ok (.iload_n 1, 1) := by decide +kernel
theorem dX5_layLine_154 : decode cX5_layLine 154 = .ok (.iload 11, 2) := by decide +kernel
theorem dX5_layLine_156 : decode cX5_layLine 156 = .ok (.invokevirtual 75, 3) := by decide +kernel
theorem dX5_layLine_159 : decode cX5_layLine 159 = .ok (.iload 9, 2) := by decide +kernel
theorem dX5_layLine_161 : decode cX5_layLine 161 = .ok (.if_icmp .ge 13, 3) := by decide +kernel
theorem dX5_layLine_164 : decode cX5_layLine 164 = .ok (.aload_n 0, 1) := by decide +kernel
theorem dX5_layLine_165 : decode cX5_layLine 165 = .ok (.iload_n 1, 1) := by decide +kernel
theorem dX5_layLine_166 : decode cX5_layLine 166 = .ok (.iload 11, 2) := by decide +kernel
theorem dX5_layLine_168 : decode cX5_layLine 168 = .ok (.invokevirtual 75, 3) := by decide +kernel
theorem dX5_layLine_171 : decode cX5_layLine 171 = .ok (.goto 5, 3) := by decide +kernel
theorem dX5_layLine_174 : decode cX5_layLine 174 = .ok (.iload 9, 2) := by decide +kernel
theorem dX5_layLine_176 : decode cX5_layLine 176 = .ok (.istore 9, 2) := by decide +kernel
theorem dX5_layLine_178 : decode cX5_layLine 178 = .ok (.aload_n 0, 1) := by decide +kernel
theorem dX5_layLine_179 : decode cX5_layLine 179 = .ok (.iload_n 1, 1) := by decide +kernel
theorem dX5_layLine_180 : decode cX5_layLine 180 = .ok (.iload 11, 2) := by decide +kernel
theorem dX5_layLine_182 : decode cX5_layLine 182 = .ok (.invokevirtual 75, 3) := by decide +kernel
theorem dX5_layLine_185 : decode cX5_layLine 185 = .ok (.iload 10, 2) := by decide +kernel
theorem dX5_layLine_187 : decode cX5_layLine 187 = .ok (.if_icmp .le 13, 3) := by decide +kernel
theorem dX5_layLine_190 : decode cX5_layLine 190 = .ok (.aload_n 0, 1) := by decide +kernel
theorem dX5_layLine_191 : decode cX5_layLine 191 = .ok (.iload_n 1, 1) := by decide +kernel
theorem dX5_layLine_192 : decode cX5_layLine 192 = .ok (.iload 11, 2) := by decide +kernel
theorem dX5_layLine_194 : decode cX5_layLine 194 = .ok (.invokevirtual 75, 3) := by decide +kernel
theorem dX5_layLine_197 : decode cX5_layLine 197 = .ok (.goto 5, 3) := by decide +kernel
theorem dX5_layLine_200 : decode cX5_layLine 200 = .ok (.iload 10, 2) := by decide +kernel
theorem dX5_layLine_202 : decode cX5_layLine 202 = .ok (.istore 10, 2) := by decide +kernel
theorem dX5_layLine_204 : decode cX5_layLine 204 = .ok (.iinc 11 1, 3) := by decide +kernel
theorem dX5_layLine_207 : decode cX5_layLine 207 = .ok (.goto (-110), 3) := by decide +kernel
theorem dX5_layLine_210 : decode cX5_layLine 210 = .ok (.iload 8, 2) := by decide +kernel
theorem dX5_layLine_212 : decode cX5_layLine 212 = .ok (.ifCond .eq 98, 3) := by decide +kernel
theorem dX5_layLine_215 : decode cX5_layLine 215 = .ok (.iload 7, 2) := by decide +kernel
theorem dX5_layLine_217 : decode cX5_layLine 217 = .ok (.invokestatic 87, 3) := by decide +kernel
theorem dX5_layLine_220 : decode cX5_layLine 220 = .ok (.aload_n 0, 1) := by decide +kernel
theorem dX5_layLine_221 : decode cX5_layLine 221 = .ok (.getfield 7, 3) := by decide +kernel
theorem dX5_layLine_224 : decode cX5_layLine 224 = .ok (.iconst 0, 1) := by decide +kernel
theorem dX5_layLine_225 : decode cX5_layLine 225 = .ok (.iaload, 1) := by decide +kernel
theorem dX5_layLine_226 : decode cX5_layLine 226 = .ok (.if_icmp .lt 84, 3) := by decide +kernel
theorem dX5_layLine_229 : decode cX5_layLine 229 = .ok (.aload_n 0, 1) := by decide +kernel
theorem dX5_layLine_230 : decode cX5_layLine 230 = .ok (.iload_n 1, 1) := by decide +kernel
theorem dX5_layLine_231 : decode cX5_layLine 231 = .ok (.iload 7, 2) := by decide +kernel
theorem dX5_layLine_233 : decode cX5_layLine 233 = .ok (.invokevirtual 90, 3) := by decide +kernel
theorem dX5_layLine_236 : decode cX5_layLine 236 = .ok (.ifCond .eq 74, 3) := by decide +kernel
theorem dX5_layLine_239 : decode cX5_layLine 239 = .ok (.aload_n 0, 1) := by decide +kernel
theorem dX5_layLine_240 : decode cX5_layLine 240 = .ok (.getfield 22, 3) := by decide +kernel
theorem dX5_layLine_243 : decode cX5_layLine 243 = .ok (.aload_n 0, 1) := by decide +kernel
theorem dX5_layLine_244 : decode cX5_layLine 244 = .ok (.getfield 72, 3) := by decide +kernel
theorem dX5_layLine_247 : decode cX5_layLine 247 = .ok (.iload 7, 2) := by decide +kernel
theorem dX5_layLine_249 : decode cX5_layLine 249 = .ok (.iastore, 1) := by decide +kernel
theorem dX5_layLine_250 : decode cX5_layLine 250 = .ok (.aload_n 0, 1) := by decide +kernel
theorem dX5_layLine_251 : decode cX5_layLine 251 = .ok (.getfield 37, 3) := by decide +kernel
theorem dX5_layLine_254 : decode cX5_layLine 254 = .ok (.aload_n 0, 1) := by decide +kernel
theorem dX5_layLine_255 : decode cX5_layLine 255 = .ok (.getfield 72, 3) := by decide +kernel
theorem dX5_layLine_258 : decode cX5_layLine 258 = .ok (.aload_n 0, 1) := by decide +kernel
theorem dX5_layLine_259 : decode cX5_layLine 259 = .ok (.iload_n 1, 1) := by decide +kernel
theorem dX5_layLine_260 : decode cX5_layLine 260 = .ok (.invokevirtual 58, 3) := by decide +kernel
theorem dX5_layLine_263 : decode cX5_layLine 263 = .ok (.iastore, 1) := by decide +kernel
theorem dX5_layLine_264 : decode cX5_layLine 264 = .ok (.aload_n 0, 1) := by decide +kernel
theorem dX5_layLine_265 : decode cX5_layLine 265 = .ok (.getfield 31, 3) := by decide +kernel
theorem dX5_layLine_268 : decode cX5_layLine 268 = .ok (.aload_n 0, 1) := by decide +kernel
theorem dX5_layLine_269 : decode cX5_layLine 269 = .ok (.getfield 72, 3) := by decide +kernel
theorem dX5_layLine_272 : decode cX5_layLine 272 = .ok (.iload 9, 2) := by decide +kernel
theorem dX5_layLine_274 : decode cX5_layLine 274 = .ok (.aload_n 0, 1) := by decide +kernel
theorem dX5_layLine_275 : decode cX5_layLine 275 = .ok (.getfield 7, 3) := by decide +kernel
theorem dX5_layLine_278 : decode cX5_layLine 278 = .ok (.iconst 2, 1) := by decide +kernel
theorem dX5_layLine_279 : decode cX5_layLine 279 = .ok (.iaload, 1) := by decide +kernel
theorem dX5_layLine_280 : decode cX5_layLine 280 = .ok (.isub, 1) := by decide +kernel
theorem dX5_layLine_281 : decode cX5_layLine 281 = .ok (.iastore, 1) := by decide +kernel
theorem dX5_layLine_282 : decode cX5_layLine 282 = .ok (.aload_n 0, 1) := by decide +kernel
theorem dX5_layLine_283 : decode cX5_layLine 283 = .ok (.getfield 34, 3) := by decide +kernel
theorem dX5_layLine_286 : decode cX5_layLine 286 = .ok (.aload_n 0, 1) := by decide +kernel
theorem dX5_layLine_287 : decode cX5_layLine 287 = .ok (.getfield 72, 3) := by decide +kernel
theorem dX5_layLine_290 : decode cX5_layLine 290 = .ok (.iload 10, 2) := by decide +kernel
theorem dX5_layLine_292 : decode cX5_layLine 292 = .ok (.aload_n 0, 1) := by decide +kernel
theorem dX5_layLine_293 : decode cX5_layLine 293 = .ok (.getfield 7, 3) := by decide +kernel
theorem dX5_layLine_296 : decode cX5_layLine 296 = .ok (.iconst 2, 1) := by decide +kernel
theorem dX5_layLine_297 : decode cX5_layLine 297 = .ok (.iaload, 1) := by decide +kernel
theorem dX5_layLine_298 : decode cX5_layLine 298 = .ok (.iadd, 1) := by decide +kernel
theorem dX5_layLine_299 : decode cX5_layLine 299 = .ok (.iastore, 1) := by decide +kernel
theorem dX5_layLine_300 : decode cX5_layLine 300 = .ok (.aload_n 0, 1) := by decide +kernel
theorem dX5_layLine_301 : decode cX5_layLine 301 = .ok (.dup, 1) := by decide +kernel
theorem dX5_layLine_302 : decode cX5_layLine 302 = .ok (.getfield 72, 3) := by decide +kernel
theorem dX5_layLine_305 : decode cX5_layLine 305 = .ok (.iconst 1, 1) := by decide +kernel
theorem dX5_layLine_306 : decode cX5_layLine 306 = .ok (.iadd, 1) := by decide +kernel
theorem dX5_layLine_307 : decode cX5_layLine 307 = .ok (.putfield 72, 3) := by decide +kernel
theorem dX5_layLine_310 : decode cX5_layLine 310 = .ok (.return_, 1) := by decide +kernel
theorem dX5_cellOf_0 : decode cX5_cellOf 0 = .ok (.aload_n 0, 1) := by decide +kernel
theorem dX5_cellOf_1 : decode cX5_cellOf 1 = .ok (.getfield 37, 3) := by decide +kernel
theorem dX5_cellOf_4 : decode cX5_cellOf 4 = .ok (.iload_n 1, 1) := by decide +kernel
theorem dX5_cellOf_5 : decode cX5_cellOf 5 = .ok (.iaload, 1) := by decide +kernel
theorem dX5_cellOf_6 : decode cX5_cellOf 6 = .ok (.bipush 24, 2) := by decide +kernel
theorem dX5_cellOf_8 : decode cX5_cellOf 8 = .ok (.idiv, 1) := by decide +kernel
theorem dX5_cellOf_9 : decode cX5_cellOf 9 = .ok (.iload_n 2, 1) := by decide +kernel
theorem dX5_cellOf_10 : decode cX5_cellOf 10 = .ok (.aload_n 0, 1) := by decide +kernel
theorem dX5_cellOf_11 : decode cX5_cellOf 11 = .ok (.getfield 25, 3) := by decide +kernel
theorem dX5_cellOf_14 : decode cX5_cellOf 14 = .ok (.iload_n 1, 1) := by decide +kernel
theorem dX5_cellOf_15 : decode cX5_cellOf 15 = .ok (.iaload, 1) := by decide +kernel
theorem dX5_cellOf_16 : decode cX5_cellOf 16 = .ok (.imul, 1) := by decide +kernel
theorem dX5_cellOf_17 : decode cX5_cellOf 17 = .ok (.iadd, 1) := by decide +kernel
theorem dX5_cellOf_18 : decode cX5_cellOf 18 = .ok (.istore_n 3, 1) := by decide +kernel
theorem dX5_cellOf_19 : decode cX5_cellOf 19 = .ok (.aload_n 0, 1) := by decide +kernel
theorem dX5_cellOf_20 : decode cX5_cellOf 20 = .ok (.getfield 37, 3) := by decide +kernel
theorem dX5_cellOf_23 : decode cX5_cellOf 23 = .ok (.iload_n 1, 1) := by decide +kernel
theorem dX5_cellOf_24 : decode cX5_cellOf 24 = .ok (.iaload, 1) := by decide +kernel
theorem dX5_cellOf_25 : decode cX5_cellOf 25 = .ok (.bipush 24, 2) := by decide +kernel
theorem dX5_cellOf_27 : decode cX5_cellOf 27 = .ok (.irem, 1) := by decide +kernel
theorem dX5_cellOf_28 : decode cX5_cellOf 28 = .ok (.iload_n 2, 1) := by decide +kernel
theorem dX5_cellOf_29 : decode cX5_cellOf 29 = .ok (.aload_n 0, 1) := by decide +kernel
theorem dX5_cellOf_30 : decode cX5_cellOf 30 = .ok (.getfield 28, 3) := by decide +kernel
theorem dX5_cellOf_33 : decode cX5_cellOf 33 = .ok (.iload_n 1, 1) := by decide +kernel
theorem dX5_cellOf_34 : decode cX5_cellOf 34 = .ok (.iaload, 1) := by decide +kernel
theorem dX5_cellOf_35 : decode cX5_cellOf 35 = .ok (.imul, 1) := by decide +kernel
theorem dX5_cellOf_36 : decode cX5_cellOf 36 = .ok (.iadd, 1) := by decide +kernel
theorem dX5_cellOf_37 : decode cX5_cellOf 37 = .ok (.istore 4, 2) := by decide +kernel
theorem dX5_cellOf_39 : decode cX5_cellOf 39 = .ok (.iload_n 3, 1) := by decide +kernel
theorem dX5_cellOf_40 : decode cX5_cellOf 40 = .ok (.iload 4, 2) := by decide +kernel
theorem dX5_cellOf_42 : decode cX5_cellOf 42 = .ok (.invokestatic 94, 3) := by decide +kernel
theorem dX5_cellOf_45 : decode cX5_cellOf 45 = .ok (.ifCond .eq 13, 3) := by decide +kernel
theorem dX5_cellOf_48 : decode cX5_cellOf 48 = .ok (.bipush 24, 2) := by decide +kernel
theorem dX5_cellOf_50 : decode cX5_cellOf 50 = .ok (.iload_n 3, 1) := by decide +kernel
theorem dX5_cellOf_51 : decode cX5_cellOf 51 = .ok (.imul, 1) := by decide +kernel
theorem dX5_cellOf_52 : decode cX5_cellOf 52 = .ok (.iload 4, 2) := by decide +kernel
theorem dX5_cellOf_54 : decode cX5_cellOf 54 = .ok (.iadd, 1) := by decide +kernel
theorem dX5_cellOf_55 : decode cX5_cellOf 55 = .ok (.goto 4, 3) := by decide +kernel
theorem dX5_cellOf_58 : decode cX5_cellOf 58 = .ok (.iconst (-1), 1) := by decide +kernel
theorem dX5_cellOf_59 : decode cX5_cellOf 59 = .ok (.ireturn, 1) := by decide +kernel
theorem dX5_lay_0 : decode cX5_lay 0 = .ok (.aload_n 0, 1) := by decide +kernel
theorem dX5_lay_1 : decode cX5_lay 1 = .ok (.iconst 0, 1) := by decide +kernel
theorem dX5_lay_2 : decode cX5_lay 2 = .ok (.putfield 72, 3) := by decide +kernel
theorem dX5_lay_5 : decode cX5_lay 5 = .ok (.iconst 0, 1) := by decide +kernel
theorem dX5_lay_6 : decode cX5_lay 6 = .ok (.istore_n 1, 1) := by decide +kernel
theorem dX5_lay_7 : decode cX5_lay 7 = .ok (.iload_n 1, 1) := by decide +kernel
theorem dX5_lay_8 : decode cX5_lay 8 = .ok (.aload_n 0, 1) := by decide +kernel
theorem dX5_lay_9 : decode cX5_lay 9 = .ok (.getfield 7, 3) := by decide +kernel
theorem dX5_lay_12 : decode cX5_lay 12 = .ok (.iconst 3, 1) := by decide +kernel
theorem dX5_lay_13 : decode cX5_lay 13 = .ok (.iaload, 1) := by decide +kernel
theorem dX5_lay_14 : decode cX5_lay 14 = .ok (.if_icmp .ge 35, 3) := by decide +kernel
theorem dX5_lay_17 : decode cX5_lay 17 = .ok (.iload_n 1, 1) := by decide +kernel
theorem dX5_lay_18 : decode cX5_lay 18 = .ok (.iconst 1, 1) := by decide +kernel
theorem dX5_lay_19 : decode cX5_lay 19 = .ok (.iadd, 1) := by decide +kernel
theorem dX5_lay_20 : decode cX5_lay 20 = .ok (.istore_n 2, 1) := by decide +kernel
theorem dX5_lay_21 : decode cX5_lay 21 = .ok (.iload_n 2, 1) := by decide +kernel
theorem dX5_lay_22 : decode cX5_lay 22 = .ok (.aload_n 0, 1) := by decide +kernel
theorem dX5_lay_23 : decode cX5_lay 23 = .ok (.getfield 7, 3) := by decide +kernel
theorem dX5_lay_26 : decode cX5_lay 26 = .ok (.iconst 3, 1) := by decide +kernel
theorem dX5_lay_27 : decode cX5_lay 27 = .ok (.iaload, 1) := by decide +kernel
theorem dX5_lay_28 : decode cX5_lay 28 = .ok (.if_icmp .ge 15, 3) := by decide +kernel
theorem dX5_lay_31 : decode cX5_lay 31 = .ok (.aload_n 0, 1) := by decide +kernel
theorem dX5_lay_32 : decode cX5_lay 32 = .ok (.iload_n 1, 1) := by decide +kernel
theorem dX5_lay_33 : decode cX5_lay 33 = .ok (.iload_n 2, 1) := by decide +kernel
theorem dX5_lay_34 : decode cX5_lay 34 = .ok (.invokevirtual 97, 3) := by decide +kernel
theorem dX5_lay_37 : decode cX5_lay 37 = .ok (.iinc 2 1, 3) := by decide +kernel
theorem dX5_lay_40 : decode cX5_lay 40 = .ok (.goto (-19), 3) := by decide +kernel
theorem dX5_lay_43 : decode cX5_lay 43 = .ok (.iinc 1 1, 3) := by decide +kernel
theorem dX5_lay_46 : decode cX5_lay 46 = .ok (.goto (-39), 3) := by decide +kernel
theorem dX5_lay_49 : decode cX5_lay 49 = .ok (.iconst 0, 1) := by decide +kernel
theorem dX5_lay_50 : decode cX5_lay 50 = .ok (.istore_n 1, 1) := by decide +kernel
theorem dX5_lay_51 : decode cX5_lay 51 = .ok (.iload_n 1, 1) := by decide +kernel
theorem dX5_lay_52 : decode cX5_lay 52 = .ok (.sipush 576, 3) := by decide +kernel
theorem dX5_lay_55 : decode cX5_lay 55 = .ok (.if_icmp .ge 23, 3) := by decide +kernel
theorem dX5_lay_58 : decode cX5_lay 58 = .ok (.aload_n 0, 1) := by decide +kernel
theorem dX5_lay_59 : decode cX5_lay 59 = .ok (.getfield 40, 3) := by decide +kernel
theorem dX5_lay_62 : decode cX5_lay 62 = .ok (.iload_n 1, 1) := by decide +kernel
theorem dX5_lay_63 : decode cX5_lay 63 = .ok (.iconst 0, 1) := by decide +kernel
theorem dX5_lay_64 : decode cX5_lay 64 = .ok (.iastore, 1) := by decide +kernel
theorem dX5_lay_65 : decode cX5_lay 65 = .ok (.aload_n 0, 1) := by decide +kernel
theorem dX5_lay_66 : decode cX5_lay 66 = .ok (.getfield 43, 3) := by decide +kernel
theorem dX5_lay_69 : decode cX5_lay 69 = .ok (.iload_n 1, 1) := by decide +kernel
theorem dX5_lay_70 : decode cX5_lay 70 = .ok (.iconst 0, 1) := by decide +kernel
theorem dX5_lay_71 : decode cX5_lay 71 = .ok (.bastore, 1) := by decide +kernel
theorem dX5_lay_72 : decode cX5_lay 72 = .ok (.iinc 1 1, 3) := by decide +kernel
theorem dX5_lay_75 : decode cX5_lay 75 = .ok (.goto (-24), 3) := by decide +kernel
theorem dX5_lay_78 : decode cX5_lay 78 = .ok (.iconst 0, 1) := by decide +kernel
theorem dX5_lay_79 : decode cX5_lay 79 = .ok (.istore_n 1, 1) := by decide +kernel
theorem dX5_lay_80 : decode cX5_lay 80 = .ok (.iload_n 1, 1) := by decide +kernel
theorem dX5_lay_81 : decode cX5_lay 81 = .ok (.aload_n 0, 1) := by decide +kernel
theorem dX5_lay_82 : decode cX5_lay 82 = .ok (.getfield 7, 3) := by decide +kernel
theorem dX5_lay_85 : decode cX5_lay 85 = .ok (.iconst 3, 1) := by decide +kernel
theorem dX5_lay_86 : decode cX5_lay 86 = .ok (.iaload, 1) := by decide +kernel
theorem dX5_lay_87 : decode cX5_lay 87 = .ok (.if_icmp .ge 20, 3) := by decide +kernel
theorem dX5_lay_90 : decode cX5_lay 90 = .ok (.aload_n 0, 1) := by decide +kernel
theorem dX5_lay_91 : decode cX5_lay 91 = .ok (.getfield 43, 3) := by decide +kernel
theorem dX5_lay_94 : decode cX5_lay 94 = .ok (.aload_n 0, 1) := by decide +kernel
theorem dX5_lay_95 : decode cX5_lay 95 = .ok (.iload_n 1, 1) := by decide +kernel
theorem dX5_lay_96 : decode cX5_lay 96 = .ok (.invokevirtual 58, 3) := by decide +kernel
theorem dX5_lay_99 : decode cX5_lay 99 = .ok (.iconst 1, 1) := by decide +kernel
theorem dX5_lay_100 : decode cX5_lay 100 = .ok (.bastore, 1) := by decide +kernel
theorem dX5_lay_101 : decode cX5_lay 101 = .ok (.iinc 1 1, 3) := by decide +kernel
theorem dX5_lay_104 : decode cX5_lay 104 = .ok (.goto (-24), 3) := by decide +kernel
theorem dX5_lay_107 : decode cX5_lay 107 = .ok (.iconst 0, 1) := by decide +kernel
theorem dX5_lay_108 : decode cX5_lay 108 = .ok (.istore_n 1, 1) := by decide +kernel
theorem dX5_lay_109 : decode cX5_lay 109 = .ok (.iload_n 1, 1) := by decide +kernel
theorem dX5_lay_110 : decode cX5_lay 110 = .ok (.aload_n 0, 1) := by decide +kernel
theorem dX5_lay_111 : decode cX5_lay 111 = .ok (.getfield 72, 3) := by decide +kernel
theorem dX5_lay_114 : decode cX5_lay 114 = .ok (.if_icmp .ge 54, 3) := by decide +kernel
theorem dX5_lay_117 : decode cX5_lay 117 = .ok (.aload_n 0, 1) := by decide +kernel
theorem dX5_lay_118 : decode cX5_lay 118 = .ok (.getfield 31, 3) := by decide +kernel
theorem dX5_lay_121 : decode cX5_lay 121 = .ok (.iload_n 1, 1) := by decide +kernel
theorem dX5_lay_122 : decode cX5_lay 122 = .ok (.iaload, 1) := by decide +kernel
theorem dX5_lay_123 : decode cX5_lay 123 = .ok (.istore_n 2, 1) := by decide +kernel
theorem dX5_lay_124 : decode cX5_lay 124 = .ok (.iload_n 2, 1) := by decide +kernel
theorem dX5_lay_125 : decode cX5_lay 125 = .ok (.aload_n 0, 1) := by decide +kernel
theorem dX5_lay_126 : decode cX5_lay 126 = .ok (.getfield 34, 3) := by decide +kernel
theorem dX5_lay_129 : decode cX5_lay 129 = .ok (.iload_n 1, 1) := by decide +kernel
theorem dX5_lay_130 : decode cX5_lay 130 = .ok (.iaload, 1) := by decide +kernel
theorem dX5_lay_131 : decode cX5_lay 131 = .ok (.if_icmp .gt 31, 3) := by decide +kernel
theorem dX5_lay_134 : decode cX5_lay 134 = .ok (.aload_n 0, 1) := by decide +kernel
theorem dX5_lay_135 : decode cX5_lay 135 = .ok (.iload_n 1, 1) := by decide +kernel
theorem dX5_lay_136 : decode cX5_lay 136 = .ok (.iload_n 2, 1) := by decide +kernel
theorem dX5_lay_137 : decode cX5_lay 137 = .ok (.invokevirtual 101, 3) := by decide +kernel
theorem dX5_lay_140 : decode cX5_lay 140 = .ok (.istore_n 3, 1) := by decide +kernel
theorem dX5_lay_141 : decode cX5_lay 141 = .ok (.iload_n 3, 1) := by decide +kernel
theorem dX5_lay_142 : decode cX5_lay 142 = .ok (.iconst (-1), 1) := by decide +kernel
theorem dX5_lay_143 : decode cX5_lay 143 = .ok (.if_icmp .eq 13, 3) := by decide +kernel
theorem dX5_lay_146 : decode cX5_lay 146 = .ok (.aload_n 0, 1) := by decide +kernel
theorem dX5_lay_147 : decode cX5_lay 147 = .ok (.getfield 40, 3) := by decide +kernel
theorem dX5_lay_150 : decode cX5_lay 150 = .ok (.iload_n 3, 1) := by decide +kernel
theorem dX5_lay_151 : decode cX5_lay 151 = .ok (.dup2, 1) := by decide +kernel
theorem dX5_lay_152 : decode cX5_lay 152 = .ok (.iaload, 1) := by decide +kernel
theorem dX5_lay_153 : decode cX5_lay 153 = .ok (.iconst 1, 1) := by decide +kernel
theorem dX5_lay_154 : decode cX5_lay 154 = .ok (.iadd, 1) := by decide +kernel
theorem dX5_lay_155 : decode cX5_lay 155 = .ok (.iastore, 1) := by decide +kernel
theorem dX5_lay_156 : decode cX5_lay 156 = .ok (.iinc 2 1, 3) := by decide +kernel
theorem dX5_lay_159 : decode cX5_lay 159 = .ok (.goto (-35), 3) := by decide +kernel
theorem dX5_lay_162 : decode cX5_lay 162 = .ok (.iinc 1 1, 3) := by decide +kernel
theorem dX5_lay_165 : decode cX5_lay 165 = .ok (.goto (-56), 3) := by decide +kernel
theorem dX5_lay_168 : decode cX5_lay 168 = .ok (.return_, 1) := by decide +kernel
theorem dX5_isAvoided_0 : decode cX5_isAvoided 0 = .ok (.aload_n 0, 1) := by decide +kernel
theorem dX5_isAvoided_1 : decode cX5_isAvoided 1 = .ok (.getfield 40, 3) := by decide +kernel
theorem dX5_isAvoided_4 : decode cX5_isAvoided 4 = .ok (.iload_n 1, 1) := by decide +kernel
theorem dX5_isAvoided_5 : decode cX5_isAvoided 5 = .ok (.iaload, 1) := by decide +kernel
theorem dX5_isAvoided_6 : decode cX5_isAvoided 6 = .ok (.ifCond .le 16, 3) := by decide +kernel
theorem dX5_isAvoided_9 : decode cX5_isAvoided 9 = .ok (.aload_n 0, 1) := by decide +kernel
theorem dX5_isAvoided_10 : decode cX5_isAvoided 10 = .ok (.getfield 43, 3) := by decide +kernel
theorem dX5_isAvoided_13 : decode cX5_isAvoided 13 = .ok (.iload_n 1, 1) := by decide +kernel
theorem dX5_isAvoided_14 : decode cX5_isAvoided 14 = .ok (.baload, 1) := by decide +kernel
theorem dX5_isAvoided_15 : decode cX5_isAvoided 15 = .ok (.ifCond .ne 7, 3) := by decide +kernel
theorem dX5_isAvoided_18 : decode cX5_isAvoided 18 = .ok (.iconst 1, 1) := by decide +kernel
theorem dX5_isAvoided_19 : decode cX5_isAvoided 19 = .ok (.goto 4, 3) := by decide +kernel
theorem dX5_isAvoided_22 : decode cX5_isAvoided 22 = .ok (.iconst 0, 1) := by decide +kernel
theorem dX5_isAvoided_23 : decode cX5_isAvoided 23 = .ok (.ireturn, 1) := by decide +kernel
theorem dX5_isGood_0 : decode cX5_isGood 0 = .ok (.aload_n 0, 1) := by decide +kernel
theorem dX5_isGood_1 : decode cX5_isGood 1 = .ok (.getfield 40, 3) := by decide +kernel
theorem dX5_isGood_4 : decode cX5_isGood 4 = .ok (.iload_n 1, 1) := by decide +kernel
theorem dX5_isGood_5 : decode cX5_isGood 5 = .ok (.iaload, 1) := by decide +kernel
theorem dX5_isGood_6 : decode cX5_isGood 6 = .ok (.ifCond .ne 16, 3) := by decide +kernel
theorem dX5_isGood_9 : decode cX5_isGood 9 = .ok (.aload_n 0, 1) := by decide +kernel
theorem dX5_isGood_10 : decode cX5_isGood 10 = .ok (.getfield 43, 3) := by decide +kernel
theorem dX5_isGood_13 : decode cX5_isGood 13 = .ok (.iload_n 1, 1) := by decide +kernel
theorem dX5_isGood_14 : decode cX5_isGood 14 = .ok (.baload, 1) := by decide +kernel
theorem dX5_isGood_15 : decode cX5_isGood 15 = .ok (.ifCond .ne 7, 3) := by decide +kernel
theorem dX5_isGood_18 : decode cX5_isGood 18 = .ok (.iconst 1, 1) := by decide +kernel
theorem dX5_isGood_19 : decode cX5_isGood 19 = .ok (.goto 4, 3) := by decide +kernel
theorem dX5_isGood_22 : decode cX5_isGood 22 = .ok (.iconst 0, 1) := by decide +kernel
theorem dX5_isGood_23 : decode cX5_isGood 23 = .ok (.ireturn, 1) := by decide +kernel
theorem dX5_freeSpare_0 : decode cX5_freeSpare 0 = .ok (.sipush 480, 3) := by decide +kernel
theorem dX5_freeSpare_3 : decode cX5_freeSpare 3 = .ok (.istore_n 1, 1) := by decide +kernel
theorem dX5_freeSpare_4 : decode cX5_freeSpare 4 = .ok (.iload_n 1, 1) := by decide +kernel
theorem dX5_freeSpare_5 : decode cX5_freeSpare 5 = .ok (.sipush 576, 3) := by decide +kernel
theorem dX5_freeSpare_8 : decode cX5_freeSpare 8 = .ok (.if_icmp .ge 28, 3) := by decide +kernel
theorem dX5_freeSpare_11 : decode cX5_freeSpare 11 = .ok (.aload_n 0, 1) := by decide +kernel
theorem dX5_freeSpare_12 : decode cX5_freeSpare 12 = .ok (.iload_n 1, 1) := by decide +kernel
theorem dX5_freeSpare_13 : decode cX5_freeSpare 13 = .ok (.invokevirtual 104, 3) := by decide +kernel
theorem dX5_freeSpare_16 : decode cX5_freeSpare 16 = .ok (.ifCond .eq 14, 3) := by decide +kernel
theorem dX5_freeSpare_19 : decode cX5_freeSpare 19 = .ok (.aload_n 0, 1) := by decide +kernel
theorem dX5_freeSpare_20 : decode cX5_freeSpare 20 = .ok (.iload_n 1, 1) := by decide +kernel
theorem dX5_freeSpare_21 : decode cX5_freeSpare 21 = .ok (.invokevirtual 108, 3) := by decide +kernel
theorem dX5_freeSpare_24 : decode cX5_freeSpare 24 = .ok (.iconst (-1), 1) := by decide +kernel
theorem dX5_freeSpare_25 : decode cX5_freeSpare 25 = .ok (.if_icmp .ne 5, 3) := by decide +kernel
theorem dX5_freeSpare_28 : decode cX5_freeSpare 28 = .ok (.iload_n 1, 1) := by decide +kernel
theorem dX5_freeSpare_29 : decode cX5_freeSpare 29 = .ok (.ireturn, 1) := by decide +kernel
theorem dX5_freeSpare_30 : decode cX5_freeSpare 30 = .ok (.iinc 1 1, 3) := by decide +kernel
theorem dX5_freeSpare_33 : decode cX5_freeSpare 33 = .ok (.goto (-29), 3) := by decide +kernel
theorem dX5_freeSpare_36 : decode cX5_freeSpare 36 = .ok (.iconst (-1), 1) := by decide +kernel
theorem dX5_freeSpare_37 : decode cX5_freeSpare 37 = .ok (.ireturn, 1) := by decide +kernel
theorem dX5_goalOf_0 : decode cX5_goalOf 0 = .ok (.aload_n 0, 1) := by decide +kernel
theorem dX5_goalOf_1 : decode cX5_goalOf 1 = .ok (.iload_n 1, 1) := by decide +kernel
theorem dX5_goalOf_2 : decode cX5_goalOf 2 = .ok (.invokevirtual 111, 3) := by decide +kernel
theorem dX5_goalOf_5 : decode cX5_goalOf 5 = .ok (.iconst (-1), 1) := by decide +kernel
theorem dX5_goalOf_6 : decode cX5_goalOf 6 = .ok (.if_icmp .eq 21, 3) := by decide +kernel
theorem dX5_goalOf_9 : decode cX5_goalOf 9 = .ok (.aload_n 0, 1) := by decide +kernel
theorem dX5_goalOf_10 : decode cX5_goalOf 10 = .ok (.aload_n 0, 1) := by decide +kernel
theorem dX5_goalOf_11 : decode cX5_goalOf 11 = .ok (.iload_n 1, 1) := by decide +kernel
theorem dX5_goalOf_12 : decode cX5_goalOf 12 = .ok (.invokevirtual 111, 3) := by decide +kernel
theorem dX5_goalOf_15 : decode cX5_goalOf 15 = .ok (.invokevirtual 104, 3) := by decide +kernel
theorem dX5_goalOf_18 : decode cX5_goalOf 18 = .ok (.ifCond .eq 9, 3) := by decide +kernel
theorem dX5_goalOf_21 : decode cX5_goalOf 21 = .ok (.aload_n 0, 1) := by decide +kernel
theorem dX5_goalOf_22 : decode cX5_goalOf 22 = .ok (.iload_n 1, 1) := by decide +kernel
theorem dX5_goalOf_23 : decode cX5_goalOf 23 = .ok (.invokevirtual 111, 3) := by decide +kernel
theorem dX5_goalOf_26 : decode cX5_goalOf 26 = .ok (.ireturn, 1) := by decide +kernel
theorem dX5_goalOf_27 : decode cX5_goalOf 27 = .ok (.aload_n 0, 1) := by decide +kernel
theorem dX5_goalOf_28 : decode cX5_goalOf 28 = .ok (.iload_n 1, 1) := by decide +kernel
theorem dX5_goalOf_29 : decode cX5_goalOf 29 = .ok (.invokevirtual 104, 3) := by decide +kernel
theorem dX5_goalOf_32 : decode cX5_goalOf 32 = .ok (.ifCond .eq 7, 3) := by decide +kernel
theorem dX5_goalOf_35 : decode cX5_goalOf 35 = .ok (.iload_n 1, 1) := by decide +kernel
theorem dX5_goalOf_36 : decode cX5_goalOf 36 = .ok (.goto 7, 3) := by decide +kernel
theorem dX5_goalOf_39 : decode cX5_goalOf 39 = .ok (.aload_n 0, 1) := by decide +kernel
theorem dX5_goalOf_40 : decode cX5_goalOf 40 = .ok (.invokevirtual 114, 3) := by decide +kernel
theorem dX5_goalOf_43 : decode cX5_goalOf 43 = .ok (.ireturn, 1) := by decide +kernel
theorem dX5_bringTo_0 : decode cX5_bringTo 0 = .ok (.aload_n 0, 1) := by decide +kernel
theorem dX5_bringTo_1 : decode cX5_bringTo 1 = .ok (.iload_n 1, 1) := by decide +kernel
theorem dX5_bringTo_2 : decode cX5_bringTo 2 = .ok (.invokevirtual 111, 3) := by decide +kernel
theorem dX5_bringTo_5 : decode cX5_bringTo 5 = .ok (.iconst (-1), 1) := by decide +kernel
theorem dX5_bringTo_6 : decode cX5_bringTo 6 = .ok (.if_icmp .eq 37, 3) := by decide +kernel
theorem dX5_bringTo_9 : decode cX5_bringTo 9 = .ok (.aload_n 0, 1) := by decide +kernel
theorem dX5_bringTo_10 : decode cX5_bringTo 10 = .ok (.iload_n 1, 1) := by decide +kernel
theorem dX5_bringTo_11 : decode cX5_bringTo 11 = .ok (.invokevirtual 111, 3) := by decide +kernel
theorem dX5_bringTo_14 : decode cX5_bringTo 14 = .ok (.iload_n 2, 1) := by decide +kernel
theorem dX5_bringTo_15 : decode cX5_bringTo 15 = .ok (.if_icmp .eq 28, 3) := by decide +kernel
theorem dX5_bringTo_18 : decode cX5_bringTo 18 = .ok (.aload_n 0, 1) := by decide +kernel
theorem dX5_bringTo_19 : decode cX5_bringTo 19 = .ok (.getfield 7, 3) := by decide +kernel
theorem dX5_bringTo_22 : decode cX5_bringTo 22 = .ok (.sipush 978, 3) := by decide +kernel
theorem dX5_bringTo_25 : decode cX5_bringTo 25 = .ok (.aload_n 0, 1) := by decide +kernel
theorem dX5_bringTo_26 : decode cX5_bringTo 26 = .ok (.iload_n 1, 1) := by decide +kernel
theorem dX5_bringTo_27 : decode cX5_bringTo 27 = .ok (.invokevirtual 111, 3) := by decide +kernel
theorem dX5_bringTo_30 : decode cX5_bringTo 30 = .ok (.iadd, 1) := by decide +kernel
theorem dX5_bringTo_31 : decode cX5_bringTo 31 = .ok (.iconst (-1), 1) := by decide +kernel
theorem dX5_bringTo_32 : decode cX5_bringTo 32 = .ok (.iastore, 1) := by decide +kernel
theorem dX5_bringTo_33 : decode cX5_bringTo 33 = .ok (.aload_n 0, 1) := by decide +kernel
theorem dX5_bringTo_34 : decode cX5_bringTo 34 = .ok (.getfield 7, 3) := by decide +kernel
theorem dX5_bringTo_37 : decode cX5_bringTo 37 = .ok (.iconst 5, 1) := by decide +kernel
theorem dX5_bringTo_38 : decode cX5_bringTo 38 = .ok (.dup2, 1) := by decide +kernel
theorem dX5_bringTo_39 : decode cX5_bringTo 39 = .ok (.iaload, 1) := by decide +kernel
theorem dX5_bringTo_40 : decode cX5_bringTo 40 = .ok (.iconst 1, 1) := by decide +kernel
theorem dX5_bringTo_41 : decode cX5_bringTo 41 = .ok (.iadd, 1) := by decide +kernel
theorem dX5_bringTo_42 : decode cX5_bringTo 42 = .ok (.iastore, 1) := by decide +kernel
theorem dX5_bringTo_43 : decode cX5_bringTo 43 = .ok (.aload_n 0, 1) := by decide +kernel
theorem dX5_bringTo_44 : decode cX5_bringTo 44 = .ok (.getfield 7, 3) := by decide +kernel
theorem dX5_bringTo_47 : decode cX5_bringTo 47 = .ok (.sipush 498, 3) := by decide +kernel
theorem dX5_bringTo_50 : decode cX5_bringTo 50 = .ok (.iload_n 1, 1) := by decide +kernel
theorem dX5_bringTo_51 : decode cX5_bringTo 51 = .ok (.iadd, 1) := by decide +kernel
theorem dX5_bringTo_52 : decode cX5_bringTo 52 = .ok (.iload_n 2, 1) := by decide +kernel
theorem dX5_bringTo_53 : decode cX5_bringTo 53 = .ok (.iastore, 1) := by decide +kernel
theorem dX5_bringTo_54 : decode cX5_bringTo 54 = .ok (.aload_n 0, 1) := by decide +kernel
theorem dX5_bringTo_55 : decode cX5_bringTo 55 = .ok (.getfield 7, 3) := by decide +kernel
theorem dX5_bringTo_58 : decode cX5_bringTo 58 = .ok (.sipush 978, 3) := by decide +kernel
theorem dX5_bringTo_61 : decode cX5_bringTo 61 = .ok (.iload_n 2, 1) := by decide +kernel
theorem dX5_bringTo_62 : decode cX5_bringTo 62 = .ok (.iadd, 1) := by decide +kernel
theorem dX5_bringTo_63 : decode cX5_bringTo 63 = .ok (.iload_n 1, 1) := by decide +kernel
theorem dX5_bringTo_64 : decode cX5_bringTo 64 = .ok (.iastore, 1) := by decide +kernel
theorem dX5_bringTo_65 : decode cX5_bringTo 65 = .ok (.return_, 1) := by decide +kernel
theorem dX5_lose_0 : decode cX5_lose 0 = .ok (.aload_n 0, 1) := by decide +kernel
theorem dX5_lose_1 : decode cX5_lose 1 = .ok (.getfield 7, 3) := by decide +kernel
theorem dX5_lose_4 : decode cX5_lose 4 = .ok (.sipush 978, 3) := by decide +kernel
theorem dX5_lose_7 : decode cX5_lose 7 = .ok (.aload_n 0, 1) := by decide +kernel
theorem dX5_lose_8 : decode cX5_lose 8 = .ok (.iload_n 1, 1) := by decide +kernel
theorem dX5_lose_9 : decode cX5_lose 9 = .ok (.invokevirtual 111, 3) := by decide +kernel
theorem dX5_lose_12 : decode cX5_lose 12 = .ok (.iadd, 1) := by decide +kernel
theorem dX5_lose_13 : decode cX5_lose 13 = .ok (.iconst (-1), 1) := by decide +kernel
theorem dX5_lose_14 : decode cX5_lose 14 = .ok (.iastore, 1) := by decide +kernel
theorem dX5_lose_15 : decode cX5_lose 15 = .ok (.aload_n 0, 1) := by decide +kernel
theorem dX5_lose_16 : decode cX5_lose 16 = .ok (.getfield 7, 3) := by decide +kernel
theorem dX5_lose_19 : decode cX5_lose 19 = .ok (.sipush 498, 3) := by decide +kernel
theorem dX5_lose_22 : decode cX5_lose 22 = .ok (.iload_n 1, 1) := by decide +kernel
theorem dX5_lose_23 : decode cX5_lose 23 = .ok (.iadd, 1) := by decide +kernel
theorem dX5_lose_24 : decode cX5_lose 24 = .ok (.iconst (-1), 1) := by decide +kernel
theorem dX5_lose_25 : decode cX5_lose 25 = .ok (.iastore, 1) := by decide +kernel
theorem dX5_lose_26 : decode cX5_lose 26 = .ok (.aload_n 0, 1) := by decide +kernel
theorem dX5_lose_27 : decode cX5_lose 27 = .ok (.getfield 7, 3) := by decide +kernel
theorem dX5_lose_30 : decode cX5_lose 30 = .ok (.bipush 18, 2) := by decide +kernel
theorem dX5_lose_32 : decode cX5_lose 32 = .ok (.iload_n 1, 1) := by decide +kernel
theorem dX5_lose_33 : decode cX5_lose 33 = .ok (.iadd, 1) := by decide +kernel
theorem dX5_lose_34 : decode cX5_lose 34 = .ok (.iconst (-1), 1) := by decide +kernel
theorem dX5_lose_35 : decode cX5_lose 35 = .ok (.iastore, 1) := by decide +kernel
theorem dX5_lose_36 : decode cX5_lose 36 = .ok (.return_, 1) := by decide +kernel
theorem dX5_writeIt_0 : decode cX5_writeIt 0 = .ok (.aload_n 0, 1) := by decide +kernel
theorem dX5_writeIt_1 : decode cX5_writeIt 1 = .ok (.iload_n 1, 1) := by decide +kernel
theorem dX5_writeIt_2 : decode cX5_writeIt 2 = .ok (.aload_n 0, 1) := by decide +kernel
theorem dX5_writeIt_3 : decode cX5_writeIt 3 = .ok (.iload_n 1, 1) := by decide +kernel
theorem dX5_writeIt_4 : decode cX5_writeIt 4 = .ok (.invokevirtual 118, 3) := by decide +kernel
theorem dX5_writeIt_7 : decode cX5_writeIt 7 = .ok (.invokevirtual 121, 3) := by decide +kernel
theorem dX5_writeIt_10 : decode cX5_writeIt 10 = .ok (.aload_n 0, 1) := by decide +kernel
theorem dX5_writeIt_11 : decode cX5_writeIt 11 = .ok (.getfield 7, 3) := by decide +kernel
theorem dX5_writeIt_14 : decode cX5_writeIt 14 = .ok (.bipush 18, 2) := by decide +kernel
theorem dX5_writeIt_16 : decode cX5_writeIt 16 = .ok (.iload_n 1, 1) := by decide +kernel
theorem dX5_writeIt_17 : decode cX5_writeIt 17 = .ok (.iadd, 1) := by decide +kernel
theorem dX5_writeIt_18 : decode cX5_writeIt 18 = .ok (.iload_n 2, 1) := by decide +kernel
theorem dX5_writeIt_19 : decode cX5_writeIt 19 = .ok (.iastore, 1) := by decide +kernel
theorem dX5_writeIt_20 : decode cX5_writeIt 20 = .ok (.aload_n 0, 1) := by decide +kernel
theorem dX5_writeIt_21 : decode cX5_writeIt 21 = .ok (.iload_n 1, 1) := by decide +kernel
theorem dX5_writeIt_22 : decode cX5_writeIt 22 = .ok (.invokevirtual 111, 3) := by decide +kernel
theorem dX5_writeIt_25 : decode cX5_writeIt 25 = .ok (.ireturn, 1) := by decide +kernel
theorem dX5_write_0 : decode cX5_write 0 = .ok (.aload_n 0, 1) := by decide +kernel
theorem dX5_write_1 : decode cX5_write 1 = .ok (.iload_n 1, 1) := by decide +kernel
theorem dX5_write_2 : decode cX5_write 2 = .ok (.invokestatic 124, 3) := by decide +kernel
theorem dX5_write_5 : decode cX5_write 5 = .ok (.ifCond .ne 7, 3) := by decide +kernel
theorem dX5_write_8 : decode cX5_write 8 = .ok (.iconst 1, 1) := by decide +kernel
theorem dX5_write_9 : decode cX5_write 9 = .ok (.goto 15, 3) := by decide +kernel
theorem dX5_write_12 : decode cX5_write 12 = .ok (.iload_n 2, 1) := by decide +kernel
theorem dX5_write_13 : decode cX5_write 13 = .ok (.invokestatic 127, 3) := by decide +kernel
theorem dX5_write_16 : decode cX5_write 16 = .ok (.ifCond .eq 7, 3) := by decide +kernel
theorem dX5_write_19 : decode cX5_write 19 = .ok (.iconst 0, 1) := by decide +kernel
theorem dX5_write_20 : decode cX5_write 20 = .ok (.goto 4, 3) := by decide +kernel
theorem dX5_write_23 : decode cX5_write 23 = .ok (.iconst 2, 1) := by decide +kernel
theorem dX5_write_24 : decode cX5_write 24 = .ok (.putfield 50, 3) := by decide +kernel
theorem dX5_write_27 : decode cX5_write 27 = .ok (.aload_n 0, 1) := by decide +kernel
theorem dX5_write_28 : decode cX5_write 28 = .ok (.getfield 50, 3) := by decide +kernel
theorem dX5_write_31 : decode cX5_write 31 = .ok (.ifCond .le 5, 3) := by decide +kernel
theorem dX5_write_34 : decode cX5_write 34 = .ok (.iconst 0, 1) := by decide +kernel
theorem dX5_write_35 : decode cX5_write 35 = .ok (.ireturn, 1) := by decide +kernel
theorem dX5_write_36 : decode cX5_write 36 = .ok (.aload_n 0, 1) := by decide +kernel
theorem dX5_write_37 : decode cX5_write 37 = .ok (.invokevirtual 130, 3) := by decide +kernel
theorem dX5_write_40 : decode cX5_write 40 = .ok (.aload_n 0, 1) := by decide +kernel
theorem dX5_write_41 : decode cX5_write 41 = .ok (.aload_n 0, 1) := by decide +kernel
theorem dX5_write_42 : decode cX5_write 42 = .ok (.iload_n 1, 1) := by decide +kernel
theorem dX5_write_43 : decode cX5_write 43 = .ok (.invokevirtual 118, 3) := by decide +kernel
theorem dX5_write_46 : decode cX5_write 46 = .ok (.iconst (-1), 1) := by decide +kernel
theorem dX5_write_47 : decode cX5_write 47 = .ok (.if_icmp .ne 7, 3) := by decide +kernel
theorem dX5_write_50 : decode cX5_write 50 = .ok (.iconst 3, 1) := by decide +kernel
theorem dX5_write_51 : decode cX5_write 51 = .ok (.goto 4, 3) := by decide +kernel
theorem dX5_write_54 : decode cX5_write 54 = .ok (.iconst 0, 1) := by decide +kernel
theorem dX5_write_55 : decode cX5_write 55 = .ok (.putfield 50, 3) := by decide +kernel
theorem dX5_write_58 : decode cX5_write 58 = .ok (.aload_n 0, 1) := by decide +kernel
theorem dX5_write_59 : decode cX5_write 59 = .ok (.getfield 50, 3) := by decide +kernel
theorem dX5_write_62 : decode cX5_write 62 = .ok (.ifCond .le 5, 3) := by decide +kernel
theorem dX5_write_65 : decode cX5_write 65 = .ok (.iconst 0, 1) := by decide +kernel
theorem dX5_write_66 : decode cX5_write 66 = .ok (.ireturn, 1) := by decide +kernel
theorem dX5_write_67 : decode cX5_write 67 = .ok (.aload_n 0, 1) := by decide +kernel
theorem dX5_write_68 : decode cX5_write 68 = .ok (.invokevirtual 133, 3) := by decide +kernel
theorem dX5_write_71 : decode cX5_write 71 = .ok (.aload_n 0, 1) := by decide +kernel
theorem dX5_write_72 : decode cX5_write 72 = .ok (.iload_n 1, 1) := by decide +kernel
theorem dX5_write_73 : decode cX5_write 73 = .ok (.iload_n 2, 1) := by decide +kernel
theorem dX5_write_74 : decode cX5_write 74 = .ok (.invokevirtual 136, 3) := by decide +kernel
theorem dX5_write_77 : decode cX5_write 77 = .ok (.ireturn, 1) := by decide +kernel
theorem dX5_fill_0 : decode cX5_fill 0 = .ok (.aload_n 0, 1) := by decide +kernel
theorem dX5_fill_1 : decode cX5_fill 1 = .ok (.iload_n 1, 1) := by decide +kernel
theorem dX5_fill_2 : decode cX5_fill 2 = .ok (.invokestatic 124, 3) := by decide +kernel
theorem dX5_fill_5 : decode cX5_fill 5 = .ok (.ifCond .eq 12, 3) := by decide +kernel
theorem dX5_fill_8 : decode cX5_fill 8 = .ok (.iload_n 2, 1) := by decide +kernel
theorem dX5_fill_9 : decode cX5_fill 9 = .ok (.sipush 480, 3) := by decide +kernel
theorem dX5_fill_12 : decode cX5_fill 12 = .ok (.iload_n 1, 1) := by decide +kernel
theorem dX5_fill_13 : decode cX5_fill 13 = .ok (.isub, 1) := by decide +kernel
theorem dX5_fill_14 : decode cX5_fill 14 = .ok (.if_icmp .le 7, 3) := by decide +kernel
theorem dX5_fill_17 : decode cX5_fill 17 = .ok (.iconst 1, 1) := by decide +kernel
theorem dX5_fill_18 : decode cX5_fill 18 = .ok (.goto 25, 3) := by decide +kernel
theorem dX5_fill_21 : decode cX5_fill 21 = .ok (.iload_n 2, 1) := by decide +kernel
theorem dX5_fill_22 : decode cX5_fill 22 = .ok (.iconst 1, 1) := by decide +kernel
theorem dX5_fill_23 : decode cX5_fill 23 = .ok (.bipush 48, 2) := by decide +kernel
theorem dX5_fill_25 : decode cX5_fill 25 = .ok (.invokestatic 54, 3) := by decide +kernel
theorem dX5_fill_28 : decode cX5_fill 28 = .ok (.ifCond .eq 14, 3) := by decide +kernel
theorem dX5_fill_31 : decode cX5_fill 31 = .ok (.iload_n 3, 1) := by decide +kernel
theorem dX5_fill_32 : decode cX5_fill 32 = .ok (.invokestatic 127, 3) := by decide +kernel
theorem dX5_fill_35 : decode cX5_fill 35 = .ok (.ifCond .eq 7, 3) := by decide +kernel
theorem dX5_fill_38 : decode cX5_fill 38 = .ok (.iconst 0, 1) := by decide +kernel
theorem dX5_fill_39 : decode cX5_fill 39 = .ok (.goto 4, 3) := by decide +kernel
theorem dX5_fill_42 : decode cX5_fill 42 = .ok (.iconst 2, 1) := by decide +kernel
theorem dX5_fill_43 : decode cX5_fill 43 = .ok (.putfield 50, 3) := by decide +kernel
theorem dX5_fill_46 : decode cX5_fill 46 = .ok (.aload_n 0, 1) := by decide +kernel
theorem dX5_fill_47 : decode cX5_fill 47 = .ok (.getfield 50, 3) := by decide +kernel
theorem dX5_fill_50 : decode cX5_fill 50 = .ok (.ifCond .le 5, 3) := by decide +kernel
theorem dX5_fill_53 : decode cX5_fill 53 = .ok (.iconst 0, 1) := by decide +kernel
theorem dX5_fill_54 : decode cX5_fill 54 = .ok (.ireturn, 1) := by decide +kernel
theorem dX5_fill_55 : decode cX5_fill 55 = .ok (.aload_n 0, 1) := by decide +kernel
theorem dX5_fill_56 : decode cX5_fill 56 = .ok (.invokevirtual 133, 3) := by decide +kernel
theorem dX5_fill_59 : decode cX5_fill 59 = .ok (.aload_n 0, 1) := by decide +kernel
theorem dX5_fill_60 : decode cX5_fill 60 = .ok (.invokevirtual 130, 3) := by decide +kernel
theorem dX5_fill_63 : decode cX5_fill 63 = .ok (.iconst 0, 1) := by decide +kernel
theorem dX5_fill_64 : decode cX5_fill 64 = .ok (.istore 4, 2) := by decide +kernel
theorem dX5_fill_66 : decode cX5_fill 66 = .ok (.iload 4, 2) := by decide +kernel
theorem dX5_fill_68 : decode cX5_fill 68 = .ok (.iload_n 2, 1) := by decide +kernel
theorem dX5_fill_69 : decode cX5_fill 69 = .ok (.if_icmp .ge 31, 3) := by decide +kernel
theorem dX5_fill_72 : decode cX5_fill 72 = .ok (.aload_n 0, 1) := by decide +kernel
theorem dX5_fill_73 : decode cX5_fill 73 = .ok (.iload_n 1, 1) := by decide +kernel
theorem dX5_fill_74 : decode cX5_fill 74 = .ok (.iload 4, 2) := by decide +kernel
theorem dX5_fill_76 : decode cX5_fill 76 = .ok (.iadd, 1) := by decide +kernel
theorem dX5_fill_77 : decode cX5_fill 77 = .ok (.invokevirtual 118, 3) := by decide +kernel
theorem dX5_fill_80 : decode cX5_fill 80 = .ok (.iconst (-1), 1) := by decide +kernel
theorem dX5_fill_81 : decode cX5_fill 81 = .ok (.if_icmp .eq 19, 3) := by decide +kernel
theorem dX5_fill_84 : decode cX5_fill 84 = .ok (.aload_n 0, 1) := by decide +kernel
theorem dX5_fill_85 : decode cX5_fill 85 = .ok (.iload_n 1, 1) := by decide +kernel
theorem dX5_fill_86 : decode cX5_fill 86 = .ok (.iload 4, 2) := by decide +kernel
theorem dX5_fill_88 : decode cX5_fill 88 = .ok (.iadd, 1) := by decide +kernel
theorem dX5_fill_89 : decode cX5_fill 89 = .ok (.iload_n 3, 1) := by decide +kernel
theorem dX5_fill_90 : decode cX5_fill 90 = .ok (.invokevirtual 136, 3) := by decide +kernel
theorem dX5_fill_93 : decode cX5_fill 93 = .ok (.pop, 1) := by decide +kernel
theorem dX5_fill_94 : decode cX5_fill 94 = .ok (.iinc 4 1, 3) := by decide +kernel
theorem dX5_fill_97 : decode cX5_fill 97 = .ok (.goto (-31), 3) := by decide +kernel
theorem dX5_fill_100 : decode cX5_fill 100 = .ok (.iload 4, 2) := by decide +kernel
theorem dX5_fill_102 : decode cX5_fill 102 = .ok (.ireturn, 1) := by decide +kernel
theorem dX5_drop_0 : decode cX5_drop 0 = .ok (.aload_n 0, 1) := by decide +kernel
theorem dX5_drop_1 : decode cX5_drop 1 = .ok (.iload_n 1, 1) := by decide +kernel
theorem dX5_drop_2 : decode cX5_drop 2 = .ok (.invokestatic 124, 3) := by decide +kernel
theorem dX5_drop_5 : decode cX5_drop 5 = .ok (.ifCond .eq 7, 3) := by decide +kernel
theorem dX5_drop_8 : decode cX5_drop 8 = .ok (.iconst 0, 1) := by decide +kernel
theorem dX5_drop_9 : decode cX5_drop 9 = .ok (.goto 4, 3) := by decide +kernel
theorem dX5_drop_12 : decode cX5_drop 12 = .ok (.iconst 1, 1) := by decide +kernel
theorem dX5_drop_13 : decode cX5_drop 13 = .ok (.putfield 50, 3) := by decide +kernel
theorem dX5_drop_16 : decode cX5_drop 16 = .ok (.aload_n 0, 1) := by decide +kernel
theorem dX5_drop_17 : decode cX5_drop 17 = .ok (.getfield 50, 3) := by decide +kernel
theorem dX5_drop_20 : decode cX5_drop 20 = .ok (.ifCond .le 5, 3) := by decide +kernel
theorem dX5_drop_23 : decode cX5_drop 23 = .ok (.iconst 0, 1) := by decide +kernel
theorem dX5_drop_24 : decode cX5_drop 24 = .ok (.ireturn, 1) := by decide +kernel
theorem dX5_drop_25 : decode cX5_drop 25 = .ok (.aload_n 0, 1) := by decide +kernel
theorem dX5_drop_26 : decode cX5_drop 26 = .ok (.invokevirtual 133, 3) := by decide +kernel
theorem dX5_drop_29 : decode cX5_drop 29 = .ok (.aload_n 0, 1) := by decide +kernel
theorem dX5_drop_30 : decode cX5_drop 30 = .ok (.getfield 7, 3) := by decide +kernel
theorem dX5_drop_33 : decode cX5_drop 33 = .ok (.bipush 18, 2) := by decide +kernel
theorem dX5_drop_35 : decode cX5_drop 35 = .ok (.iload_n 1, 1) := by decide +kernel
theorem dX5_drop_36 : decode cX5_drop 36 = .ok (.iadd, 1) := by decide +kernel
theorem dX5_drop_37 : decode cX5_drop 37 = .ok (.iaload, 1) := by decide +kernel
theorem dX5_drop_38 : decode cX5_drop 38 = .ok (.istore_n 2, 1) := by decide +kernel
theorem dX5_drop_39 : decode cX5_drop 39 = .ok (.iload_n 2, 1) := by decide +kernel
theorem dX5_drop_40 : decode cX5_drop 40 = .ok (.iconst (-1), 1) := by decide +kernel
theorem dX5_drop_41 : decode cX5_drop 41 = .ok (.if_icmp .eq 8, 3) := by decide +kernel
theorem dX5_drop_44 : decode cX5_drop 44 = .ok (.aload_n 0, 1) := by decide +kernel
theorem dX5_drop_45 : decode cX5_drop 45 = .ok (.iload_n 1, 1) := by decide +kernel
theorem dX5_drop_46 : decode cX5_drop 46 = .ok (.invokevirtual 139, 3) := by decide +kernel
theorem dX5_drop_49 : decode cX5_drop 49 = .ok (.iload_n 2, 1) := by decide +kernel
theorem dX5_drop_50 : decode cX5_drop 50 = .ok (.ireturn, 1) := by decide +kernel
theorem dX5_canFail_0 : decode cX5_canFail 0 = .ok (.aload_n 0, 1) := by decide +kernel
theorem dX5_canFail_1 : decode cX5_canFail 1 = .ok (.getfield 7, 3) := by decide +kernel
theorem dX5_canFail_4 : decode cX5_canFail 4 = .ok (.iconst 3, 1) := by decide +kernel
theorem dX5_canFail_5 : decode cX5_canFail 5 = .ok (.iaload, 1) := by decide +kernel
theorem dX5_canFail_6 : decode cX5_canFail 6 = .ok (.bipush 12, 2) := by decide +kernel
theorem dX5_canFail_8 : decode cX5_canFail 8 = .ok (.if_icmp .ge 16, 3) := by decide +kernel
theorem dX5_canFail_11 : decode cX5_canFail 11 = .ok (.aload_n 0, 1) := by decide +kernel
theorem dX5_canFail_12 : decode cX5_canFail 12 = .ok (.iload_n 1, 1) := by decide +kernel
theorem dX5_canFail_13 : decode cX5_canFail 13 = .ok (.invokevirtual 143, 3) := by decide +kernel
theorem dX5_canFail_16 : decode cX5_canFail 16 = .ok (.iconst (-1), 1) := by decide +kernel
theorem dX5_canFail_17 : decode cX5_canFail 17 = .ok (.if_icmp .ne 7, 3) := by decide +kernel
theorem dX5_canFail_20 : decode cX5_canFail 20 = .ok (.iconst 1, 1) := by decide +kernel
theorem dX5_canFail_21 : decode cX5_canFail 21 = .ok (.goto 4, 3) := by decide +kernel
theorem dX5_canFail_24 : decode cX5_canFail 24 = .ok (.iconst 0, 1) := by decide +kernel
theorem dX5_canFail_25 : decode cX5_canFail 25 = .ok (.ireturn, 1) := by decide +kernel
theorem dX5_failIt_0 : decode cX5_failIt 0 = .ok (.aload_n 0, 1) := by decide +kernel
theorem dX5_failIt_1 : decode cX5_failIt 1 = .ok (.getfield 7, 3) := by decide +kernel
theorem dX5_failIt_4 : decode cX5_failIt 4 = .ok (.bipush 6, 2) := by decide +kernel
theorem dX5_failIt_6 : decode cX5_failIt 6 = .ok (.aload_n 0, 1) := by decide +kernel
theorem dX5_failIt_7 : decode cX5_failIt 7 = .ok (.getfield 7, 3) := by decide +kernel
theorem dX5_failIt_10 : decode cX5_failIt 10 = .ok (.iconst 3, 1) := by decide +kernel
theorem dX5_failIt_11 : decode cX5_failIt 11 = .ok (.iaload, 1) := by decide +kernel
theorem dX5_failIt_12 : decode cX5_failIt 12 = .ok (.iadd, 1) := by decide +kernel
theorem dX5_failIt_13 : decode cX5_failIt 13 = .ok (.iload_n 1, 1) := by decide +kernel
theorem dX5_failIt_14 : decode cX5_failIt 14 = .ok (.iastore, 1) := by decide +kernel
theorem dX5_failIt_15 : decode cX5_failIt 15 = .ok (.aload_n 0, 1) := by decide +kernel
theorem dX5_failIt_16 : decode cX5_failIt 16 = .ok (.getfield 7, 3) := by decide +kernel
theorem dX5_failIt_19 : decode cX5_failIt 19 = .ok (.iconst 3, 1) := by decide +kernel
theorem dX5_failIt_20 : decode cX5_failIt 20 = .ok (.dup2, 1) := by decide +kernel
theorem dX5_failIt_21 : decode cX5_failIt 21 = .ok (.iaload, 1) := by decide +kernel
theorem dX5_failIt_22 : decode cX5_failIt 22 = .ok (.iconst 1, 1) := by decide +kernel
theorem dX5_failIt_23 : decode cX5_failIt 23 = .ok (.iadd, 1) := by decide +kernel
theorem dX5_failIt_24 : decode cX5_failIt 24 = .ok (.iastore, 1) := by decide +kernel
theorem dX5_failIt_25 : decode cX5_failIt 25 = .ok (.aload_n 0, 1) := by decide +kernel
theorem dX5_failIt_26 : decode cX5_failIt 26 = .ok (.iload_n 1, 1) := by decide +kernel
theorem dX5_failIt_27 : decode cX5_failIt 27 = .ok (.invokevirtual 108, 3) := by decide +kernel
theorem dX5_failIt_30 : decode cX5_failIt 30 = .ok (.iconst (-1), 1) := by decide +kernel
theorem dX5_failIt_31 : decode cX5_failIt 31 = .ok (.if_icmp .eq 22, 3) := by decide +kernel
theorem dX5_failIt_34 : decode cX5_failIt 34 = .ok (.aload_n 0, 1) := by decide +kernel
theorem dX5_failIt_35 : decode cX5_failIt 35 = .ok (.aload_n 0, 1) := by decide +kernel
theorem dX5_failIt_36 : decode cX5_failIt 36 = .ok (.iload_n 1, 1) := by decide +kernel
theorem dX5_failIt_37 : decode cX5_failIt 37 = .ok (.invokevirtual 108, 3) := by decide +kernel
theorem dX5_failIt_40 : decode cX5_failIt 40 = .ok (.invokevirtual 139, 3) := by decide +kernel
theorem dX5_failIt_43 : decode cX5_failIt 43 = .ok (.aload_n 0, 1) := by decide +kernel
theorem dX5_failIt_44 : decode cX5_failIt 44 = .ok (.getfield 7, 3) := by decide +kernel
theorem dX5_failIt_47 : decode cX5_failIt 47 = .ok (.iconst 4, 1) := by decide +kernel
theorem dX5_failIt_48 : decode cX5_failIt 48 = .ok (.dup2, 1) := by decide +kernel
theorem dX5_failIt_49 : decode cX5_failIt 49 = .ok (.iaload, 1) := by decide +kernel
theorem dX5_failIt_50 : decode cX5_failIt 50 = .ok (.iconst 1, 1) := by decide +kernel
theorem dX5_failIt_51 : decode cX5_failIt 51 = .ok (.iadd, 1) := by decide +kernel
theorem dX5_failIt_52 : decode cX5_failIt 52 = .ok (.iastore, 1) := by decide +kernel
theorem dX5_failIt_53 : decode cX5_failIt 53 = .ok (.return_, 1) := by decide +kernel
theorem dX5_healIt_0 : decode cX5_healIt 0 = .ok (.aload_n 0, 1) := by decide +kernel
theorem dX5_healIt_1 : decode cX5_healIt 1 = .ok (.iload_n 1, 1) := by decide +kernel
theorem dX5_healIt_2 : decode cX5_healIt 2 = .ok (.invokevirtual 143, 3) := by decide +kernel
theorem dX5_healIt_5 : decode cX5_healIt 5 = .ok (.istore_n 2, 1) := by decide +kernel
theorem dX5_healIt_6 : decode cX5_healIt 6 = .ok (.aload_n 0, 1) := by decide +kernel
theorem dX5_healIt_7 : decode cX5_healIt 7 = .ok (.getfield 7, 3) := by decide +kernel
theorem dX5_healIt_10 : decode cX5_healIt 10 = .ok (.iconst 3, 1) := by decide +kernel
theorem dX5_healIt_11 : decode cX5_healIt 11 = .ok (.dup2, 1) := by decide +kernel
theorem dX5_healIt_12 : decode cX5_healIt 12 = .ok (.iaload, 1) := by decide +kernel
theorem dX5_healIt_13 : decode cX5_healIt 13 = .ok (.iconst 1, 1) := by decide +kernel
theorem dX5_healIt_14 : decode cX5_healIt 14 = .ok (.isub, 1) := by decide +kernel
theorem dX5_healIt_15 : decode cX5_healIt 15 = .ok (.iastore, 1) := by decide +kernel
theorem dX5_healIt_16 : decode cX5_healIt 16 = .ok (.iload_n 2, 1) := by decide +kernel
theorem dX5_healIt_17 : decode cX5_healIt 17 = .ok (.istore_n 3, 1) := by decide +kernel
theorem dX5_healIt_18 : decode cX5_healIt 18 = .ok (.iload_n 3, 1) := by decide +kernel
theorem dX5_healIt_19 : decode cX5_healIt 19 = .ok (.aload_n 0, 1) := by decide +kernel
theorem dX5_healIt_20 : decode cX5_healIt 20 = .ok (.getfield 7, 3) := by decide +kernel
theorem dX5_healIt_23 : decode cX5_healIt 23 = .ok (.iconst 3, 1) := by decide +kernel
theorem dX5_healIt_24 : decode cX5_healIt 24 = .ok (.iaload, 1) := by decide +kernel
theorem dX5_healIt_25 : decode cX5_healIt 25 = .ok (.if_icmp .ge 29, 3) := by decide +kernel
theorem dX5_healIt_28 : decode cX5_healIt 28 = .ok (.aload_n 0, 1) := by decide +kernel
theorem dX5_healIt_29 : decode cX5_healIt 29 = .ok (.getfield 7, 3) := by decide +kernel
theorem dX5_healIt_32 : decode cX5_healIt 32 = .ok (.bipush 6, 2) := by decide +kernel
theorem dX5_healIt_34 : decode cX5_healIt 34 = .ok (.iload_n 3, 1) := by decide +kernel
theorem dX5_healIt_35 : decode cX5_healIt 35 = .ok (.iadd, 1) := by decide +kernel
theorem dX5_healIt_36 : decode cX5_healIt 36 = .ok (.aload_n 0, 1) := by decide +kernel
theorem dX5_healIt_37 : decode cX5_healIt 37 = .ok (.getfield 7, 3) := by decide +kernel
theorem dX5_healIt_40 : decode cX5_healIt 40 = .ok (.bipush 6, 2) := by decide +kernel
theorem dX5_healIt_42 : decode cX5_healIt 42 = .ok (.iload_n 3, 1) := by decide +kernel
theorem dX5_healIt_43 : decode cX5_healIt 43 = .ok (.iadd, 1) := by decide +kernel
theorem dX5_healIt_44 : decode cX5_healIt 44 = .ok (.iconst 1, 1) := by decide +kernel
theorem dX5_healIt_45 : decode cX5_healIt 45 = .ok (.iadd, 1) := by decide +kernel
theorem dX5_healIt_46 : decode cX5_healIt 46 = .ok (.iaload, 1) := by decide +kernel
theorem dX5_healIt_47 : decode cX5_healIt 47 = .ok (.iastore, 1) := by decide +kernel
theorem dX5_healIt_48 : decode cX5_healIt 48 = .ok (.iinc 3 1, 3) := by decide +kernel
theorem dX5_healIt_51 : decode cX5_healIt 51 = .ok (.goto (-33), 3) := by decide +kernel
theorem dX5_healIt_54 : decode cX5_healIt 54 = .ok (.aload_n 0, 1) := by decide +kernel
theorem dX5_healIt_55 : decode cX5_healIt 55 = .ok (.getfield 7, 3) := by decide +kernel
theorem dX5_healIt_58 : decode cX5_healIt 58 = .ok (.bipush 6, 2) := by decide +kernel
theorem dX5_healIt_60 : decode cX5_healIt 60 = .ok (.aload_n 0, 1) := by decide +kernel
theorem dX5_healIt_61 : decode cX5_healIt 61 = .ok (.getfield 7, 3) := by decide +kernel
theorem dX5_healIt_64 : decode cX5_healIt 64 = .ok (.iconst 3, 1) := by decide +kernel
theorem dX5_healIt_65 : decode cX5_healIt 65 = .ok (.iaload, 1) := by decide +kernel
theorem dX5_healIt_66 : decode cX5_healIt 66 = .ok (.iadd, 1) := by decide +kernel
theorem dX5_healIt_67 : decode cX5_healIt 67 = .ok (.iconst (-1), 1) := by decide +kernel
theorem dX5_healIt_68 : decode cX5_healIt 68 = .ok (.iastore, 1) := by decide +kernel
theorem dX5_healIt_69 : decode cX5_healIt 69 = .ok (.return_, 1) := by decide +kernel
theorem dX5_linesNow_0 : decode cX5_linesNow 0 = .ok (.aload_n 0, 1) := by decide +kernel
theorem dX5_linesNow_1 : decode cX5_linesNow 1 = .ok (.invokevirtual 130, 3) := by decide +kernel
theorem dX5_linesNow_4 : decode cX5_linesNow 4 = .ok (.aload_n 0, 1) := by decide +kernel
theorem dX5_linesNow_5 : decode cX5_linesNow 5 = .ok (.getfield 72, 3) := by decide +kernel
theorem dX5_linesNow_8 : decode cX5_linesNow 8 = .ok (.ireturn, 1) := by decide +kernel
theorem dX5_fail_0 : decode cX5_fail 0 = .ok (.aload_n 0, 1) := by decide +kernel
theorem dX5_fail_1 : decode cX5_fail 1 = .ok (.iload_n 1, 1) := by decide +kernel
theorem dX5_fail_2 : decode cX5_fail 2 = .ok (.iload_n 2, 1) := by decide +kernel
theorem dX5_fail_3 : decode cX5_fail 3 = .ok (.invokestatic 94, 3) := by decide +kernel
theorem dX5_fail_6 : decode cX5_fail 6 = .ok (.ifCond .ne 7, 3) := by decide +kernel
theorem dX5_fail_9 : decode cX5_fail 9 = .ok (.iconst 1, 1) := by decide +kernel
theorem dX5_fail_10 : decode cX5_fail 10 = .ok (.goto 21, 3) := by decide +kernel
theorem dX5_fail_13 : decode cX5_fail 13 = .ok (.aload_n 0, 1) := by decide +kernel
theorem dX5_fail_14 : decode cX5_fail 14 = .ok (.bipush 24, 2) := by decide +kernel
theorem dX5_fail_16 : decode cX5_fail 16 = .ok (.iload_n 1, 1) := by decide +kernel
theorem dX5_fail_17 : decode cX5_fail 17 = .ok (.imul, 1) := by decide +kernel
theorem dX5_fail_18 : decode cX5_fail 18 = .ok (.iload_n 2, 1) := by decide +kernel
theorem dX5_fail_19 : decode cX5_fail 19 = .ok (.iadd, 1) := by decide +kernel
theorem dX5_fail_20 : decode cX5_fail 20 = .ok (.invokevirtual 146, 3) := by decide +kernel
theorem dX5_fail_23 : decode cX5_fail 23 = .ok (.ifCond .eq 7, 3) := by decide +kernel
theorem dX5_fail_26 : decode cX5_fail 26 = .ok (.iconst 0, 1) := by decide +kernel
theorem dX5_fail_27 : decode cX5_fail 27 = .ok (.goto 4, 3) := by decide +kernel
theorem dX5_fail_30 : decode cX5_fail 30 = .ok (.iconst 2, 1) := by decide +kernel
theorem dX5_fail_31 : decode cX5_fail 31 = .ok (.putfield 50, 3) := by decide +kernel
theorem dX5_fail_34 : decode cX5_fail 34 = .ok (.aload_n 0, 1) := by decide +kernel
theorem dX5_fail_35 : decode cX5_fail 35 = .ok (.getfield 50, 3) := by decide +kernel
theorem dX5_fail_38 : decode cX5_fail 38 = .ok (.ifCond .le 5, 3) := by decide +kernel
theorem dX5_fail_41 : decode cX5_fail 41 = .ok (.iconst 0, 1) := by decide +kernel
theorem dX5_fail_42 : decode cX5_fail 42 = .ok (.ireturn, 1) := by decide +kernel
theorem dX5_fail_43 : decode cX5_fail 43 = .ok (.aload_n 0, 1) := by decide +kernel
theorem dX5_fail_44 : decode cX5_fail 44 = .ok (.invokevirtual 133, 3) := by decide +kernel
theorem dX5_fail_47 : decode cX5_fail 47 = .ok (.aload_n 0, 1) := by decide +kernel
theorem dX5_fail_48 : decode cX5_fail 48 = .ok (.bipush 24, 2) := by decide +kernel
theorem dX5_fail_50 : decode cX5_fail 50 = .ok (.iload_n 1, 1) := by decide +kernel
theorem dX5_fail_51 : decode cX5_fail 51 = .ok (.imul, 1) := by decide +kernel
theorem dX5_fail_52 : decode cX5_fail 52 = .ok (.iload_n 2, 1) := by decide +kernel
theorem dX5_fail_53 : decode cX5_fail 53 = .ok (.iadd, 1) := by decide +kernel
theorem dX5_fail_54 : decode cX5_fail 54 = .ok (.invokevirtual 149, 3) := by decide +kernel
theorem dX5_fail_57 : decode cX5_fail 57 = .ok (.aload_n 0, 1) := by decide +kernel
theorem dX5_fail_58 : decode cX5_fail 58 = .ok (.invokevirtual 152, 3) := by decide +kernel
theorem dX5_fail_61 : decode cX5_fail 61 = .ok (.ireturn, 1) := by decide +kernel
theorem dX5_heal_0 : decode cX5_heal 0 = .ok (.aload_n 0, 1) := by decide +kernel
theorem dX5_heal_1 : decode cX5_heal 1 = .ok (.iload_n 1, 1) := by decide +kernel
theorem dX5_heal_2 : decode cX5_heal 2 = .ok (.iload_n 2, 1) := by decide +kernel
theorem dX5_heal_3 : decode cX5_heal 3 = .ok (.invokestatic 94, 3) := by decide +kernel
theorem dX5_heal_6 : decode cX5_heal 6 = .ok (.ifCond .ne 7, 3) := by decide +kernel
theorem dX5_heal_9 : decode cX5_heal 9 = .ok (.iconst 1, 1) := by decide +kernel
theorem dX5_heal_10 : decode cX5_heal 10 = .ok (.goto 22, 3) := by decide +kernel
theorem dX5_heal_13 : decode cX5_heal 13 = .ok (.aload_n 0, 1) := by decide +kernel
theorem dX5_heal_14 : decode cX5_heal 14 = .ok (.bipush 24, 2) := by decide +kernel
theorem dX5_heal_16 : decode cX5_heal 16 = .ok (.iload_n 1, 1) := by decide +kernel
theorem dX5_heal_17 : decode cX5_heal 17 = .ok (.imul, 1) := by decide +kernel
theorem dX5_heal_18 : decode cX5_heal 18 = .ok (.iload_n 2, 1) := by decide +kernel
theorem dX5_heal_19 : decode cX5_heal 19 = .ok (.iadd, 1) := by decide +kernel
theorem dX5_heal_20 : decode cX5_heal 20 = .ok (.invokevirtual 143, 3) := by decide +kernel
theorem dX5_heal_23 : decode cX5_heal 23 = .ok (.iconst (-1), 1) := by decide +kernel
theorem dX5_heal_24 : decode cX5_heal 24 = .ok (.if_icmp .ne 7, 3) := by decide +kernel
theorem dX5_heal_27 : decode cX5_heal 27 = .ok (.iconst 2, 1) := by decide +kernel
theorem dX5_heal_28 : decode cX5_heal 28 = .ok (.goto 4, 3) := by decide +kernel
theorem dX5_heal_31 : decode cX5_heal 31 = .ok (.iconst 0, 1) := by decide +kernel
theorem dX5_heal_32 : decode cX5_heal 32 = .ok (.putfield 50, 3) := by decide +kernel
theorem dX5_heal_35 : decode cX5_heal 35 = .ok (.aload_n 0, 1) := by decide +kernel
theorem dX5_heal_36 : decode cX5_heal 36 = .ok (.getfield 50, 3) := by decide +kernel
theorem dX5_heal_39 : decode cX5_heal 39 = .ok (.ifCond .le 5, 3) := by decide +kernel
theorem dX5_heal_42 : decode cX5_heal 42 = .ok (.iconst 0, 1) := by decide +kernel
theorem dX5_heal_43 : decode cX5_heal 43 = .ok (.ireturn, 1) := by decide +kernel
theorem dX5_heal_44 : decode cX5_heal 44 = .ok (.aload_n 0, 1) := by decide +kernel
theorem dX5_heal_45 : decode cX5_heal 45 = .ok (.invokevirtual 133, 3) := by decide +kernel
theorem dX5_heal_48 : decode cX5_heal 48 = .ok (.aload_n 0, 1) := by decide +kernel
theorem dX5_heal_49 : decode cX5_heal 49 = .ok (.bipush 24, 2) := by decide +kernel
theorem dX5_heal_51 : decode cX5_heal 51 = .ok (.iload_n 1, 1) := by decide +kernel
theorem dX5_heal_52 : decode cX5_heal 52 = .ok (.imul, 1) := by decide +kernel
theorem dX5_heal_53 : decode cX5_heal 53 = .ok (.iload_n 2, 1) := by decide +kernel
theorem dX5_heal_54 : decode cX5_heal 54 = .ok (.iadd, 1) := by decide +kernel
theorem dX5_heal_55 : decode cX5_heal 55 = .ok (.invokevirtual 155, 3) := by decide +kernel
theorem dX5_heal_58 : decode cX5_heal 58 = .ok (.aload_n 0, 1) := by decide +kernel
theorem dX5_heal_59 : decode cX5_heal 59 = .ok (.invokevirtual 152, 3) := by decide +kernel
theorem dX5_heal_62 : decode cX5_heal 62 = .ok (.ireturn, 1) := by decide +kernel
theorem dX5_tidyGoal_0 : decode cX5_tidyGoal 0 = .ok (.aload_n 0, 1) := by decide +kernel
theorem dX5_tidyGoal_1 : decode cX5_tidyGoal 1 = .ok (.iload_n 1, 1) := by decide +kernel
theorem dX5_tidyGoal_2 : decode cX5_tidyGoal 2 = .ok (.invokevirtual 111, 3) := by decide +kernel
theorem dX5_tidyGoal_5 : decode cX5_tidyGoal 5 = .ok (.istore_n 2, 1) := by decide +kernel
theorem dX5_tidyGoal_6 : decode cX5_tidyGoal 6 = .ok (.iload_n 2, 1) := by decide +kernel
theorem dX5_tidyGoal_7 : decode cX5_tidyGoal 7 = .ok (.iconst (-1), 1) := by decide +kernel
theorem dX5_tidyGoal_8 : decode cX5_tidyGoal 8 = .ok (.if_icmp .eq 16, 3) := by decide +kernel
theorem dX5_tidyGoal_11 : decode cX5_tidyGoal 11 = .ok (.iload_n 2, 1) := by decide +kernel
theorem dX5_tidyGoal_12 : decode cX5_tidyGoal 12 = .ok (.iload_n 1, 1) := by decide +kernel
theorem dX5_tidyGoal_13 : decode cX5_tidyGoal 13 = .ok (.if_icmp .ne 13, 3) := by decide +kernel
theorem dX5_tidyGoal_16 : decode cX5_tidyGoal 16 = .ok (.aload_n 0, 1) := by decide +kernel
theorem dX5_tidyGoal_17 : decode cX5_tidyGoal 17 = .ok (.iload_n 1, 1) := by decide +kernel
theorem dX5_tidyGoal_18 : decode cX5_tidyGoal 18 = .ok (.invokevirtual 104, 3) := by decide +kernel
theorem dX5_tidyGoal_21 : decode cX5_tidyGoal 21 = .ok (.ifCond .eq 5, 3) := by decide +kernel
theorem dX5_tidyGoal_24 : decode cX5_tidyGoal 24 = .ok (.iload_n 2, 1) := by decide +kernel
theorem dX5_tidyGoal_25 : decode cX5_tidyGoal 25 = .ok (.ireturn, 1) := by decide +kernel
theorem dX5_tidyGoal_26 : decode cX5_tidyGoal 26 = .ok (.aload_n 0, 1) := by decide +kernel
theorem dX5_tidyGoal_27 : decode cX5_tidyGoal 27 = .ok (.iload_n 1, 1) := by decide +kernel
theorem dX5_tidyGoal_28 : decode cX5_tidyGoal 28 = .ok (.invokevirtual 104, 3) := by decide +kernel
theorem dX5_tidyGoal_31 : decode cX5_tidyGoal 31 = .ok (.ifCond .eq 5, 3) := by decide +kernel
theorem dX5_tidyGoal_34 : decode cX5_tidyGoal 34 = .ok (.iload_n 1, 1) := by decide +kernel
theorem dX5_tidyGoal_35 : decode cX5_tidyGoal 35 = .ok (.ireturn, 1) := by decide +kernel
theorem dX5_tidyGoal_36 : decode cX5_tidyGoal 36 = .ok (.aload_n 0, 1) := by decide +kernel
theorem dX5_tidyGoal_37 : decode cX5_tidyGoal 37 = .ok (.iload_n 2, 1) := by decide +kernel
theorem dX5_tidyGoal_38 : decode cX5_tidyGoal 38 = .ok (.invokevirtual 104, 3) := by decide +kernel
theorem dX5_tidyGoal_41 : decode cX5_tidyGoal 41 = .ok (.ifCond .eq 7, 3) := by decide +kernel
theorem dX5_tidyGoal_44 : decode cX5_tidyGoal 44 = .ok (.iconst (-1), 1) := by decide +kernel
theorem dX5_tidyGoal_45 : decode cX5_tidyGoal 45 = .ok (.goto 7, 3) := by decide +kernel
theorem dX5_tidyGoal_48 : decode cX5_tidyGoal 48 = .ok (.aload_n 0, 1) := by decide +kernel
theorem dX5_tidyGoal_49 : decode cX5_tidyGoal 49 = .ok (.invokevirtual 114, 3) := by decide +kernel
theorem dX5_tidyGoal_52 : decode cX5_tidyGoal 52 = .ok (.istore_n 3, 1) := by decide +kernel
theorem dX5_tidyGoal_53 : decode cX5_tidyGoal 53 = .ok (.iload_n 3, 1) := by decide +kernel
theorem dX5_tidyGoal_54 : decode cX5_tidyGoal 54 = .ok (.iconst (-1), 1) := by decide +kernel
theorem dX5_tidyGoal_55 : decode cX5_tidyGoal 55 = .ok (.if_icmp .ne 7, 3) := by decide +kernel
theorem dX5_tidyGoal_58 : decode cX5_tidyGoal 58 = .ok (.iload_n 2, 1) := by decide +kernel
theorem dX5_tidyGoal_59 : decode cX5_tidyGoal 59 = .ok (.goto 4, 3) := by decide +kernel
theorem dX5_tidyGoal_62 : decode cX5_tidyGoal 62 = .ok (.iload_n 3, 1) := by decide +kernel
theorem dX5_tidyGoal_63 : decode cX5_tidyGoal 63 = .ok (.ireturn, 1) := by decide +kernel
theorem dX5_tidyUp_0 : decode cX5_tidyUp 0 = .ok (.aload_n 0, 1) := by decide +kernel
theorem dX5_tidyUp_1 : decode cX5_tidyUp 1 = .ok (.invokevirtual 130, 3) := by decide +kernel
theorem dX5_tidyUp_4 : decode cX5_tidyUp 4 = .ok (.iconst 0, 1) := by decide +kernel
theorem dX5_tidyUp_5 : decode cX5_tidyUp 5 = .ok (.istore_n 2, 1) := by decide +kernel
theorem dX5_tidyUp_6 : decode cX5_tidyUp 6 = .ok (.iconst 0, 1) := by decide +kernel
theorem dX5_tidyUp_7 : decode cX5_tidyUp 7 = .ok (.istore_n 3, 1) := by decide +kernel
theorem dX5_tidyUp_8 : decode cX5_tidyUp 8 = .ok (.iload_n 3, 1) := by decide +kernel
theorem dX5_tidyUp_9 : decode cX5_tidyUp 9 = .ok (.sipush 480, 3) := by decide +kernel
theorem dX5_tidyUp_12 : decode cX5_tidyUp 12 = .ok (.if_icmp .ge 41, 3) := by decide +kernel
theorem dX5_tidyUp_15 : decode cX5_tidyUp 15 = .ok (.iload_n 2, 1) := by decide +kernel
theorem dX5_tidyUp_16 : decode cX5_tidyUp 16 = .ok (.iload_n 1, 1) := by decide +kernel
theorem dX5_tidyUp_17 : decode cX5_tidyUp 17 = .ok (.if_icmp .ge 36, 3) := by decide +kernel
theorem dX5_tidyUp_20 : decode cX5_tidyUp 20 = .ok (.aload_n 0, 1) := by decide +kernel
theorem dX5_tidyUp_21 : decode cX5_tidyUp 21 = .ok (.iload_n 3, 1) := by decide +kernel
theorem dX5_tidyUp_22 : decode cX5_tidyUp 22 = .ok (.invokevirtual 158, 3) := by decide +kernel
theorem dX5_tidyUp_25 : decode cX5_tidyUp 25 = .ok (.istore 4, 2) := by decide +kernel
theorem dX5_tidyUp_27 : decode cX5_tidyUp 27 = .ok (.iload 4, 2) := by decide +kernel
theorem dX5_tidyUp_29 : decode cX5_tidyUp 29 = .ok (.aload_n 0, 1) := by decide +kernel
theorem dX5_tidyUp_30 : decode cX5_tidyUp 30 = .ok (.iload_n 3, 1) := by decide +kernel
theorem dX5_tidyUp_31 : decode cX5_tidyUp 31 = .ok (.invokevirtual 111, 3) := by decide +kernel
theorem dX5_tidyUp_34 : decode cX5_tidyUp 34 = .ok (.if_icmp .eq 13, 3) := by decide +kernel
theorem dX5_tidyUp_37 : decode cX5_tidyUp 37 = .ok (.aload_n 0, 1) := by decide +kernel
theorem dX5_tidyUp_38 : decode cX5_tidyUp 38 = .ok (.iload_n 3, 1) := by decide +kernel
theorem dX5_tidyUp_39 : decode cX5_tidyUp 39 = .ok (.iload 4, 2) := by decide +kernel
theorem dX5_tidyUp_41 : decode cX5_tidyUp 41 = .ok (.invokevirtual 121, 3) := by decide +kernel
theorem dX5_tidyUp_44 : decode cX5_tidyUp 44 = .ok (.iinc 2 1, 3) := by decide +kernel
theorem dX5_tidyUp_47 : decode cX5_tidyUp 47 = .ok (.iinc 3 1, 3) := by decide +kernel
theorem dX5_tidyUp_50 : decode cX5_tidyUp 50 = .ok (.goto (-42), 3) := by decide +kernel
theorem dX5_tidyUp_53 : decode cX5_tidyUp 53 = .ok (.iload_n 2, 1) := by decide +kernel
theorem dX5_tidyUp_54 : decode cX5_tidyUp 54 = .ok (.ireturn, 1) := by decide +kernel
theorem dX5_tidy_0 : decode cX5_tidy 0 = .ok (.aload_n 0, 1) := by decide +kernel
theorem dX5_tidy_1 : decode cX5_tidy 1 = .ok (.iload_n 1, 1) := by decide +kernel
theorem dX5_tidy_2 : decode cX5_tidy 2 = .ok (.iconst 1, 1) := by decide +kernel
theorem dX5_tidy_3 : decode cX5_tidy 3 = .ok (.bipush 99, 2) := by decide +kernel
theorem dX5_tidy_5 : decode cX5_tidy 5 = .ok (.invokestatic 54, 3) := by decide +kernel
theorem dX5_tidy_8 : decode cX5_tidy 8 = .ok (.ifCond .eq 7, 3) := by decide +kernel
theorem dX5_tidy_11 : decode cX5_tidy 11 = .ok (.iconst 0, 1) := by decide +kernel
theorem dX5_tidy_12 : decode cX5_tidy 12 = .ok (.goto 4, 3) := by decide +kernel
theorem dX5_tidy_15 : decode cX5_tidy 15 = .ok (.iconst 1, 1) := by decide +kernel
theorem dX5_tidy_16 : decode cX5_tidy 16 = .ok (.putfield 50, 3) := by decide +kernel
theorem dX5_tidy_19 : decode cX5_tidy 19 = .ok (.aload_n 0, 1) := by decide +kernel
theorem dX5_tidy_20 : decode cX5_tidy 20 = .ok (.getfield 50, 3) := by decide +kernel
theorem dX5_tidy_23 : decode cX5_tidy 23 = .ok (.ifCond .le 5, 3) := by decide +kernel
theorem dX5_tidy_26 : decode cX5_tidy 26 = .ok (.iconst 0, 1) := by decide +kernel
theorem dX5_tidy_27 : decode cX5_tidy 27 = .ok (.ireturn, 1) := by decide +kernel
theorem dX5_tidy_28 : decode cX5_tidy 28 = .ok (.aload_n 0, 1) := by decide +kernel
theorem dX5_tidy_29 : decode cX5_tidy 29 = .ok (.invokevirtual 133, 3) := by decide +kernel
theorem dX5_tidy_32 : decode cX5_tidy 32 = .ok (.aload_n 0, 1) := by decide +kernel
theorem dX5_tidy_33 : decode cX5_tidy 33 = .ok (.iload_n 1, 1) := by decide +kernel
theorem dX5_tidy_34 : decode cX5_tidy 34 = .ok (.invokevirtual 161, 3) := by decide +kernel
theorem dX5_tidy_37 : decode cX5_tidy 37 = .ok (.ireturn, 1) := by decide +kernel
theorem dX5_leastOf_0 : decode cX5_leastOf 0 = .ok (.iload_n 0, 1) := by decide +kernel
theorem dX5_leastOf_1 : decode cX5_leastOf 1 = .ok (.ifCond .ne 7, 3) := by decide +kernel
theorem dX5_leastOf_4 : decode cX5_leastOf 4 = .ok (.iconst 3, 1) := by decide +kernel
theorem dX5_leastOf_5 : decode cX5_leastOf 5 = .ok (.goto 13, 3) := by decide +kernel
theorem dX5_leastOf_8 : decode cX5_leastOf 8 = .ok (.iload_n 0, 1) := by decide +kernel
theorem dX5_leastOf_9 : decode cX5_leastOf 9 = .ok (.iconst 1, 1) := by decide +kernel
theorem dX5_leastOf_10 : decode cX5_leastOf 10 = .ok (.if_icmp .ne 7, 3) := by decide +kernel
theorem dX5_leastOf_13 : decode cX5_leastOf 13 = .ok (.iconst 1, 1) := by decide +kernel
theorem dX5_leastOf_14 : decode cX5_leastOf 14 = .ok (.goto 4, 3) := by decide +kernel
theorem dX5_leastOf_17 : decode cX5_leastOf 17 = .ok (.iconst 0, 1) := by decide +kernel
theorem dX5_leastOf_18 : decode cX5_leastOf 18 = .ok (.ireturn, 1) := by decide +kernel
theorem dX5_mostOf_0 : decode cX5_mostOf 0 = .ok (.iload_n 0, 1) := by decide +kernel
theorem dX5_mostOf_1 : decode cX5_mostOf 1 = .ok (.iconst 1, 1) := by decide +kernel
theorem dX5_mostOf_2 : decode cX5_mostOf 2 = .ok (.if_icmp .ne 8, 3) := by decide +kernel
theorem dX5_mostOf_5 : decode cX5_mostOf 5 = .ok (.bipush 8, 2) := by decide +kernel
theorem dX5_mostOf_7 : decode cX5_mostOf 7 = .ok (.goto 5, 3) := by decide +kernel
theorem dX5_mostOf_10 : decode cX5_mostOf 10 = .ok (.bipush 6, 2) := by decide +kernel
theorem dX5_mostOf_12 : decode cX5_mostOf 12 = .ok (.ireturn, 1) := by decide +kernel
theorem dX5_set_0 : decode cX5_set 0 = .ok (.aload_n 0, 1) := by decide +kernel
theorem dX5_set_1 : decode cX5_set 1 = .ok (.iload_n 1, 1) := by decide +kernel
theorem dX5_set_2 : decode cX5_set 2 = .ok (.iconst 0, 1) := by decide +kernel
theorem dX5_set_3 : decode cX5_set 3 = .ok (.iconst 2, 1) := by decide +kernel
theorem dX5_set_4 : decode cX5_set 4 = .ok (.invokestatic 54, 3) := by decide +kernel
theorem dX5_set_7 : decode cX5_set 7 = .ok (.ifCond .ne 7, 3) := by decide +kernel
theorem dX5_set_10 : decode cX5_set 10 = .ok (.iconst 1, 1) := by decide +kernel
theorem dX5_set_11 : decode cX5_set 11 = .ok (.goto 23, 3) := by decide +kernel
theorem dX5_set_14 : decode cX5_set 14 = .ok (.iload_n 2, 1) := by decide +kernel
theorem dX5_set_15 : decode cX5_set 15 = .ok (.iload_n 1, 1) := by decide +kernel
theorem dX5_set_16 : decode cX5_set 16 = .ok (.invokestatic 164, 3) := by decide +kernel
theorem dX5_set_19 : decode cX5_set 19 = .ok (.iload_n 1, 1) := by decide +kernel
theorem dX5_set_20 : decode cX5_set 20 = .ok (.invokestatic 167, 3) := by decide +kernel
theorem dX5_set_23 : decode cX5_set 23 = .ok (.invokestatic 54, 3) := by decide +kernel
theorem dX5_set_26 : decode cX5_set 26 = .ok (.ifCond .eq 7, 3) := by decide +kernel
theorem dX5_set_29 : decode cX5_set 29 = .ok (.iconst 0, 1) := by decide +kernel
theorem dX5_set_30 : decode cX5_set 30 = .ok (.goto 4, 3) := by decide +kernel
theorem dX5_set_33 : decode cX5_set 33 = .ok (.iconst 2, 1) := by decide +kernel
theorem dX5_set_34 : decode cX5_set 34 = .ok (.putfield 50, 3) := by decide +kernel
theorem dX5_set_37 : decode cX5_set 37 = .ok (.aload_n 0, 1) := by decide +kernel
theorem dX5_set_38 : decode cX5_set 38 = .ok (.getfield 50, 3) := by decide +kernel
theorem dX5_set_41 : decode cX5_set 41 = .ok (.ifCond .le 5, 3) := by decide +kernel
theorem dX5_set_44 : decode cX5_set 44 = .ok (.iconst 0, 1) := by decide +kernel
theorem dX5_set_45 : decode cX5_set 45 = .ok (.ireturn, 1) := by decide +kernel
theorem dX5_set_46 : decode cX5_set 46 = .ok (.aload_n 0, 1) := by decide +kernel
theorem dX5_set_47 : decode cX5_set 47 = .ok (.invokevirtual 133, 3) := by decide +kernel
theorem dX5_set_50 : decode cX5_set 50 = .ok (.aload_n 0, 1) := by decide +kernel
theorem dX5_set_51 : decode cX5_set 51 = .ok (.getfield 7, 3) := by decide +kernel
theorem dX5_set_54 : decode cX5_set 54 = .ok (.iconst 0, 1) := by decide +kernel
theorem dX5_set_55 : decode cX5_set 55 = .ok (.iload_n 1, 1) := by decide +kernel
theorem dX5_set_56 : decode cX5_set 56 = .ok (.iadd, 1) := by decide +kernel
theorem dX5_set_57 : decode cX5_set 57 = .ok (.iaload, 1) := by decide +kernel
theorem dX5_set_58 : decode cX5_set 58 = .ok (.istore_n 3, 1) := by decide +kernel
theorem dX5_set_59 : decode cX5_set 59 = .ok (.aload_n 0, 1) := by decide +kernel
theorem dX5_set_60 : decode cX5_set 60 = .ok (.getfield 7, 3) := by decide +kernel
theorem dX5_set_63 : decode cX5_set 63 = .ok (.iconst 0, 1) := by decide +kernel
theorem dX5_set_64 : decode cX5_set 64 = .ok (.iload_n 1, 1) := by decide +kernel
theorem dX5_set_65 : decode cX5_set 65 = .ok (.iadd, 1) := by decide +kernel
theorem dX5_set_66 : decode cX5_set 66 = .ok (.iload_n 2, 1) := by decide +kernel
theorem dX5_set_67 : decode cX5_set 67 = .ok (.iastore, 1) := by decide +kernel
theorem dX5_set_68 : decode cX5_set 68 = .ok (.iload_n 3, 1) := by decide +kernel
theorem dX5_set_69 : decode cX5_set 69 = .ok (.ireturn, 1) := by decide +kernel
theorem dX5_append_0 : decode cX5_append 0 = .ok (.aload_n 0, 1) := by decide +kernel
theorem dX5_append_1 : decode cX5_append 1 = .ok (.iload_n 1, 1) := by decide +kernel
theorem dX5_append_2 : decode cX5_append 2 = .ok (.bipush 33, 2) := by decide +kernel
theorem dX5_append_4 : decode cX5_append 4 = .ok (.bipush 126, 2) := by decide +kernel
theorem dX5_append_6 : decode cX5_append 6 = .ok (.invokestatic 54, 3) := by decide +kernel
theorem dX5_append_9 : decode cX5_append 9 = .ok (.ifCond .ne 7, 3) := by decide +kernel
theorem dX5_append_12 : decode cX5_append 12 = .ok (.iconst 1, 1) := by decide +kernel
theorem dX5_append_13 : decode cX5_append 13 = .ok (.goto 17, 3) := by decide +kernel
theorem dX5_append_16 : decode cX5_append 16 = .ok (.aload_n 0, 1) := by decide +kernel
theorem dX5_append_17 : decode cX5_append 17 = .ok (.getfield 170, 3) := by decide +kernel
theorem dX5_append_20 : decode cX5_append 20 = .ok (.bipush 60, 2) := by decide +kernel
theorem dX5_append_22 : decode cX5_append 22 = .ok (.if_icmp .ne 7, 3) := by decide +kernel
theorem dX5_append_25 : decode cX5_append 25 = .ok (.iconst 2, 1) := by decide +kernel
theorem dX5_append_26 : decode cX5_append 26 = .ok (.goto 4, 3) := by decide +kernel
theorem dX5_append_29 : decode cX5_append 29 = .ok (.iconst 0, 1) := by decide +kernel
theorem dX5_append_30 : decode cX5_append 30 = .ok (.putfield 50, 3) := by decide +kernel
theorem dX5_append_33 : decode cX5_append 33 = .ok (.aload_n 0, 1) := by decide +kernel
theorem dX5_append_34 : decode cX5_append 34 = .ok (.getfield 50, 3) := by decide +kernel
theorem dX5_append_37 : decode cX5_append 37 = .ok (.ifCond .le 5, 3) := by decide +kernel
theorem dX5_append_40 : decode cX5_append 40 = .ok (.iconst 0, 1) := by decide +kernel
theorem dX5_append_41 : decode cX5_append 41 = .ok (.ireturn, 1) := by decide +kernel
theorem dX5_append_42 : decode cX5_append 42 = .ok (.aload_n 0, 1) := by decide +kernel
theorem dX5_append_43 : decode cX5_append 43 = .ok (.getfield 19, 3) := by decide +kernel
theorem dX5_append_46 : decode cX5_append 46 = .ok (.aload_n 0, 1) := by decide +kernel
theorem dX5_append_47 : decode cX5_append 47 = .ok (.getfield 170, 3) := by decide +kernel
theorem dX5_append_50 : decode cX5_append 50 = .ok (.iload_n 1, 1) := by decide +kernel
theorem dX5_append_51 : decode cX5_append 51 = .ok (.iastore, 1) := by decide +kernel
theorem dX5_append_52 : decode cX5_append 52 = .ok (.aload_n 0, 1) := by decide +kernel
theorem dX5_append_53 : decode cX5_append 53 = .ok (.dup, 1) := by decide +kernel
theorem dX5_append_54 : decode cX5_append 54 = .ok (.getfield 170, 3) := by decide +kernel
theorem dX5_append_57 : decode cX5_append 57 = .ok (.iconst 1, 1) := by decide +kernel
theorem dX5_append_58 : decode cX5_append 58 = .ok (.iadd, 1) := by decide +kernel
theorem dX5_append_59 : decode cX5_append 59 = .ok (.putfield 170, 3) := by decide +kernel
theorem dX5_append_62 : decode cX5_append 62 = .ok (.aload_n 0, 1) := by decide +kernel
theorem dX5_append_63 : decode cX5_append 63 = .ok (.getfield 170, 3) := by decide +kernel
theorem dX5_append_66 : decode cX5_append 66 = .ok (.ireturn, 1) := by decide +kernel
theorem dX5_clearBuffer_0 : decode cX5_clearBuffer 0 = .ok (.aload_n 0, 1) := by decide +kernel
theorem dX5_clearBuffer_1 : decode cX5_clearBuffer 1 = .ok (.iconst 0, 1) := by decide +kernel
theorem dX5_clearBuffer_2 : decode cX5_clearBuffer 2 = .ok (.putfield 50, 3) := by decide +kernel
theorem dX5_clearBuffer_5 : decode cX5_clearBuffer 5 = .ok (.aload_n 0, 1) := by decide +kernel
theorem dX5_clearBuffer_6 : decode cX5_clearBuffer 6 = .ok (.getfield 170, 3) := by decide +kernel
theorem dX5_clearBuffer_9 : decode cX5_clearBuffer 9 = .ok (.istore_n 1, 1) := by decide +kernel
theorem dX5_clearBuffer_10 : decode cX5_clearBuffer 10 = .ok (.aload_n 0, 1) := by decide +kernel
theorem dX5_clearBuffer_11 : decode cX5_clearBuffer 11 = .ok (.iconst 0, 1) := by decide +kernel
theorem dX5_clearBuffer_12 : decode cX5_clearBuffer 12 = .ok (.putfield 170, 3) := by decide +kernel
theorem dX5_clearBuffer_15 : decode cX5_clearBuffer 15 = .ok (.iload_n 1, 1) := by decide +kernel
theorem dX5_clearBuffer_16 : decode cX5_clearBuffer 16 = .ok (.ireturn, 1) := by decide +kernel
theorem dX5_letter_0 : decode cX5_letter 0 = .ok (.aload_n 0, 1) := by decide +kernel
theorem dX5_letter_1 : decode cX5_letter 1 = .ok (.getfield 173, 3) := by decide +kernel
theorem dX5_letter_4 : decode cX5_letter 4 = .ok (.aload_n 0, 1) := by decide +kernel
theorem dX5_letter_5 : decode cX5_letter 5 = .ok (.getfield 170, 3) := by decide +kernel
theorem dX5_letter_8 : decode cX5_letter 8 = .ok (.if_icmp .ge 15, 3) := by decide +kernel
theorem dX5_letter_11 : decode cX5_letter 11 = .ok (.aload_n 0, 1) := by decide +kernel
theorem dX5_letter_12 : decode cX5_letter 12 = .ok (.getfield 19, 3) := by decide +kernel
theorem dX5_letter_15 : decode cX5_letter 15 = .ok (.aload_n 0, 1) := by decide +kernel
theorem dX5_letter_16 : decode cX5_letter 16 = .ok (.getfield 173, 3) := by decide +kernel
theorem dX5_letter_19 : decode cX5_letter 19 = .ok (.iaload, 1) := by decide +kernel
theorem dX5_letter_20 : decode cX5_letter 20 = .ok (.goto 4, 3) := by decide +kernel
theorem dX5_letter_23 : decode cX5_letter 23 = .ok (.iconst (-1), 1) := by decide +kernel
theorem dX5_letter_24 : decode cX5_letter 24 = .ok (.ireturn, 1) := by decide +kernel
theorem dX5_wants_0 : decode cX5_wants 0 = .ok (.aload_n 0, 1) := by decide +kernel
theorem dX5_wants_1 : decode cX5_wants 1 = .ok (.getfield 176, 3) := by decide +kernel
theorem dX5_wants_4 : decode cX5_wants 4 = .ok (.iconst (-1), 1) := by decide +kernel
theorem dX5_wants_5 : decode cX5_wants 5 = .ok (.if_icmp .ne 29, 3) := by decide +kernel
theorem dX5_wants_8 : decode cX5_wants 8 = .ok (.aload_n 0, 1) := by decide +kernel
theorem dX5_wants_9 : decode cX5_wants 9 = .ok (.iload_n 1, 1) := by decide +kernel
theorem dX5_wants_10 : decode cX5_wants 10 = .ok (.ifCond .eq 7, 3) := by decide +kernel
theorem dX5_wants_13 : decode cX5_wants 13 = .ok (.iconst (-1), 1) := by decide +kernel
theorem dX5_wants_14 : decode cX5_wants 14 = .ok (.goto 7, 3) := by decide +kernel
theorem dX5_wants_17 : decode cX5_wants 17 = .ok (.aload_n 0, 1) := by decide +kernel
theorem dX5_wants_18 : decode cX5_wants 18 = .ok (.getfield 173, 3) := by decide +kernel
theorem dX5_wants_21 : decode cX5_wants 21 = .ok (.putfield 176, 3) := by decide +kernel
theorem dX5_wants_24 : decode cX5_wants 24 = .ok (.aload_n 0, 1) := by decide +kernel
theorem dX5_wants_25 : decode cX5_wants 25 = .ok (.dup, 1) := by decide +kernel
theorem dX5_wants_26 : decode cX5_wants 26 = .ok (.getfield 173, 3) := by decide +kernel
theorem dX5_wants_29 : decode cX5_wants 29 = .ok (.iconst 1, 1) := by decide +kernel
theorem dX5_wants_30 : decode cX5_wants 30 = .ok (.iadd, 1) := by decide +kernel
theorem dX5_wants_31 : decode cX5_wants 31 = .ok (.putfield 173, 3) := by decide +kernel
theorem dX5_wants_34 : decode cX5_wants 34 = .ok (.return_, 1) := by decide +kernel
theorem dX5_number_0 : decode cX5_number 0 = .ok (.aload_n 0, 1) := by decide +kernel
theorem dX5_number_1 : decode cX5_number 1 = .ok (.invokevirtual 179, 3) := by decide +kernel
theorem dX5_number_4 : decode cX5_number 4 = .ok (.bipush 48, 2) := by decide +kernel
theorem dX5_number_6 : decode cX5_number 6 = .ok (.isub, 1) := by decide +kernel
theorem dX5_number_7 : decode cX5_number 7 = .ok (.istore_n 1, 1) := by decide +kernel
theorem dX5_number_8 : decode cX5_number 8 = .ok (.aload_n 0, 1) := by decide +kernel
theorem dX5_number_9 : decode cX5_number 9 = .ok (.iload_n 1, 1) := by decide +kernel
theorem dX5_number_10 : decode cX5_number 10 = .ok (.iconst 0, 1) := by decide +kernel
theorem dX5_number_11 : decode cX5_number 11 = .ok (.bipush 9, 2) := by decide +kernel
theorem dX5_number_13 : decode cX5_number 13 = .ok (.invokestatic 54, 3) := by decide +kernel
theorem dX5_number_16 : decode cX5_number 16 = .ok (.invokevirtual 182, 3) := by decide +kernel
theorem dX5_number_19 : decode cX5_number 19 = .ok (.aload_n 0, 1) := by decide +kernel
theorem dX5_number_20 : decode cX5_number 20 = .ok (.invokevirtual 179, 3) := by decide +kernel
theorem dX5_number_23 : decode cX5_number 23 = .ok (.bipush 48, 2) := by decide +kernel
theorem dX5_number_25 : decode cX5_number 25 = .ok (.isub, 1) := by decide +kernel
theorem dX5_number_26 : decode cX5_number 26 = .ok (.istore_n 2, 1) := by decide +kernel
theorem dX5_number_27 : decode cX5_number 27 = .ok (.aload_n 0, 1) := by decide +kernel
theorem dX5_number_28 : decode cX5_number 28 = .ok (.getfield 176, 3) := by decide +kernel
theorem dX5_number_31 : decode cX5_number 31 = .ok (.iconst (-1), 1) := by decide +kernel
theorem dX5_number_32 : decode cX5_number 32 = .ok (.if_icmp .ne 45, 3) := by decide +kernel
theorem dX5_number_35 : decode cX5_number 35 = .ok (.iload_n 1, 1) := by decide +kernel
theorem dX5_number_36 : decode cX5_number 36 = .ok (.ifCond .le 41, 3) := by decide +kernel
theorem dX5_number_39 : decode cX5_number 39 = .ok (.iload_n 2, 1) := by decide +kernel
theorem dX5_number_40 : decode cX5_number 40 = .ok (.iconst 0, 1) := by decide +kernel
theorem dX5_number_41 : decode cX5_number 41 = .ok (.bipush 9, 2) := by decide +kernel
theorem dX5_number_43 : decode cX5_number 43 = .ok (.invokestatic 54, 3) := by decide +kernel
theorem dX5_number_46 : decode cX5_number 46 = .ok (.ifCond .eq 31, 3) := by decide +kernel
theorem dX5_number_49 : decode cX5_number 49 = .ok (.bipush 10, 2) := by decide +kernel
theorem dX5_number_51 : decode cX5_number 51 = .ok (.iload_n 1, 1) := by decide +kernel
theorem dX5_number_52 : decode cX5_number 52 = .ok (.imul, 1) := by decide +kernel
theorem dX5_number_53 : decode cX5_number 53 = .ok (.iload_n 2, 1) := by decide +kernel
theorem dX5_number_54 : decode cX5_number 54 = .ok (.iadd, 1) := by decide +kernel
theorem dX5_number_55 : decode cX5_number 55 = .ok (.bipush 24, 2) := by decide +kernel
theorem dX5_number_57 : decode cX5_number 57 = .ok (.if_icmp .ge 20, 3) := by decide +kernel
theorem dX5_number_60 : decode cX5_number 60 = .ok (.bipush 10, 2) := by decide +kernel
theorem dX5_number_62 : decode cX5_number 62 = .ok (.iload_n 1, 1) := by decide +kernel
theorem dX5_number_63 : decode cX5_number 63 = .ok (.imul, 1) := by decide +kernel
theorem dX5_number_64 : decode cX5_number 64 = .ok (.iload_n 2, 1) := by decide +kernel
theorem dX5_number_65 : decode cX5_number 65 = .ok (.iadd, 1) := by decide +kernel
theorem dX5_number_66 : decode cX5_number 66 = .ok (.istore_n 1, 1) := by decide +kernel
theorem dX5_number_67 : decode cX5_number 67 = .ok (.aload_n 0, 1) := by decide +kernel
theorem dX5_number_68 : decode cX5_number 68 = .ok (.dup, 1) := by decide +kernel
theorem dX5_number_69 : decode cX5_number 69 = .ok (.getfield 173, 3) := by decide +kernel
theorem dX5_number_72 : decode cX5_number 72 = .ok (.iconst 1, 1) := by decide +kernel
theorem dX5_number_73 : decode cX5_number 73 = .ok (.iadd, 1) := by decide +kernel
theorem dX5_number_74 : decode cX5_number 74 = .ok (.putfield 173, 3) := by decide +kernel
theorem dX5_number_77 : decode cX5_number 77 = .ok (.iload_n 1, 1) := by decide +kernel
theorem dX5_number_78 : decode cX5_number 78 = .ok (.ireturn, 1) := by decide +kernel
theorem dX5_readOrder_0 : decode cX5_readOrder 0 = .ok (.iconst 3, 1) := by decide +kernel
theorem dX5_readOrder_1 : decode cX5_readOrder 1 = .ok (.aload_n 0, 1) := by decide +kernel
theorem dX5_readOrder_2 : decode cX5_readOrder 2 = .ok (.getfield 186, 3) := by decide +kernel
theorem dX5_readOrder_5 : decode cX5_readOrder 5 = .ok (.imul, 1) := by decide +kernel
theorem dX5_readOrder_6 : decode cX5_readOrder 6 = .ok (.istore_n 1, 1) := by decide +kernel
theorem dX5_readOrder_7 : decode cX5_readOrder 7 = .ok (.aload_n 0, 1) := by decide +kernel
theorem dX5_readOrder_8 : decode cX5_readOrder 8 = .ok (.getfield 47, 3) := by decide +kernel
theorem dX5_readOrder_11 : decode cX5_readOrder 11 = .ok (.iload_n 1, 1) := by decide +kernel
theorem dX5_readOrder_12 : decode cX5_readOrder 12 = .ok (.iconst 0, 1) := by decide +kernel
theorem dX5_readOrder_13 : decode cX5_readOrder 13 = .ok (.iastore, 1) := by decide +kernel
theorem dX5_readOrder_14 : decode cX5_readOrder 14 = .ok (.aload_n 0, 1) := by decide +kernel
theorem dX5_readOrder_15 : decode cX5_readOrder 15 = .ok (.invokevirtual 179, 3) := by decide +kernel
theorem dX5_readOrder_18 : decode cX5_readOrder 18 = .ok (.bipush 45, 2) := by decide +kernel
theorem dX5_readOrder_20 : decode cX5_readOrder 20 = .ok (.if_icmp .ne 20, 3) := by decide +kernel
theorem dX5_readOrder_23 : decode cX5_readOrder 23 = .ok (.aload_n 0, 1) := by decide +kernel
theorem dX5_readOrder_24 : decode cX5_readOrder 24 = .ok (.getfield 47, 3) := by decide +kernel
theorem dX5_readOrder_27 : decode cX5_readOrder 27 = .ok (.iload_n 1, 1) := by decide +kernel
theorem dX5_readOrder_28 : decode cX5_readOrder 28 = .ok (.iconst 1, 1) := by decide +kernel
theorem dX5_readOrder_29 : decode cX5_readOrder 29 = .ok (.iastore, 1) := by decide +kernel
theorem dX5_readOrder_30 : decode cX5_readOrder 30 = .ok (.aload_n 0, 1) := by decide +kernel
theorem dX5_readOrder_31 : decode cX5_readOrder 31 = .ok (.dup, 1) := by decide +kernel
theorem dX5_readOrder_32 : decode cX5_readOrder 32 = .ok (.getfield 173, 3) := by decide +kernel
theorem dX5_readOrder_35 : decode cX5_readOrder 35 = .ok (.iconst 1, 1) := by decide +kernel
theorem dX5_readOrder_36 : decode cX5_readOrder 36 = .ok (.iadd, 1) := by decide +kernel
theorem dX5_readOrder_37 : decode cX5_readOrder 37 = .ok (.putfield 173, 3) := by decide +kernel
theorem dX5_readOrder_40 : decode cX5_readOrder 40 = .ok (.aload_n 0, 1) := by decide +kernel
theorem dX5_readOrder_41 : decode cX5_readOrder 41 = .ok (.getfield 47, 3) := by decide +kernel
theorem dX5_readOrder_44 : decode cX5_readOrder 44 = .ok (.iload_n 1, 1) := by decide +kernel
theorem dX5_readOrder_45 : decode cX5_readOrder 45 = .ok (.iconst 1, 1) := by decide +kernel
theorem dX5_readOrder_46 : decode cX5_readOrder 46 = .ok (.iadd, 1) := by decide +kernel
theorem dX5_readOrder_47 : decode cX5_readOrder 47 = .ok (.aload_n 0, 1) := by decide +kernel
theorem dX5_readOrder_48 : decode cX5_readOrder 48 = .ok (.invokevirtual 189, 3) := by decide +kernel
theorem dX5_readOrder_51 : decode cX5_readOrder 51 = .ok (.iastore, 1) := by decide +kernel
theorem dX5_readOrder_52 : decode cX5_readOrder 52 = .ok (.aload_n 0, 1) := by decide +kernel
theorem dX5_readOrder_53 : decode cX5_readOrder 53 = .ok (.aload_n 0, 1) := by decide +kernel
theorem dX5_readOrder_54 : decode cX5_readOrder 54 = .ok (.invokevirtual 179, 3) := by decide +kernel
theorem dX5_readOrder_57 : decode cX5_readOrder 57 = .ok (.bipush 44, 2) := by decide +kernel
theorem dX5_readOrder_59 : decode cX5_readOrder 59 = .ok (.if_icmp .ne 7, 3) := by decide +kernel
theorem dX5_readOrder_62 : decode cX5_readOrder 62 = .ok (.iconst 1, 1) := by decide +kernel
theorem dX5_readOrder_63 : decode cX5_readOrder 63 = .ok (.goto 4, 3) := by decide +kernel
theorem dX5_readOrder_66 : decode cX5_readOrder 66 = .ok (.iconst 0, 1) := by decide +kernel
theorem dX5_readOrder_67 : decode cX5_readOrder 67 = .ok (.invokevirtual 182, 3) := by decide +kernel
theorem dX5_readOrder_70 : decode cX5_readOrder 70 = .ok (.aload_n 0, 1) := by decide +kernel
theorem dX5_readOrder_71 : decode cX5_readOrder 71 = .ok (.getfield 47, 3) := by decide +kernel
theorem dX5_readOrder_74 : decode cX5_readOrder 74 = .ok (.iload_n 1, 1) := by decide +kernel
theorem dX5_readOrder_75 : decode cX5_readOrder 75 = .ok (.iconst 2, 1) := by decide +kernel
theorem dX5_readOrder_76 : decode cX5_readOrder 76 = .ok (.iadd, 1) := by decide +kernel
theorem dX5_readOrder_77 : decode cX5_readOrder 77 = .ok (.aload_n 0, 1) := by decide +kernel
theorem dX5_readOrder_78 : decode cX5_readOrder 78 = .ok (.invokevirtual 189, 3) := by decide +kernel
theorem dX5_readOrder_81 : decode cX5_readOrder 81 = .ok (.iastore, 1) := by decide +kernel
theorem dX5_readOrder_82 : decode cX5_readOrder 82 = .ok (.aload_n 0, 1) := by decide +kernel
theorem dX5_readOrder_83 : decode cX5_readOrder 83 = .ok (.dup, 1) := by decide +kernel
theorem dX5_readOrder_84 : decode cX5_readOrder 84 = .ok (.getfield 186, 3) := by decide +kernel
theorem dX5_readOrder_87 : decode cX5_readOrder 87 = .ok (.iconst 1, 1) := by decide +kernel
theorem dX5_readOrder_88 : decode cX5_readOrder 88 = .ok (.iadd, 1) := by decide +kernel
theorem dX5_readOrder_89 : decode cX5_readOrder 89 = .ok (.putfield 186, 3) := by decide +kernel
theorem dX5_readOrder_92 : decode cX5_readOrder 92 = .ok (.return_, 1) := by decide +kernel
theorem dX5_readBuffer_0 : decode cX5_readBuffer 0 = .ok (.aload_n 0, 1) := by decide +kernel
theorem dX5_readBuffer_1 : decode cX5_readBuffer 1 = .ok (.iconst 0, 1) := by decide +kernel
theorem dX5_readBuffer_2 : decode cX5_readBuffer 2 = .ok (.putfield 186, 3) := by decide +kernel
theorem dX5_readBuffer_5 : decode cX5_readBuffer 5 = .ok (.aload_n 0, 1) := by decide +kernel
theorem dX5_readBuffer_6 : decode cX5_readBuffer 6 = .ok (.iconst 0, 1) := by decide +kernel
theorem dX5_readBuffer_7 : decode cX5_readBuffer 7 = .ok (.putfield 173, 3) := by decide +kernel
theorem dX5_readBuffer_10 : decode cX5_readBuffer 10 = .ok (.aload_n 0, 1) := by decide +kernel
theorem dX5_readBuffer_11 : decode cX5_readBuffer 11 = .ok (.iconst (-1), 1) := by decide +kernel
theorem dX5_readBuffer_12 : decode cX5_readBuffer 12 = .ok (.putfield 176, 3) := by decide +kernel
theorem dX5_readBuffer_15 : decode cX5_readBuffer 15 = .ok (.iconst 1, 1) := by decide +kernel
theorem dX5_readBuffer_16 : decode cX5_readBuffer 16 = .ok (.istore_n 1, 1) := by decide +kernel
theorem dX5_readBuffer_17 : decode cX5_readBuffer 17 = .ok (.iload_n 1, 1) := by decide +kernel
theorem dX5_readBuffer_18 : decode cX5_readBuffer 18 = .ok (.ifCond .eq 71, 3) := by decide +kernel
theorem dX5_readBuffer_21 : decode cX5_readBuffer 21 = .ok (.aload_n 0, 1) := by decide +kernel
theorem dX5_readBuffer_22 : decode cX5_readBuffer 22 = .ok (.invokevirtual 192, 3) := by decide +kernel
theorem dX5_readBuffer_25 : decode cX5_readBuffer 25 = .ok (.aload_n 0, 1) := by decide +kernel
theorem dX5_readBuffer_26 : decode cX5_readBuffer 26 = .ok (.getfield 176, 3) := by decide +kernel
theorem dX5_readBuffer_29 : decode cX5_readBuffer 29 = .ok (.iconst (-1), 1) := by decide +kernel
theorem dX5_readBuffer_30 : decode cX5_readBuffer 30 = .ok (.if_icmp .ne 18, 3) := by decide +kernel
theorem dX5_readBuffer_33 : decode cX5_readBuffer 33 = .ok (.aload_n 0, 1) := by decide +kernel
theorem dX5_readBuffer_34 : decode cX5_readBuffer 34 = .ok (.getfield 173, 3) := by decide +kernel
theorem dX5_readBuffer_37 : decode cX5_readBuffer 37 = .ok (.aload_n 0, 1) := by decide +kernel
theorem dX5_readBuffer_38 : decode cX5_readBuffer 38 = .ok (.getfield 170, 3) := by decide +kernel
theorem dX5_readBuffer_41 : decode cX5_readBuffer 41 = .ok (.if_icmp .ge 7, 3) := by decide +kernel
theorem dX5_readBuffer_44 : decode cX5_readBuffer 44 = .ok (.iconst 1, 1) := by decide +kernel
theorem dX5_readBuffer_45 : decode cX5_readBuffer 45 = .ok (.goto 4, 3) := by decide +kernel
theorem dX5_readBuffer_48 : decode cX5_readBuffer 48 = .ok (.iconst 0, 1) := by decide +kernel
theorem dX5_readBuffer_49 : decode cX5_readBuffer 49 = .ok (.istore_n 1, 1) := by decide +kernel
theorem dX5_readBuffer_50 : decode cX5_readBuffer 50 = .ok (.iload_n 1, 1) := by decide +kernel
theorem dX5_readBuffer_51 : decode cX5_readBuffer 51 = .ok (.ifCond .eq (-34), 3) := by decide +kernel
theorem dX5_readBuffer_54 : decode cX5_readBuffer 54 = .ok (.aload_n 0, 1) := by decide +kernel
theorem dX5_readBuffer_55 : decode cX5_readBuffer 55 = .ok (.aload_n 0, 1) := by decide +kernel
theorem dX5_readBuffer_56 : decode cX5_readBuffer 56 = .ok (.invokevirtual 179, 3) := by decide +kernel
theorem dX5_readBuffer_59 : decode cX5_readBuffer 59 = .ok (.bipush 59, 2) := by decide +kernel
theorem dX5_readBuffer_61 : decode cX5_readBuffer 61 = .ok (.if_icmp .ne 7, 3) := by decide +kernel
theorem dX5_readBuffer_64 : decode cX5_readBuffer 64 = .ok (.iconst 1, 1) := by decide +kernel
theorem dX5_readBuffer_65 : decode cX5_readBuffer 65 = .ok (.goto 4, 3) := by decide +kernel
theorem dX5_readBuffer_68 : decode cX5_readBuffer 68 = .ok (.iconst 0, 1) := by decide +kernel
theorem dX5_readBuffer_69 : decode cX5_readBuffer 69 = .ok (.invokevirtual 182, 3) := by decide +kernel
theorem dX5_readBuffer_72 : decode cX5_readBuffer 72 = .ok (.aload_n 0, 1) := by decide +kernel
theorem dX5_readBuffer_73 : decode cX5_readBuffer 73 = .ok (.getfield 176, 3) := by decide +kernel
theorem dX5_readBuffer_76 : decode cX5_readBuffer 76 = .ok (.iconst (-1), 1) := by decide +kernel
theorem dX5_readBuffer_77 : decode cX5_readBuffer 77 = .ok (.if_icmp .ne 7, 3) := by decide +kernel
theorem dX5_readBuffer_80 : decode cX5_readBuffer 80 = .ok (.iconst 1, 1) := by decide +kernel
theorem dX5_readBuffer_81 : decode cX5_readBuffer 81 = .ok (.goto 4, 3) := by decide +kernel
theorem dX5_readBuffer_84 : decode cX5_readBuffer 84 = .ok (.iconst 0, 1) := by decide +kernel
theorem dX5_readBuffer_85 : decode cX5_readBuffer 85 = .ok (.istore_n 1, 1) := by decide +kernel
theorem dX5_readBuffer_86 : decode cX5_readBuffer 86 = .ok (.goto (-69), 3) := by decide +kernel
theorem dX5_readBuffer_89 : decode cX5_readBuffer 89 = .ok (.aload_n 0, 1) := by decide +kernel
theorem dX5_readBuffer_90 : decode cX5_readBuffer 90 = .ok (.getfield 176, 3) := by decide +kernel
theorem dX5_readBuffer_93 : decode cX5_readBuffer 93 = .ok (.ireturn, 1) := by decide +kernel
theorem dX5_firstError_0 : decode cX5_firstError 0 = .ok (.aload_n 0, 1) := by decide +kernel
theorem dX5_firstError_1 : decode cX5_firstError 1 = .ok (.iconst 0, 1) := by decide +kernel
theorem dX5_firstError_2 : decode cX5_firstError 2 = .ok (.putfield 50, 3) := by decide +kernel
theorem dX5_firstError_5 : decode cX5_firstError 5 = .ok (.aload_n 0, 1) := by decide +kernel
theorem dX5_firstError_6 : decode cX5_firstError 6 = .ok (.invokevirtual 195, 3) := by decide +kernel
theorem dX5_firstError_9 : decode cX5_firstError 9 = .ok (.istore_n 1, 1) := by decide +kernel
theorem dX5_firstError_10 : decode cX5_firstError 10 = .ok (.iload_n 1, 1) := by decide +kernel
theorem dX5_firstError_11 : decode cX5_firstError 11 = .ok (.iconst (-1), 1) := by decide +kernel
theorem dX5_firstError_12 : decode cX5_firstError 12 = .ok (.if_icmp .ne 10, 3) := by decide +kernel
theorem dX5_firstError_15 : decode cX5_firstError 15 = .ok (.aload_n 0, 1) := by decide +kernel
theorem dX5_firstError_16 : decode cX5_firstError 16 = .ok (.getfield 170, 3) := by decide +kernel
theorem dX5_firstError_19 : decode cX5_firstError 19 = .ok (.goto 4, 3) := by decide +kernel
theorem dX5_firstError_22 : decode cX5_firstError 22 = .ok (.iload_n 1, 1) := by decide +kernel
theorem dX5_firstError_23 : decode cX5_firstError 23 = .ok (.ireturn, 1) := by decide +kernel
theorem dX5_does_0 : decode cX5_does 0 = .ok (.bipush 24, 2) := by decide +kernel
theorem dX5_does_2 : decode cX5_does 2 = .ok (.aload_n 0, 1) := by decide +kernel
theorem dX5_does_3 : decode cX5_does 3 = .ok (.getfield 47, 3) := by decide +kernel
theorem dX5_does_6 : decode cX5_does 6 = .ok (.iconst 3, 1) := by decide +kernel
theorem dX5_does_7 : decode cX5_does 7 = .ok (.iload_n 1, 1) := by decide +kernel
theorem dX5_does_8 : decode cX5_does 8 = .ok (.imul, 1) := by decide +kernel
theorem dX5_does_9 : decode cX5_does 9 = .ok (.iconst 1, 1) := by decide +kernel
theorem dX5_does_10 : decode cX5_does 10 = .ok (.iadd, 1) := by decide +kernel
theorem dX5_does_11 : decode cX5_does 11 = .ok (.iaload, 1) := by decide +kernel
theorem dX5_does_12 : decode cX5_does 12 = .ok (.imul, 1) := by decide +kernel
theorem dX5_does_13 : decode cX5_does 13 = .ok (.aload_n 0, 1) := by decide +kernel
theorem dX5_does_14 : decode cX5_does 14 = .ok (.getfield 47, 3) := by decide +kernel
theorem dX5_does_17 : decode cX5_does 17 = .ok (.iconst 3, 1) := by decide +kernel
theorem dX5_does_18 : decode cX5_does 18 = .ok (.iload_n 1, 1) := by decide +kernel
theorem dX5_does_19 : decode cX5_does 19 = .ok (.imul, 1) := by decide +kernel
theorem dX5_does_20 : decode cX5_does 20 = .ok (.iconst 2, 1) := by decide +kernel
theorem dX5_does_21 : decode cX5_does 21 = .ok (.iadd, 1) := by decide +kernel
theorem dX5_does_22 : decode cX5_does 22 = .ok (.iaload, 1) := by decide +kernel
theorem dX5_does_23 : decode cX5_does 23 = .ok (.iadd, 1) := by decide +kernel
theorem dX5_does_24 : decode cX5_does 24 = .ok (.istore_n 2, 1) := by decide +kernel
theorem dX5_does_25 : decode cX5_does 25 = .ok (.aload_n 0, 1) := by decide +kernel
theorem dX5_does_26 : decode cX5_does 26 = .ok (.getfield 47, 3) := by decide +kernel
theorem dX5_does_29 : decode cX5_does 29 = .ok (.iconst 3, 1) := by decide +kernel
theorem dX5_does_30 : decode cX5_does 30 = .ok (.iload_n 1, 1) := by decide +kernel
theorem dX5_does_31 : decode cX5_does 31 = .ok (.imul, 1) := by decide +kernel
theorem dX5_does_32 : decode cX5_does 32 = .ok (.iaload, 1) := by decide +kernel
theorem dX5_does_33 : decode cX5_does 33 = .ok (.iconst 1, 1) := by decide +kernel
theorem dX5_does_34 : decode cX5_does 34 = .ok (.if_icmp .ne 7, 3) := by decide +kernel
theorem dX5_does_37 : decode cX5_does 37 = .ok (.iconst 1, 1) := by decide +kernel
theorem dX5_does_38 : decode cX5_does 38 = .ok (.goto 4, 3) := by decide +kernel
theorem dX5_does_41 : decode cX5_does 41 = .ok (.iconst 0, 1) := by decide +kernel
theorem dX5_does_42 : decode cX5_does 42 = .ok (.istore_n 3, 1) := by decide +kernel
theorem dX5_does_43 : decode cX5_does 43 = .ok (.iload_n 3, 1) := by decide +kernel
theorem dX5_does_44 : decode cX5_does 44 = .ok (.ifCond .eq 20, 3) := by decide +kernel
theorem dX5_does_47 : decode cX5_does 47 = .ok (.aload_n 0, 1) := by decide +kernel
theorem dX5_does_48 : decode cX5_does 48 = .ok (.iload_n 2, 1) := by decide +kernel
theorem dX5_does_49 : decode cX5_does 49 = .ok (.invokevirtual 143, 3) := by decide +kernel
theorem dX5_does_52 : decode cX5_does 52 = .ok (.iconst (-1), 1) := by decide +kernel
theorem dX5_does_53 : decode cX5_does 53 = .ok (.if_icmp .eq 7, 3) := by decide +kernel
theorem dX5_does_56 : decode cX5_does 56 = .ok (.iconst 1, 1) := by decide +kernel
theorem dX5_does_57 : decode cX5_does 57 = .ok (.goto 12, 3) := by decide +kernel
theorem dX5_does_60 : decode cX5_does 60 = .ok (.iconst 0, 1) := by decide +kernel
theorem dX5_does_61 : decode cX5_does 61 = .ok (.goto 8, 3) := by decide +kernel
theorem dX5_does_64 : decode cX5_does 64 = .ok (.aload_n 0, 1) := by decide +kernel
theorem dX5_does_65 : decode cX5_does 65 = .ok (.iload_n 2, 1) := by decide +kernel
theorem dX5_does_66 : decode cX5_does 66 = .ok (.invokevirtual 146, 3) := by decide +kernel
theorem dX5_does_69 : decode cX5_does 69 = .ok (.istore 4, 2) := by decide +kernel
theorem dX5_does_71 : decode cX5_does 71 = .ok (.iload 4, 2) := by decide +kernel
theorem dX5_does_73 : decode cX5_does 73 = .ok (.ifCond .eq 15, 3) := by decide +kernel
theorem dX5_does_76 : decode cX5_does 76 = .ok (.iload_n 3, 1) := by decide +kernel
theorem dX5_does_77 : decode cX5_does 77 = .ok (.ifCond .eq 11, 3) := by decide +kernel
theorem dX5_does_80 : decode cX5_does 80 = .ok (.aload_n 0, 1) := by decide +kernel
theorem dX5_does_81 : decode cX5_does 81 = .ok (.iload_n 2, 1) := by decide +kernel
theorem dX5_does_82 : decode cX5_does 82 = .ok (.invokevirtual 155, 3) := by decide +kernel
theorem dX5_does_85 : decode cX5_does 85 = .ok (.goto 13, 3) := by decide +kernel
theorem dX5_does_88 : decode cX5_does 88 = .ok (.iload 4, 2) := by decide +kernel
theorem dX5_does_90 : decode cX5_does 90 = .ok (.ifCond .eq 8, 3) := by decide +kernel
theorem dX5_does_93 : decode cX5_does 93 = .ok (.aload_n 0, 1) := by decide +kernel
theorem dX5_does_94 : decode cX5_does 94 = .ok (.iload_n 2, 1) := by decide +kernel
theorem dX5_does_95 : decode cX5_does 95 = .ok (.invokevirtual 149, 3) := by decide +kernel
theorem dX5_does_98 : decode cX5_does 98 = .ok (.iload 4, 2) := by decide +kernel
theorem dX5_does_100 : decode cX5_does 100 = .ok (.ireturn, 1) := by decide +kernel
theorem dX5_read_0 : decode cX5_read 0 = .ok (.aload_n 0, 1) := by decide +kernel
theorem dX5_read_1 : decode cX5_read 1 = .ok (.aload_n 0, 1) := by decide +kernel
theorem dX5_read_2 : decode cX5_read 2 = .ok (.invokevirtual 195, 3) := by decide +kernel
theorem dX5_read_5 : decode cX5_read 5 = .ok (.iconst (-1), 1) := by decide +kernel
theorem dX5_read_6 : decode cX5_read 6 = .ok (.if_icmp .ne 7, 3) := by decide +kernel
theorem dX5_read_9 : decode cX5_read 9 = .ok (.iconst 0, 1) := by decide +kernel
theorem dX5_read_10 : decode cX5_read 10 = .ok (.goto 4, 3) := by decide +kernel
theorem dX5_read_13 : decode cX5_read 13 = .ok (.iconst 1, 1) := by decide +kernel
theorem dX5_read_14 : decode cX5_read 14 = .ok (.putfield 50, 3) := by decide +kernel
theorem dX5_read_17 : decode cX5_read 17 = .ok (.aload_n 0, 1) := by decide +kernel
theorem dX5_read_18 : decode cX5_read 18 = .ok (.getfield 50, 3) := by decide +kernel
theorem dX5_read_21 : decode cX5_read 21 = .ok (.ifCond .le 5, 3) := by decide +kernel
theorem dX5_read_24 : decode cX5_read 24 = .ok (.iconst 0, 1) := by decide +kernel
theorem dX5_read_25 : decode cX5_read 25 = .ok (.ireturn, 1) := by decide +kernel
theorem dX5_read_26 : decode cX5_read 26 = .ok (.aload_n 0, 1) := by decide +kernel
theorem dX5_read_27 : decode cX5_read 27 = .ok (.invokevirtual 133, 3) := by decide +kernel
theorem dX5_read_30 : decode cX5_read 30 = .ok (.iconst 0, 1) := by decide +kernel
theorem dX5_read_31 : decode cX5_read 31 = .ok (.istore_n 1, 1) := by decide +kernel
theorem dX5_read_32 : decode cX5_read 32 = .ok (.iload_n 1, 1) := by decide +kernel
theorem dX5_read_33 : decode cX5_read 33 = .ok (.aload_n 0, 1) := by decide +kernel
theorem dX5_read_34 : decode cX5_read 34 = .ok (.getfield 186, 3) := by decide +kernel
theorem dX5_read_37 : decode cX5_read 37 = .ok (.if_icmp .ge 17, 3) := by decide +kernel
theorem dX5_read_40 : decode cX5_read 40 = .ok (.aload_n 0, 1) := by decide +kernel
theorem dX5_read_41 : decode cX5_read 41 = .ok (.iload_n 1, 1) := by decide +kernel
theorem dX5_read_42 : decode cX5_read 42 = .ok (.invokevirtual 198, 3) := by decide +kernel
theorem dX5_read_45 : decode cX5_read 45 = .ok (.ifCond .eq 9, 3) := by decide +kernel
theorem dX5_read_48 : decode cX5_read 48 = .ok (.iinc 1 1, 3) := by decide +kernel
theorem dX5_read_51 : decode cX5_read 51 = .ok (.goto (-19), 3) := by decide +kernel
theorem dX5_read_54 : decode cX5_read 54 = .ok (.aload_n 0, 1) := by decide +kernel
theorem dX5_read_55 : decode cX5_read 55 = .ok (.iconst 0, 1) := by decide +kernel
theorem dX5_read_56 : decode cX5_read 56 = .ok (.putfield 170, 3) := by decide +kernel
theorem dX5_read_59 : decode cX5_read 59 = .ok (.iload_n 1, 1) := by decide +kernel
theorem dX5_read_60 : decode cX5_read 60 = .ok (.ireturn, 1) := by decide +kernel
theorem dX5_toldCell_0 : decode cX5_toldCell 0 = .ok (.iload_n 2, 1) := by decide +kernel
theorem dX5_toldCell_1 : decode cX5_toldCell 1 = .ok (.iconst 2, 1) := by decide +kernel
theorem dX5_toldCell_2 : decode cX5_toldCell 2 = .ok (.irem, 1) := by decide +kernel
theorem dX5_toldCell_3 : decode cX5_toldCell 3 = .ok (.iconst 1, 1) := by decide +kernel
theorem dX5_toldCell_4 : decode cX5_toldCell 4 = .ok (.if_icmp .ne 22, 3) := by decide +kernel
theorem dX5_toldCell_7 : decode cX5_toldCell 7 = .ok (.iload_n 2, 1) := by decide +kernel
theorem dX5_toldCell_8 : decode cX5_toldCell 8 = .ok (.iconst 1, 1) := by decide +kernel
theorem dX5_toldCell_9 : decode cX5_toldCell 9 = .ok (.if_icmp .ne 11, 3) := by decide +kernel
theorem dX5_toldCell_12 : decode cX5_toldCell 12 = .ok (.aload_n 0, 1) := by decide +kernel
theorem dX5_toldCell_13 : decode cX5_toldCell 13 = .ok (.iload_n 1, 1) := by decide +kernel
theorem dX5_toldCell_14 : decode cX5_toldCell 14 = .ok (.invokevirtual 108, 3) := by decide +kernel
theorem dX5_toldCell_17 : decode cX5_toldCell 17 = .ok (.goto 8, 3) := by decide +kernel
theorem dX5_toldCell_20 : decode cX5_toldCell 20 = .ok (.aload_n 0, 1) := by decide +kernel
theorem dX5_toldCell_21 : decode cX5_toldCell 21 = .ok (.iload_n 1, 1) := by decide +kernel
theorem dX5_toldCell_22 : decode cX5_toldCell 22 = .ok (.invokevirtual 143, 3) := by decide +kernel
theorem dX5_toldCell_25 : decode cX5_toldCell 25 = .ok (.ireturn, 1) := by decide +kernel
theorem dX5_toldCell_26 : decode cX5_toldCell 26 = .ok (.aload_n 0, 1) := by decide +kernel
theorem dX5_toldCell_27 : decode cX5_toldCell 27 = .ok (.invokevirtual 130, 3) := by decide +kernel
theorem dX5_toldCell_30 : decode cX5_toldCell 30 = .ok (.iload_n 2, 1) := by decide +kernel
theorem dX5_toldCell_31 : decode cX5_toldCell 31 = .ok (.iconst 2, 1) := by decide +kernel
theorem dX5_toldCell_32 : decode cX5_toldCell 32 = .ok (.if_icmp .ne 12, 3) := by decide +kernel
theorem dX5_toldCell_35 : decode cX5_toldCell 35 = .ok (.aload_n 0, 1) := by decide +kernel
theorem dX5_toldCell_36 : decode cX5_toldCell 36 = .ok (.getfield 40, 3) := by decide +kernel
theorem dX5_toldCell_39 : decode cX5_toldCell 39 = .ok (.iload_n 1, 1) := by decide +kernel
theorem dX5_toldCell_40 : decode cX5_toldCell 40 = .ok (.iaload, 1) := by decide +kernel
theorem dX5_toldCell_41 : decode cX5_toldCell 41 = .ok (.goto 30, 3) := by decide +kernel
theorem dX5_toldCell_44 : decode cX5_toldCell 44 = .ok (.aload_n 0, 1) := by decide +kernel
theorem dX5_toldCell_45 : decode cX5_toldCell 45 = .ok (.getfield 43, 3) := by decide +kernel
theorem dX5_toldCell_48 : decode cX5_toldCell 48 = .ok (.iload_n 1, 1) := by decide +kernel
theorem dX5_toldCell_49 : decode cX5_toldCell 49 = .ok (.baload, 1) := by decide +kernel
theorem dX5_toldCell_50 : decode cX5_toldCell 50 = .ok (.ifCond .eq 7, 3) := by decide +kernel
theorem dX5_toldCell_53 : decode cX5_toldCell 53 = .ok (.iconst 2, 1) := by decide +kernel
theorem dX5_toldCell_54 : decode cX5_toldCell 54 = .ok (.goto 17, 3) := by decide +kernel
theorem dX5_toldCell_57 : decode cX5_toldCell 57 = .ok (.aload_n 0, 1) := by decide +kernel
theorem dX5_toldCell_58 : decode cX5_toldCell 58 = .ok (.getfield 40, 3) := by decide +kernel
theorem dX5_toldCell_61 : decode cX5_toldCell 61 = .ok (.iload_n 1, 1) := by decide +kernel
theorem dX5_toldCell_62 : decode cX5_toldCell 62 = .ok (.iaload, 1) := by decide +kernel
theorem dX5_toldCell_63 : decode cX5_toldCell 63 = .ok (.ifCond .le 7, 3) := by decide +kernel
theorem dX5_toldCell_66 : decode cX5_toldCell 66 = .ok (.iconst 1, 1) := by decide +kernel
theorem dX5_toldCell_67 : decode cX5_toldCell 67 = .ok (.goto 4, 3) := by decide +kernel
theorem dX5_toldCell_70 : decode cX5_toldCell 70 = .ok (.iconst 0, 1) := by decide +kernel
theorem dX5_toldCell_71 : decode cX5_toldCell 71 = .ok (.ireturn, 1) := by decide +kernel
theorem dX5_cell_0 : decode cX5_cell 0 = .ok (.aload_n 0, 1) := by decide +kernel
theorem dX5_cell_1 : decode cX5_cell 1 = .ok (.iload_n 1, 1) := by decide +kernel
theorem dX5_cell_2 : decode cX5_cell 2 = .ok (.iload_n 2, 1) := by decide +kernel
theorem dX5_cell_3 : decode cX5_cell 3 = .ok (.invokestatic 94, 3) := by decide +kernel
theorem dX5_cell_6 : decode cX5_cell 6 = .ok (.ifCond .eq 16, 3) := by decide +kernel
theorem dX5_cell_9 : decode cX5_cell 9 = .ok (.iload_n 3, 1) := by decide +kernel
theorem dX5_cell_10 : decode cX5_cell 10 = .ok (.iconst 0, 1) := by decide +kernel
theorem dX5_cell_11 : decode cX5_cell 11 = .ok (.iconst 3, 1) := by decide +kernel
theorem dX5_cell_12 : decode cX5_cell 12 = .ok (.invokestatic 54, 3) := by decide +kernel
theorem dX5_cell_15 : decode cX5_cell 15 = .ok (.ifCond .eq 7, 3) := by decide +kernel
theorem dX5_cell_18 : decode cX5_cell 18 = .ok (.iconst 0, 1) := by decide +kernel
theorem dX5_cell_19 : decode cX5_cell 19 = .ok (.goto 4, 3) := by decide +kernel
theorem dX5_cell_22 : decode cX5_cell 22 = .ok (.iconst 1, 1) := by decide +kernel
theorem dX5_cell_23 : decode cX5_cell 23 = .ok (.putfield 50, 3) := by decide +kernel
theorem dX5_cell_26 : decode cX5_cell 26 = .ok (.aload_n 0, 1) := by decide +kernel
theorem dX5_cell_27 : decode cX5_cell 27 = .ok (.getfield 50, 3) := by decide +kernel
theorem dX5_cell_30 : decode cX5_cell 30 = .ok (.ifCond .le 7, 3) := by decide +kernel
theorem dX5_cell_33 : decode cX5_cell 33 = .ok (.iconst 0, 1) := by decide +kernel
theorem dX5_cell_34 : decode cX5_cell 34 = .ok (.goto 14, 3) := by decide +kernel
theorem dX5_cell_37 : decode cX5_cell 37 = .ok (.aload_n 0, 1) := by decide +kernel
theorem dX5_cell_38 : decode cX5_cell 38 = .ok (.bipush 24, 2) := by decide +kernel
theorem dX5_cell_40 : decode cX5_cell 40 = .ok (.iload_n 1, 1) := by decide +kernel
theorem dX5_cell_41 : decode cX5_cell 41 = .ok (.imul, 1) := by decide +kernel
theorem dX5_cell_42 : decode cX5_cell 42 = .ok (.iload_n 2, 1) := by decide +kernel
theorem dX5_cell_43 : decode cX5_cell 43 = .ok (.iadd, 1) := by decide +kernel
theorem dX5_cell_44 : decode cX5_cell 44 = .ok (.iload_n 3, 1) := by decide +kernel
theorem dX5_cell_45 : decode cX5_cell 45 = .ok (.invokevirtual 201, 3) := by decide +kernel
theorem dX5_cell_48 : decode cX5_cell 48 = .ok (.ireturn, 1) := by decide +kernel
theorem dX5_toldBlock_0 : decode cX5_toldBlock 0 = .ok (.iload_n 2, 1) := by decide +kernel
theorem dX5_toldBlock_1 : decode cX5_toldBlock 1 = .ok (.tableswitch 60 0 2 #[27, 37, 43], 27) := by decide +kernel
theorem dX5_toldBlock_28 : decode cX5_toldBlock 28 = .ok (.aload_n 0, 1) := by decide +kernel
theorem dX5_toldBlock_29 : decode cX5_toldBlock 29 = .ok (.getfield 7, 3) := by decide +kernel
theorem dX5_toldBlock_32 : decode cX5_toldBlock 32 = .ok (.bipush 18, 2) := by decide +kernel
theorem dX5_toldBlock_34 : decode cX5_toldBlock 34 = .ok (.iload_n 1, 1) := by decide +kernel
theorem dX5_toldBlock_35 : decode cX5_toldBlock 35 = .ok (.iadd, 1) := by decide +kernel
theorem dX5_toldBlock_36 : decode cX5_toldBlock 36 = .ok (.iaload, 1) := by decide +kernel
theorem dX5_toldBlock_37 : decode cX5_toldBlock 37 = .ok (.ireturn, 1) := by decide +kernel
theorem dX5_toldBlock_38 : decode cX5_toldBlock 38 = .ok (.aload_n 0, 1) := by decide +kernel
theorem dX5_toldBlock_39 : decode cX5_toldBlock 39 = .ok (.iload_n 1, 1) := by decide +kernel
theorem dX5_toldBlock_40 : decode cX5_toldBlock 40 = .ok (.invokevirtual 111, 3) := by decide +kernel
theorem dX5_toldBlock_43 : decode cX5_toldBlock 43 = .ok (.ireturn, 1) := by decide +kernel
theorem dX5_toldBlock_44 : decode cX5_toldBlock 44 = .ok (.aload_n 0, 1) := by decide +kernel
theorem dX5_toldBlock_45 : decode cX5_toldBlock 45 = .ok (.iload_n 1, 1) := by decide +kernel
theorem dX5_toldBlock_46 : decode cX5_toldBlock 46 = .ok (.invokevirtual 111, 3) := by decide +kernel
theorem dX5_toldBlock_49 : decode cX5_toldBlock 49 = .ok (.sipush 480, 3) := by decide +kernel
theorem dX5_toldBlock_52 : decode cX5_toldBlock 52 = .ok (.if_icmp .lt 7, 3) := by decide +kernel
theorem dX5_toldBlock_55 : decode cX5_toldBlock 55 = .ok (.iconst 1, 1) := by decide +kernel
theorem dX5_toldBlock_56 : decode cX5_toldBlock 56 = .ok (.goto 4, 3) := by decide +kernel
theorem dX5_toldBlock_59 : decode cX5_toldBlock 59 = .ok (.iconst 0, 1) := by decide +kernel
theorem dX5_toldBlock_60 : decode cX5_toldBlock 60 = .ok (.ireturn, 1) := by decide +kernel
theorem dX5_toldBlock_61 : decode cX5_toldBlock 61 = .ok (.aload_n 0, 1) := by decide +kernel
theorem dX5_toldBlock_62 : decode cX5_toldBlock 62 = .ok (.invokevirtual 130, 3) := by decide +kernel
theorem dX5_toldBlock_65 : decode cX5_toldBlock 65 = .ok (.aload_n 0, 1) := by decide +kernel
theorem dX5_toldBlock_66 : decode cX5_toldBlock 66 = .ok (.iload_n 1, 1) := by decide +kernel
theorem dX5_toldBlock_67 : decode cX5_toldBlock 67 = .ok (.invokevirtual 118, 3) := by decide +kernel
theorem dX5_toldBlock_70 : decode cX5_toldBlock 70 = .ok (.ireturn, 1) := by decide +kernel
theorem dX5_block_0 : decode cX5_block 0 = .ok (.aload_n 0, 1) := by decide +kernel
theorem dX5_block_1 : decode cX5_block 1 = .ok (.iload_n 1, 1) := by decide +kernel
theorem dX5_block_2 : decode cX5_block 2 = .ok (.invokestatic 124, 3) := by decide +kernel
theorem dX5_block_5 : decode cX5_block 5 = .ok (.ifCond .ne 7, 3) := by decide +kernel
theorem dX5_block_8 : decode cX5_block 8 = .ok (.iconst 1, 1) := by decide +kernel
theorem dX5_block_9 : decode cX5_block 9 = .ok (.goto 17, 3) := by decide +kernel
theorem dX5_block_12 : decode cX5_block 12 = .ok (.iload_n 2, 1) := by decide +kernel
theorem dX5_block_13 : decode cX5_block 13 = .ok (.iconst 0, 1) := by decide +kernel
theorem dX5_block_14 : decode cX5_block 14 = .ok (.iconst 3, 1) := by decide +kernel
theorem dX5_block_15 : decode cX5_block 15 = .ok (.invokestatic 54, 3) := by decide +kernel
theorem dX5_block_18 : decode cX5_block 18 = .ok (.ifCond .eq 7, 3) := by decide +kernel
theorem dX5_block_21 : decode cX5_block 21 = .ok (.iconst 0, 1) := by decide +kernel
theorem dX5_block_22 : decode cX5_block 22 = .ok (.goto 4, 3) := by decide +kernel
theorem dX5_block_25 : decode cX5_block 25 = .ok (.iconst 2, 1) := by decide +kernel
theorem dX5_block_26 : decode cX5_block 26 = .ok (.putfield 50, 3) := by decide +kernel
theorem dX5_block_29 : decode cX5_block 29 = .ok (.aload_n 0, 1) := by decide +kernel
theorem dX5_block_30 : decode cX5_block 30 = .ok (.getfield 50, 3) := by decide +kernel
theorem dX5_block_33 : decode cX5_block 33 = .ok (.ifCond .le 7, 3) := by decide +kernel
theorem dX5_block_36 : decode cX5_block 36 = .ok (.iconst 0, 1) := by decide +kernel
theorem dX5_block_37 : decode cX5_block 37 = .ok (.goto 9, 3) := by decide +kernel
theorem dX5_block_40 : decode cX5_block 40 = .ok (.aload_n 0, 1) := by decide +kernel
theorem dX5_block_41 : decode cX5_block 41 = .ok (.iload_n 1, 1) := by decide +kernel
theorem dX5_block_42 : decode cX5_block 42 = .ok (.iload_n 2, 1) := by decide +kernel
theorem dX5_block_43 : decode cX5_block 43 = .ok (.invokevirtual 204, 3) := by decide +kernel
theorem dX5_block_46 : decode cX5_block 46 = .ok (.ireturn, 1) := by decide +kernel
theorem dX5_cellsOf_0 : decode cX5_cellsOf 0 = .ok (.iconst 0, 1) := by decide +kernel
theorem dX5_cellsOf_1 : decode cX5_cellsOf 1 = .ok (.istore_n 3, 1) := by decide +kernel
theorem dX5_cellsOf_2 : decode cX5_cellsOf 2 = .ok (.aload_n 0, 1) := by decide +kernel
theorem dX5_cellsOf_3 : decode cX5_cellsOf 3 = .ok (.getfield 31, 3) := by decide +kernel
theorem dX5_cellsOf_6 : decode cX5_cellsOf 6 = .ok (.iload_n 1, 1) := by decide +kernel
theorem dX5_cellsOf_7 : decode cX5_cellsOf 7 = .ok (.iaload, 1) := by decide +kernel
theorem dX5_cellsOf_8 : decode cX5_cellsOf 8 = .ok (.istore 4, 2) := by decide +kernel
theorem dX5_cellsOf_10 : decode cX5_cellsOf 10 = .ok (.iload 4, 2) := by decide +kernel
theorem dX5_cellsOf_12 : decode cX5_cellsOf 12 = .ok (.aload_n 0, 1) := by decide +kernel
theorem dX5_cellsOf_13 : decode cX5_cellsOf 13 = .ok (.getfield 34, 3) := by decide +kernel
theorem dX5_cellsOf_16 : decode cX5_cellsOf 16 = .ok (.iload_n 1, 1) := by decide +kernel
theorem dX5_cellsOf_17 : decode cX5_cellsOf 17 = .ok (.iaload, 1) := by decide +kernel
theorem dX5_cellsOf_18 : decode cX5_cellsOf 18 = .ok (.if_icmp .gt 55, 3) := by decide +kernel
theorem dX5_cellsOf_21 : decode cX5_cellsOf 21 = .ok (.aload_n 0, 1) := by decide +kernel
theorem dX5_cellsOf_22 : decode cX5_cellsOf 22 = .ok (.iload_n 1, 1) := by decide +kernel
theorem dX5_cellsOf_23 : decode cX5_cellsOf 23 = .ok (.iload 4, 2) := by decide +kernel
theorem dX5_cellsOf_25 : decode cX5_cellsOf 25 = .ok (.invokevirtual 101, 3) := by decide +kernel
theorem dX5_cellsOf_28 : decode cX5_cellsOf 28 = .ok (.istore 5, 2) := by decide +kernel
theorem dX5_cellsOf_30 : decode cX5_cellsOf 30 = .ok (.iload_n 3, 1) := by decide +kernel
theorem dX5_cellsOf_31 : decode cX5_cellsOf 31 = .ok (.iload 5, 2) := by decide +kernel
theorem dX5_cellsOf_33 : decode cX5_cellsOf 33 = .ok (.iconst (-1), 1) := by decide +kernel
theorem dX5_cellsOf_34 : decode cX5_cellsOf 34 = .ok (.if_icmp .eq 30, 3) := by decide +kernel
theorem dX5_cellsOf_37 : decode cX5_cellsOf 37 = .ok (.iload_n 2, 1) := by decide +kernel
theorem dX5_cellsOf_38 : decode cX5_cellsOf 38 = .ok (.ifCond .eq 22, 3) := by decide +kernel
theorem dX5_cellsOf_41 : decode cX5_cellsOf 41 = .ok (.aload_n 0, 1) := by decide +kernel
theorem dX5_cellsOf_42 : decode cX5_cellsOf 42 = .ok (.iload 5, 2) := by decide +kernel
theorem dX5_cellsOf_44 : decode cX5_cellsOf 44 = .ok (.invokevirtual 207, 3) := by decide +kernel
theorem dX5_cellsOf_47 : decode cX5_cellsOf 47 = .ok (.ifCond .eq 17, 3) := by decide +kernel
theorem dX5_cellsOf_50 : decode cX5_cellsOf 50 = .ok (.aload_n 0, 1) := by decide +kernel
theorem dX5_cellsOf_51 : decode cX5_cellsOf 51 = .ok (.iload 5, 2) := by decide +kernel
theorem dX5_cellsOf_53 : decode cX5_cellsOf 53 = .ok (.invokevirtual 108, 3) := by decide +kernel
theorem dX5_cellsOf_56 : decode cX5_cellsOf 56 = .ok (.iconst (-1), 1) := by decide +kernel
theorem dX5_cellsOf_57 : decode cX5_cellsOf 57 = .ok (.if_icmp .eq 7, 3) := by decide +kernel
theorem dX5_cellsOf_60 : decode cX5_cellsOf 60 = .ok (.iconst 1, 1) := by decide +kernel
theorem dX5_cellsOf_61 : decode cX5_cellsOf 61 = .ok (.goto 4, 3) := by decide +kernel
theorem dX5_cellsOf_64 : decode cX5_cellsOf 64 = .ok (.iconst 0, 1) := by decide +kernel
theorem dX5_cellsOf_65 : decode cX5_cellsOf 65 = .ok (.iadd, 1) := by decide +kernel
theorem dX5_cellsOf_66 : decode cX5_cellsOf 66 = .ok (.istore_n 3, 1) := by decide +kernel
theorem dX5_cellsOf_67 : decode cX5_cellsOf 67 = .ok (.iinc 4 1, 3) := by decide +kernel
theorem dX5_cellsOf_70 : decode cX5_cellsOf 70 = .ok (.goto (-60), 3) := by decide +kernel
theorem dX5_cellsOf_73 : decode cX5_cellsOf 73 = .ok (.iload_n 3, 1) := by decide +kernel
theorem dX5_cellsOf_74 : decode cX5_cellsOf 74 = .ok (.ireturn, 1) := by decide +kernel
theorem dX5_toldLine_0 : decode cX5_toldLine 0 = .ok (.iload_n 2, 1) := by decide +kernel
theorem dX5_toldLine_1 : decode cX5_toldLine 1 = .ok (.tableswitch 73 0 4 #[35, 42, 52, 59, 66], 35) := by decide +kernel
theorem dX5_toldLine_36 : decode cX5_toldLine 36 = .ok (.aload_n 0, 1) := by decide +kernel
theorem dX5_toldLine_37 : decode cX5_toldLine 37 = .ok (.getfield 22, 3) := by decide +kernel
theorem dX5_toldLine_40 : decode cX5_toldLine 40 = .ok (.iload_n 1, 1) := by decide +kernel
theorem dX5_toldLine_41 : decode cX5_toldLine 41 = .ok (.iaload, 1) := by decide +kernel
theorem dX5_toldLine_42 : decode cX5_toldLine 42 = .ok (.ireturn, 1) := by decide +kernel
theorem dX5_toldLine_43 : decode cX5_toldLine 43 = .ok (.aload_n 0, 1) := by decide +kernel
theorem dX5_toldLine_44 : decode cX5_toldLine 44 = .ok (.getfield 22, 3) := by decide +kernel
theorem dX5_toldLine_47 : decode cX5_toldLine 47 = .ok (.iload_n 1, 1) := by decide +kernel
theorem dX5_toldLine_48 : decode cX5_toldLine 48 = .ok (.iaload, 1) := by decide +kernel
theorem dX5_toldLine_49 : decode cX5_toldLine 49 = .ok (.invokestatic 87, 3) := by decide +kernel
theorem dX5_toldLine_52 : decode cX5_toldLine 52 = .ok (.ireturn, 1) := by decide +kernel
theorem dX5_toldLine_53 : decode cX5_toldLine 53 = .ok (.aload_n 0, 1) := by decide +kernel
theorem dX5_toldLine_54 : decode cX5_toldLine 54 = .ok (.iload_n 1, 1) := by decide +kernel
theorem dX5_toldLine_55 : decode cX5_toldLine 55 = .ok (.iconst 0, 1) := by decide +kernel
theorem dX5_toldLine_56 : decode cX5_toldLine 56 = .ok (.invokevirtual 210, 3) := by decide +kernel
theorem dX5_toldLine_59 : decode cX5_toldLine 59 = .ok (.ireturn, 1) := by decide +kernel
theorem dX5_toldLine_60 : decode cX5_toldLine 60 = .ok (.aload_n 0, 1) := by decide +kernel
theorem dX5_toldLine_61 : decode cX5_toldLine 61 = .ok (.iload_n 1, 1) := by decide +kernel
theorem dX5_toldLine_62 : decode cX5_toldLine 62 = .ok (.iconst 1, 1) := by decide +kernel
theorem dX5_toldLine_63 : decode cX5_toldLine 63 = .ok (.invokevirtual 210, 3) := by decide +kernel
theorem dX5_toldLine_66 : decode cX5_toldLine 66 = .ok (.ireturn, 1) := by decide +kernel
theorem dX5_toldLine_67 : decode cX5_toldLine 67 = .ok (.aload_n 0, 1) := by decide +kernel
theorem dX5_toldLine_68 : decode cX5_toldLine 68 = .ok (.getfield 25, 3) := by decide +kernel
theorem dX5_toldLine_71 : decode cX5_toldLine 71 = .ok (.iload_n 1, 1) := by decide +kernel
theorem dX5_toldLine_72 : decode cX5_toldLine 72 = .ok (.iaload, 1) := by decide +kernel
theorem dX5_toldLine_73 : decode cX5_toldLine 73 = .ok (.ireturn, 1) := by decide +kernel
theorem dX5_toldLine_74 : decode cX5_toldLine 74 = .ok (.aload_n 0, 1) := by decide +kernel
theorem dX5_toldLine_75 : decode cX5_toldLine 75 = .ok (.getfield 28, 3) := by decide +kernel
theorem dX5_toldLine_78 : decode cX5_toldLine 78 = .ok (.iload_n 1, 1) := by decide +kernel
theorem dX5_toldLine_79 : decode cX5_toldLine 79 = .ok (.iaload, 1) := by decide +kernel
theorem dX5_toldLine_80 : decode cX5_toldLine 80 = .ok (.bipush 24, 2) := by decide +kernel
theorem dX5_toldLine_82 : decode cX5_toldLine 82 = .ok (.iadd, 1) := by decide +kernel
theorem dX5_toldLine_83 : decode cX5_toldLine 83 = .ok (.ireturn, 1) := by decide +kernel
theorem dX5_line_0 : decode cX5_line 0 = .ok (.aload_n 0, 1) := by decide +kernel
theorem dX5_line_1 : decode cX5_line 1 = .ok (.invokevirtual 130, 3) := by decide +kernel
theorem dX5_line_4 : decode cX5_line 4 = .ok (.aload_n 0, 1) := by decide +kernel
theorem dX5_line_5 : decode cX5_line 5 = .ok (.iload_n 1, 1) := by decide +kernel
theorem dX5_line_6 : decode cX5_line 6 = .ok (.iconst 0, 1) := by decide +kernel
theorem dX5_line_7 : decode cX5_line 7 = .ok (.aload_n 0, 1) := by decide +kernel
theorem dX5_line_8 : decode cX5_line 8 = .ok (.getfield 72, 3) := by decide +kernel
theorem dX5_line_11 : decode cX5_line 11 = .ok (.iconst 1, 1) := by decide +kernel
theorem dX5_line_12 : decode cX5_line 12 = .ok (.isub, 1) := by decide +kernel
theorem dX5_line_13 : decode cX5_line 13 = .ok (.invokestatic 54, 3) := by decide +kernel
theorem dX5_line_16 : decode cX5_line 16 = .ok (.ifCond .ne 7, 3) := by decide +kernel
theorem dX5_line_19 : decode cX5_line 19 = .ok (.iconst 1, 1) := by decide +kernel
theorem dX5_line_20 : decode cX5_line 20 = .ok (.goto 17, 3) := by decide +kernel
theorem dX5_line_23 : decode cX5_line 23 = .ok (.iload_n 2, 1) := by decide +kernel
theorem dX5_line_24 : decode cX5_line 24 = .ok (.iconst 0, 1) := by decide +kernel
theorem dX5_line_25 : decode cX5_line 25 = .ok (.iconst 5, 1) := by decide +kernel
theorem dX5_line_26 : decode cX5_line 26 = .ok (.invokestatic 54, 3) := by decide +kernel
theorem dX5_line_29 : decode cX5_line 29 = .ok (.ifCond .eq 7, 3) := by decide +kernel
theorem dX5_line_32 : decode cX5_line 32 = .ok (.iconst 0, 1) := by decide +kernel
theorem dX5_line_33 : decode cX5_line 33 = .ok (.goto 4, 3) := by decide +kernel
theorem dX5_line_36 : decode cX5_line 36 = .ok (.iconst 2, 1) := by decide +kernel
theorem dX5_line_37 : decode cX5_line 37 = .ok (.putfield 50, 3) := by decide +kernel
theorem dX5_line_40 : decode cX5_line 40 = .ok (.aload_n 0, 1) := by decide +kernel
theorem dX5_line_41 : decode cX5_line 41 = .ok (.getfield 50, 3) := by decide +kernel
theorem dX5_line_44 : decode cX5_line 44 = .ok (.ifCond .le 7, 3) := by decide +kernel
theorem dX5_line_47 : decode cX5_line 47 = .ok (.iconst 0, 1) := by decide +kernel
theorem dX5_line_48 : decode cX5_line 48 = .ok (.goto 9, 3) := by decide +kernel
theorem dX5_line_51 : decode cX5_line 51 = .ok (.aload_n 0, 1) := by decide +kernel
theorem dX5_line_52 : decode cX5_line 52 = .ok (.iload_n 1, 1) := by decide +kernel
theorem dX5_line_53 : decode cX5_line 53 = .ok (.iload_n 2, 1) := by decide +kernel
theorem dX5_line_54 : decode cX5_line 54 = .ok (.invokevirtual 214, 3) := by decide +kernel
theorem dX5_line_57 : decode cX5_line 57 = .ok (.ireturn, 1) := by decide +kernel
theorem dX5_avoidedMany_0 : decode cX5_avoidedMany 0 = .ok (.iconst 0, 1) := by decide +kernel
theorem dX5_avoidedMany_1 : decode cX5_avoidedMany 1 = .ok (.istore_n 1, 1) := by decide +kernel
theorem dX5_avoidedMany_2 : decode cX5_avoidedMany 2 = .ok (.iconst 0, 1) := by decide +kernel
theorem dX5_avoidedMany_3 : decode cX5_avoidedMany 3 = .ok (.istore_n 2, 1) := by decide +kernel
theorem dX5_avoidedMany_4 : decode cX5_avoidedMany 4 = .ok (.iload_n 2, 1) := by decide +kernel
theorem dX5_avoidedMany_5 : decode cX5_avoidedMany 5 = .ok (.sipush 576, 3) := by decide +kernel
theorem dX5_avoidedMany_8 : decode cX5_avoidedMany 8 = .ok (.if_icmp .ge 25, 3) := by decide +kernel
theorem dX5_avoidedMany_11 : decode cX5_avoidedMany 11 = .ok (.iload_n 1, 1) := by decide +kernel
theorem dX5_avoidedMany_12 : decode cX5_avoidedMany 12 = .ok (.aload_n 0, 1) := by decide +kernel
theorem dX5_avoidedMany_13 : decode cX5_avoidedMany 13 = .ok (.iload_n 2, 1) := by decide +kernel
theorem dX5_avoidedMany_14 : decode cX5_avoidedMany 14 = .ok (.invokevirtual 207, 3) := by decide +kernel
theorem dX5_avoidedMany_17 : decode cX5_avoidedMany 17 = .ok (.ifCond .eq 7, 3) := by decide +kernel
theorem dX5_avoidedMany_20 : decode cX5_avoidedMany 20 = .ok (.iconst 1, 1) := by decide +kernel
theorem dX5_avoidedMany_21 : decode cX5_avoidedMany 21 = .ok (.goto 4, 3) := by decide +kernel
theorem dX5_avoidedMany_24 : decode cX5_avoidedMany 24 = .ok (.iconst 0, 1) := by decide +kernel
theorem dX5_avoidedMany_25 : decode cX5_avoidedMany 25 = .ok (.iadd, 1) := by decide +kernel
theorem dX5_avoidedMany_26 : decode cX5_avoidedMany 26 = .ok (.istore_n 1, 1) := by decide +kernel
theorem dX5_avoidedMany_27 : decode cX5_avoidedMany 27 = .ok (.iinc 2 1, 3) := by decide +kernel
theorem dX5_avoidedMany_30 : decode cX5_avoidedMany 30 = .ok (.goto (-26), 3) := by decide +kernel
theorem dX5_avoidedMany_33 : decode cX5_avoidedMany 33 = .ok (.iload_n 1, 1) := by decide +kernel
theorem dX5_avoidedMany_34 : decode cX5_avoidedMany 34 = .ok (.ireturn, 1) := by decide +kernel
theorem dX5_blocks_0 : decode cX5_blocks 0 = .ok (.iconst 0, 1) := by decide +kernel
theorem dX5_blocks_1 : decode cX5_blocks 1 = .ok (.istore_n 2, 1) := by decide +kernel
theorem dX5_blocks_2 : decode cX5_blocks 2 = .ok (.iconst 0, 1) := by decide +kernel
theorem dX5_blocks_3 : decode cX5_blocks 3 = .ok (.istore_n 3, 1) := by decide +kernel
theorem dX5_blocks_4 : decode cX5_blocks 4 = .ok (.iload_n 3, 1) := by decide +kernel
theorem dX5_blocks_5 : decode cX5_blocks 5 = .ok (.sipush 480, 3) := by decide +kernel
theorem dX5_blocks_8 : decode cX5_blocks 8 = .ok (.if_icmp .ge 61, 3) := by decide +kernel
theorem dX5_blocks_11 : decode cX5_blocks 11 = .ok (.aload_n 0, 1) := by decide +kernel
theorem dX5_blocks_12 : decode cX5_blocks 12 = .ok (.iload_n 3, 1) := by decide +kernel
theorem dX5_blocks_13 : decode cX5_blocks 13 = .ok (.invokevirtual 111, 3) := by decide +kernel
theorem dX5_blocks_16 : decode cX5_blocks 16 = .ok (.istore 4, 2) := by decide +kernel
theorem dX5_blocks_18 : decode cX5_blocks 18 = .ok (.iload_n 2, 1) := by decide +kernel
theorem dX5_blocks_19 : decode cX5_blocks 19 = .ok (.iload 4, 2) := by decide +kernel
theorem dX5_blocks_21 : decode cX5_blocks 21 = .ok (.iconst (-1), 1) := by decide +kernel
theorem dX5_blocks_22 : decode cX5_blocks 22 = .ok (.if_icmp .eq 38, 3) := by decide +kernel
theorem dX5_blocks_25 : decode cX5_blocks 25 = .ok (.iload_n 1, 1) := by decide +kernel
theorem dX5_blocks_26 : decode cX5_blocks 26 = .ok (.ifCond .eq 30, 3) := by decide +kernel
theorem dX5_blocks_29 : decode cX5_blocks 29 = .ok (.iload_n 1, 1) := by decide +kernel
theorem dX5_blocks_30 : decode cX5_blocks 30 = .ok (.iconst 1, 1) := by decide +kernel
theorem dX5_blocks_31 : decode cX5_blocks 31 = .ok (.if_icmp .ne 11, 3) := by decide +kernel
theorem dX5_blocks_34 : decode cX5_blocks 34 = .ok (.iload 4, 2) := by decide +kernel
theorem dX5_blocks_36 : decode cX5_blocks 36 = .ok (.sipush 480, 3) := by decide +kernel
theorem dX5_blocks_39 : decode cX5_blocks 39 = .ok (.if_icmp .ge 17, 3) := by decide +kernel
theorem dX5_blocks_42 : decode cX5_blocks 42 = .ok (.iload_n 1, 1) := by decide +kernel
theorem dX5_blocks_43 : decode cX5_blocks 43 = .ok (.iconst 2, 1) := by decide +kernel
theorem dX5_blocks_44 : decode cX5_blocks 44 = .ok (.if_icmp .ne 16, 3) := by decide +kernel
theorem dX5_blocks_47 : decode cX5_blocks 47 = .ok (.aload_n 0, 1) := by decide +kernel
theorem dX5_blocks_48 : decode cX5_blocks 48 = .ok (.iload 4, 2) := by decide +kernel
theorem dX5_blocks_50 : decode cX5_blocks 50 = .ok (.invokevirtual 104, 3) := by decide +kernel
theorem dX5_blocks_53 : decode cX5_blocks 53 = .ok (.ifCond .ne 7, 3) := by decide +kernel
theorem dX5_blocks_56 : decode cX5_blocks 56 = .ok (.iconst 1, 1) := by decide +kernel
theorem dX5_blocks_57 : decode cX5_blocks 57 = .ok (.goto 4, 3) := by decide +kernel
theorem dX5_blocks_60 : decode cX5_blocks 60 = .ok (.iconst 0, 1) := by decide +kernel
theorem dX5_blocks_61 : decode cX5_blocks 61 = .ok (.iadd, 1) := by decide +kernel
theorem dX5_blocks_62 : decode cX5_blocks 62 = .ok (.istore_n 2, 1) := by decide +kernel
theorem dX5_blocks_63 : decode cX5_blocks 63 = .ok (.iinc 3 1, 3) := by decide +kernel
theorem dX5_blocks_66 : decode cX5_blocks 66 = .ok (.goto (-62), 3) := by decide +kernel
theorem dX5_blocks_69 : decode cX5_blocks 69 = .ok (.iload_n 2, 1) := by decide +kernel
theorem dX5_blocks_70 : decode cX5_blocks 70 = .ok (.ireturn, 1) := by decide +kernel
theorem dX5_freeSpares_0 : decode cX5_freeSpares 0 = .ok (.iconst 0, 1) := by decide +kernel
theorem dX5_freeSpares_1 : decode cX5_freeSpares 1 = .ok (.istore_n 1, 1) := by decide +kernel
theorem dX5_freeSpares_2 : decode cX5_freeSpares 2 = .ok (.sipush 480, 3) := by decide +kernel
theorem dX5_freeSpares_5 : decode cX5_freeSpares 5 = .ok (.istore_n 2, 1) := by decide +kernel
theorem dX5_freeSpares_6 : decode cX5_freeSpares 6 = .ok (.iload_n 2, 1) := by decide +kernel
theorem dX5_freeSpares_7 : decode cX5_freeSpares 7 = .ok (.sipush 576, 3) := by decide +kernel
theorem dX5_freeSpares_10 : decode cX5_freeSpares 10 = .ok (.if_icmp .ge 34, 3) := by decide +kernel
theorem dX5_freeSpares_13 : decode cX5_freeSpares 13 = .ok (.iload_n 1, 1) := by decide +kernel
theorem dX5_freeSpares_14 : decode cX5_freeSpares 14 = .ok (.aload_n 0, 1) := by decide +kernel
theorem dX5_freeSpares_15 : decode cX5_freeSpares 15 = .ok (.iload_n 2, 1) := by decide +kernel
theorem dX5_freeSpares_16 : decode cX5_freeSpares 16 = .ok (.invokevirtual 104, 3) := by decide +kernel
theorem dX5_freeSpares_19 : decode cX5_freeSpares 19 = .ok (.ifCond .eq 16, 3) := by decide +kernel
theorem dX5_freeSpares_22 : decode cX5_freeSpares 22 = .ok (.aload_n 0, 1) := by decide +kernel
theorem dX5_freeSpares_23 : decode cX5_freeSpares 23 = .ok (.iload_n 2, 1) := by decide +kernel
theorem dX5_freeSpares_24 : decode cX5_freeSpares 24 = .ok (.invokevirtual 108, 3) := by decide +kernel
theorem dX5_freeSpares_27 : decode cX5_freeSpares 27 = .ok (.iconst (-1), 1) := by decide +kernel
theorem dX5_freeSpares_28 : decode cX5_freeSpares 28 = .ok (.if_icmp .ne 7, 3) := by decide +kernel
theorem dX5_freeSpares_31 : decode cX5_freeSpares 31 = .ok (.iconst 1, 1) := by decide +kernel
theorem dX5_freeSpares_32 : decode cX5_freeSpares 32 = .ok (.goto 4, 3) := by decide +kernel
theorem dX5_freeSpares_35 : decode cX5_freeSpares 35 = .ok (.iconst 0, 1) := by decide +kernel
theorem dX5_freeSpares_36 : decode cX5_freeSpares 36 = .ok (.iadd, 1) := by decide +kernel
theorem dX5_freeSpares_37 : decode cX5_freeSpares 37 = .ok (.istore_n 1, 1) := by decide +kernel
theorem dX5_freeSpares_38 : decode cX5_freeSpares 38 = .ok (.iinc 2 1, 3) := by decide +kernel
theorem dX5_freeSpares_41 : decode cX5_freeSpares 41 = .ok (.goto (-35), 3) := by decide +kernel
theorem dX5_freeSpares_44 : decode cX5_freeSpares 44 = .ok (.iload_n 1, 1) := by decide +kernel
theorem dX5_freeSpares_45 : decode cX5_freeSpares 45 = .ok (.ireturn, 1) := by decide +kernel
theorem dX5_counted_0 : decode cX5_counted 0 = .ok (.iload_n 1, 1) := by decide +kernel
theorem dX5_counted_1 : decode cX5_counted 1 = .ok (.iconst 1, 1) := by decide +kernel
theorem dX5_counted_2 : decode cX5_counted 2 = .ok (.bipush 6, 2) := by decide +kernel
theorem dX5_counted_4 : decode cX5_counted 4 = .ok (.invokestatic 54, 3) := by decide +kernel
theorem dX5_counted_7 : decode cX5_counted 7 = .ok (.ifCond .eq 7, 3) := by decide +kernel
theorem dX5_counted_10 : decode cX5_counted 10 = .ok (.aload_n 0, 1) := by decide +kernel
theorem dX5_counted_11 : decode cX5_counted 11 = .ok (.invokevirtual 130, 3) := by decide +kernel
theorem dX5_counted_14 : decode cX5_counted 14 = .ok (.iload_n 1, 1) := by decide +kernel
theorem dX5_counted_15 : decode cX5_counted 15 = .ok (.tableswitch 93 0 8 #[49, 56, 61, 66, 66, 66, 74, 79, 86], 49) := by decide +kernel
theorem dX5_counted_64 : decode cX5_counted 64 = .ok (.aload_n 0, 1) := by decide +kernel
theorem dX5_counted_65 : decode cX5_counted 65 = .ok (.getfield 7, 3) := by decide +kernel
theorem dX5_counted_68 : decode cX5_counted 68 = .ok (.iconst 3, 1) := by decide +kernel
theorem dX5_counted_69 : decode cX5_counted 69 = .ok (.iaload, 1) := by decide +kernel
theorem dX5_counted_70 : decode cX5_counted 70 = .ok (.ireturn, 1) := by decide +kernel
theorem dX5_counted_71 : decode cX5_counted 71 = .ok (.aload_n 0, 1) := by decide +kernel
theorem dX5_counted_72 : decode cX5_counted 72 = .ok (.getfield 72, 3) := by decide +kernel
theorem dX5_counted_75 : decode cX5_counted 75 = .ok (.ireturn, 1) := by decide +kernel
theorem dX5_counted_76 : decode cX5_counted 76 = .ok (.aload_n 0, 1) := by decide +kernel
theorem dX5_counted_77 : decode cX5_counted 77 = .ok (.invokevirtual 217, 3) := by decide +kernel
theorem dX5_counted_80 : decode cX5_counted 80 = .ok (.ireturn, 1) := by decide +kernel
theorem dX5_counted_81 : decode cX5_counted 81 = .ok (.aload_n 0, 1) := by decide +kernel
theorem dX5_counted_82 : decode cX5_counted 82 = .ok (.iload_n 1, 1) := by decide +kernel
theorem dX5_counted_83 : decode cX5_counted 83 = .ok (.iconst 3, 1) := by decide +kernel
theorem dX5_counted_84 : decode cX5_counted 84 = .ok (.isub, 1) := by decide +kernel
theorem dX5_counted_85 : decode cX5_counted 85 = .ok (.invokevirtual 220, 3) := by decide +kernel
theorem dX5_counted_88 : decode cX5_counted 88 = .ok (.ireturn, 1) := by decide +kernel
theorem dX5_counted_89 : decode cX5_counted 89 = .ok (.aload_n 0, 1) := by decide +kernel
theorem dX5_counted_90 : decode cX5_counted 90 = .ok (.invokevirtual 223, 3) := by decide +kernel
theorem dX5_counted_93 : decode cX5_counted 93 = .ok (.ireturn, 1) := by decide +kernel
theorem dX5_counted_94 : decode cX5_counted 94 = .ok (.aload_n 0, 1) := by decide +kernel
theorem dX5_counted_95 : decode cX5_counted 95 = .ok (.getfield 7, 3) := by decide +kernel
theorem dX5_counted_98 : decode cX5_counted 98 = .ok (.iconst 4, 1) := by decide +kernel
theorem dX5_counted_99 : decode cX5_counted 99 = .ok (.iaload, 1) := by decide +kernel
theorem dX5_counted_100 : decode cX5_counted 100 = .ok (.ireturn, 1) := by decide +kernel
theorem dX5_counted_101 : decode cX5_counted 101 = .ok (.aload_n 0, 1) := by decide +kernel
theorem dX5_counted_102 : decode cX5_counted 102 = .ok (.getfield 7, 3) := by decide +kernel
theorem dX5_counted_105 : decode cX5_counted 105 = .ok (.iconst 5, 1) := by decide +kernel
theorem dX5_counted_106 : decode cX5_counted 106 = .ok (.iaload, 1) := by decide +kernel
theorem dX5_counted_107 : decode cX5_counted 107 = .ok (.ireturn, 1) := by decide +kernel
theorem dX5_counted_108 : decode cX5_counted 108 = .ok (.aload_n 0, 1) := by decide +kernel
theorem dX5_counted_109 : decode cX5_counted 109 = .ok (.getfield 62, 3) := by decide +kernel
theorem dX5_counted_112 : decode cX5_counted 112 = .ok (.ireturn, 1) := by decide +kernel
theorem dX5_count_0 : decode cX5_count 0 = .ok (.aload_n 0, 1) := by decide +kernel
theorem dX5_count_1 : decode cX5_count 1 = .ok (.iload_n 1, 1) := by decide +kernel
theorem dX5_count_2 : decode cX5_count 2 = .ok (.iconst 0, 1) := by decide +kernel
theorem dX5_count_3 : decode cX5_count 3 = .ok (.bipush 9, 2) := by decide +kernel
theorem dX5_count_5 : decode cX5_count 5 = .ok (.invokestatic 54, 3) := by decide +kernel
theorem dX5_count_8 : decode cX5_count 8 = .ok (.ifCond .eq 7, 3) := by decide +kernel
theorem dX5_count_11 : decode cX5_count 11 = .ok (.iconst 0, 1) := by decide +kernel
theorem dX5_count_12 : decode cX5_count 12 = .ok (.goto 4, 3) := by decide +kernel
theorem dX5_count_15 : decode cX5_count 15 = .ok (.iconst 1, 1) := by decide +kernel
theorem dX5_count_16 : decode cX5_count 16 = .ok (.putfield 50, 3) := by decide +kernel
theorem dX5_count_19 : decode cX5_count 19 = .ok (.aload_n 0, 1) := by decide +kernel
theorem dX5_count_20 : decode cX5_count 20 = .ok (.getfield 50, 3) := by decide +kernel
theorem dX5_count_23 : decode cX5_count 23 = .ok (.ifCond .le 7, 3) := by decide +kernel
theorem dX5_count_26 : decode cX5_count 26 = .ok (.iconst 0, 1) := by decide +kernel
theorem dX5_count_27 : decode cX5_count 27 = .ok (.goto 8, 3) := by decide +kernel
theorem dX5_count_30 : decode cX5_count 30 = .ok (.aload_n 0, 1) := by decide +kernel
theorem dX5_count_31 : decode cX5_count 31 = .ok (.iload_n 1, 1) := by decide +kernel
theorem dX5_count_32 : decode cX5_count 32 = .ok (.invokevirtual 226, 3) := by decide +kernel
theorem dX5_count_35 : decode cX5_count 35 = .ok (.ireturn, 1) := by decide +kernel
theorem dX5_setting_0 : decode cX5_setting 0 = .ok (.aload_n 0, 1) := by decide +kernel
theorem dX5_setting_1 : decode cX5_setting 1 = .ok (.iload_n 1, 1) := by decide +kernel
theorem dX5_setting_2 : decode cX5_setting 2 = .ok (.iconst 0, 1) := by decide +kernel
theorem dX5_setting_3 : decode cX5_setting 3 = .ok (.iconst 2, 1) := by decide +kernel
theorem dX5_setting_4 : decode cX5_setting 4 = .ok (.invokestatic 54, 3) := by decide +kernel
theorem dX5_setting_7 : decode cX5_setting 7 = .ok (.ifCond .eq 7, 3) := by decide +kernel
theorem dX5_setting_10 : decode cX5_setting 10 = .ok (.iconst 0, 1) := by decide +kernel
theorem dX5_setting_11 : decode cX5_setting 11 = .ok (.goto 4, 3) := by decide +kernel
theorem dX5_setting_14 : decode cX5_setting 14 = .ok (.iconst 1, 1) := by decide +kernel
theorem dX5_setting_15 : decode cX5_setting 15 = .ok (.putfield 50, 3) := by decide +kernel
theorem dX5_setting_18 : decode cX5_setting 18 = .ok (.aload_n 0, 1) := by decide +kernel
theorem dX5_setting_19 : decode cX5_setting 19 = .ok (.getfield 50, 3) := by decide +kernel
theorem dX5_setting_22 : decode cX5_setting 22 = .ok (.ifCond .le 7, 3) := by decide +kernel
theorem dX5_setting_25 : decode cX5_setting 25 = .ok (.iconst 0, 1) := by decide +kernel
theorem dX5_setting_26 : decode cX5_setting 26 = .ok (.goto 11, 3) := by decide +kernel
theorem dX5_setting_29 : decode cX5_setting 29 = .ok (.aload_n 0, 1) := by decide +kernel
theorem dX5_setting_30 : decode cX5_setting 30 = .ok (.getfield 7, 3) := by decide +kernel
theorem dX5_setting_33 : decode cX5_setting 33 = .ok (.iconst 0, 1) := by decide +kernel
theorem dX5_setting_34 : decode cX5_setting 34 = .ok (.iload_n 1, 1) := by decide +kernel
theorem dX5_setting_35 : decode cX5_setting 35 = .ok (.iadd, 1) := by decide +kernel
theorem dX5_setting_36 : decode cX5_setting 36 = .ok (.iaload, 1) := by decide +kernel
theorem dX5_setting_37 : decode cX5_setting 37 = .ok (.ireturn, 1) := by decide +kernel
theorem dX5_wouldFail_0 : decode cX5_wouldFail 0 = .ok (.aload_n 0, 1) := by decide +kernel
theorem dX5_wouldFail_1 : decode cX5_wouldFail 1 = .ok (.iload_n 1, 1) := by decide +kernel
theorem dX5_wouldFail_2 : decode cX5_wouldFail 2 = .ok (.invokevirtual 146, 3) := by decide +kernel
theorem dX5_wouldFail_5 : decode cX5_wouldFail 5 = .ok (.ifCond .ne 5, 3) := by decide +kernel
theorem dX5_wouldFail_8 : decode cX5_wouldFail 8 = .ok (.iconst (-1), 1) := by decide +kernel
theorem dX5_wouldFail_9 : decode cX5_wouldFail 9 = .ok (.ireturn, 1) := by decide +kernel
theorem dX5_wouldFail_10 : decode cX5_wouldFail 10 = .ok (.aload_n 0, 1) := by decide +kernel
theorem dX5_wouldFail_11 : decode cX5_wouldFail 11 = .ok (.invokevirtual 229, 3) := by decide +kernel
theorem dX5_wouldFail_14 : decode cX5_wouldFail 14 = .ok (.aload_n 0, 1) := by decide +kernel
theorem dX5_wouldFail_15 : decode cX5_wouldFail 15 = .ok (.iload_n 1, 1) := by decide +kernel
theorem dX5_wouldFail_16 : decode cX5_wouldFail 16 = .ok (.invokevirtual 108, 3) := by decide +kernel
theorem dX5_wouldFail_19 : decode cX5_wouldFail 19 = .ok (.iconst (-1), 1) := by decide +kernel
theorem dX5_wouldFail_20 : decode cX5_wouldFail 20 = .ok (.if_icmp .ne 7, 3) := by decide +kernel
theorem dX5_wouldFail_23 : decode cX5_wouldFail 23 = .ok (.iconst 0, 1) := by decide +kernel
theorem dX5_wouldFail_24 : decode cX5_wouldFail 24 = .ok (.goto 4, 3) := by decide +kernel
theorem dX5_wouldFail_27 : decode cX5_wouldFail 27 = .ok (.iconst 1, 1) := by decide +kernel
theorem dX5_wouldFail_28 : decode cX5_wouldFail 28 = .ok (.istore_n 3, 1) := by decide +kernel
theorem dX5_wouldFail_29 : decode cX5_wouldFail 29 = .ok (.aload_n 0, 1) := by decide +kernel
theorem dX5_wouldFail_30 : decode cX5_wouldFail 30 = .ok (.iload_n 1, 1) := by decide +kernel
theorem dX5_wouldFail_31 : decode cX5_wouldFail 31 = .ok (.invokevirtual 149, 3) := by decide +kernel
theorem dX5_wouldFail_34 : decode cX5_wouldFail 34 = .ok (.aload_n 0, 1) := by decide +kernel
theorem dX5_wouldFail_35 : decode cX5_wouldFail 35 = .ok (.invokevirtual 130, 3) := by decide +kernel
theorem dX5_wouldFail_38 : decode cX5_wouldFail 38 = .ok (.iload_n 2, 1) := by decide +kernel
theorem dX5_wouldFail_39 : decode cX5_wouldFail 39 = .ok (.ifCond .ne 10, 3) := by decide +kernel
theorem dX5_wouldFail_42 : decode cX5_wouldFail 42 = .ok (.aload_n 0, 1) := by decide +kernel
theorem dX5_wouldFail_43 : decode cX5_wouldFail 43 = .ok (.getfield 72, 3) := by decide +kernel
theorem dX5_wouldFail_46 : decode cX5_wouldFail 46 = .ok (.goto 29, 3) := by decide +kernel
theorem dX5_wouldFail_49 : decode cX5_wouldFail 49 = .ok (.iload_n 2, 1) := by decide +kernel
theorem dX5_wouldFail_50 : decode cX5_wouldFail 50 = .ok (.iconst 1, 1) := by decide +kernel
theorem dX5_wouldFail_51 : decode cX5_wouldFail 51 = .ok (.if_icmp .ne 10, 3) := by decide +kernel
theorem dX5_wouldFail_54 : decode cX5_wouldFail 54 = .ok (.aload_n 0, 1) := by decide +kernel
theorem dX5_wouldFail_55 : decode cX5_wouldFail 55 = .ok (.invokevirtual 217, 3) := by decide +kernel
theorem dX5_wouldFail_58 : decode cX5_wouldFail 58 = .ok (.goto 17, 3) := by decide +kernel
theorem dX5_wouldFail_61 : decode cX5_wouldFail 61 = .ok (.iload_n 2, 1) := by decide +kernel
theorem dX5_wouldFail_62 : decode cX5_wouldFail 62 = .ok (.iconst 2, 1) := by decide +kernel
theorem dX5_wouldFail_63 : decode cX5_wouldFail 63 = .ok (.if_icmp .ne 7, 3) := by decide +kernel
theorem dX5_wouldFail_66 : decode cX5_wouldFail 66 = .ok (.iload_n 3, 1) := by decide +kernel
theorem dX5_wouldFail_67 : decode cX5_wouldFail 67 = .ok (.goto 8, 3) := by decide +kernel
theorem dX5_wouldFail_70 : decode cX5_wouldFail 70 = .ok (.aload_n 0, 1) := by decide +kernel
theorem dX5_wouldFail_71 : decode cX5_wouldFail 71 = .ok (.iconst 2, 1) := by decide +kernel
theorem dX5_wouldFail_72 : decode cX5_wouldFail 72 = .ok (.invokevirtual 220, 3) := by decide +kernel
theorem dX5_wouldFail_75 : decode cX5_wouldFail 75 = .ok (.istore 4, 2) := by decide +kernel
theorem dX5_wouldFail_77 : decode cX5_wouldFail 77 = .ok (.aload_n 0, 1) := by decide +kernel
theorem dX5_wouldFail_78 : decode cX5_wouldFail 78 = .ok (.invokevirtual 232, 3) := by decide +kernel
theorem dX5_wouldFail_81 : decode cX5_wouldFail 81 = .ok (.iload 4, 2) := by decide +kernel
theorem dX5_wouldFail_83 : decode cX5_wouldFail 83 = .ok (.ireturn, 1) := by decide +kernel
theorem dX5_ifFailed_0 : decode cX5_ifFailed 0 = .ok (.aload_n 0, 1) := by decide +kernel
theorem dX5_ifFailed_1 : decode cX5_ifFailed 1 = .ok (.iload_n 1, 1) := by decide +kernel
theorem dX5_ifFailed_2 : decode cX5_ifFailed 2 = .ok (.iload_n 2, 1) := by decide +kernel
theorem dX5_ifFailed_3 : decode cX5_ifFailed 3 = .ok (.invokestatic 94, 3) := by decide +kernel
theorem dX5_ifFailed_6 : decode cX5_ifFailed 6 = .ok (.ifCond .eq 16, 3) := by decide +kernel
theorem dX5_ifFailed_9 : decode cX5_ifFailed 9 = .ok (.iload_n 3, 1) := by decide +kernel
theorem dX5_ifFailed_10 : decode cX5_ifFailed 10 = .ok (.iconst 0, 1) := by decide +kernel
theorem dX5_ifFailed_11 : decode cX5_ifFailed 11 = .ok (.iconst 3, 1) := by decide +kernel
theorem dX5_ifFailed_12 : decode cX5_ifFailed 12 = .ok (.invokestatic 54, 3) := by decide +kernel
theorem dX5_ifFailed_15 : decode cX5_ifFailed 15 = .ok (.ifCond .eq 7, 3) := by decide +kernel
theorem dX5_ifFailed_18 : decode cX5_ifFailed 18 = .ok (.iconst 0, 1) := by decide +kernel
theorem dX5_ifFailed_19 : decode cX5_ifFailed 19 = .ok (.goto 4, 3) := by decide +kernel
theorem dX5_ifFailed_22 : decode cX5_ifFailed 22 = .ok (.iconst 1, 1) := by decide +kernel
theorem dX5_ifFailed_23 : decode cX5_ifFailed 23 = .ok (.putfield 50, 3) := by decide +kernel
theorem dX5_ifFailed_26 : decode cX5_ifFailed 26 = .ok (.aload_n 0, 1) := by decide +kernel
theorem dX5_ifFailed_27 : decode cX5_ifFailed 27 = .ok (.getfield 50, 3) := by decide +kernel
theorem dX5_ifFailed_30 : decode cX5_ifFailed 30 = .ok (.ifCond .le 7, 3) := by decide +kernel
theorem dX5_ifFailed_33 : decode cX5_ifFailed 33 = .ok (.iconst 0, 1) := by decide +kernel
theorem dX5_ifFailed_34 : decode cX5_ifFailed 34 = .ok (.goto 14, 3) := by decide +kernel
theorem dX5_ifFailed_37 : decode cX5_ifFailed 37 = .ok (.aload_n 0, 1) := by decide +kernel
theorem dX5_ifFailed_38 : decode cX5_ifFailed 38 = .ok (.bipush 24, 2) := by decide +kernel
theorem dX5_ifFailed_40 : decode cX5_ifFailed 40 = .ok (.iload_n 1, 1) := by decide +kernel
theorem dX5_ifFailed_41 : decode cX5_ifFailed 41 = .ok (.imul, 1) := by decide +kernel
theorem dX5_ifFailed_42 : decode cX5_ifFailed 42 = .ok (.iload_n 2, 1) := by decide +kernel
theorem dX5_ifFailed_43 : decode cX5_ifFailed 43 = .ok (.iadd, 1) := by decide +kernel
theorem dX5_ifFailed_44 : decode cX5_ifFailed 44 = .ok (.iload_n 3, 1) := by decide +kernel
theorem dX5_ifFailed_45 : decode cX5_ifFailed 45 = .ok (.invokevirtual 235, 3) := by decide +kernel
theorem dX5_ifFailed_48 : decode cX5_ifFailed 48 = .ok (.ireturn, 1) := by decide +kernel
theorem dX5_worstCell_0 : decode cX5_worstCell 0 = .ok (.aload_n 0, 1) := by decide +kernel
theorem dX5_worstCell_1 : decode cX5_worstCell 1 = .ok (.invokevirtual 130, 3) := by decide +kernel
theorem dX5_worstCell_4 : decode cX5_worstCell 4 = .ok (.iconst (-1), 1) := by decide +kernel
theorem dX5_worstCell_5 : decode cX5_worstCell 5 = .ok (.istore_n 1, 1) := by decide +kernel
theorem dX5_worstCell_6 : decode cX5_worstCell 6 = .ok (.iconst 0, 1) := by decide +kernel
theorem dX5_worstCell_7 : decode cX5_worstCell 7 = .ok (.istore_n 2, 1) := by decide +kernel
theorem dX5_worstCell_8 : decode cX5_worstCell 8 = .ok (.iload_n 2, 1) := by decide +kernel
theorem dX5_worstCell_9 : decode cX5_worstCell 9 = .ok (.sipush 576, 3) := by decide +kernel
theorem dX5_worstCell_12 : decode cX5_worstCell 12 = .ok (.if_icmp .ge 43, 3) := by decide +kernel
theorem dX5_worstCell_15 : decode cX5_worstCell 15 = .ok (.aload_n 0, 1) := by decide +kernel
theorem dX5_worstCell_16 : decode cX5_worstCell 16 = .ok (.iload_n 2, 1) := by decide +kernel
theorem dX5_worstCell_17 : decode cX5_worstCell 17 = .ok (.invokevirtual 207, 3) := by decide +kernel
theorem dX5_worstCell_20 : decode cX5_worstCell 20 = .ok (.ifCond .eq 27, 3) := by decide +kernel
theorem dX5_worstCell_23 : decode cX5_worstCell 23 = .ok (.iload_n 1, 1) := by decide +kernel
theorem dX5_worstCell_24 : decode cX5_worstCell 24 = .ok (.iconst (-1), 1) := by decide +kernel
theorem dX5_worstCell_25 : decode cX5_worstCell 25 = .ok (.if_icmp .eq 18, 3) := by decide +kernel
theorem dX5_worstCell_28 : decode cX5_worstCell 28 = .ok (.aload_n 0, 1) := by decide +kernel
theorem dX5_worstCell_29 : decode cX5_worstCell 29 = .ok (.getfield 40, 3) := by decide +kernel
theorem dX5_worstCell_32 : decode cX5_worstCell 32 = .ok (.iload_n 2, 1) := by decide +kernel
theorem dX5_worstCell_33 : decode cX5_worstCell 33 = .ok (.iaload, 1) := by decide +kernel
theorem dX5_worstCell_34 : decode cX5_worstCell 34 = .ok (.aload_n 0, 1) := by decide +kernel
theorem dX5_worstCell_35 : decode cX5_worstCell 35 = .ok (.getfield 40, 3) := by decide +kernel
theorem dX5_worstCell_38 : decode cX5_worstCell 38 = .ok (.iload_n 1, 1) := by decide +kernel
theorem dX5_worstCell_39 : decode cX5_worstCell 39 = .ok (.iaload, 1) := by decide +kernel
theorem dX5_worstCell_40 : decode cX5_worstCell 40 = .ok (.if_icmp .le 7, 3) := by decide +kernel
theorem dX5_worstCell_43 : decode cX5_worstCell 43 = .ok (.iload_n 2, 1) := by decide +kernel
theorem dX5_worstCell_44 : decode cX5_worstCell 44 = .ok (.goto 4, 3) := by decide +kernel
theorem dX5_worstCell_47 : decode cX5_worstCell 47 = .ok (.iload_n 1, 1) := by decide +kernel
theorem dX5_worstCell_48 : decode cX5_worstCell 48 = .ok (.istore_n 1, 1) := by decide +kernel
theorem dX5_worstCell_49 : decode cX5_worstCell 49 = .ok (.iinc 2 1, 3) := by decide +kernel
theorem dX5_worstCell_52 : decode cX5_worstCell 52 = .ok (.goto (-44), 3) := by decide +kernel
theorem dX5_worstCell_55 : decode cX5_worstCell 55 = .ok (.iload_n 1, 1) := by decide +kernel
theorem dX5_worstCell_56 : decode cX5_worstCell 56 = .ok (.ireturn, 1) := by decide +kernel
theorem dX5_worst_0 : decode cX5_worst 0 = .ok (.aload_n 0, 1) := by decide +kernel
theorem dX5_worst_1 : decode cX5_worst 1 = .ok (.iconst 0, 1) := by decide +kernel
theorem dX5_worst_2 : decode cX5_worst 2 = .ok (.putfield 50, 3) := by decide +kernel
theorem dX5_worst_5 : decode cX5_worst 5 = .ok (.aload_n 0, 1) := by decide +kernel
theorem dX5_worst_6 : decode cX5_worst 6 = .ok (.invokevirtual 238, 3) := by decide +kernel
theorem dX5_worst_9 : decode cX5_worst 9 = .ok (.ireturn, 1) := by decide +kernel
theorem dX5_wouldMove_0 : decode cX5_wouldMove 0 = .ok (.aload_n 0, 1) := by decide +kernel
theorem dX5_wouldMove_1 : decode cX5_wouldMove 1 = .ok (.invokevirtual 229, 3) := by decide +kernel
theorem dX5_wouldMove_4 : decode cX5_wouldMove 4 = .ok (.aload_n 0, 1) := by decide +kernel
theorem dX5_wouldMove_5 : decode cX5_wouldMove 5 = .ok (.sipush 480, 3) := by decide +kernel
theorem dX5_wouldMove_8 : decode cX5_wouldMove 8 = .ok (.invokevirtual 161, 3) := by decide +kernel
theorem dX5_wouldMove_11 : decode cX5_wouldMove 11 = .ok (.istore_n 1, 1) := by decide +kernel
theorem dX5_wouldMove_12 : decode cX5_wouldMove 12 = .ok (.aload_n 0, 1) := by decide +kernel
theorem dX5_wouldMove_13 : decode cX5_wouldMove 13 = .ok (.invokevirtual 232, 3) := by decide +kernel
theorem dX5_wouldMove_16 : decode cX5_wouldMove 16 = .ok (.iload_n 1, 1) := by decide +kernel
theorem dX5_wouldMove_17 : decode cX5_wouldMove 17 = .ok (.ireturn, 1) := by decide +kernel
theorem dX5_untidy_0 : decode cX5_untidy 0 = .ok (.aload_n 0, 1) := by decide +kernel
theorem dX5_untidy_1 : decode cX5_untidy 1 = .ok (.iconst 0, 1) := by decide +kernel
theorem dX5_untidy_2 : decode cX5_untidy 2 = .ok (.putfield 50, 3) := by decide +kernel
theorem dX5_untidy_5 : decode cX5_untidy 5 = .ok (.aload_n 0, 1) := by decide +kernel
theorem dX5_untidy_6 : decode cX5_untidy 6 = .ok (.invokevirtual 241, 3) := by decide +kernel
theorem dX5_untidy_9 : decode cX5_untidy 9 = .ok (.ireturn, 1) := by decide +kernel
theorem dX5_blockWith_0 : decode cX5_blockWith 0 = .ok (.iconst 0, 1) := by decide +kernel
theorem dX5_blockWith_1 : decode cX5_blockWith 1 = .ok (.istore_n 2, 1) := by decide +kernel
theorem dX5_blockWith_2 : decode cX5_blockWith 2 = .ok (.iload_n 2, 1) := by decide +kernel
theorem dX5_blockWith_3 : decode cX5_blockWith 3 = .ok (.sipush 480, 3) := by decide +kernel
theorem dX5_blockWith_6 : decode cX5_blockWith 6 = .ok (.if_icmp .ge 24, 3) := by decide +kernel
theorem dX5_blockWith_9 : decode cX5_blockWith 9 = .ok (.aload_n 0, 1) := by decide +kernel
theorem dX5_blockWith_10 : decode cX5_blockWith 10 = .ok (.getfield 7, 3) := by decide +kernel
theorem dX5_blockWith_13 : decode cX5_blockWith 13 = .ok (.bipush 18, 2) := by decide +kernel
theorem dX5_blockWith_15 : decode cX5_blockWith 15 = .ok (.iload_n 2, 1) := by decide +kernel
theorem dX5_blockWith_16 : decode cX5_blockWith 16 = .ok (.iadd, 1) := by decide +kernel
theorem dX5_blockWith_17 : decode cX5_blockWith 17 = .ok (.iaload, 1) := by decide +kernel
theorem dX5_blockWith_18 : decode cX5_blockWith 18 = .ok (.iload_n 1, 1) := by decide +kernel
theorem dX5_blockWith_19 : decode cX5_blockWith 19 = .ok (.if_icmp .ne 5, 3) := by decide +kernel
theorem dX5_blockWith_22 : decode cX5_blockWith 22 = .ok (.iload_n 2, 1) := by decide +kernel
theorem dX5_blockWith_23 : decode cX5_blockWith 23 = .ok (.ireturn, 1) := by decide +kernel
theorem dX5_blockWith_24 : decode cX5_blockWith 24 = .ok (.iinc 2 1, 3) := by decide +kernel
theorem dX5_blockWith_27 : decode cX5_blockWith 27 = .ok (.goto (-25), 3) := by decide +kernel
theorem dX5_blockWith_30 : decode cX5_blockWith 30 = .ok (.iconst (-1), 1) := by decide +kernel
theorem dX5_blockWith_31 : decode cX5_blockWith 31 = .ok (.ireturn, 1) := by decide +kernel
theorem dX5_find_0 : decode cX5_find 0 = .ok (.aload_n 0, 1) := by decide +kernel
theorem dX5_find_1 : decode cX5_find 1 = .ok (.iload_n 1, 1) := by decide +kernel
theorem dX5_find_2 : decode cX5_find 2 = .ok (.invokestatic 127, 3) := by decide +kernel
theorem dX5_find_5 : decode cX5_find 5 = .ok (.ifCond .eq 7, 3) := by decide +kernel
theorem dX5_find_8 : decode cX5_find 8 = .ok (.iconst 0, 1) := by decide +kernel
theorem dX5_find_9 : decode cX5_find 9 = .ok (.goto 4, 3) := by decide +kernel
theorem dX5_find_12 : decode cX5_find 12 = .ok (.iconst 1, 1) := by decide +kernel
theorem dX5_find_13 : decode cX5_find 13 = .ok (.putfield 50, 3) := by decide +kernel
theorem dX5_find_16 : decode cX5_find 16 = .ok (.aload_n 0, 1) := by decide +kernel
theorem dX5_find_17 : decode cX5_find 17 = .ok (.getfield 50, 3) := by decide +kernel
theorem dX5_find_20 : decode cX5_find 20 = .ok (.ifCond .le 7, 3) := by decide +kernel
theorem dX5_find_23 : decode cX5_find 23 = .ok (.iconst 0, 1) := by decide +kernel
theorem dX5_find_24 : decode cX5_find 24 = .ok (.goto 8, 3) := by decide +kernel
theorem dX5_find_27 : decode cX5_find 27 = .ok (.aload_n 0, 1) := by decide +kernel
theorem dX5_find_28 : decode cX5_find 28 = .ok (.iload_n 1, 1) := by decide +kernel
theorem dX5_find_29 : decode cX5_find 29 = .ok (.invokevirtual 244, 3) := by decide +kernel
theorem dX5_find_32 : decode cX5_find 32 = .ok (.ireturn, 1) := by decide +kernel
theorem dX5_share_0 : decode cX5_share 0 = .ok (.aload_n 0, 1) := by decide +kernel
theorem dX5_share_1 : decode cX5_share 1 = .ok (.invokevirtual 130, 3) := by decide +kernel
theorem dX5_share_4 : decode cX5_share 4 = .ok (.sipush 576, 3) := by decide +kernel
theorem dX5_share_7 : decode cX5_share 7 = .ok (.aload_n 0, 1) := by decide +kernel
theorem dX5_share_8 : decode cX5_share 8 = .ok (.getfield 7, 3) := by decide +kernel
theorem dX5_share_11 : decode cX5_share 11 = .ok (.iconst 3, 1) := by decide +kernel
theorem dX5_share_12 : decode cX5_share 12 = .ok (.iaload, 1) := by decide +kernel
theorem dX5_share_13 : decode cX5_share 13 = .ok (.isub, 1) := by decide +kernel
theorem dX5_share_14 : decode cX5_share 14 = .ok (.aload_n 0, 1) := by decide +kernel
theorem dX5_share_15 : decode cX5_share 15 = .ok (.invokevirtual 217, 3) := by decide +kernel
theorem dX5_share_18 : decode cX5_share 18 = .ok (.isub, 1) := by decide +kernel
theorem dX5_share_19 : decode cX5_share 19 = .ok (.istore_n 1, 1) := by decide +kernel
theorem dX5_share_20 : decode cX5_share 20 = .ok (.iload_n 1, 1) := by decide +kernel
theorem dX5_share_21 : decode cX5_share 21 = .ok (.i2d, 1) := by decide +kernel
theorem dX5_share_22 : decode cX5_share 22 = .ok (.ldc2_w 247, 3) := by decide +kernel
theorem dX5_share_25 : decode cX5_share 25 = .ok (.ddiv, 1) := by decide +kernel
theorem dX5_share_26 : decode cX5_share 26 = .ok (.dreturn, 1) := by decide +kernel
theorem dX5_goodShare_0 : decode cX5_goodShare 0 = .ok (.aload_n 0, 1) := by decide +kernel
theorem dX5_goodShare_1 : decode cX5_goodShare 1 = .ok (.iconst 0, 1) := by decide +kernel
theorem dX5_goodShare_2 : decode cX5_goodShare 2 = .ok (.putfield 50, 3) := by decide +kernel
theorem dX5_goodShare_5 : decode cX5_goodShare 5 = .ok (.aload_n 0, 1) := by decide +kernel
theorem dX5_goodShare_6 : decode cX5_goodShare 6 = .ok (.invokevirtual 249, 3) := by decide +kernel
theorem dX5_goodShare_9 : decode cX5_goodShare 9 = .ok (.dreturn, 1) := by decide +kernel
theorem dX5_bitsOf_0 : decode cX5_bitsOf 0 = .ok (.dload_n 0, 1) := by decide +kernel
theorem dX5_bitsOf_1 : decode cX5_bitsOf 1 = .ok (.dconst 0, 1) := by decide +kernel
theorem dX5_bitsOf_2 : decode cX5_bitsOf 2 = .ok (.dcmp .l, 1) := by decide +kernel
theorem dX5_bitsOf_3 : decode cX5_bitsOf 3 = .ok (.ifCond .ne 5, 3) := by decide +kernel
theorem dX5_bitsOf_6 : decode cX5_bitsOf 6 = .ok (.lconst 0, 1) := by decide +kernel
theorem dX5_bitsOf_7 : decode cX5_bitsOf 7 = .ok (.lreturn, 1) := by decide +kernel
theorem dX5_bitsOf_8 : decode cX5_bitsOf 8 = .ok (.dload_n 0, 1) := by decide +kernel
theorem dX5_bitsOf_9 : decode cX5_bitsOf 9 = .ok (.dstore_n 2, 1) := by decide +kernel
theorem dX5_bitsOf_10 : decode cX5_bitsOf 10 = .ok (.ldc2_w 253, 3) := by decide +kernel
theorem dX5_bitsOf_13 : decode cX5_bitsOf 13 = .ok (.lstore 4, 2) := by decide +kernel
theorem dX5_bitsOf_15 : decode cX5_bitsOf 15 = .ok (.dload_n 2, 1) := by decide +kernel
theorem dX5_bitsOf_16 : decode cX5_bitsOf 16 = .ok (.ldc2_w 255, 3) := by decide +kernel
theorem dX5_bitsOf_19 : decode cX5_bitsOf 19 = .ok (.dcmp .l, 1) := by decide +kernel
theorem dX5_bitsOf_20 : decode cX5_bitsOf 20 = .ok (.ifCond .lt 18, 3) := by decide +kernel
theorem dX5_bitsOf_23 : decode cX5_bitsOf 23 = .ok (.dload_n 2, 1) := by decide +kernel
theorem dX5_bitsOf_24 : decode cX5_bitsOf 24 = .ok (.ldc2_w 255, 3) := by decide +kernel
theorem dX5_bitsOf_27 : decode cX5_bitsOf 27 = .ok (.ddiv, 1) := by decide +kernel
theorem dX5_bitsOf_28 : decode cX5_bitsOf 28 = .ok (.dstore_n 2, 1) := by decide +kernel
theorem dX5_bitsOf_29 : decode cX5_bitsOf 29 = .ok (.lload 4, 2) := by decide +kernel
theorem dX5_bitsOf_31 : decode cX5_bitsOf 31 = .ok (.lconst 1, 1) := by decide +kernel
theorem dX5_bitsOf_32 : decode cX5_bitsOf 32 = .ok (.ladd, 1) := by decide +kernel
theorem dX5_bitsOf_33 : decode cX5_bitsOf 33 = .ok (.lstore 4, 2) := by decide +kernel
theorem dX5_bitsOf_35 : decode cX5_bitsOf 35 = .ok (.goto (-20), 3) := by decide +kernel
theorem dX5_bitsOf_38 : decode cX5_bitsOf 38 = .ok (.dload_n 2, 1) := by decide +kernel
theorem dX5_bitsOf_39 : decode cX5_bitsOf 39 = .ok (.dconst 1, 1) := by decide +kernel
theorem dX5_bitsOf_40 : decode cX5_bitsOf 40 = .ok (.dcmp .g, 1) := by decide +kernel
theorem dX5_bitsOf_41 : decode cX5_bitsOf 41 = .ok (.ifCond .ge 18, 3) := by decide +kernel
theorem dX5_bitsOf_44 : decode cX5_bitsOf 44 = .ok (.dload_n 2, 1) := by decide +kernel
theorem dX5_bitsOf_45 : decode cX5_bitsOf 45 = .ok (.ldc2_w 255, 3) := by decide +kernel
theorem dX5_bitsOf_48 : decode cX5_bitsOf 48 = .ok (.dmul, 1) := by decide +kernel
theorem dX5_bitsOf_49 : decode cX5_bitsOf 49 = .ok (.dstore_n 2, 1) := by decide +kernel
theorem dX5_bitsOf_50 : decode cX5_bitsOf 50 = .ok (.lload 4, 2) := by decide +kernel
theorem dX5_bitsOf_52 : decode cX5_bitsOf 52 = .ok (.lconst 1, 1) := by decide +kernel
theorem dX5_bitsOf_53 : decode cX5_bitsOf 53 = .ok (.lsub, 1) := by decide +kernel
theorem dX5_bitsOf_54 : decode cX5_bitsOf 54 = .ok (.lstore 4, 2) := by decide +kernel
theorem dX5_bitsOf_56 : decode cX5_bitsOf 56 = .ok (.goto (-18), 3) := by decide +kernel
theorem dX5_bitsOf_59 : decode cX5_bitsOf 59 = .ok (.lload 4, 2) := by decide +kernel
theorem dX5_bitsOf_61 : decode cX5_bitsOf 61 = .ok (.bipush 52, 2) := by decide +kernel
theorem dX5_bitsOf_63 : decode cX5_bitsOf 63 = .ok (.lshl, 1) := by decide +kernel
theorem dX5_bitsOf_64 : decode cX5_bitsOf 64 = .ok (.dload_n 2, 1) := by decide +kernel
theorem dX5_bitsOf_65 : decode cX5_bitsOf 65 = .ok (.ldc2_w 257, 3) := by decide +kernel
theorem dX5_bitsOf_68 : decode cX5_bitsOf 68 = .ok (.dmul, 1) := by decide +kernel
theorem dX5_bitsOf_69 : decode cX5_bitsOf 69 = .ok (.d2l, 1) := by decide +kernel
theorem dX5_bitsOf_70 : decode cX5_bitsOf 70 = .ok (.ladd, 1) := by decide +kernel
theorem dX5_bitsOf_71 : decode cX5_bitsOf 71 = .ok (.ldc2_w 259, 3) := by decide +kernel
theorem dX5_bitsOf_74 : decode cX5_bitsOf 74 = .ok (.lsub, 1) := by decide +kernel
theorem dX5_bitsOf_75 : decode cX5_bitsOf 75 = .ok (.lreturn, 1) := by decide +kernel
theorem dX5_mix_0 : decode cX5_mix 0 = .ok (.aload_n 0, 1) := by decide +kernel
theorem dX5_mix_1 : decode cX5_mix 1 = .ok (.ldc2_w 261, 3) := by decide +kernel
theorem dX5_mix_4 : decode cX5_mix 4 = .ok (.aload_n 0, 1) := by decide +kernel
theorem dX5_mix_5 : decode cX5_mix 5 = .ok (.getfield 263, 3) := by decide +kernel
theorem dX5_mix_8 : decode cX5_mix 8 = .ok (.lmul, 1) := by decide +kernel
theorem dX5_mix_9 : decode cX5_mix 9 = .ok (.lload_n 1, 1) := by decide +kernel
theorem dX5_mix_10 : decode cX5_mix 10 = .ok (.ladd, 1) := by decide +kernel
theorem dX5_mix_11 : decode cX5_mix 11 = .ok (.putfield 263, 3) := by decide +kernel
theorem dX5_mix_14 : decode cX5_mix 14 = .ok (.return_, 1) := by decide +kernel
theorem dX5_mixFailed_0 : decode cX5_mixFailed 0 = .ok (.iconst 0, 1) := by decide +kernel
theorem dX5_mixFailed_1 : decode cX5_mixFailed 1 = .ok (.istore_n 2, 1) := by decide +kernel
theorem dX5_mixFailed_2 : decode cX5_mixFailed 2 = .ok (.iload_n 2, 1) := by decide +kernel
theorem dX5_mixFailed_3 : decode cX5_mixFailed 3 = .ok (.iconst 3, 1) := by decide +kernel
theorem dX5_mixFailed_4 : decode cX5_mixFailed 4 = .ok (.if_icmp .gt 20, 3) := by decide +kernel
theorem dX5_mixFailed_7 : decode cX5_mixFailed 7 = .ok (.aload_n 0, 1) := by decide +kernel
theorem dX5_mixFailed_8 : decode cX5_mixFailed 8 = .ok (.aload_n 0, 1) := by decide +kernel
theorem dX5_mixFailed_9 : decode cX5_mixFailed 9 = .ok (.iload_n 1, 1) := by decide +kernel
theorem dX5_mixFailed_10 : decode cX5_mixFailed 10 = .ok (.iload_n 2, 1) := by decide +kernel
theorem dX5_mixFailed_11 : decode cX5_mixFailed 11 = .ok (.invokevirtual 235, 3) := by decide +kernel
theorem dX5_mixFailed_14 : decode cX5_mixFailed 14 = .ok (.i2l, 1) := by decide +kernel
theorem dX5_mixFailed_15 : decode cX5_mixFailed 15 = .ok (.invokevirtual 267, 3) := by decide +kernel
theorem dX5_mixFailed_18 : decode cX5_mixFailed 18 = .ok (.iinc 2 1, 3) := by decide +kernel
theorem dX5_mixFailed_21 : decode cX5_mixFailed 21 = .ok (.goto (-19), 3) := by decide +kernel
theorem dX5_mixFailed_24 : decode cX5_mixFailed 24 = .ok (.return_, 1) := by decide +kernel
theorem dX5_mixMap_0 : decode cX5_mixMap 0 = .ok (.iconst 0, 1) := by decide +kernel
theorem dX5_mixMap_1 : decode cX5_mixMap 1 = .ok (.istore_n 1, 1) := by decide +kernel
theorem dX5_mixMap_2 : decode cX5_mixMap 2 = .ok (.iload_n 1, 1) := by decide +kernel
theorem dX5_mixMap_3 : decode cX5_mixMap 3 = .ok (.aload_n 0, 1) := by decide +kernel
theorem dX5_mixMap_4 : decode cX5_mixMap 4 = .ok (.getfield 7, 3) := by decide +kernel
theorem dX5_mixMap_7 : decode cX5_mixMap 7 = .ok (.iconst 3, 1) := by decide +kernel
theorem dX5_mixMap_8 : decode cX5_mixMap 8 = .ok (.iaload, 1) := by decide +kernel
theorem dX5_mixMap_9 : decode cX5_mixMap 9 = .ok (.if_icmp .ge 19, 3) := by decide +kernel
theorem dX5_mixMap_12 : decode cX5_mixMap 12 = .ok (.aload_n 0, 1) := by decide +kernel
theorem dX5_mixMap_13 : decode cX5_mixMap 13 = .ok (.aload_n 0, 1) := by decide +kernel
theorem dX5_mixMap_14 : decode cX5_mixMap 14 = .ok (.iload_n 1, 1) := by decide +kernel
theorem dX5_mixMap_15 : decode cX5_mixMap 15 = .ok (.invokevirtual 58, 3) := by decide +kernel
theorem dX5_mixMap_18 : decode cX5_mixMap 18 = .ok (.i2l, 1) := by decide +kernel
theorem dX5_mixMap_19 : decode cX5_mixMap 19 = .ok (.invokevirtual 267, 3) := by decide +kernel
theorem dX5_mixMap_22 : decode cX5_mixMap 22 = .ok (.iinc 1 1, 3) := by decide +kernel
theorem dX5_mixMap_25 : decode cX5_mixMap 25 = .ok (.goto (-23), 3) := by decide +kernel
theorem dX5_mixMap_28 : decode cX5_mixMap 28 = .ok (.aload_n 0, 1) := by decide +kernel
theorem dX5_mixMap_29 : decode cX5_mixMap 29 = .ok (.invokevirtual 130, 3) := by decide +kernel
theorem dX5_mixMap_32 : decode cX5_mixMap 32 = .ok (.iconst 0, 1) := by decide +kernel
theorem dX5_mixMap_33 : decode cX5_mixMap 33 = .ok (.istore_n 1, 1) := by decide +kernel
theorem dX5_mixMap_34 : decode cX5_mixMap 34 = .ok (.iload_n 1, 1) := by decide +kernel
theorem dX5_mixMap_35 : decode cX5_mixMap 35 = .ok (.aload_n 0, 1) := by decide +kernel
theorem dX5_mixMap_36 : decode cX5_mixMap 36 = .ok (.getfield 72, 3) := by decide +kernel
theorem dX5_mixMap_39 : decode cX5_mixMap 39 = .ok (.if_icmp .ge 33, 3) := by decide +kernel
theorem dX5_mixMap_42 : decode cX5_mixMap 42 = .ok (.iconst 0, 1) := by decide +kernel
theorem dX5_mixMap_43 : decode cX5_mixMap 43 = .ok (.istore_n 2, 1) := by decide +kernel
theorem dX5_mixMap_44 : decode cX5_mixMap 44 = .ok (.iload_n 2, 1) := by decide +kernel
theorem dX5_mixMap_45 : decode cX5_mixMap 45 = .ok (.iconst 5, 1) := by decide +kernel
theorem dX5_mixMap_46 : decode cX5_mixMap 46 = .ok (.if_icmp .gt 20, 3) := by decide +kernel
theorem dX5_mixMap_49 : decode cX5_mixMap 49 = .ok (.aload_n 0, 1) := by decide +kernel
theorem dX5_mixMap_50 : decode cX5_mixMap 50 = .ok (.aload_n 0, 1) := by decide +kernel
theorem dX5_mixMap_51 : decode cX5_mixMap 51 = .ok (.iload_n 1, 1) := by decide +kernel
theorem dX5_mixMap_52 : decode cX5_mixMap 52 = .ok (.iload_n 2, 1) := by decide +kernel
theorem dX5_mixMap_53 : decode cX5_mixMap 53 = .ok (.invokevirtual 214, 3) := by decide +kernel
theorem dX5_mixMap_56 : decode cX5_mixMap 56 = .ok (.i2l, 1) := by decide +kernel
theorem dX5_mixMap_57 : decode cX5_mixMap 57 = .ok (.invokevirtual 267, 3) := by decide +kernel
theorem dX5_mixMap_60 : decode cX5_mixMap 60 = .ok (.iinc 2 1, 3) := by decide +kernel
theorem dX5_mixMap_63 : decode cX5_mixMap 63 = .ok (.goto (-19), 3) := by decide +kernel
theorem dX5_mixMap_66 : decode cX5_mixMap 66 = .ok (.iinc 1 1, 3) := by decide +kernel
theorem dX5_mixMap_69 : decode cX5_mixMap 69 = .ok (.goto (-35), 3) := by decide +kernel
theorem dX5_mixMap_72 : decode cX5_mixMap 72 = .ok (.iconst 0, 1) := by decide +kernel
theorem dX5_mixMap_73 : decode cX5_mixMap 73 = .ok (.istore_n 1, 1) := by decide +kernel
theorem dX5_mixMap_74 : decode cX5_mixMap 74 = .ok (.iload_n 1, 1) := by decide +kernel
theorem dX5_mixMap_75 : decode cX5_mixMap 75 = .ok (.sipush 576, 3) := by decide +kernel
theorem dX5_mixMap_78 : decode cX5_mixMap 78 = .ok (.if_icmp .ge 34, 3) := by decide +kernel
theorem dX5_mixMap_81 : decode cX5_mixMap 81 = .ok (.aload_n 0, 1) := by decide +kernel
theorem dX5_mixMap_82 : decode cX5_mixMap 82 = .ok (.iload_n 1, 1) := by decide +kernel
theorem dX5_mixMap_83 : decode cX5_mixMap 83 = .ok (.invokevirtual 207, 3) := by decide +kernel
theorem dX5_mixMap_86 : decode cX5_mixMap 86 = .ok (.ifCond .eq 20, 3) := by decide +kernel
theorem dX5_mixMap_89 : decode cX5_mixMap 89 = .ok (.aload_n 0, 1) := by decide +kernel
theorem dX5_mixMap_90 : decode cX5_mixMap 90 = .ok (.iload_n 1, 1) := by decide +kernel
theorem dX5_mixMap_91 : decode cX5_mixMap 91 = .ok (.i2l, 1) := by decide +kernel
theorem dX5_mixMap_92 : decode cX5_mixMap 92 = .ok (.invokevirtual 267, 3) := by decide +kernel
theorem dX5_mixMap_95 : decode cX5_mixMap 95 = .ok (.aload_n 0, 1) := by decide +kernel
theorem dX5_mixMap_96 : decode cX5_mixMap 96 = .ok (.aload_n 0, 1) := by decide +kernel
theorem dX5_mixMap_97 : decode cX5_mixMap 97 = .ok (.getfield 40, 3) := by decide +kernel
theorem dX5_mixMap_100 : decode cX5_mixMap 100 = .ok (.iload_n 1, 1) := by decide +kernel
theorem dX5_mixMap_101 : decode cX5_mixMap 101 = .ok (.iaload, 1) := by decide +kernel
theorem dX5_mixMap_102 : decode cX5_mixMap 102 = .ok (.i2l, 1) := by decide +kernel
theorem dX5_mixMap_103 : decode cX5_mixMap 103 = .ok (.invokevirtual 267, 3) := by decide +kernel
theorem dX5_mixMap_106 : decode cX5_mixMap 106 = .ok (.iinc 1 1, 3) := by decide +kernel
theorem dX5_mixMap_109 : decode cX5_mixMap 109 = .ok (.goto (-35), 3) := by decide +kernel
theorem dX5_mixMap_112 : decode cX5_mixMap 112 = .ok (.iconst 0, 1) := by decide +kernel
theorem dX5_mixMap_113 : decode cX5_mixMap 113 = .ok (.istore_n 1, 1) := by decide +kernel
theorem dX5_mixMap_114 : decode cX5_mixMap 114 = .ok (.iload_n 1, 1) := by decide +kernel
theorem dX5_mixMap_115 : decode cX5_mixMap 115 = .ok (.sipush 480, 3) := by decide +kernel
theorem dX5_mixMap_118 : decode cX5_mixMap 118 = .ok (.if_icmp .ge 48, 3) := by decide +kernel
theorem dX5_mixMap_121 : decode cX5_mixMap 121 = .ok (.aload_n 0, 1) := by decide +kernel
theorem dX5_mixMap_122 : decode cX5_mixMap 122 = .ok (.iload_n 1, 1) := by decide +kernel
theorem dX5_mixMap_123 : decode cX5_mixMap 123 = .ok (.invokevirtual 111, 3) := by decide +kernel
theorem dX5_mixMap_126 : decode cX5_mixMap 126 = .ok (.iconst (-1), 1) := by decide +kernel
theorem dX5_mixMap_127 : decode cX5_mixMap 127 = .ok (.if_icmp .eq 33, 3) := by decide +kernel
theorem dX5_mixMap_130 : decode cX5_mixMap 130 = .ok (.aload_n 0, 1) := by decide +kernel
theorem dX5_mixMap_131 : decode cX5_mixMap 131 = .ok (.iload_n 1, 1) := by decide +kernel
theorem dX5_mixMap_132 : decode cX5_mixMap 132 = .ok (.i2l, 1) := by decide +kernel
theorem dX5_mixMap_133 : decode cX5_mixMap 133 = .ok (.invokevirtual 267, 3) := by decide +kernel
theorem dX5_mixMap_136 : decode cX5_mixMap 136 = .ok (.aload_n 0, 1) := by decide +kernel
theorem dX5_mixMap_137 : decode cX5_mixMap 137 = .ok (.aload_n 0, 1) := by decide +kernel
theorem dX5_mixMap_138 : decode cX5_mixMap 138 = .ok (.getfield 7, 3) := by decide +kernel
theorem dX5_mixMap_141 : decode cX5_mixMap 141 = .ok (.bipush 18, 2) := by decide +kernel
theorem dX5_mixMap_143 : decode cX5_mixMap 143 = .ok (.iload_n 1, 1) := by decide +kernel
theorem dX5_mixMap_144 : decode cX5_mixMap 144 = .ok (.iadd, 1) := by decide +kernel
theorem dX5_mixMap_145 : decode cX5_mixMap 145 = .ok (.iaload, 1) := by decide +kernel
theorem dX5_mixMap_146 : decode cX5_mixMap 146 = .ok (.i2l, 1) := by decide +kernel
theorem dX5_mixMap_147 : decode cX5_mixMap 147 = .ok (.invokevirtual 267, 3) := by decide +kernel
theorem dX5_mixMap_150 : decode cX5_mixMap 150 = .ok (.aload_n 0, 1) := by decide +kernel
theorem dX5_mixMap_151 : decode cX5_mixMap 151 = .ok (.aload_n 0, 1) := by decide +kernel
theorem dX5_mixMap_152 : decode cX5_mixMap 152 = .ok (.iload_n 1, 1) := by decide +kernel
theorem dX5_mixMap_153 : decode cX5_mixMap 153 = .ok (.invokevirtual 111, 3) := by decide +kernel
theorem dX5_mixMap_156 : decode cX5_mixMap 156 = .ok (.i2l, 1) := by decide +kernel
theorem dX5_mixMap_157 : decode cX5_mixMap 157 = .ok (.invokevirtual 267, 3) := by decide +kernel
theorem dX5_mixMap_160 : decode cX5_mixMap 160 = .ok (.iinc 1 1, 3) := by decide +kernel
theorem dX5_mixMap_163 : decode cX5_mixMap 163 = .ok (.goto (-49), 3) := by decide +kernel
theorem dX5_mixMap_166 : decode cX5_mixMap 166 = .ok (.return_, 1) := by decide +kernel
theorem dX5_digest_0 : decode cX5_digest 0 = .ok (.aload_n 0, 1) := by decide +kernel
theorem dX5_digest_1 : decode cX5_digest 1 = .ok (.iconst 0, 1) := by decide +kernel
theorem dX5_digest_2 : decode cX5_digest 2 = .ok (.putfield 50, 3) := by decide +kernel
theorem dX5_digest_5 : decode cX5_digest 5 = .ok (.aload_n 0, 1) := by decide +kernel
theorem dX5_digest_6 : decode cX5_digest 6 = .ok (.ldc2_w 271, 3) := by decide +kernel
theorem dX5_digest_9 : decode cX5_digest 9 = .ok (.putfield 263, 3) := by decide +kernel
theorem dX5_digest_12 : decode cX5_digest 12 = .ok (.iconst 0, 1) := by decide +kernel
theorem dX5_digest_13 : decode cX5_digest 13 = .ok (.istore_n 1, 1) := by decide +kernel
theorem dX5_digest_14 : decode cX5_digest 14 = .ok (.iload_n 1, 1) := by decide +kernel
theorem dX5_digest_15 : decode cX5_digest 15 = .ok (.bipush 9, 2) := by decide +kernel
theorem dX5_digest_17 : decode cX5_digest 17 = .ok (.if_icmp .gt 19, 3) := by decide +kernel
theorem dX5_digest_20 : decode cX5_digest 20 = .ok (.aload_n 0, 1) := by decide +kernel
theorem dX5_digest_21 : decode cX5_digest 21 = .ok (.aload_n 0, 1) := by decide +kernel
theorem dX5_digest_22 : decode cX5_digest 22 = .ok (.iload_n 1, 1) := by decide +kernel
theorem dX5_digest_23 : decode cX5_digest 23 = .ok (.invokevirtual 226, 3) := by decide +kernel
theorem dX5_digest_26 : decode cX5_digest 26 = .ok (.i2l, 1) := by decide +kernel
theorem dX5_digest_27 : decode cX5_digest 27 = .ok (.invokevirtual 267, 3) := by decide +kernel
theorem dX5_digest_30 : decode cX5_digest 30 = .ok (.iinc 1 1, 3) := by decide +kernel
theorem dX5_digest_33 : decode cX5_digest 33 = .ok (.goto (-19), 3) := by decide +kernel
theorem dX5_digest_36 : decode cX5_digest 36 = .ok (.iconst 0, 1) := by decide +kernel
theorem dX5_digest_37 : decode cX5_digest 37 = .ok (.istore_n 1, 1) := by decide +kernel
theorem dX5_digest_38 : decode cX5_digest 38 = .ok (.iload_n 1, 1) := by decide +kernel
theorem dX5_digest_39 : decode cX5_digest 39 = .ok (.iconst 2, 1) := by decide +kernel
theorem dX5_digest_40 : decode cX5_digest 40 = .ok (.if_icmp .gt 22, 3) := by decide +kernel
theorem dX5_digest_43 : decode cX5_digest 43 = .ok (.aload_n 0, 1) := by decide +kernel
theorem dX5_digest_44 : decode cX5_digest 44 = .ok (.aload_n 0, 1) := by decide +kernel
theorem dX5_digest_45 : decode cX5_digest 45 = .ok (.getfield 7, 3) := by decide +kernel
theorem dX5_digest_48 : decode cX5_digest 48 = .ok (.iconst 0, 1) := by decide +kernel
theorem dX5_digest_49 : decode cX5_digest 49 = .ok (.iload_n 1, 1) := by decide +kernel
theorem dX5_digest_50 : decode cX5_digest 50 = .ok (.iadd, 1) := by decide +kernel
theorem dX5_digest_51 : decode cX5_digest 51 = .ok (.iaload, 1) := by decide +kernel
theorem dX5_digest_52 : decode cX5_digest 52 = .ok (.i2l, 1) := by decide +kernel
theorem dX5_digest_53 : decode cX5_digest 53 = .ok (.invokevirtual 267, 3) := by decide +kernel
theorem dX5_digest_56 : decode cX5_digest 56 = .ok (.iinc 1 1, 3) := by decide +kernel
theorem dX5_digest_59 : decode cX5_digest 59 = .ok (.goto (-21), 3) := by decide +kernel
theorem dX5_digest_62 : decode cX5_digest 62 = .ok (.aload_n 0, 1) := by decide +kernel
theorem dX5_digest_63 : decode cX5_digest 63 = .ok (.invokevirtual 273, 3) := by decide +kernel
theorem dX5_digest_66 : decode cX5_digest 66 = .ok (.aload_n 0, 1) := by decide +kernel
theorem dX5_digest_67 : decode cX5_digest 67 = .ok (.bipush 51, 2) := by decide +kernel
theorem dX5_digest_69 : decode cX5_digest 69 = .ok (.invokevirtual 276, 3) := by decide +kernel
theorem dX5_digest_72 : decode cX5_digest 72 = .ok (.aload_n 0, 1) := by decide +kernel
theorem dX5_digest_73 : decode cX5_digest 73 = .ok (.sipush 250, 3) := by decide +kernel
theorem dX5_digest_76 : decode cX5_digest 76 = .ok (.invokevirtual 276, 3) := by decide +kernel
theorem dX5_digest_79 : decode cX5_digest 79 = .ok (.aload_n 0, 1) := by decide +kernel
theorem dX5_digest_80 : decode cX5_digest 80 = .ok (.sipush 509, 3) := by decide +kernel
theorem dX5_digest_83 : decode cX5_digest 83 = .ok (.invokevirtual 276, 3) := by decide +kernel
theorem dX5_digest_86 : decode cX5_digest 86 = .ok (.aload_n 0, 1) := by decide +kernel
theorem dX5_digest_87 : decode cX5_digest 87 = .ok (.aload_n 0, 1) := by decide +kernel
theorem dX5_digest_88 : decode cX5_digest 88 = .ok (.invokevirtual 238, 3) := by decide +kernel
theorem dX5_digest_91 : decode cX5_digest 91 = .ok (.i2l, 1) := by decide +kernel
theorem dX5_digest_92 : decode cX5_digest 92 = .ok (.invokevirtual 267, 3) := by decide +kernel
theorem dX5_digest_95 : decode cX5_digest 95 = .ok (.aload_n 0, 1) := by decide +kernel
theorem dX5_digest_96 : decode cX5_digest 96 = .ok (.aload_n 0, 1) := by decide +kernel
theorem dX5_digest_97 : decode cX5_digest 97 = .ok (.invokevirtual 241, 3) := by decide +kernel
theorem dX5_digest_100 : decode cX5_digest 100 = .ok (.i2l, 1) := by decide +kernel
theorem dX5_digest_101 : decode cX5_digest 101 = .ok (.invokevirtual 267, 3) := by decide +kernel
theorem dX5_digest_104 : decode cX5_digest 104 = .ok (.aload_n 0, 1) := by decide +kernel
theorem dX5_digest_105 : decode cX5_digest 105 = .ok (.aload_n 0, 1) := by decide +kernel
theorem dX5_digest_106 : decode cX5_digest 106 = .ok (.invokevirtual 249, 3) := by decide +kernel
theorem dX5_digest_109 : decode cX5_digest 109 = .ok (.invokestatic 279, 3) := by decide +kernel
theorem dX5_digest_112 : decode cX5_digest 112 = .ok (.invokevirtual 267, 3) := by decide +kernel
theorem dX5_digest_115 : decode cX5_digest 115 = .ok (.aload_n 0, 1) := by decide +kernel
theorem dX5_digest_116 : decode cX5_digest 116 = .ok (.aload_n 0, 1) := by decide +kernel
theorem dX5_digest_117 : decode cX5_digest 117 = .ok (.getfield 170, 3) := by decide +kernel
theorem dX5_digest_120 : decode cX5_digest 120 = .ok (.i2l, 1) := by decide +kernel
theorem dX5_digest_121 : decode cX5_digest 121 = .ok (.invokevirtual 267, 3) := by decide +kernel
theorem dX5_digest_124 : decode cX5_digest 124 = .ok (.iconst 0, 1) := by decide +kernel
theorem dX5_digest_125 : decode cX5_digest 125 = .ok (.istore_n 1, 1) := by decide +kernel
theorem dX5_digest_126 : decode cX5_digest 126 = .ok (.iload_n 1, 1) := by decide +kernel
theorem dX5_digest_127 : decode cX5_digest 127 = .ok (.aload_n 0, 1) := by decide +kernel
theorem dX5_digest_128 : decode cX5_digest 128 = .ok (.getfield 170, 3) := by decide +kernel
theorem dX5_digest_131 : decode cX5_digest 131 = .ok (.if_icmp .ge 20, 3) := by decide +kernel
theorem dX5_digest_134 : decode cX5_digest 134 = .ok (.aload_n 0, 1) := by decide +kernel
theorem dX5_digest_135 : decode cX5_digest 135 = .ok (.aload_n 0, 1) := by decide +kernel
theorem dX5_digest_136 : decode cX5_digest 136 = .ok (.getfield 19, 3) := by decide +kernel
theorem dX5_digest_139 : decode cX5_digest 139 = .ok (.iload_n 1, 1) := by decide +kernel
theorem dX5_digest_140 : decode cX5_digest 140 = .ok (.iaload, 1) := by decide +kernel
theorem dX5_digest_141 : decode cX5_digest 141 = .ok (.i2l, 1) := by decide +kernel
theorem dX5_digest_142 : decode cX5_digest 142 = .ok (.invokevirtual 267, 3) := by decide +kernel
theorem dX5_digest_145 : decode cX5_digest 145 = .ok (.iinc 1 1, 3) := by decide +kernel
theorem dX5_digest_148 : decode cX5_digest 148 = .ok (.goto (-22), 3) := by decide +kernel
theorem dX5_digest_151 : decode cX5_digest 151 = .ok (.aload_n 0, 1) := by decide +kernel
theorem dX5_digest_152 : decode cX5_digest 152 = .ok (.getfield 263, 3) := by decide +kernel
theorem dX5_digest_155 : decode cX5_digest 155 = .ok (.lreturn, 1) := by decide +kernel
theorem dJ6_bitCount_0f7a4_0 : decode cJ6_bitCount_0f7a4 0 = .ok (.iload_n 0, 1) := by decide +kernel
theorem dJ6_bitCount_0f7a4_1 : decode cJ6_bitCount_0f7a4 1 = .ok (.iload_n 0, 1) := by decide +kernel
theorem dJ6_bitCount_0f7a4_2 : decode cJ6_bitCount_0f7a4 2 = .ok (.iconst 1, 1) := by decide +kernel
theorem dJ6_bitCount_0f7a4_3 : decode cJ6_bitCount_0f7a4 3 = .ok (.iushr, 1) := by decide +kernel
theorem dJ6_bitCount_0f7a4_4 : decode cJ6_bitCount_0f7a4 4 = .ok (.ldc_w 265, 3) := by decide +kernel
theorem dJ6_bitCount_0f7a4_7 : decode cJ6_bitCount_0f7a4 7 = .ok (.iand, 1) := by decide +kernel
theorem dJ6_bitCount_0f7a4_8 : decode cJ6_bitCount_0f7a4 8 = .ok (.isub, 1) := by decide +kernel
theorem dJ6_bitCount_0f7a4_9 : decode cJ6_bitCount_0f7a4 9 = .ok (.istore_n 0, 1) := by decide +kernel
theorem dJ6_bitCount_0f7a4_10 : decode cJ6_bitCount_0f7a4 10 = .ok (.iload_n 0, 1) := by decide +kernel
theorem dJ6_bitCount_0f7a4_11 : decode cJ6_bitCount_0f7a4 11 = .ok (.ldc_w 266, 3) := by decide +kernel
theorem dJ6_bitCount_0f7a4_14 : decode cJ6_bitCount_0f7a4 14 = .ok (.iand, 1) := by decide +kernel
theorem dJ6_bitCount_0f7a4_15 : decode cJ6_bitCount_0f7a4 15 = .ok (.iload_n 0, 1) := by decide +kernel
theorem dJ6_bitCount_0f7a4_16 : decode cJ6_bitCount_0f7a4 16 = .ok (.iconst 2, 1) := by decide +kernel
theorem dJ6_bitCount_0f7a4_17 : decode cJ6_bitCount_0f7a4 17 = .ok (.iushr, 1) := by decide +kernel
theorem dJ6_bitCount_0f7a4_18 : decode cJ6_bitCount_0f7a4 18 = .ok (.ldc_w 266, 3) := by decide +kernel
theorem dJ6_bitCount_0f7a4_21 : decode cJ6_bitCount_0f7a4 21 = .ok (.iand, 1) := by decide +kernel
theorem dJ6_bitCount_0f7a4_22 : decode cJ6_bitCount_0f7a4 22 = .ok (.iadd, 1) := by decide +kernel
theorem dJ6_bitCount_0f7a4_23 : decode cJ6_bitCount_0f7a4 23 = .ok (.istore_n 0, 1) := by decide +kernel
theorem dJ6_bitCount_0f7a4_24 : decode cJ6_bitCount_0f7a4 24 = .ok (.iload_n 0, 1) := by decide +kernel
theorem dJ6_bitCount_0f7a4_25 : decode cJ6_bitCount_0f7a4 25 = .ok (.iload_n 0, 1) := by decide +kernel
theorem dJ6_bitCount_0f7a4_26 : decode cJ6_bitCount_0f7a4 26 = .ok (.iconst 4, 1) := by decide +kernel
theorem dJ6_bitCount_0f7a4_27 : decode cJ6_bitCount_0f7a4 27 = .ok (.iushr, 1) := by decide +kernel
theorem dJ6_bitCount_0f7a4_28 : decode cJ6_bitCount_0f7a4 28 = .ok (.iadd, 1) := by decide +kernel
theorem dJ6_bitCount_0f7a4_29 : decode cJ6_bitCount_0f7a4 29 = .ok (.ldc_w 267, 3) := by decide +kernel
theorem dJ6_bitCount_0f7a4_32 : decode cJ6_bitCount_0f7a4 32 = .ok (.iand, 1) := by decide +kernel
theorem dJ6_bitCount_0f7a4_33 : decode cJ6_bitCount_0f7a4 33 = .ok (.istore_n 0, 1) := by decide +kernel
theorem dJ6_bitCount_0f7a4_34 : decode cJ6_bitCount_0f7a4 34 = .ok (.iload_n 0, 1) := by decide +kernel
theorem dJ6_bitCount_0f7a4_35 : decode cJ6_bitCount_0f7a4 35 = .ok (.iload_n 0, 1) := by decide +kernel
theorem dJ6_bitCount_0f7a4_36 : decode cJ6_bitCount_0f7a4 36 = .ok (.bipush 8, 2) := by decide +kernel
theorem dJ6_bitCount_0f7a4_38 : decode cJ6_bitCount_0f7a4 38 = .ok (.iushr, 1) := by decide +kernel
theorem dJ6_bitCount_0f7a4_39 : decode cJ6_bitCount_0f7a4 39 = .ok (.iadd, 1) := by decide +kernel
theorem dJ6_bitCount_0f7a4_40 : decode cJ6_bitCount_0f7a4 40 = .ok (.istore_n 0, 1) := by decide +kernel
theorem dJ6_bitCount_0f7a4_41 : decode cJ6_bitCount_0f7a4 41 = .ok (.iload_n 0, 1) := by decide +kernel
theorem dJ6_bitCount_0f7a4_42 : decode cJ6_bitCount_0f7a4 42 = .ok (.iload_n 0, 1) := by decide +kernel
theorem dJ6_bitCount_0f7a4_43 : decode cJ6_bitCount_0f7a4 43 = .ok (.bipush 16, 2) := by decide +kernel
theorem dJ6_bitCount_0f7a4_45 : decode cJ6_bitCount_0f7a4 45 = .ok (.iushr, 1) := by decide +kernel
theorem dJ6_bitCount_0f7a4_46 : decode cJ6_bitCount_0f7a4 46 = .ok (.iadd, 1) := by decide +kernel
theorem dJ6_bitCount_0f7a4_47 : decode cJ6_bitCount_0f7a4 47 = .ok (.istore_n 0, 1) := by decide +kernel
theorem dJ6_bitCount_0f7a4_48 : decode cJ6_bitCount_0f7a4 48 = .ok (.iload_n 0, 1) := by decide +kernel
theorem dJ6_bitCount_0f7a4_49 : decode cJ6_bitCount_0f7a4 49 = .ok (.bipush 63, 2) := by decide +kernel
theorem dJ6_bitCount_0f7a4_51 : decode cJ6_bitCount_0f7a4 51 = .ok (.iand, 1) := by decide +kernel
theorem dJ6_bitCount_0f7a4_52 : decode cJ6_bitCount_0f7a4 52 = .ok (.ireturn, 1) := by decide +kernel
theorem dJ9_abs_0f7a4_0 : decode cJ9_abs_0f7a4 0 = .ok (.iload_n 0, 1) := by decide +kernel
theorem dJ9_abs_0f7a4_1 : decode cJ9_abs_0f7a4 1 = .ok (.ifCond .ge 8, 3) := by decide +kernel
theorem dJ9_abs_0f7a4_4 : decode cJ9_abs_0f7a4 4 = .ok (.iload_n 0, 1) := by decide +kernel
theorem dJ9_abs_0f7a4_5 : decode cJ9_abs_0f7a4 5 = .ok (.ineg, 1) := by decide +kernel
theorem dJ9_abs_0f7a4_6 : decode cJ9_abs_0f7a4 6 = .ok (.goto 4, 3) := by decide +kernel
theorem dJ9_abs_0f7a4_9 : decode cJ9_abs_0f7a4 9 = .ok (.iload_n 0, 1) := by decide +kernel
theorem dJ9_abs_0f7a4_10 : decode cJ9_abs_0f7a4 10 = .ok (.ireturn, 1) := by decide +kernel
theorem dJ9_max_7cf53_0 : decode cJ9_max_7cf53 0 = .ok (.iload_n 0, 1) := by decide +kernel
theorem dJ9_max_7cf53_1 : decode cJ9_max_7cf53 1 = .ok (.iload_n 1, 1) := by decide +kernel
theorem dJ9_max_7cf53_2 : decode cJ9_max_7cf53 2 = .ok (.if_icmp .lt 7, 3) := by decide +kernel
theorem dJ9_max_7cf53_5 : decode cJ9_max_7cf53 5 = .ok (.iload_n 0, 1) := by decide +kernel
theorem dJ9_max_7cf53_6 : decode cJ9_max_7cf53 6 = .ok (.goto 4, 3) := by decide +kernel
theorem dJ9_max_7cf53_9 : decode cJ9_max_7cf53 9 = .ok (.iload_n 1, 1) := by decide +kernel
theorem dJ9_max_7cf53_10 : decode cJ9_max_7cf53 10 = .ok (.ireturn, 1) := by decide +kernel
theorem dJ9_min_7cf53_0 : decode cJ9_min_7cf53 0 = .ok (.iload_n 0, 1) := by decide +kernel
theorem dJ9_min_7cf53_1 : decode cJ9_min_7cf53 1 = .ok (.iload_n 1, 1) := by decide +kernel
theorem dJ9_min_7cf53_2 : decode cJ9_min_7cf53 2 = .ok (.if_icmp .gt 7, 3) := by decide +kernel
theorem dJ9_min_7cf53_5 : decode cJ9_min_7cf53 5 = .ok (.iload_n 0, 1) := by decide +kernel
theorem dJ9_min_7cf53_6 : decode cJ9_min_7cf53 6 = .ok (.goto 4, 3) := by decide +kernel
theorem dJ9_min_7cf53_9 : decode cJ9_min_7cf53 9 = .ok (.iload_n 1, 1) := by decide +kernel
theorem dJ9_min_7cf53_10 : decode cJ9_min_7cf53 10 = .ok (.ireturn, 1) := by decide +kernel
theorem dL_write_0 : decode cL_write 0 = .ok (.aload_n 3, 1) := by decide +kernel
theorem dL_write_1 : decode cL_write 1 = .ok (.iconst 0, 1) := by decide +kernel
theorem dL_write_2 : decode cL_write 2 = .ok (.aload_n 0, 1) := by decide +kernel
theorem dL_write_3 : decode cL_write 3 = .ok (.iload_n 1, 1) := by decide +kernel
theorem dL_write_4 : decode cL_write 4 = .ok (.iload_n 2, 1) := by decide +kernel
theorem dL_write_5 : decode cL_write 5 = .ok (.invokevirtual 7, 3) := by decide +kernel
theorem dL_write_8 : decode cL_write 8 = .ok (.i2l, 1) := by decide +kernel
theorem dL_write_9 : decode cL_write 9 = .ok (.lastore, 1) := by decide +kernel
theorem dL_write_10 : decode cL_write 10 = .ok (.goto 15, 3) := by decide +kernel
theorem dL_write_13 : decode cL_write 13 = .ok (.astore 4, 2) := by decide +kernel
theorem dL_write_15 : decode cL_write 15 = .ok (.iconst 1, 1) := by decide +kernel
theorem dL_write_16 : decode cL_write 16 = .ok (.ireturn, 1) := by decide +kernel
theorem dL_write_17 : decode cL_write 17 = .ok (.astore 4, 2) := by decide +kernel
theorem dL_write_19 : decode cL_write 19 = .ok (.iconst 2, 1) := by decide +kernel
theorem dL_write_20 : decode cL_write 20 = .ok (.ireturn, 1) := by decide +kernel
theorem dL_write_21 : decode cL_write 21 = .ok (.astore 4, 2) := by decide +kernel
theorem dL_write_23 : decode cL_write 23 = .ok (.iconst 3, 1) := by decide +kernel
theorem dL_write_24 : decode cL_write 24 = .ok (.ireturn, 1) := by decide +kernel
theorem dL_write_25 : decode cL_write 25 = .ok (.iconst 0, 1) := by decide +kernel
theorem dL_write_26 : decode cL_write 26 = .ok (.ireturn, 1) := by decide +kernel
theorem dL_fill_0 : decode cL_fill 0 = .ok (.aload 4, 2) := by decide +kernel
theorem dL_fill_2 : decode cL_fill 2 = .ok (.iconst 0, 1) := by decide +kernel
theorem dL_fill_3 : decode cL_fill 3 = .ok (.aload_n 0, 1) := by decide +kernel
theorem dL_fill_4 : decode cL_fill 4 = .ok (.iload_n 1, 1) := by decide +kernel
theorem dL_fill_5 : decode cL_fill 5 = .ok (.iload_n 2, 1) := by decide +kernel
theorem dL_fill_6 : decode cL_fill 6 = .ok (.iload_n 3, 1) := by decide +kernel
theorem dL_fill_7 : decode cL_fill 7 = .ok (.invokevirtual 19, 3) := by decide +kernel
theorem dL_fill_10 : decode cL_fill 10 = .ok (.i2l, 1) := by decide +kernel
theorem dL_fill_11 : decode cL_fill 11 = .ok (.lastore, 1) := by decide +kernel
theorem dL_fill_12 : decode cL_fill 12 = .ok (.goto 11, 3) := by decide +kernel
theorem dL_fill_15 : decode cL_fill 15 = .ok (.astore 5, 2) := by decide +kernel
theorem dL_fill_17 : decode cL_fill 17 = .ok (.iconst 1, 1) := by decide +kernel
theorem dL_fill_18 : decode cL_fill 18 = .ok (.ireturn, 1) := by decide +kernel
theorem dL_fill_19 : decode cL_fill 19 = .ok (.astore 5, 2) := by decide +kernel
theorem dL_fill_21 : decode cL_fill 21 = .ok (.iconst 2, 1) := by decide +kernel
theorem dL_fill_22 : decode cL_fill 22 = .ok (.ireturn, 1) := by decide +kernel
theorem dL_fill_23 : decode cL_fill 23 = .ok (.iconst 0, 1) := by decide +kernel
theorem dL_fill_24 : decode cL_fill 24 = .ok (.ireturn, 1) := by decide +kernel
theorem dL_drop_0 : decode cL_drop 0 = .ok (.aload_n 2, 1) := by decide +kernel
theorem dL_drop_1 : decode cL_drop 1 = .ok (.iconst 0, 1) := by decide +kernel
theorem dL_drop_2 : decode cL_drop 2 = .ok (.aload_n 0, 1) := by decide +kernel
theorem dL_drop_3 : decode cL_drop 3 = .ok (.iload_n 1, 1) := by decide +kernel
theorem dL_drop_4 : decode cL_drop 4 = .ok (.invokevirtual 23, 3) := by decide +kernel
theorem dL_drop_7 : decode cL_drop 7 = .ok (.i2l, 1) := by decide +kernel
theorem dL_drop_8 : decode cL_drop 8 = .ok (.lastore, 1) := by decide +kernel
theorem dL_drop_9 : decode cL_drop 9 = .ok (.goto 6, 3) := by decide +kernel
theorem dL_drop_12 : decode cL_drop 12 = .ok (.astore_n 3, 1) := by decide +kernel
theorem dL_drop_13 : decode cL_drop 13 = .ok (.iconst 1, 1) := by decide +kernel
theorem dL_drop_14 : decode cL_drop 14 = .ok (.ireturn, 1) := by decide +kernel
theorem dL_drop_15 : decode cL_drop 15 = .ok (.iconst 0, 1) := by decide +kernel
theorem dL_drop_16 : decode cL_drop 16 = .ok (.ireturn, 1) := by decide +kernel
theorem dL_fail_0 : decode cL_fail 0 = .ok (.aload_n 3, 1) := by decide +kernel
theorem dL_fail_1 : decode cL_fail 1 = .ok (.iconst 0, 1) := by decide +kernel
theorem dL_fail_2 : decode cL_fail 2 = .ok (.aload_n 0, 1) := by decide +kernel
theorem dL_fail_3 : decode cL_fail 3 = .ok (.iload_n 1, 1) := by decide +kernel
theorem dL_fail_4 : decode cL_fail 4 = .ok (.iload_n 2, 1) := by decide +kernel
theorem dL_fail_5 : decode cL_fail 5 = .ok (.invokevirtual 27, 3) := by decide +kernel
theorem dL_fail_8 : decode cL_fail 8 = .ok (.i2l, 1) := by decide +kernel
theorem dL_fail_9 : decode cL_fail 9 = .ok (.lastore, 1) := by decide +kernel
theorem dL_fail_10 : decode cL_fail 10 = .ok (.goto 11, 3) := by decide +kernel
theorem dL_fail_13 : decode cL_fail 13 = .ok (.astore 4, 2) := by decide +kernel
theorem dL_fail_15 : decode cL_fail 15 = .ok (.iconst 1, 1) := by decide +kernel
theorem dL_fail_16 : decode cL_fail 16 = .ok (.ireturn, 1) := by decide +kernel
theorem dL_fail_17 : decode cL_fail 17 = .ok (.astore 4, 2) := by decide +kernel
theorem dL_fail_19 : decode cL_fail 19 = .ok (.iconst 2, 1) := by decide +kernel
theorem dL_fail_20 : decode cL_fail 20 = .ok (.ireturn, 1) := by decide +kernel
theorem dL_fail_21 : decode cL_fail 21 = .ok (.iconst 0, 1) := by decide +kernel
theorem dL_fail_22 : decode cL_fail 22 = .ok (.ireturn, 1) := by decide +kernel
theorem dL_heal_0 : decode cL_heal 0 = .ok (.aload_n 3, 1) := by decide +kernel
theorem dL_heal_1 : decode cL_heal 1 = .ok (.iconst 0, 1) := by decide +kernel
theorem dL_heal_2 : decode cL_heal 2 = .ok (.aload_n 0, 1) := by decide +kernel
theorem dL_heal_3 : decode cL_heal 3 = .ok (.iload_n 1, 1) := by decide +kernel
theorem dL_heal_4 : decode cL_heal 4 = .ok (.iload_n 2, 1) := by decide +kernel
theorem dL_heal_5 : decode cL_heal 5 = .ok (.invokevirtual 30, 3) := by decide +kernel
theorem dL_heal_8 : decode cL_heal 8 = .ok (.i2l, 1) := by decide +kernel
theorem dL_heal_9 : decode cL_heal 9 = .ok (.lastore, 1) := by decide +kernel
theorem dL_heal_10 : decode cL_heal 10 = .ok (.goto 11, 3) := by decide +kernel
theorem dL_heal_13 : decode cL_heal 13 = .ok (.astore 4, 2) := by decide +kernel
theorem dL_heal_15 : decode cL_heal 15 = .ok (.iconst 1, 1) := by decide +kernel
theorem dL_heal_16 : decode cL_heal 16 = .ok (.ireturn, 1) := by decide +kernel
theorem dL_heal_17 : decode cL_heal 17 = .ok (.astore 4, 2) := by decide +kernel
theorem dL_heal_19 : decode cL_heal 19 = .ok (.iconst 2, 1) := by decide +kernel
theorem dL_heal_20 : decode cL_heal 20 = .ok (.ireturn, 1) := by decide +kernel
theorem dL_heal_21 : decode cL_heal 21 = .ok (.iconst 0, 1) := by decide +kernel
theorem dL_heal_22 : decode cL_heal 22 = .ok (.ireturn, 1) := by decide +kernel
theorem dL_tidy_0 : decode cL_tidy 0 = .ok (.aload_n 2, 1) := by decide +kernel
theorem dL_tidy_1 : decode cL_tidy 1 = .ok (.iconst 0, 1) := by decide +kernel
theorem dL_tidy_2 : decode cL_tidy 2 = .ok (.aload_n 0, 1) := by decide +kernel
theorem dL_tidy_3 : decode cL_tidy 3 = .ok (.iload_n 1, 1) := by decide +kernel
theorem dL_tidy_4 : decode cL_tidy 4 = .ok (.invokevirtual 33, 3) := by decide +kernel
theorem dL_tidy_7 : decode cL_tidy 7 = .ok (.i2l, 1) := by decide +kernel
theorem dL_tidy_8 : decode cL_tidy 8 = .ok (.lastore, 1) := by decide +kernel
theorem dL_tidy_9 : decode cL_tidy 9 = .ok (.goto 6, 3) := by decide +kernel
theorem dL_tidy_12 : decode cL_tidy 12 = .ok (.astore_n 3, 1) := by decide +kernel
theorem dL_tidy_13 : decode cL_tidy 13 = .ok (.iconst 1, 1) := by decide +kernel
theorem dL_tidy_14 : decode cL_tidy 14 = .ok (.ireturn, 1) := by decide +kernel
theorem dL_tidy_15 : decode cL_tidy 15 = .ok (.iconst 0, 1) := by decide +kernel
theorem dL_tidy_16 : decode cL_tidy 16 = .ok (.ireturn, 1) := by decide +kernel
theorem dL_set_0 : decode cL_set 0 = .ok (.aload_n 3, 1) := by decide +kernel
theorem dL_set_1 : decode cL_set 1 = .ok (.iconst 0, 1) := by decide +kernel
theorem dL_set_2 : decode cL_set 2 = .ok (.aload_n 0, 1) := by decide +kernel
theorem dL_set_3 : decode cL_set 3 = .ok (.iload_n 1, 1) := by decide +kernel
theorem dL_set_4 : decode cL_set 4 = .ok (.iload_n 2, 1) := by decide +kernel
theorem dL_set_5 : decode cL_set 5 = .ok (.invokevirtual 36, 3) := by decide +kernel
theorem dL_set_8 : decode cL_set 8 = .ok (.i2l, 1) := by decide +kernel
theorem dL_set_9 : decode cL_set 9 = .ok (.lastore, 1) := by decide +kernel
theorem dL_set_10 : decode cL_set 10 = .ok (.goto 11, 3) := by decide +kernel
theorem dL_set_13 : decode cL_set 13 = .ok (.astore 4, 2) := by decide +kernel
theorem dL_set_15 : decode cL_set 15 = .ok (.iconst 1, 1) := by decide +kernel
theorem dL_set_16 : decode cL_set 16 = .ok (.ireturn, 1) := by decide +kernel
theorem dL_set_17 : decode cL_set 17 = .ok (.astore 4, 2) := by decide +kernel
theorem dL_set_19 : decode cL_set 19 = .ok (.iconst 2, 1) := by decide +kernel
theorem dL_set_20 : decode cL_set 20 = .ok (.ireturn, 1) := by decide +kernel
theorem dL_set_21 : decode cL_set 21 = .ok (.iconst 0, 1) := by decide +kernel
theorem dL_set_22 : decode cL_set 22 = .ok (.ireturn, 1) := by decide +kernel
theorem dL_append_0 : decode cL_append 0 = .ok (.aload_n 2, 1) := by decide +kernel
theorem dL_append_1 : decode cL_append 1 = .ok (.iconst 0, 1) := by decide +kernel
theorem dL_append_2 : decode cL_append 2 = .ok (.aload_n 0, 1) := by decide +kernel
theorem dL_append_3 : decode cL_append 3 = .ok (.iload_n 1, 1) := by decide +kernel
theorem dL_append_4 : decode cL_append 4 = .ok (.invokevirtual 39, 3) := by decide +kernel
theorem dL_append_7 : decode cL_append 7 = .ok (.i2l, 1) := by decide +kernel
theorem dL_append_8 : decode cL_append 8 = .ok (.lastore, 1) := by decide +kernel
theorem dL_append_9 : decode cL_append 9 = .ok (.goto 9, 3) := by decide +kernel
theorem dL_append_12 : decode cL_append 12 = .ok (.astore_n 3, 1) := by decide +kernel
theorem dL_append_13 : decode cL_append 13 = .ok (.iconst 1, 1) := by decide +kernel
theorem dL_append_14 : decode cL_append 14 = .ok (.ireturn, 1) := by decide +kernel
theorem dL_append_15 : decode cL_append 15 = .ok (.astore_n 3, 1) := by decide +kernel
theorem dL_append_16 : decode cL_append 16 = .ok (.iconst 2, 1) := by decide +kernel
theorem dL_append_17 : decode cL_append 17 = .ok (.ireturn, 1) := by decide +kernel
theorem dL_append_18 : decode cL_append 18 = .ok (.iconst 0, 1) := by decide +kernel
theorem dL_append_19 : decode cL_append 19 = .ok (.ireturn, 1) := by decide +kernel
theorem dL_read_0 : decode cL_read 0 = .ok (.aload_n 1, 1) := by decide +kernel
theorem dL_read_1 : decode cL_read 1 = .ok (.iconst 0, 1) := by decide +kernel
theorem dL_read_2 : decode cL_read 2 = .ok (.aload_n 0, 1) := by decide +kernel
theorem dL_read_3 : decode cL_read 3 = .ok (.invokevirtual 42, 3) := by decide +kernel
theorem dL_read_6 : decode cL_read 6 = .ok (.i2l, 1) := by decide +kernel
theorem dL_read_7 : decode cL_read 7 = .ok (.lastore, 1) := by decide +kernel
theorem dL_read_8 : decode cL_read 8 = .ok (.goto 6, 3) := by decide +kernel
theorem dL_read_11 : decode cL_read 11 = .ok (.astore_n 2, 1) := by decide +kernel
theorem dL_read_12 : decode cL_read 12 = .ok (.iconst 1, 1) := by decide +kernel
theorem dL_read_13 : decode cL_read 13 = .ok (.ireturn, 1) := by decide +kernel
theorem dL_read_14 : decode cL_read 14 = .ok (.iconst 0, 1) := by decide +kernel
theorem dL_read_15 : decode cL_read 15 = .ok (.ireturn, 1) := by decide +kernel
theorem dL_undo_0 : decode cL_undo 0 = .ok (.aload_n 1, 1) := by decide +kernel
theorem dL_undo_1 : decode cL_undo 1 = .ok (.iconst 0, 1) := by decide +kernel
theorem dL_undo_2 : decode cL_undo 2 = .ok (.aload_n 0, 1) := by decide +kernel
theorem dL_undo_3 : decode cL_undo 3 = .ok (.invokevirtual 46, 3) := by decide +kernel
theorem dL_undo_6 : decode cL_undo 6 = .ok (.i2l, 1) := by decide +kernel
theorem dL_undo_7 : decode cL_undo 7 = .ok (.lastore, 1) := by decide +kernel
theorem dL_undo_8 : decode cL_undo 8 = .ok (.goto 6, 3) := by decide +kernel
theorem dL_undo_11 : decode cL_undo 11 = .ok (.astore_n 2, 1) := by decide +kernel
theorem dL_undo_12 : decode cL_undo 12 = .ok (.iconst 1, 1) := by decide +kernel
theorem dL_undo_13 : decode cL_undo 13 = .ok (.ireturn, 1) := by decide +kernel
theorem dL_undo_14 : decode cL_undo 14 = .ok (.iconst 0, 1) := by decide +kernel
theorem dL_undo_15 : decode cL_undo 15 = .ok (.ireturn, 1) := by decide +kernel
theorem dL_cell_0 : decode cL_cell 0 = .ok (.aload 4, 2) := by decide +kernel
theorem dL_cell_2 : decode cL_cell 2 = .ok (.iconst 0, 1) := by decide +kernel
theorem dL_cell_3 : decode cL_cell 3 = .ok (.aload_n 0, 1) := by decide +kernel
theorem dL_cell_4 : decode cL_cell 4 = .ok (.iload_n 1, 1) := by decide +kernel
theorem dL_cell_5 : decode cL_cell 5 = .ok (.iload_n 2, 1) := by decide +kernel
theorem dL_cell_6 : decode cL_cell 6 = .ok (.iload_n 3, 1) := by decide +kernel
theorem dL_cell_7 : decode cL_cell 7 = .ok (.invokevirtual 49, 3) := by decide +kernel
theorem dL_cell_10 : decode cL_cell 10 = .ok (.i2l, 1) := by decide +kernel
theorem dL_cell_11 : decode cL_cell 11 = .ok (.lastore, 1) := by decide +kernel
theorem dL_cell_12 : decode cL_cell 12 = .ok (.goto 7, 3) := by decide +kernel
theorem dL_cell_15 : decode cL_cell 15 = .ok (.astore 5, 2) := by decide +kernel
theorem dL_cell_17 : decode cL_cell 17 = .ok (.iconst 1, 1) := by decide +kernel
theorem dL_cell_18 : decode cL_cell 18 = .ok (.ireturn, 1) := by decide +kernel
theorem dL_cell_19 : decode cL_cell 19 = .ok (.iconst 0, 1) := by decide +kernel
theorem dL_cell_20 : decode cL_cell 20 = .ok (.ireturn, 1) := by decide +kernel
theorem dL_block_0 : decode cL_block 0 = .ok (.aload_n 3, 1) := by decide +kernel
theorem dL_block_1 : decode cL_block 1 = .ok (.iconst 0, 1) := by decide +kernel
theorem dL_block_2 : decode cL_block 2 = .ok (.aload_n 0, 1) := by decide +kernel
theorem dL_block_3 : decode cL_block 3 = .ok (.iload_n 1, 1) := by decide +kernel
theorem dL_block_4 : decode cL_block 4 = .ok (.iload_n 2, 1) := by decide +kernel
theorem dL_block_5 : decode cL_block 5 = .ok (.invokevirtual 52, 3) := by decide +kernel
theorem dL_block_8 : decode cL_block 8 = .ok (.i2l, 1) := by decide +kernel
theorem dL_block_9 : decode cL_block 9 = .ok (.lastore, 1) := by decide +kernel
theorem dL_block_10 : decode cL_block 10 = .ok (.goto 11, 3) := by decide +kernel
theorem dL_block_13 : decode cL_block 13 = .ok (.astore 4, 2) := by decide +kernel
theorem dL_block_15 : decode cL_block 15 = .ok (.iconst 1, 1) := by decide +kernel
theorem dL_block_16 : decode cL_block 16 = .ok (.ireturn, 1) := by decide +kernel
theorem dL_block_17 : decode cL_block 17 = .ok (.astore 4, 2) := by decide +kernel
theorem dL_block_19 : decode cL_block 19 = .ok (.iconst 2, 1) := by decide +kernel
theorem dL_block_20 : decode cL_block 20 = .ok (.ireturn, 1) := by decide +kernel
theorem dL_block_21 : decode cL_block 21 = .ok (.iconst 0, 1) := by decide +kernel
theorem dL_block_22 : decode cL_block 22 = .ok (.ireturn, 1) := by decide +kernel
theorem dL_line_0 : decode cL_line 0 = .ok (.aload_n 3, 1) := by decide +kernel
theorem dL_line_1 : decode cL_line 1 = .ok (.iconst 0, 1) := by decide +kernel
theorem dL_line_2 : decode cL_line 2 = .ok (.aload_n 0, 1) := by decide +kernel
theorem dL_line_3 : decode cL_line 3 = .ok (.iload_n 1, 1) := by decide +kernel
theorem dL_line_4 : decode cL_line 4 = .ok (.iload_n 2, 1) := by decide +kernel
theorem dL_line_5 : decode cL_line 5 = .ok (.invokevirtual 55, 3) := by decide +kernel
theorem dL_line_8 : decode cL_line 8 = .ok (.i2l, 1) := by decide +kernel
theorem dL_line_9 : decode cL_line 9 = .ok (.lastore, 1) := by decide +kernel
theorem dL_line_10 : decode cL_line 10 = .ok (.goto 11, 3) := by decide +kernel
theorem dL_line_13 : decode cL_line 13 = .ok (.astore 4, 2) := by decide +kernel
theorem dL_line_15 : decode cL_line 15 = .ok (.iconst 1, 1) := by decide +kernel
theorem dL_line_16 : decode cL_line 16 = .ok (.ireturn, 1) := by decide +kernel
theorem dL_line_17 : decode cL_line 17 = .ok (.astore 4, 2) := by decide +kernel
theorem dL_line_19 : decode cL_line 19 = .ok (.iconst 2, 1) := by decide +kernel
theorem dL_line_20 : decode cL_line 20 = .ok (.ireturn, 1) := by decide +kernel
theorem dL_line_21 : decode cL_line 21 = .ok (.iconst 0, 1) := by decide +kernel
theorem dL_line_22 : decode cL_line 22 = .ok (.ireturn, 1) := by decide +kernel
theorem dL_count_0 : decode cL_count 0 = .ok (.aload_n 2, 1) := by decide +kernel
theorem dL_count_1 : decode cL_count 1 = .ok (.iconst 0, 1) := by decide +kernel
theorem dL_count_2 : decode cL_count 2 = .ok (.aload_n 0, 1) := by decide +kernel
theorem dL_count_3 : decode cL_count 3 = .ok (.iload_n 1, 1) := by decide +kernel
theorem dL_count_4 : decode cL_count 4 = .ok (.invokevirtual 58, 3) := by decide +kernel
theorem dL_count_7 : decode cL_count 7 = .ok (.i2l, 1) := by decide +kernel
theorem dL_count_8 : decode cL_count 8 = .ok (.lastore, 1) := by decide +kernel
theorem dL_count_9 : decode cL_count 9 = .ok (.goto 6, 3) := by decide +kernel
theorem dL_count_12 : decode cL_count 12 = .ok (.astore_n 3, 1) := by decide +kernel
theorem dL_count_13 : decode cL_count 13 = .ok (.iconst 1, 1) := by decide +kernel
theorem dL_count_14 : decode cL_count 14 = .ok (.ireturn, 1) := by decide +kernel
theorem dL_count_15 : decode cL_count 15 = .ok (.iconst 0, 1) := by decide +kernel
theorem dL_count_16 : decode cL_count 16 = .ok (.ireturn, 1) := by decide +kernel
theorem dL_setting_0 : decode cL_setting 0 = .ok (.aload_n 2, 1) := by decide +kernel
theorem dL_setting_1 : decode cL_setting 1 = .ok (.iconst 0, 1) := by decide +kernel
theorem dL_setting_2 : decode cL_setting 2 = .ok (.aload_n 0, 1) := by decide +kernel
theorem dL_setting_3 : decode cL_setting 3 = .ok (.iload_n 1, 1) := by decide +kernel
theorem dL_setting_4 : decode cL_setting 4 = .ok (.invokevirtual 61, 3) := by decide +kernel
theorem dL_setting_7 : decode cL_setting 7 = .ok (.i2l, 1) := by decide +kernel
theorem dL_setting_8 : decode cL_setting 8 = .ok (.lastore, 1) := by decide +kernel
theorem dL_setting_9 : decode cL_setting 9 = .ok (.goto 6, 3) := by decide +kernel
theorem dL_setting_12 : decode cL_setting 12 = .ok (.astore_n 3, 1) := by decide +kernel
theorem dL_setting_13 : decode cL_setting 13 = .ok (.iconst 1, 1) := by decide +kernel
theorem dL_setting_14 : decode cL_setting 14 = .ok (.ireturn, 1) := by decide +kernel
theorem dL_setting_15 : decode cL_setting 15 = .ok (.iconst 0, 1) := by decide +kernel
theorem dL_setting_16 : decode cL_setting 16 = .ok (.ireturn, 1) := by decide +kernel
theorem dL_ifFailed_0 : decode cL_ifFailed 0 = .ok (.aload 4, 2) := by decide +kernel
theorem dL_ifFailed_2 : decode cL_ifFailed 2 = .ok (.iconst 0, 1) := by decide +kernel
theorem dL_ifFailed_3 : decode cL_ifFailed 3 = .ok (.aload_n 0, 1) := by decide +kernel
theorem dL_ifFailed_4 : decode cL_ifFailed 4 = .ok (.iload_n 1, 1) := by decide +kernel
theorem dL_ifFailed_5 : decode cL_ifFailed 5 = .ok (.iload_n 2, 1) := by decide +kernel
theorem dL_ifFailed_6 : decode cL_ifFailed 6 = .ok (.iload_n 3, 1) := by decide +kernel
theorem dL_ifFailed_7 : decode cL_ifFailed 7 = .ok (.invokevirtual 64, 3) := by decide +kernel
theorem dL_ifFailed_10 : decode cL_ifFailed 10 = .ok (.i2l, 1) := by decide +kernel
theorem dL_ifFailed_11 : decode cL_ifFailed 11 = .ok (.lastore, 1) := by decide +kernel
theorem dL_ifFailed_12 : decode cL_ifFailed 12 = .ok (.goto 7, 3) := by decide +kernel
theorem dL_ifFailed_15 : decode cL_ifFailed 15 = .ok (.astore 5, 2) := by decide +kernel
theorem dL_ifFailed_17 : decode cL_ifFailed 17 = .ok (.iconst 1, 1) := by decide +kernel
theorem dL_ifFailed_18 : decode cL_ifFailed 18 = .ok (.ireturn, 1) := by decide +kernel
theorem dL_ifFailed_19 : decode cL_ifFailed 19 = .ok (.iconst 0, 1) := by decide +kernel
theorem dL_ifFailed_20 : decode cL_ifFailed 20 = .ok (.ireturn, 1) := by decide +kernel
theorem dL_find_0 : decode cL_find 0 = .ok (.aload_n 2, 1) := by decide +kernel
theorem dL_find_1 : decode cL_find 1 = .ok (.iconst 0, 1) := by decide +kernel
theorem dL_find_2 : decode cL_find 2 = .ok (.aload_n 0, 1) := by decide +kernel
theorem dL_find_3 : decode cL_find 3 = .ok (.iload_n 1, 1) := by decide +kernel
theorem dL_find_4 : decode cL_find 4 = .ok (.invokevirtual 67, 3) := by decide +kernel
theorem dL_find_7 : decode cL_find 7 = .ok (.i2l, 1) := by decide +kernel
theorem dL_find_8 : decode cL_find 8 = .ok (.lastore, 1) := by decide +kernel
theorem dL_find_9 : decode cL_find 9 = .ok (.goto 6, 3) := by decide +kernel
theorem dL_find_12 : decode cL_find 12 = .ok (.astore_n 3, 1) := by decide +kernel
theorem dL_find_13 : decode cL_find 13 = .ok (.iconst 1, 1) := by decide +kernel
theorem dL_find_14 : decode cL_find 14 = .ok (.ireturn, 1) := by decide +kernel
theorem dL_find_15 : decode cL_find 15 = .ok (.iconst 0, 1) := by decide +kernel
theorem dL_find_16 : decode cL_find 16 = .ok (.ireturn, 1) := by decide +kernel
theorem dL_law_0 : decode cL_law 0 = .ok (.new 8, 3) := by decide +kernel
theorem dL_law_3 : decode cL_law 3 = .ok (.dup, 1) := by decide +kernel
theorem dL_law_4 : decode cL_law 4 = .ok (.invokespecial 70, 3) := by decide +kernel
theorem dL_law_7 : decode cL_law 7 = .ok (.astore_n 1, 1) := by decide +kernel
theorem dL_law_8 : decode cL_law 8 = .ok (.new 71, 3) := by decide +kernel
theorem dL_law_11 : decode cL_law 11 = .ok (.dup, 1) := by decide +kernel
theorem dL_law_12 : decode cL_law 12 = .ok (.invokespecial 73, 3) := by decide +kernel
theorem dL_law_15 : decode cL_law 15 = .ok (.astore_n 2, 1) := by decide +kernel
theorem dL_law_16 : decode cL_law 16 = .ok (.iconst 1, 1) := by decide +kernel
theorem dL_law_17 : decode cL_law 17 = .ok (.newarray .long, 2) := by decide +kernel
theorem dL_law_19 : decode cL_law 19 = .ok (.astore_n 3, 1) := by decide +kernel
theorem dL_law_20 : decode cL_law 20 = .ok (.iconst 0, 1) := by decide +kernel
theorem dL_law_21 : decode cL_law 21 = .ok (.istore 4, 2) := by decide +kernel
theorem dL_law_23 : decode cL_law 23 = .ok (.iload 4, 2) := by decide +kernel
theorem dL_law_25 : decode cL_law 25 = .ok (.aload_n 0, 1) := by decide +kernel
theorem dL_law_26 : decode cL_law 26 = .ok (.arraylength, 1) := by decide +kernel
theorem dL_law_27 : decode cL_law 27 = .ok (.iconst 4, 1) := by decide +kernel
theorem dL_law_28 : decode cL_law 28 = .ok (.isub, 1) := by decide +kernel
theorem dL_law_29 : decode cL_law 29 = .ok (.if_icmp .gt 1300, 3) := by decide +kernel
theorem dL_law_32 : decode cL_law 32 = .ok (.aload_n 0, 1) := by decide +kernel
theorem dL_law_33 : decode cL_law 33 = .ok (.iload 4, 2) := by decide +kernel
theorem dL_law_35 : decode cL_law 35 = .ok (.iaload, 1) := by decide +kernel
theorem dL_law_36 : decode cL_law 36 = .ok (.bipush 31, 2) := by decide +kernel
theorem dL_law_38 : decode cL_law 38 = .ok (.iand, 1) := by decide +kernel
theorem dL_law_39 : decode cL_law 39 = .ok (.tableswitch 1284 0 22 #[105, 173, 253, 309, 377, 445, 501, 569, 625, 638, 651, 695, 739, 819, 887, 955, 1011, 1067, 1147, 1160, 1173, 1229, 1270], 105) := by decide +kernel
theorem dL_law_144 : decode cL_law 144 = .ok (.aload_n 1, 1) := by decide +kernel
theorem dL_law_145 : decode cL_law 145 = .ok (.aload_n 0, 1) := by decide +kernel
theorem dL_law_146 : decode cL_law 146 = .ok (.iload 4, 2) := by decide +kernel
theorem dL_law_148 : decode cL_law 148 = .ok (.iconst 1, 1) := by decide +kernel
theorem dL_law_149 : decode cL_law 149 = .ok (.iadd, 1) := by decide +kernel
theorem dL_law_150 : decode cL_law 150 = .ok (.iaload, 1) := by decide +kernel
theorem dL_law_151 : decode cL_law 151 = .ok (.aload_n 0, 1) := by decide +kernel
theorem dL_law_152 : decode cL_law 152 = .ok (.iload 4, 2) := by decide +kernel
theorem dL_law_154 : decode cL_law 154 = .ok (.iconst 2, 1) := by decide +kernel
theorem dL_law_155 : decode cL_law 155 = .ok (.iadd, 1) := by decide +kernel
theorem dL_law_156 : decode cL_law 156 = .ok (.iaload, 1) := by decide +kernel
theorem dL_law_157 : decode cL_law 157 = .ok (.aload_n 3, 1) := by decide +kernel
theorem dL_law_158 : decode cL_law 158 = .ok (.invokestatic 74, 3) := by decide +kernel
theorem dL_law_161 : decode cL_law 161 = .ok (.istore 5, 2) := by decide +kernel
theorem dL_law_163 : decode cL_law 163 = .ok (.aload_n 2, 1) := by decide +kernel
theorem dL_law_164 : decode cL_law 164 = .ok (.aload_n 0, 1) := by decide +kernel
theorem dL_law_165 : decode cL_law 165 = .ok (.iload 4, 2) := by decide +kernel
theorem dL_law_167 : decode cL_law 167 = .ok (.iconst 1, 1) := by decide +kernel
theorem dL_law_168 : decode cL_law 168 = .ok (.iadd, 1) := by decide +kernel
theorem dL_law_169 : decode cL_law 169 = .ok (.iaload, 1) := by decide +kernel
theorem dL_law_170 : decode cL_law 170 = .ok (.aload_n 0, 1) := by decide +kernel
theorem dL_law_171 : decode cL_law 171 = .ok (.iload 4, 2) := by decide +kernel
theorem dL_law_173 : decode cL_law 173 = .ok (.iconst 2, 1) := by decide +kernel
theorem dL_law_174 : decode cL_law 174 = .ok (.iadd, 1) := by decide +kernel
theorem dL_law_175 : decode cL_law 175 = .ok (.iaload, 1) := by decide +kernel
theorem dL_law_176 : decode cL_law 176 = .ok (.invokevirtual 79, 3) := by decide +kernel
theorem dL_law_179 : decode cL_law 179 = .ok (.istore 6, 2) := by decide +kernel
theorem dL_law_181 : decode cL_law 181 = .ok (.aload_n 2, 1) := by decide +kernel
theorem dL_law_182 : decode cL_law 182 = .ok (.invokevirtual 80, 3) := by decide +kernel
theorem dL_law_185 : decode cL_law 185 = .ok (.iload 5, 2) := by decide +kernel
theorem dL_law_187 : decode cL_law 187 = .ok (.if_icmp .eq 5, 3) := by decide +kernel
theorem dL_law_190 : decode cL_law 190 = .ok (.iconst 0, 1) := by decide +kernel
theorem dL_law_191 : decode cL_law 191 = .ok (.ireturn, 1) := by decide +kernel
theorem dL_law_192 : decode cL_law 192 = .ok (.iload 5, 2) := by decide +kernel
theorem dL_law_194 : decode cL_law 194 = .ok (.ifCond .ne 15, 3) := by decide +kernel
theorem dL_law_197 : decode cL_law 197 = .ok (.aload_n 3, 1) := by decide +kernel
theorem dL_law_198 : decode cL_law 198 = .ok (.iconst 0, 1) := by decide +kernel
theorem dL_law_199 : decode cL_law 199 = .ok (.laload, 1) := by decide +kernel
theorem dL_law_200 : decode cL_law 200 = .ok (.iload 6, 2) := by decide +kernel
theorem dL_law_202 : decode cL_law 202 = .ok (.i2l, 1) := by decide +kernel
theorem dL_law_203 : decode cL_law 203 = .ok (.lcmp, 1) := by decide +kernel
theorem dL_law_204 : decode cL_law 204 = .ok (.ifCond .eq 5, 3) := by decide +kernel
theorem dL_law_207 : decode cL_law 207 = .ok (.iconst 0, 1) := by decide +kernel
theorem dL_law_208 : decode cL_law 208 = .ok (.ireturn, 1) := by decide +kernel
theorem dL_law_209 : decode cL_law 209 = .ok (.goto 1114, 3) := by decide +kernel
theorem dL_law_212 : decode cL_law 212 = .ok (.aload_n 1, 1) := by decide +kernel
theorem dL_law_213 : decode cL_law 213 = .ok (.aload_n 0, 1) := by decide +kernel
theorem dL_law_214 : decode cL_law 214 = .ok (.iload 4, 2) := by decide +kernel
theorem dL_law_216 : decode cL_law 216 = .ok (.iconst 1, 1) := by decide +kernel
theorem dL_law_217 : decode cL_law 217 = .ok (.iadd, 1) := by decide +kernel
theorem dL_law_218 : decode cL_law 218 = .ok (.iaload, 1) := by decide +kernel
theorem dL_law_219 : decode cL_law 219 = .ok (.aload_n 0, 1) := by decide +kernel
theorem dL_law_220 : decode cL_law 220 = .ok (.iload 4, 2) := by decide +kernel
theorem dL_law_222 : decode cL_law 222 = .ok (.iconst 2, 1) := by decide +kernel
theorem dL_law_223 : decode cL_law 223 = .ok (.iadd, 1) := by decide +kernel
theorem dL_law_224 : decode cL_law 224 = .ok (.iaload, 1) := by decide +kernel
theorem dL_law_225 : decode cL_law 225 = .ok (.aload_n 0, 1) := by decide +kernel
theorem dL_law_226 : decode cL_law 226 = .ok (.iload 4, 2) := by decide +kernel
theorem dL_law_228 : decode cL_law 228 = .ok (.iconst 3, 1) := by decide +kernel
theorem dL_law_229 : decode cL_law 229 = .ok (.iadd, 1) := by decide +kernel
theorem dL_law_230 : decode cL_law 230 = .ok (.iaload, 1) := by decide +kernel
theorem dL_law_231 : decode cL_law 231 = .ok (.aload_n 3, 1) := by decide +kernel
theorem dL_law_232 : decode cL_law 232 = .ok (.invokestatic 83, 3) := by decide +kernel
theorem dL_law_235 : decode cL_law 235 = .ok (.istore 5, 2) := by decide +kernel
theorem dL_law_237 : decode cL_law 237 = .ok (.aload_n 2, 1) := by decide +kernel
theorem dL_law_238 : decode cL_law 238 = .ok (.aload_n 0, 1) := by decide +kernel
theorem dL_law_239 : decode cL_law 239 = .ok (.iload 4, 2) := by decide +kernel
theorem dL_law_241 : decode cL_law 241 = .ok (.iconst 1, 1) := by decide +kernel
theorem dL_law_242 : decode cL_law 242 = .ok (.iadd, 1) := by decide +kernel
theorem dL_law_243 : decode cL_law 243 = .ok (.iaload, 1) := by decide +kernel
theorem dL_law_244 : decode cL_law 244 = .ok (.aload_n 0, 1) := by decide +kernel
theorem dL_law_245 : decode cL_law 245 = .ok (.iload 4, 2) := by decide +kernel
theorem dL_law_247 : decode cL_law 247 = .ok (.iconst 2, 1) := by decide +kernel
theorem dL_law_248 : decode cL_law 248 = .ok (.iadd, 1) := by decide +kernel
theorem dL_law_249 : decode cL_law 249 = .ok (.iaload, 1) := by decide +kernel
theorem dL_law_250 : decode cL_law 250 = .ok (.aload_n 0, 1) := by decide +kernel
theorem dL_law_251 : decode cL_law 251 = .ok (.iload 4, 2) := by decide +kernel
theorem dL_law_253 : decode cL_law 253 = .ok (.iconst 3, 1) := by decide +kernel
theorem dL_law_254 : decode cL_law 254 = .ok (.iadd, 1) := by decide +kernel
theorem dL_law_255 : decode cL_law 255 = .ok (.iaload, 1) := by decide +kernel
theorem dL_law_256 : decode cL_law 256 = .ok (.invokevirtual 86, 3) := by decide +kernel
theorem dL_law_259 : decode cL_law 259 = .ok (.istore 6, 2) := by decide +kernel
theorem dL_law_261 : decode cL_law 261 = .ok (.aload_n 2, 1) := by decide +kernel
theorem dL_law_262 : decode cL_law 262 = .ok (.invokevirtual 80, 3) := by decide +kernel
theorem dL_law_265 : decode cL_law 265 = .ok (.iload 5, 2) := by decide +kernel
theorem dL_law_267 : decode cL_law 267 = .ok (.if_icmp .eq 5, 3) := by decide +kernel
theorem dL_law_270 : decode cL_law 270 = .ok (.iconst 0, 1) := by decide +kernel
theorem dL_law_271 : decode cL_law 271 = .ok (.ireturn, 1) := by decide +kernel
theorem dL_law_272 : decode cL_law 272 = .ok (.iload 5, 2) := by decide +kernel
theorem dL_law_274 : decode cL_law 274 = .ok (.ifCond .ne 15, 3) := by decide +kernel
theorem dL_law_277 : decode cL_law 277 = .ok (.aload_n 3, 1) := by decide +kernel
theorem dL_law_278 : decode cL_law 278 = .ok (.iconst 0, 1) := by decide +kernel
theorem dL_law_279 : decode cL_law 279 = .ok (.laload, 1) := by decide +kernel
theorem dL_law_280 : decode cL_law 280 = .ok (.iload 6, 2) := by decide +kernel
theorem dL_law_282 : decode cL_law 282 = .ok (.i2l, 1) := by decide +kernel
theorem dL_law_283 : decode cL_law 283 = .ok (.lcmp, 1) := by decide +kernel
theorem dL_law_284 : decode cL_law 284 = .ok (.ifCond .eq 5, 3) := by decide +kernel
theorem dL_law_287 : decode cL_law 287 = .ok (.iconst 0, 1) := by decide +kernel
theorem dL_law_288 : decode cL_law 288 = .ok (.ireturn, 1) := by decide +kernel
theorem dL_law_289 : decode cL_law 289 = .ok (.goto 1034, 3) := by decide +kernel
theorem dL_law_292 : decode cL_law 292 = .ok (.aload_n 1, 1) := by decide +kernel
theorem dL_law_293 : decode cL_law 293 = .ok (.aload_n 0, 1) := by decide +kernel
theorem dL_law_294 : decode cL_law 294 = .ok (.iload 4, 2) := by decide +kernel
theorem dL_law_296 : decode cL_law 296 = .ok (.iconst 1, 1) := by decide +kernel
theorem dL_law_297 : decode cL_law 297 = .ok (.iadd, 1) := by decide +kernel
theorem dL_law_298 : decode cL_law 298 = .ok (.iaload, 1) := by decide +kernel
theorem dL_law_299 : decode cL_law 299 = .ok (.aload_n 3, 1) := by decide +kernel
theorem dL_law_300 : decode cL_law 300 = .ok (.invokestatic 87, 3) := by decide +kernel
theorem dL_law_303 : decode cL_law 303 = .ok (.istore 5, 2) := by decide +kernel
theorem dL_law_305 : decode cL_law 305 = .ok (.aload_n 2, 1) := by decide +kernel
theorem dL_law_306 : decode cL_law 306 = .ok (.aload_n 0, 1) := by decide +kernel
theorem dL_law_307 : decode cL_law 307 = .ok (.iload 4, 2) := by decide +kernel
theorem dL_law_309 : decode cL_law 309 = .ok (.iconst 1, 1) := by decide +kernel
theorem dL_law_310 : decode cL_law 310 = .ok (.iadd, 1) := by decide +kernel
theorem dL_law_311 : decode cL_law 311 = .ok (.iaload, 1) := by decide +kernel
theorem dL_law_312 : decode cL_law 312 = .ok (.invokevirtual 90, 3) := by decide +kernel
theorem dL_law_315 : decode cL_law 315 = .ok (.istore 6, 2) := by decide +kernel
theorem dL_law_317 : decode cL_law 317 = .ok (.aload_n 2, 1) := by decide +kernel
theorem dL_law_318 : decode cL_law 318 = .ok (.invokevirtual 80, 3) := by decide +kernel
theorem dL_law_321 : decode cL_law 321 = .ok (.iload 5, 2) := by decide +kernel
theorem dL_law_323 : decode cL_law 323 = .ok (.if_icmp .eq 5, 3) := by decide +kernel
theorem dL_law_326 : decode cL_law 326 = .ok (.iconst 0, 1) := by decide +kernel
theorem dL_law_327 : decode cL_law 327 = .ok (.ireturn, 1) := by decide +kernel
theorem dL_law_328 : decode cL_law 328 = .ok (.iload 5, 2) := by decide +kernel
theorem dL_law_330 : decode cL_law 330 = .ok (.ifCond .ne 15, 3) := by decide +kernel
theorem dL_law_333 : decode cL_law 333 = .ok (.aload_n 3, 1) := by decide +kernel
theorem dL_law_334 : decode cL_law 334 = .ok (.iconst 0, 1) := by decide +kernel
theorem dL_law_335 : decode cL_law 335 = .ok (.laload, 1) := by decide +kernel
theorem dL_law_336 : decode cL_law 336 = .ok (.iload 6, 2) := by decide +kernel
theorem dL_law_338 : decode cL_law 338 = .ok (.i2l, 1) := by decide +kernel
theorem dL_law_339 : decode cL_law 339 = .ok (.lcmp, 1) := by decide +kernel
theorem dL_law_340 : decode cL_law 340 = .ok (.ifCond .eq 5, 3) := by decide +kernel
theorem dL_law_343 : decode cL_law 343 = .ok (.iconst 0, 1) := by decide +kernel
theorem dL_law_344 : decode cL_law 344 = .ok (.ireturn, 1) := by decide +kernel
theorem dL_law_345 : decode cL_law 345 = .ok (.goto 978, 3) := by decide +kernel
theorem dL_law_348 : decode cL_law 348 = .ok (.aload_n 1, 1) := by decide +kernel
theorem dL_law_349 : decode cL_law 349 = .ok (.aload_n 0, 1) := by decide +kernel
theorem dL_law_350 : decode cL_law 350 = .ok (.iload 4, 2) := by decide +kernel
theorem dL_law_352 : decode cL_law 352 = .ok (.iconst 1, 1) := by decide +kernel
theorem dL_law_353 : decode cL_law 353 = .ok (.iadd, 1) := by decide +kernel
theorem dL_law_354 : decode cL_law 354 = .ok (.iaload, 1) := by decide +kernel
theorem dL_law_355 : decode cL_law 355 = .ok (.aload_n 0, 1) := by decide +kernel
theorem dL_law_356 : decode cL_law 356 = .ok (.iload 4, 2) := by decide +kernel
theorem dL_law_358 : decode cL_law 358 = .ok (.iconst 2, 1) := by decide +kernel
theorem dL_law_359 : decode cL_law 359 = .ok (.iadd, 1) := by decide +kernel
theorem dL_law_360 : decode cL_law 360 = .ok (.iaload, 1) := by decide +kernel
theorem dL_law_361 : decode cL_law 361 = .ok (.aload_n 3, 1) := by decide +kernel
theorem dL_law_362 : decode cL_law 362 = .ok (.invokestatic 91, 3) := by decide +kernel
theorem dL_law_365 : decode cL_law 365 = .ok (.istore 5, 2) := by decide +kernel
theorem dL_law_367 : decode cL_law 367 = .ok (.aload_n 2, 1) := by decide +kernel
theorem dL_law_368 : decode cL_law 368 = .ok (.aload_n 0, 1) := by decide +kernel
theorem dL_law_369 : decode cL_law 369 = .ok (.iload 4, 2) := by decide +kernel
theorem dL_law_371 : decode cL_law 371 = .ok (.iconst 1, 1) := by decide +kernel
theorem dL_law_372 : decode cL_law 372 = .ok (.iadd, 1) := by decide +kernel
theorem dL_law_373 : decode cL_law 373 = .ok (.iaload, 1) := by decide +kernel
theorem dL_law_374 : decode cL_law 374 = .ok (.aload_n 0, 1) := by decide +kernel
theorem dL_law_375 : decode cL_law 375 = .ok (.iload 4, 2) := by decide +kernel
theorem dL_law_377 : decode cL_law 377 = .ok (.iconst 2, 1) := by decide +kernel
theorem dL_law_378 : decode cL_law 378 = .ok (.iadd, 1) := by decide +kernel
theorem dL_law_379 : decode cL_law 379 = .ok (.iaload, 1) := by decide +kernel
theorem dL_law_380 : decode cL_law 380 = .ok (.invokevirtual 93, 3) := by decide +kernel
theorem dL_law_383 : decode cL_law 383 = .ok (.istore 6, 2) := by decide +kernel
theorem dL_law_385 : decode cL_law 385 = .ok (.aload_n 2, 1) := by decide +kernel
theorem dL_law_386 : decode cL_law 386 = .ok (.invokevirtual 80, 3) := by decide +kernel
theorem dL_law_389 : decode cL_law 389 = .ok (.iload 5, 2) := by decide +kernel
theorem dL_law_391 : decode cL_law 391 = .ok (.if_icmp .eq 5, 3) := by decide +kernel
theorem dL_law_394 : decode cL_law 394 = .ok (.iconst 0, 1) := by decide +kernel
theorem dL_law_395 : decode cL_law 395 = .ok (.ireturn, 1) := by decide +kernel
theorem dL_law_396 : decode cL_law 396 = .ok (.iload 5, 2) := by decide +kernel
theorem dL_law_398 : decode cL_law 398 = .ok (.ifCond .ne 15, 3) := by decide +kernel
theorem dL_law_401 : decode cL_law 401 = .ok (.aload_n 3, 1) := by decide +kernel
theorem dL_law_402 : decode cL_law 402 = .ok (.iconst 0, 1) := by decide +kernel
theorem dL_law_403 : decode cL_law 403 = .ok (.laload, 1) := by decide +kernel
theorem dL_law_404 : decode cL_law 404 = .ok (.iload 6, 2) := by decide +kernel
theorem dL_law_406 : decode cL_law 406 = .ok (.i2l, 1) := by decide +kernel
theorem dL_law_407 : decode cL_law 407 = .ok (.lcmp, 1) := by decide +kernel
theorem dL_law_408 : decode cL_law 408 = .ok (.ifCond .eq 5, 3) := by decide +kernel
theorem dL_law_411 : decode cL_law 411 = .ok (.iconst 0, 1) := by decide +kernel
theorem dL_law_412 : decode cL_law 412 = .ok (.ireturn, 1) := by decide +kernel
theorem dL_law_413 : decode cL_law 413 = .ok (.goto 910, 3) := by decide +kernel
theorem dL_law_416 : decode cL_law 416 = .ok (.aload_n 1, 1) := by decide +kernel
theorem dL_law_417 : decode cL_law 417 = .ok (.aload_n 0, 1) := by decide +kernel
theorem dL_law_418 : decode cL_law 418 = .ok (.iload 4, 2) := by decide +kernel
theorem dL_law_420 : decode cL_law 420 = .ok (.iconst 1, 1) := by decide +kernel
theorem dL_law_421 : decode cL_law 421 = .ok (.iadd, 1) := by decide +kernel
theorem dL_law_422 : decode cL_law 422 = .ok (.iaload, 1) := by decide +kernel
theorem dL_law_423 : decode cL_law 423 = .ok (.aload_n 0, 1) := by decide +kernel
theorem dL_law_424 : decode cL_law 424 = .ok (.iload 4, 2) := by decide +kernel
theorem dL_law_426 : decode cL_law 426 = .ok (.iconst 2, 1) := by decide +kernel
theorem dL_law_427 : decode cL_law 427 = .ok (.iadd, 1) := by decide +kernel
theorem dL_law_428 : decode cL_law 428 = .ok (.iaload, 1) := by decide +kernel
theorem dL_law_429 : decode cL_law 429 = .ok (.aload_n 3, 1) := by decide +kernel
theorem dL_law_430 : decode cL_law 430 = .ok (.invokestatic 94, 3) := by decide +kernel
theorem dL_law_433 : decode cL_law 433 = .ok (.istore 5, 2) := by decide +kernel
theorem dL_law_435 : decode cL_law 435 = .ok (.aload_n 2, 1) := by decide +kernel
theorem dL_law_436 : decode cL_law 436 = .ok (.aload_n 0, 1) := by decide +kernel
theorem dL_law_437 : decode cL_law 437 = .ok (.iload 4, 2) := by decide +kernel
theorem dL_law_439 : decode cL_law 439 = .ok (.iconst 1, 1) := by decide +kernel
theorem dL_law_440 : decode cL_law 440 = .ok (.iadd, 1) := by decide +kernel
theorem dL_law_441 : decode cL_law 441 = .ok (.iaload, 1) := by decide +kernel
theorem dL_law_442 : decode cL_law 442 = .ok (.aload_n 0, 1) := by decide +kernel
theorem dL_law_443 : decode cL_law 443 = .ok (.iload 4, 2) := by decide +kernel
theorem dL_law_445 : decode cL_law 445 = .ok (.iconst 2, 1) := by decide +kernel
theorem dL_law_446 : decode cL_law 446 = .ok (.iadd, 1) := by decide +kernel
theorem dL_law_447 : decode cL_law 447 = .ok (.iaload, 1) := by decide +kernel
theorem dL_law_448 : decode cL_law 448 = .ok (.invokevirtual 96, 3) := by decide +kernel
theorem dL_law_451 : decode cL_law 451 = .ok (.istore 6, 2) := by decide +kernel
theorem dL_law_453 : decode cL_law 453 = .ok (.aload_n 2, 1) := by decide +kernel
theorem dL_law_454 : decode cL_law 454 = .ok (.invokevirtual 80, 3) := by decide +kernel
theorem dL_law_457 : decode cL_law 457 = .ok (.iload 5, 2) := by decide +kernel
theorem dL_law_459 : decode cL_law 459 = .ok (.if_icmp .eq 5, 3) := by decide +kernel
theorem dL_law_462 : decode cL_law 462 = .ok (.iconst 0, 1) := by decide +kernel
theorem dL_law_463 : decode cL_law 463 = .ok (.ireturn, 1) := by decide +kernel
theorem dL_law_464 : decode cL_law 464 = .ok (.iload 5, 2) := by decide +kernel
theorem dL_law_466 : decode cL_law 466 = .ok (.ifCond .ne 15, 3) := by decide +kernel
theorem dL_law_469 : decode cL_law 469 = .ok (.aload_n 3, 1) := by decide +kernel
theorem dL_law_470 : decode cL_law 470 = .ok (.iconst 0, 1) := by decide +kernel
theorem dL_law_471 : decode cL_law 471 = .ok (.laload, 1) := by decide +kernel
theorem dL_law_472 : decode cL_law 472 = .ok (.iload 6, 2) := by decide +kernel
theorem dL_law_474 : decode cL_law 474 = .ok (.i2l, 1) := by decide +kernel
theorem dL_law_475 : decode cL_law 475 = .ok (.lcmp, 1) := by decide +kernel
theorem dL_law_476 : decode cL_law 476 = .ok (.ifCond .eq 5, 3) := by decide +kernel
theorem dL_law_479 : decode cL_law 479 = .ok (.iconst 0, 1) := by decide +kernel
theorem dL_law_480 : decode cL_law 480 = .ok (.ireturn, 1) := by decide +kernel
theorem dL_law_481 : decode cL_law 481 = .ok (.goto 842, 3) := by decide +kernel
theorem dL_law_484 : decode cL_law 484 = .ok (.aload_n 1, 1) := by decide +kernel
theorem dL_law_485 : decode cL_law 485 = .ok (.aload_n 0, 1) := by decide +kernel
theorem dL_law_486 : decode cL_law 486 = .ok (.iload 4, 2) := by decide +kernel
theorem dL_law_488 : decode cL_law 488 = .ok (.iconst 1, 1) := by decide +kernel
theorem dL_law_489 : decode cL_law 489 = .ok (.iadd, 1) := by decide +kernel
theorem dL_law_490 : decode cL_law 490 = .ok (.iaload, 1) := by decide +kernel
theorem dL_law_491 : decode cL_law 491 = .ok (.aload_n 3, 1) := by decide +kernel
theorem dL_law_492 : decode cL_law 492 = .ok (.invokestatic 97, 3) := by decide +kernel
theorem dL_law_495 : decode cL_law 495 = .ok (.istore 5, 2) := by decide +kernel
theorem dL_law_497 : decode cL_law 497 = .ok (.aload_n 2, 1) := by decide +kernel
theorem dL_law_498 : decode cL_law 498 = .ok (.aload_n 0, 1) := by decide +kernel
theorem dL_law_499 : decode cL_law 499 = .ok (.iload 4, 2) := by decide +kernel
theorem dL_law_501 : decode cL_law 501 = .ok (.iconst 1, 1) := by decide +kernel
theorem dL_law_502 : decode cL_law 502 = .ok (.iadd, 1) := by decide +kernel
theorem dL_law_503 : decode cL_law 503 = .ok (.iaload, 1) := by decide +kernel
theorem dL_law_504 : decode cL_law 504 = .ok (.invokevirtual 99, 3) := by decide +kernel
theorem dL_law_507 : decode cL_law 507 = .ok (.istore 6, 2) := by decide +kernel
theorem dL_law_509 : decode cL_law 509 = .ok (.aload_n 2, 1) := by decide +kernel
theorem dL_law_510 : decode cL_law 510 = .ok (.invokevirtual 80, 3) := by decide +kernel
theorem dL_law_513 : decode cL_law 513 = .ok (.iload 5, 2) := by decide +kernel
theorem dL_law_515 : decode cL_law 515 = .ok (.if_icmp .eq 5, 3) := by decide +kernel
theorem dL_law_518 : decode cL_law 518 = .ok (.iconst 0, 1) := by decide +kernel
theorem dL_law_519 : decode cL_law 519 = .ok (.ireturn, 1) := by decide +kernel
theorem dL_law_520 : decode cL_law 520 = .ok (.iload 5, 2) := by decide +kernel
theorem dL_law_522 : decode cL_law 522 = .ok (.ifCond .ne 15, 3) := by decide +kernel
theorem dL_law_525 : decode cL_law 525 = .ok (.aload_n 3, 1) := by decide +kernel
theorem dL_law_526 : decode cL_law 526 = .ok (.iconst 0, 1) := by decide +kernel
theorem dL_law_527 : decode cL_law 527 = .ok (.laload, 1) := by decide +kernel
theorem dL_law_528 : decode cL_law 528 = .ok (.iload 6, 2) := by decide +kernel
theorem dL_law_530 : decode cL_law 530 = .ok (.i2l, 1) := by decide +kernel
theorem dL_law_531 : decode cL_law 531 = .ok (.lcmp, 1) := by decide +kernel
theorem dL_law_532 : decode cL_law 532 = .ok (.ifCond .eq 5, 3) := by decide +kernel
theorem dL_law_535 : decode cL_law 535 = .ok (.iconst 0, 1) := by decide +kernel
theorem dL_law_536 : decode cL_law 536 = .ok (.ireturn, 1) := by decide +kernel
theorem dL_law_537 : decode cL_law 537 = .ok (.goto 786, 3) := by decide +kernel
theorem dL_law_540 : decode cL_law 540 = .ok (.aload_n 1, 1) := by decide +kernel
theorem dL_law_541 : decode cL_law 541 = .ok (.aload_n 0, 1) := by decide +kernel
theorem dL_law_542 : decode cL_law 542 = .ok (.iload 4, 2) := by decide +kernel
theorem dL_law_544 : decode cL_law 544 = .ok (.iconst 1, 1) := by decide +kernel
theorem dL_law_545 : decode cL_law 545 = .ok (.iadd, 1) := by decide +kernel
theorem dL_law_546 : decode cL_law 546 = .ok (.iaload, 1) := by decide +kernel
theorem dL_law_547 : decode cL_law 547 = .ok (.aload_n 0, 1) := by decide +kernel
theorem dL_law_548 : decode cL_law 548 = .ok (.iload 4, 2) := by decide +kernel
theorem dL_law_550 : decode cL_law 550 = .ok (.iconst 2, 1) := by decide +kernel
theorem dL_law_551 : decode cL_law 551 = .ok (.iadd, 1) := by decide +kernel
theorem dL_law_552 : decode cL_law 552 = .ok (.iaload, 1) := by decide +kernel
theorem dL_law_553 : decode cL_law 553 = .ok (.aload_n 3, 1) := by decide +kernel
theorem dL_law_554 : decode cL_law 554 = .ok (.invokestatic 100, 3) := by decide +kernel
theorem dL_law_557 : decode cL_law 557 = .ok (.istore 5, 2) := by decide +kernel
theorem dL_law_559 : decode cL_law 559 = .ok (.aload_n 2, 1) := by decide +kernel
theorem dL_law_560 : decode cL_law 560 = .ok (.aload_n 0, 1) := by decide +kernel
theorem dL_law_561 : decode cL_law 561 = .ok (.iload 4, 2) := by decide +kernel
theorem dL_law_563 : decode cL_law 563 = .ok (.iconst 1, 1) := by decide +kernel
theorem dL_law_564 : decode cL_law 564 = .ok (.iadd, 1) := by decide +kernel
theorem dL_law_565 : decode cL_law 565 = .ok (.iaload, 1) := by decide +kernel
theorem dL_law_566 : decode cL_law 566 = .ok (.aload_n 0, 1) := by decide +kernel
theorem dL_law_567 : decode cL_law 567 = .ok (.iload 4, 2) := by decide +kernel
theorem dL_law_569 : decode cL_law 569 = .ok (.iconst 2, 1) := by decide +kernel
theorem dL_law_570 : decode cL_law 570 = .ok (.iadd, 1) := by decide +kernel
theorem dL_law_571 : decode cL_law 571 = .ok (.iaload, 1) := by decide +kernel
theorem dL_law_572 : decode cL_law 572 = .ok (.invokevirtual 102, 3) := by decide +kernel
theorem dL_law_575 : decode cL_law 575 = .ok (.istore 6, 2) := by decide +kernel
theorem dL_law_577 : decode cL_law 577 = .ok (.aload_n 2, 1) := by decide +kernel
theorem dL_law_578 : decode cL_law 578 = .ok (.invokevirtual 80, 3) := by decide +kernel
theorem dL_law_581 : decode cL_law 581 = .ok (.iload 5, 2) := by decide +kernel
theorem dL_law_583 : decode cL_law 583 = .ok (.if_icmp .eq 5, 3) := by decide +kernel
theorem dL_law_586 : decode cL_law 586 = .ok (.iconst 0, 1) := by decide +kernel
theorem dL_law_587 : decode cL_law 587 = .ok (.ireturn, 1) := by decide +kernel
theorem dL_law_588 : decode cL_law 588 = .ok (.iload 5, 2) := by decide +kernel
theorem dL_law_590 : decode cL_law 590 = .ok (.ifCond .ne 15, 3) := by decide +kernel
theorem dL_law_593 : decode cL_law 593 = .ok (.aload_n 3, 1) := by decide +kernel
theorem dL_law_594 : decode cL_law 594 = .ok (.iconst 0, 1) := by decide +kernel
theorem dL_law_595 : decode cL_law 595 = .ok (.laload, 1) := by decide +kernel
theorem dL_law_596 : decode cL_law 596 = .ok (.iload 6, 2) := by decide +kernel
theorem dL_law_598 : decode cL_law 598 = .ok (.i2l, 1) := by decide +kernel
theorem dL_law_599 : decode cL_law 599 = .ok (.lcmp, 1) := by decide +kernel
theorem dL_law_600 : decode cL_law 600 = .ok (.ifCond .eq 5, 3) := by decide +kernel
theorem dL_law_603 : decode cL_law 603 = .ok (.iconst 0, 1) := by decide +kernel
theorem dL_law_604 : decode cL_law 604 = .ok (.ireturn, 1) := by decide +kernel
theorem dL_law_605 : decode cL_law 605 = .ok (.goto 718, 3) := by decide +kernel
theorem dL_law_608 : decode cL_law 608 = .ok (.aload_n 1, 1) := by decide +kernel
theorem dL_law_609 : decode cL_law 609 = .ok (.aload_n 0, 1) := by decide +kernel
theorem dL_law_610 : decode cL_law 610 = .ok (.iload 4, 2) := by decide +kernel
theorem dL_law_612 : decode cL_law 612 = .ok (.iconst 1, 1) := by decide +kernel
theorem dL_law_613 : decode cL_law 613 = .ok (.iadd, 1) := by decide +kernel
theorem dL_law_614 : decode cL_law 614 = .ok (.iaload, 1) := by decide +kernel
theorem dL_law_615 : decode cL_law 615 = .ok (.aload_n 3, 1) := by decide +kernel
theorem dL_law_616 : decode cL_law 616 = .ok (.invokestatic 103, 3) := by decide +kernel
theorem dL_law_619 : decode cL_law 619 = .ok (.istore 5, 2) := by decide +kernel
theorem dL_law_621 : decode cL_law 621 = .ok (.aload_n 2, 1) := by decide +kernel
theorem dL_law_622 : decode cL_law 622 = .ok (.aload_n 0, 1) := by decide +kernel
theorem dL_law_623 : decode cL_law 623 = .ok (.iload 4, 2) := by decide +kernel
theorem dL_law_625 : decode cL_law 625 = .ok (.iconst 1, 1) := by decide +kernel
theorem dL_law_626 : decode cL_law 626 = .ok (.iadd, 1) := by decide +kernel
theorem dL_law_627 : decode cL_law 627 = .ok (.iaload, 1) := by decide +kernel
theorem dL_law_628 : decode cL_law 628 = .ok (.invokevirtual 105, 3) := by decide +kernel
theorem dL_law_631 : decode cL_law 631 = .ok (.istore 6, 2) := by decide +kernel
theorem dL_law_633 : decode cL_law 633 = .ok (.aload_n 2, 1) := by decide +kernel
theorem dL_law_634 : decode cL_law 634 = .ok (.invokevirtual 80, 3) := by decide +kernel
theorem dL_law_637 : decode cL_law 637 = .ok (.iload 5, 2) := by decide +kernel
theorem dL_law_639 : decode cL_law 639 = .ok (.if_icmp .eq 5, 3) := by decide +kernel
theorem dL_law_642 : decode cL_law 642 = .ok (.iconst 0, 1) := by decide +kernel
theorem dL_law_643 : decode cL_law 643 = .ok (.ireturn, 1) := by decide +kernel
theorem dL_law_644 : decode cL_law 644 = .ok (.iload 5, 2) := by decide +kernel
theorem dL_law_646 : decode cL_law 646 = .ok (.ifCond .ne 15, 3) := by decide +kernel
theorem dL_law_649 : decode cL_law 649 = .ok (.aload_n 3, 1) := by decide +kernel
theorem dL_law_650 : decode cL_law 650 = .ok (.iconst 0, 1) := by decide +kernel
theorem dL_law_651 : decode cL_law 651 = .ok (.laload, 1) := by decide +kernel
theorem dL_law_652 : decode cL_law 652 = .ok (.iload 6, 2) := by decide +kernel
theorem dL_law_654 : decode cL_law 654 = .ok (.i2l, 1) := by decide +kernel
theorem dL_law_655 : decode cL_law 655 = .ok (.lcmp, 1) := by decide +kernel
theorem dL_law_656 : decode cL_law 656 = .ok (.ifCond .eq 5, 3) := by decide +kernel
theorem dL_law_659 : decode cL_law 659 = .ok (.iconst 0, 1) := by decide +kernel
theorem dL_law_660 : decode cL_law 660 = .ok (.ireturn, 1) := by decide +kernel
theorem dL_law_661 : decode cL_law 661 = .ok (.goto 662, 3) := by decide +kernel
theorem dL_law_664 : decode cL_law 664 = .ok (.aload_n 1, 1) := by decide +kernel
theorem dL_law_665 : decode cL_law 665 = .ok (.invokevirtual 106, 3) := by decide +kernel
theorem dL_law_668 : decode cL_law 668 = .ok (.aload_n 2, 1) := by decide +kernel
theorem dL_law_669 : decode cL_law 669 = .ok (.invokevirtual 109, 3) := by decide +kernel
theorem dL_law_672 : decode cL_law 672 = .ok (.if_icmp .eq 651, 3) := by decide +kernel
theorem dL_law_675 : decode cL_law 675 = .ok (.iconst 0, 1) := by decide +kernel
theorem dL_law_676 : decode cL_law 676 = .ok (.ireturn, 1) := by decide +kernel
theorem dL_law_677 : decode cL_law 677 = .ok (.aload_n 1, 1) := by decide +kernel
theorem dL_law_678 : decode cL_law 678 = .ok (.invokevirtual 110, 3) := by decide +kernel
theorem dL_law_681 : decode cL_law 681 = .ok (.aload_n 2, 1) := by decide +kernel
theorem dL_law_682 : decode cL_law 682 = .ok (.invokevirtual 113, 3) := by decide +kernel
theorem dL_law_685 : decode cL_law 685 = .ok (.if_icmp .eq 638, 3) := by decide +kernel
theorem dL_law_688 : decode cL_law 688 = .ok (.iconst 0, 1) := by decide +kernel
theorem dL_law_689 : decode cL_law 689 = .ok (.ireturn, 1) := by decide +kernel
theorem dL_law_690 : decode cL_law 690 = .ok (.aload_n 1, 1) := by decide +kernel
theorem dL_law_691 : decode cL_law 691 = .ok (.aload_n 3, 1) := by decide +kernel
theorem dL_law_692 : decode cL_law 692 = .ok (.invokestatic 114, 3) := by decide +kernel
theorem dL_law_695 : decode cL_law 695 = .ok (.istore 5, 2) := by decide +kernel
theorem dL_law_697 : decode cL_law 697 = .ok (.aload_n 2, 1) := by decide +kernel
theorem dL_law_698 : decode cL_law 698 = .ok (.invokevirtual 117, 3) := by decide +kernel
theorem dL_law_701 : decode cL_law 701 = .ok (.istore 6, 2) := by decide +kernel
theorem dL_law_703 : decode cL_law 703 = .ok (.aload_n 2, 1) := by decide +kernel
theorem dL_law_704 : decode cL_law 704 = .ok (.invokevirtual 80, 3) := by decide +kernel
theorem dL_law_707 : decode cL_law 707 = .ok (.iload 5, 2) := by decide +kernel
theorem dL_law_709 : decode cL_law 709 = .ok (.if_icmp .eq 5, 3) := by decide +kernel
theorem dL_law_712 : decode cL_law 712 = .ok (.iconst 0, 1) := by decide +kernel
theorem dL_law_713 : decode cL_law 713 = .ok (.ireturn, 1) := by decide +kernel
theorem dL_law_714 : decode cL_law 714 = .ok (.iload 5, 2) := by decide +kernel
theorem dL_law_716 : decode cL_law 716 = .ok (.ifCond .ne 15, 3) := by decide +kernel
theorem dL_law_719 : decode cL_law 719 = .ok (.aload_n 3, 1) := by decide +kernel
theorem dL_law_720 : decode cL_law 720 = .ok (.iconst 0, 1) := by decide +kernel
theorem dL_law_721 : decode cL_law 721 = .ok (.laload, 1) := by decide +kernel
theorem dL_law_722 : decode cL_law 722 = .ok (.iload 6, 2) := by decide +kernel
theorem dL_law_724 : decode cL_law 724 = .ok (.i2l, 1) := by decide +kernel
theorem dL_law_725 : decode cL_law 725 = .ok (.lcmp, 1) := by decide +kernel
theorem dL_law_726 : decode cL_law 726 = .ok (.ifCond .eq 5, 3) := by decide +kernel
theorem dL_law_729 : decode cL_law 729 = .ok (.iconst 0, 1) := by decide +kernel
theorem dL_law_730 : decode cL_law 730 = .ok (.ireturn, 1) := by decide +kernel
theorem dL_law_731 : decode cL_law 731 = .ok (.goto 592, 3) := by decide +kernel
theorem dL_law_734 : decode cL_law 734 = .ok (.aload_n 1, 1) := by decide +kernel
theorem dL_law_735 : decode cL_law 735 = .ok (.aload_n 3, 1) := by decide +kernel
theorem dL_law_736 : decode cL_law 736 = .ok (.invokestatic 118, 3) := by decide +kernel
theorem dL_law_739 : decode cL_law 739 = .ok (.istore 5, 2) := by decide +kernel
theorem dL_law_741 : decode cL_law 741 = .ok (.aload_n 2, 1) := by decide +kernel
theorem dL_law_742 : decode cL_law 742 = .ok (.invokevirtual 120, 3) := by decide +kernel
theorem dL_law_745 : decode cL_law 745 = .ok (.istore 6, 2) := by decide +kernel
theorem dL_law_747 : decode cL_law 747 = .ok (.aload_n 2, 1) := by decide +kernel
theorem dL_law_748 : decode cL_law 748 = .ok (.invokevirtual 80, 3) := by decide +kernel
theorem dL_law_751 : decode cL_law 751 = .ok (.iload 5, 2) := by decide +kernel
theorem dL_law_753 : decode cL_law 753 = .ok (.if_icmp .eq 5, 3) := by decide +kernel
theorem dL_law_756 : decode cL_law 756 = .ok (.iconst 0, 1) := by decide +kernel
theorem dL_law_757 : decode cL_law 757 = .ok (.ireturn, 1) := by decide +kernel
theorem dL_law_758 : decode cL_law 758 = .ok (.iload 5, 2) := by decide +kernel
theorem dL_law_760 : decode cL_law 760 = .ok (.ifCond .ne 15, 3) := by decide +kernel
theorem dL_law_763 : decode cL_law 763 = .ok (.aload_n 3, 1) := by decide +kernel
theorem dL_law_764 : decode cL_law 764 = .ok (.iconst 0, 1) := by decide +kernel
theorem dL_law_765 : decode cL_law 765 = .ok (.laload, 1) := by decide +kernel
theorem dL_law_766 : decode cL_law 766 = .ok (.iload 6, 2) := by decide +kernel
theorem dL_law_768 : decode cL_law 768 = .ok (.i2l, 1) := by decide +kernel
theorem dL_law_769 : decode cL_law 769 = .ok (.lcmp, 1) := by decide +kernel
theorem dL_law_770 : decode cL_law 770 = .ok (.ifCond .eq 5, 3) := by decide +kernel
theorem dL_law_773 : decode cL_law 773 = .ok (.iconst 0, 1) := by decide +kernel
theorem dL_law_774 : decode cL_law 774 = .ok (.ireturn, 1) := by decide +kernel
theorem dL_law_775 : decode cL_law 775 = .ok (.goto 548, 3) := by decide +kernel
theorem dL_law_778 : decode cL_law 778 = .ok (.aload_n 1, 1) := by decide +kernel
theorem dL_law_779 : decode cL_law 779 = .ok (.aload_n 0, 1) := by decide +kernel
theorem dL_law_780 : decode cL_law 780 = .ok (.iload 4, 2) := by decide +kernel
theorem dL_law_782 : decode cL_law 782 = .ok (.iconst 1, 1) := by decide +kernel
theorem dL_law_783 : decode cL_law 783 = .ok (.iadd, 1) := by decide +kernel
theorem dL_law_784 : decode cL_law 784 = .ok (.iaload, 1) := by decide +kernel
theorem dL_law_785 : decode cL_law 785 = .ok (.aload_n 0, 1) := by decide +kernel
theorem dL_law_786 : decode cL_law 786 = .ok (.iload 4, 2) := by decide +kernel
theorem dL_law_788 : decode cL_law 788 = .ok (.iconst 2, 1) := by decide +kernel
theorem dL_law_789 : decode cL_law 789 = .ok (.iadd, 1) := by decide +kernel
theorem dL_law_790 : decode cL_law 790 = .ok (.iaload, 1) := by decide +kernel
theorem dL_law_791 : decode cL_law 791 = .ok (.aload_n 0, 1) := by decide +kernel
theorem dL_law_792 : decode cL_law 792 = .ok (.iload 4, 2) := by decide +kernel
theorem dL_law_794 : decode cL_law 794 = .ok (.iconst 3, 1) := by decide +kernel
theorem dL_law_795 : decode cL_law 795 = .ok (.iadd, 1) := by decide +kernel
theorem dL_law_796 : decode cL_law 796 = .ok (.iaload, 1) := by decide +kernel
theorem dL_law_797 : decode cL_law 797 = .ok (.aload_n 3, 1) := by decide +kernel
theorem dL_law_798 : decode cL_law 798 = .ok (.invokestatic 121, 3) := by decide +kernel
theorem dL_law_801 : decode cL_law 801 = .ok (.istore 5, 2) := by decide +kernel
theorem dL_law_803 : decode cL_law 803 = .ok (.aload_n 2, 1) := by decide +kernel
theorem dL_law_804 : decode cL_law 804 = .ok (.aload_n 0, 1) := by decide +kernel
theorem dL_law_805 : decode cL_law 805 = .ok (.iload 4, 2) := by decide +kernel
theorem dL_law_807 : decode cL_law 807 = .ok (.iconst 1, 1) := by decide +kernel
theorem dL_law_808 : decode cL_law 808 = .ok (.iadd, 1) := by decide +kernel
theorem dL_law_809 : decode cL_law 809 = .ok (.iaload, 1) := by decide +kernel
theorem dL_law_810 : decode cL_law 810 = .ok (.aload_n 0, 1) := by decide +kernel
theorem dL_law_811 : decode cL_law 811 = .ok (.iload 4, 2) := by decide +kernel
theorem dL_law_813 : decode cL_law 813 = .ok (.iconst 2, 1) := by decide +kernel
theorem dL_law_814 : decode cL_law 814 = .ok (.iadd, 1) := by decide +kernel
theorem dL_law_815 : decode cL_law 815 = .ok (.iaload, 1) := by decide +kernel
theorem dL_law_816 : decode cL_law 816 = .ok (.aload_n 0, 1) := by decide +kernel
theorem dL_law_817 : decode cL_law 817 = .ok (.iload 4, 2) := by decide +kernel
theorem dL_law_819 : decode cL_law 819 = .ok (.iconst 3, 1) := by decide +kernel
theorem dL_law_820 : decode cL_law 820 = .ok (.iadd, 1) := by decide +kernel
theorem dL_law_821 : decode cL_law 821 = .ok (.iaload, 1) := by decide +kernel
theorem dL_law_822 : decode cL_law 822 = .ok (.invokevirtual 123, 3) := by decide +kernel
theorem dL_law_825 : decode cL_law 825 = .ok (.istore 6, 2) := by decide +kernel
theorem dL_law_827 : decode cL_law 827 = .ok (.aload_n 2, 1) := by decide +kernel
theorem dL_law_828 : decode cL_law 828 = .ok (.invokevirtual 80, 3) := by decide +kernel
theorem dL_law_831 : decode cL_law 831 = .ok (.iload 5, 2) := by decide +kernel
theorem dL_law_833 : decode cL_law 833 = .ok (.if_icmp .eq 5, 3) := by decide +kernel
theorem dL_law_836 : decode cL_law 836 = .ok (.iconst 0, 1) := by decide +kernel
theorem dL_law_837 : decode cL_law 837 = .ok (.ireturn, 1) := by decide +kernel
theorem dL_law_838 : decode cL_law 838 = .ok (.iload 5, 2) := by decide +kernel
theorem dL_law_840 : decode cL_law 840 = .ok (.ifCond .ne 15, 3) := by decide +kernel
theorem dL_law_843 : decode cL_law 843 = .ok (.aload_n 3, 1) := by decide +kernel
theorem dL_law_844 : decode cL_law 844 = .ok (.iconst 0, 1) := by decide +kernel
theorem dL_law_845 : decode cL_law 845 = .ok (.laload, 1) := by decide +kernel
theorem dL_law_846 : decode cL_law 846 = .ok (.iload 6, 2) := by decide +kernel
theorem dL_law_848 : decode cL_law 848 = .ok (.i2l, 1) := by decide +kernel
theorem dL_law_849 : decode cL_law 849 = .ok (.lcmp, 1) := by decide +kernel
theorem dL_law_850 : decode cL_law 850 = .ok (.ifCond .eq 5, 3) := by decide +kernel
theorem dL_law_853 : decode cL_law 853 = .ok (.iconst 0, 1) := by decide +kernel
theorem dL_law_854 : decode cL_law 854 = .ok (.ireturn, 1) := by decide +kernel
theorem dL_law_855 : decode cL_law 855 = .ok (.goto 468, 3) := by decide +kernel
theorem dL_law_858 : decode cL_law 858 = .ok (.aload_n 1, 1) := by decide +kernel
theorem dL_law_859 : decode cL_law 859 = .ok (.aload_n 0, 1) := by decide +kernel
theorem dL_law_860 : decode cL_law 860 = .ok (.iload 4, 2) := by decide +kernel
theorem dL_law_862 : decode cL_law 862 = .ok (.iconst 1, 1) := by decide +kernel
theorem dL_law_863 : decode cL_law 863 = .ok (.iadd, 1) := by decide +kernel
theorem dL_law_864 : decode cL_law 864 = .ok (.iaload, 1) := by decide +kernel
theorem dL_law_865 : decode cL_law 865 = .ok (.aload_n 0, 1) := by decide +kernel
theorem dL_law_866 : decode cL_law 866 = .ok (.iload 4, 2) := by decide +kernel
theorem dL_law_868 : decode cL_law 868 = .ok (.iconst 2, 1) := by decide +kernel
theorem dL_law_869 : decode cL_law 869 = .ok (.iadd, 1) := by decide +kernel
theorem dL_law_870 : decode cL_law 870 = .ok (.iaload, 1) := by decide +kernel
theorem dL_law_871 : decode cL_law 871 = .ok (.aload_n 3, 1) := by decide +kernel
theorem dL_law_872 : decode cL_law 872 = .ok (.invokestatic 124, 3) := by decide +kernel
theorem dL_law_875 : decode cL_law 875 = .ok (.istore 5, 2) := by decide +kernel
theorem dL_law_877 : decode cL_law 877 = .ok (.aload_n 2, 1) := by decide +kernel
theorem dL_law_878 : decode cL_law 878 = .ok (.aload_n 0, 1) := by decide +kernel
theorem dL_law_879 : decode cL_law 879 = .ok (.iload 4, 2) := by decide +kernel
theorem dL_law_881 : decode cL_law 881 = .ok (.iconst 1, 1) := by decide +kernel
theorem dL_law_882 : decode cL_law 882 = .ok (.iadd, 1) := by decide +kernel
theorem dL_law_883 : decode cL_law 883 = .ok (.iaload, 1) := by decide +kernel
theorem dL_law_884 : decode cL_law 884 = .ok (.aload_n 0, 1) := by decide +kernel
theorem dL_law_885 : decode cL_law 885 = .ok (.iload 4, 2) := by decide +kernel
theorem dL_law_887 : decode cL_law 887 = .ok (.iconst 2, 1) := by decide +kernel
theorem dL_law_888 : decode cL_law 888 = .ok (.iadd, 1) := by decide +kernel
theorem dL_law_889 : decode cL_law 889 = .ok (.iaload, 1) := by decide +kernel
theorem dL_law_890 : decode cL_law 890 = .ok (.invokevirtual 126, 3) := by decide +kernel
theorem dL_law_893 : decode cL_law 893 = .ok (.istore 6, 2) := by decide +kernel
theorem dL_law_895 : decode cL_law 895 = .ok (.aload_n 2, 1) := by decide +kernel
theorem dL_law_896 : decode cL_law 896 = .ok (.invokevirtual 80, 3) := by decide +kernel
theorem dL_law_899 : decode cL_law 899 = .ok (.iload 5, 2) := by decide +kernel
theorem dL_law_901 : decode cL_law 901 = .ok (.if_icmp .eq 5, 3) := by decide +kernel
theorem dL_law_904 : decode cL_law 904 = .ok (.iconst 0, 1) := by decide +kernel
theorem dL_law_905 : decode cL_law 905 = .ok (.ireturn, 1) := by decide +kernel
theorem dL_law_906 : decode cL_law 906 = .ok (.iload 5, 2) := by decide +kernel
theorem dL_law_908 : decode cL_law 908 = .ok (.ifCond .ne 15, 3) := by decide +kernel
theorem dL_law_911 : decode cL_law 911 = .ok (.aload_n 3, 1) := by decide +kernel
theorem dL_law_912 : decode cL_law 912 = .ok (.iconst 0, 1) := by decide +kernel
theorem dL_law_913 : decode cL_law 913 = .ok (.laload, 1) := by decide +kernel
theorem dL_law_914 : decode cL_law 914 = .ok (.iload 6, 2) := by decide +kernel
theorem dL_law_916 : decode cL_law 916 = .ok (.i2l, 1) := by decide +kernel
theorem dL_law_917 : decode cL_law 917 = .ok (.lcmp, 1) := by decide +kernel
theorem dL_law_918 : decode cL_law 918 = .ok (.ifCond .eq 5, 3) := by decide +kernel
theorem dL_law_921 : decode cL_law 921 = .ok (.iconst 0, 1) := by decide +kernel
theorem dL_law_922 : decode cL_law 922 = .ok (.ireturn, 1) := by decide +kernel
theorem dL_law_923 : decode cL_law 923 = .ok (.goto 400, 3) := by decide +kernel
theorem dL_law_926 : decode cL_law 926 = .ok (.aload_n 1, 1) := by decide +kernel
theorem dL_law_927 : decode cL_law 927 = .ok (.aload_n 0, 1) := by decide +kernel
theorem dL_law_928 : decode cL_law 928 = .ok (.iload 4, 2) := by decide +kernel
theorem dL_law_930 : decode cL_law 930 = .ok (.iconst 1, 1) := by decide +kernel
theorem dL_law_931 : decode cL_law 931 = .ok (.iadd, 1) := by decide +kernel
theorem dL_law_932 : decode cL_law 932 = .ok (.iaload, 1) := by decide +kernel
theorem dL_law_933 : decode cL_law 933 = .ok (.aload_n 0, 1) := by decide +kernel
theorem dL_law_934 : decode cL_law 934 = .ok (.iload 4, 2) := by decide +kernel
theorem dL_law_936 : decode cL_law 936 = .ok (.iconst 2, 1) := by decide +kernel
theorem dL_law_937 : decode cL_law 937 = .ok (.iadd, 1) := by decide +kernel
theorem dL_law_938 : decode cL_law 938 = .ok (.iaload, 1) := by decide +kernel
theorem dL_law_939 : decode cL_law 939 = .ok (.aload_n 3, 1) := by decide +kernel
theorem dL_law_940 : decode cL_law 940 = .ok (.invokestatic 127, 3) := by decide +kernel
theorem dL_law_943 : decode cL_law 943 = .ok (.istore 5, 2) := by decide +kernel
theorem dL_law_945 : decode cL_law 945 = .ok (.aload_n 2, 1) := by decide +kernel
theorem dL_law_946 : decode cL_law 946 = .ok (.aload_n 0, 1) := by decide +kernel
theorem dL_law_947 : decode cL_law 947 = .ok (.iload 4, 2) := by decide +kernel
theorem dL_law_949 : decode cL_law 949 = .ok (.iconst 1, 1) := by decide +kernel
theorem dL_law_950 : decode cL_law 950 = .ok (.iadd, 1) := by decide +kernel
theorem dL_law_951 : decode cL_law 951 = .ok (.iaload, 1) := by decide +kernel
theorem dL_law_952 : decode cL_law 952 = .ok (.aload_n 0, 1) := by decide +kernel
theorem dL_law_953 : decode cL_law 953 = .ok (.iload 4, 2) := by decide +kernel
theorem dL_law_955 : decode cL_law 955 = .ok (.iconst 2, 1) := by decide +kernel
theorem dL_law_956 : decode cL_law 956 = .ok (.iadd, 1) := by decide +kernel
theorem dL_law_957 : decode cL_law 957 = .ok (.iaload, 1) := by decide +kernel
theorem dL_law_958 : decode cL_law 958 = .ok (.invokevirtual 129, 3) := by decide +kernel
theorem dL_law_961 : decode cL_law 961 = .ok (.istore 6, 2) := by decide +kernel
theorem dL_law_963 : decode cL_law 963 = .ok (.aload_n 2, 1) := by decide +kernel
theorem dL_law_964 : decode cL_law 964 = .ok (.invokevirtual 80, 3) := by decide +kernel
theorem dL_law_967 : decode cL_law 967 = .ok (.iload 5, 2) := by decide +kernel
theorem dL_law_969 : decode cL_law 969 = .ok (.if_icmp .eq 5, 3) := by decide +kernel
theorem dL_law_972 : decode cL_law 972 = .ok (.iconst 0, 1) := by decide +kernel
theorem dL_law_973 : decode cL_law 973 = .ok (.ireturn, 1) := by decide +kernel
theorem dL_law_974 : decode cL_law 974 = .ok (.iload 5, 2) := by decide +kernel
theorem dL_law_976 : decode cL_law 976 = .ok (.ifCond .ne 15, 3) := by decide +kernel
theorem dL_law_979 : decode cL_law 979 = .ok (.aload_n 3, 1) := by decide +kernel
theorem dL_law_980 : decode cL_law 980 = .ok (.iconst 0, 1) := by decide +kernel
theorem dL_law_981 : decode cL_law 981 = .ok (.laload, 1) := by decide +kernel
theorem dL_law_982 : decode cL_law 982 = .ok (.iload 6, 2) := by decide +kernel
theorem dL_law_984 : decode cL_law 984 = .ok (.i2l, 1) := by decide +kernel
theorem dL_law_985 : decode cL_law 985 = .ok (.lcmp, 1) := by decide +kernel
theorem dL_law_986 : decode cL_law 986 = .ok (.ifCond .eq 5, 3) := by decide +kernel
theorem dL_law_989 : decode cL_law 989 = .ok (.iconst 0, 1) := by decide +kernel
theorem dL_law_990 : decode cL_law 990 = .ok (.ireturn, 1) := by decide +kernel
theorem dL_law_991 : decode cL_law 991 = .ok (.goto 332, 3) := by decide +kernel
theorem dL_law_994 : decode cL_law 994 = .ok (.aload_n 1, 1) := by decide +kernel
theorem dL_law_995 : decode cL_law 995 = .ok (.aload_n 0, 1) := by decide +kernel
theorem dL_law_996 : decode cL_law 996 = .ok (.iload 4, 2) := by decide +kernel
theorem dL_law_998 : decode cL_law 998 = .ok (.iconst 1, 1) := by decide +kernel
theorem dL_law_999 : decode cL_law 999 = .ok (.iadd, 1) := by decide +kernel
theorem dL_law_1000 : decode cL_law 1000 = .ok (.iaload, 1) := by decide +kernel
theorem dL_law_1001 : decode cL_law 1001 = .ok (.aload_n 3, 1) := by decide +kernel
theorem dL_law_1002 : decode cL_law 1002 = .ok (.invokestatic 130, 3) := by decide +kernel
theorem dL_law_1005 : decode cL_law 1005 = .ok (.istore 5, 2) := by decide +kernel
theorem dL_law_1007 : decode cL_law 1007 = .ok (.aload_n 2, 1) := by decide +kernel
theorem dL_law_1008 : decode cL_law 1008 = .ok (.aload_n 0, 1) := by decide +kernel
theorem dL_law_1009 : decode cL_law 1009 = .ok (.iload 4, 2) := by decide +kernel
theorem dL_law_1011 : decode cL_law 1011 = .ok (.iconst 1, 1) := by decide +kernel
theorem dL_law_1012 : decode cL_law 1012 = .ok (.iadd, 1) := by decide +kernel
theorem dL_law_1013 : decode cL_law 1013 = .ok (.iaload, 1) := by decide +kernel
theorem dL_law_1014 : decode cL_law 1014 = .ok (.invokevirtual 132, 3) := by decide +kernel
theorem dL_law_1017 : decode cL_law 1017 = .ok (.istore 6, 2) := by decide +kernel
theorem dL_law_1019 : decode cL_law 1019 = .ok (.aload_n 2, 1) := by decide +kernel
theorem dL_law_1020 : decode cL_law 1020 = .ok (.invokevirtual 80, 3) := by decide +kernel
theorem dL_law_1023 : decode cL_law 1023 = .ok (.iload 5, 2) := by decide +kernel
theorem dL_law_1025 : decode cL_law 1025 = .ok (.if_icmp .eq 5, 3) := by decide +kernel
theorem dL_law_1028 : decode cL_law 1028 = .ok (.iconst 0, 1) := by decide +kernel
theorem dL_law_1029 : decode cL_law 1029 = .ok (.ireturn, 1) := by decide +kernel
theorem dL_law_1030 : decode cL_law 1030 = .ok (.iload 5, 2) := by decide +kernel
theorem dL_law_1032 : decode cL_law 1032 = .ok (.ifCond .ne 15, 3) := by decide +kernel
theorem dL_law_1035 : decode cL_law 1035 = .ok (.aload_n 3, 1) := by decide +kernel
theorem dL_law_1036 : decode cL_law 1036 = .ok (.iconst 0, 1) := by decide +kernel
theorem dL_law_1037 : decode cL_law 1037 = .ok (.laload, 1) := by decide +kernel
theorem dL_law_1038 : decode cL_law 1038 = .ok (.iload 6, 2) := by decide +kernel
theorem dL_law_1040 : decode cL_law 1040 = .ok (.i2l, 1) := by decide +kernel
theorem dL_law_1041 : decode cL_law 1041 = .ok (.lcmp, 1) := by decide +kernel
theorem dL_law_1042 : decode cL_law 1042 = .ok (.ifCond .eq 5, 3) := by decide +kernel
theorem dL_law_1045 : decode cL_law 1045 = .ok (.iconst 0, 1) := by decide +kernel
theorem dL_law_1046 : decode cL_law 1046 = .ok (.ireturn, 1) := by decide +kernel
theorem dL_law_1047 : decode cL_law 1047 = .ok (.goto 276, 3) := by decide +kernel
theorem dL_law_1050 : decode cL_law 1050 = .ok (.aload_n 1, 1) := by decide +kernel
theorem dL_law_1051 : decode cL_law 1051 = .ok (.aload_n 0, 1) := by decide +kernel
theorem dL_law_1052 : decode cL_law 1052 = .ok (.iload 4, 2) := by decide +kernel
theorem dL_law_1054 : decode cL_law 1054 = .ok (.iconst 1, 1) := by decide +kernel
theorem dL_law_1055 : decode cL_law 1055 = .ok (.iadd, 1) := by decide +kernel
theorem dL_law_1056 : decode cL_law 1056 = .ok (.iaload, 1) := by decide +kernel
theorem dL_law_1057 : decode cL_law 1057 = .ok (.aload_n 3, 1) := by decide +kernel
theorem dL_law_1058 : decode cL_law 1058 = .ok (.invokestatic 133, 3) := by decide +kernel
theorem dL_law_1061 : decode cL_law 1061 = .ok (.istore 5, 2) := by decide +kernel
theorem dL_law_1063 : decode cL_law 1063 = .ok (.aload_n 2, 1) := by decide +kernel
theorem dL_law_1064 : decode cL_law 1064 = .ok (.aload_n 0, 1) := by decide +kernel
theorem dL_law_1065 : decode cL_law 1065 = .ok (.iload 4, 2) := by decide +kernel
theorem dL_law_1067 : decode cL_law 1067 = .ok (.iconst 1, 1) := by decide +kernel
theorem dL_law_1068 : decode cL_law 1068 = .ok (.iadd, 1) := by decide +kernel
theorem dL_law_1069 : decode cL_law 1069 = .ok (.iaload, 1) := by decide +kernel
theorem dL_law_1070 : decode cL_law 1070 = .ok (.invokevirtual 135, 3) := by decide +kernel
theorem dL_law_1073 : decode cL_law 1073 = .ok (.istore 6, 2) := by decide +kernel
theorem dL_law_1075 : decode cL_law 1075 = .ok (.aload_n 2, 1) := by decide +kernel
theorem dL_law_1076 : decode cL_law 1076 = .ok (.invokevirtual 80, 3) := by decide +kernel
theorem dL_law_1079 : decode cL_law 1079 = .ok (.iload 5, 2) := by decide +kernel
theorem dL_law_1081 : decode cL_law 1081 = .ok (.if_icmp .eq 5, 3) := by decide +kernel
theorem dL_law_1084 : decode cL_law 1084 = .ok (.iconst 0, 1) := by decide +kernel
theorem dL_law_1085 : decode cL_law 1085 = .ok (.ireturn, 1) := by decide +kernel
theorem dL_law_1086 : decode cL_law 1086 = .ok (.iload 5, 2) := by decide +kernel
theorem dL_law_1088 : decode cL_law 1088 = .ok (.ifCond .ne 15, 3) := by decide +kernel
theorem dL_law_1091 : decode cL_law 1091 = .ok (.aload_n 3, 1) := by decide +kernel
theorem dL_law_1092 : decode cL_law 1092 = .ok (.iconst 0, 1) := by decide +kernel
theorem dL_law_1093 : decode cL_law 1093 = .ok (.laload, 1) := by decide +kernel
theorem dL_law_1094 : decode cL_law 1094 = .ok (.iload 6, 2) := by decide +kernel
theorem dL_law_1096 : decode cL_law 1096 = .ok (.i2l, 1) := by decide +kernel
theorem dL_law_1097 : decode cL_law 1097 = .ok (.lcmp, 1) := by decide +kernel
theorem dL_law_1098 : decode cL_law 1098 = .ok (.ifCond .eq 5, 3) := by decide +kernel
theorem dL_law_1101 : decode cL_law 1101 = .ok (.iconst 0, 1) := by decide +kernel
theorem dL_law_1102 : decode cL_law 1102 = .ok (.ireturn, 1) := by decide +kernel
theorem dL_law_1103 : decode cL_law 1103 = .ok (.goto 220, 3) := by decide +kernel
theorem dL_law_1106 : decode cL_law 1106 = .ok (.aload_n 1, 1) := by decide +kernel
theorem dL_law_1107 : decode cL_law 1107 = .ok (.aload_n 0, 1) := by decide +kernel
theorem dL_law_1108 : decode cL_law 1108 = .ok (.iload 4, 2) := by decide +kernel
theorem dL_law_1110 : decode cL_law 1110 = .ok (.iconst 1, 1) := by decide +kernel
theorem dL_law_1111 : decode cL_law 1111 = .ok (.iadd, 1) := by decide +kernel
theorem dL_law_1112 : decode cL_law 1112 = .ok (.iaload, 1) := by decide +kernel
theorem dL_law_1113 : decode cL_law 1113 = .ok (.aload_n 0, 1) := by decide +kernel
theorem dL_law_1114 : decode cL_law 1114 = .ok (.iload 4, 2) := by decide +kernel
theorem dL_law_1116 : decode cL_law 1116 = .ok (.iconst 2, 1) := by decide +kernel
theorem dL_law_1117 : decode cL_law 1117 = .ok (.iadd, 1) := by decide +kernel
theorem dL_law_1118 : decode cL_law 1118 = .ok (.iaload, 1) := by decide +kernel
theorem dL_law_1119 : decode cL_law 1119 = .ok (.aload_n 0, 1) := by decide +kernel
theorem dL_law_1120 : decode cL_law 1120 = .ok (.iload 4, 2) := by decide +kernel
theorem dL_law_1122 : decode cL_law 1122 = .ok (.iconst 3, 1) := by decide +kernel
theorem dL_law_1123 : decode cL_law 1123 = .ok (.iadd, 1) := by decide +kernel
theorem dL_law_1124 : decode cL_law 1124 = .ok (.iaload, 1) := by decide +kernel
theorem dL_law_1125 : decode cL_law 1125 = .ok (.aload_n 3, 1) := by decide +kernel
theorem dL_law_1126 : decode cL_law 1126 = .ok (.invokestatic 136, 3) := by decide +kernel
theorem dL_law_1129 : decode cL_law 1129 = .ok (.istore 5, 2) := by decide +kernel
theorem dL_law_1131 : decode cL_law 1131 = .ok (.aload_n 2, 1) := by decide +kernel
theorem dL_law_1132 : decode cL_law 1132 = .ok (.aload_n 0, 1) := by decide +kernel
theorem dL_law_1133 : decode cL_law 1133 = .ok (.iload 4, 2) := by decide +kernel
theorem dL_law_1135 : decode cL_law 1135 = .ok (.iconst 1, 1) := by decide +kernel
theorem dL_law_1136 : decode cL_law 1136 = .ok (.iadd, 1) := by decide +kernel
theorem dL_law_1137 : decode cL_law 1137 = .ok (.iaload, 1) := by decide +kernel
theorem dL_law_1138 : decode cL_law 1138 = .ok (.aload_n 0, 1) := by decide +kernel
theorem dL_law_1139 : decode cL_law 1139 = .ok (.iload 4, 2) := by decide +kernel
theorem dL_law_1141 : decode cL_law 1141 = .ok (.iconst 2, 1) := by decide +kernel
theorem dL_law_1142 : decode cL_law 1142 = .ok (.iadd, 1) := by decide +kernel
theorem dL_law_1143 : decode cL_law 1143 = .ok (.iaload, 1) := by decide +kernel
theorem dL_law_1144 : decode cL_law 1144 = .ok (.aload_n 0, 1) := by decide +kernel
theorem dL_law_1145 : decode cL_law 1145 = .ok (.iload 4, 2) := by decide +kernel
theorem dL_law_1147 : decode cL_law 1147 = .ok (.iconst 3, 1) := by decide +kernel
theorem dL_law_1148 : decode cL_law 1148 = .ok (.iadd, 1) := by decide +kernel
theorem dL_law_1149 : decode cL_law 1149 = .ok (.iaload, 1) := by decide +kernel
theorem dL_law_1150 : decode cL_law 1150 = .ok (.invokevirtual 138, 3) := by decide +kernel
theorem dL_law_1153 : decode cL_law 1153 = .ok (.istore 6, 2) := by decide +kernel
theorem dL_law_1155 : decode cL_law 1155 = .ok (.aload_n 2, 1) := by decide +kernel
theorem dL_law_1156 : decode cL_law 1156 = .ok (.invokevirtual 80, 3) := by decide +kernel
theorem dL_law_1159 : decode cL_law 1159 = .ok (.iload 5, 2) := by decide +kernel
theorem dL_law_1161 : decode cL_law 1161 = .ok (.if_icmp .eq 5, 3) := by decide +kernel
theorem dL_law_1164 : decode cL_law 1164 = .ok (.iconst 0, 1) := by decide +kernel
theorem dL_law_1165 : decode cL_law 1165 = .ok (.ireturn, 1) := by decide +kernel
theorem dL_law_1166 : decode cL_law 1166 = .ok (.iload 5, 2) := by decide +kernel
theorem dL_law_1168 : decode cL_law 1168 = .ok (.ifCond .ne 15, 3) := by decide +kernel
theorem dL_law_1171 : decode cL_law 1171 = .ok (.aload_n 3, 1) := by decide +kernel
theorem dL_law_1172 : decode cL_law 1172 = .ok (.iconst 0, 1) := by decide +kernel
theorem dL_law_1173 : decode cL_law 1173 = .ok (.laload, 1) := by decide +kernel
theorem dL_law_1174 : decode cL_law 1174 = .ok (.iload 6, 2) := by decide +kernel
theorem dL_law_1176 : decode cL_law 1176 = .ok (.i2l, 1) := by decide +kernel
theorem dL_law_1177 : decode cL_law 1177 = .ok (.lcmp, 1) := by decide +kernel
theorem dL_law_1178 : decode cL_law 1178 = .ok (.ifCond .eq 5, 3) := by decide +kernel
theorem dL_law_1181 : decode cL_law 1181 = .ok (.iconst 0, 1) := by decide +kernel
theorem dL_law_1182 : decode cL_law 1182 = .ok (.ireturn, 1) := by decide +kernel
theorem dL_law_1183 : decode cL_law 1183 = .ok (.goto 140, 3) := by decide +kernel
theorem dL_law_1186 : decode cL_law 1186 = .ok (.aload_n 1, 1) := by decide +kernel
theorem dL_law_1187 : decode cL_law 1187 = .ok (.invokevirtual 139, 3) := by decide +kernel
theorem dL_law_1190 : decode cL_law 1190 = .ok (.aload_n 2, 1) := by decide +kernel
theorem dL_law_1191 : decode cL_law 1191 = .ok (.invokevirtual 142, 3) := by decide +kernel
theorem dL_law_1194 : decode cL_law 1194 = .ok (.if_icmp .eq 129, 3) := by decide +kernel
theorem dL_law_1197 : decode cL_law 1197 = .ok (.iconst 0, 1) := by decide +kernel
theorem dL_law_1198 : decode cL_law 1198 = .ok (.ireturn, 1) := by decide +kernel
theorem dL_law_1199 : decode cL_law 1199 = .ok (.aload_n 1, 1) := by decide +kernel
theorem dL_law_1200 : decode cL_law 1200 = .ok (.invokevirtual 143, 3) := by decide +kernel
theorem dL_law_1203 : decode cL_law 1203 = .ok (.aload_n 2, 1) := by decide +kernel
theorem dL_law_1204 : decode cL_law 1204 = .ok (.invokevirtual 146, 3) := by decide +kernel
theorem dL_law_1207 : decode cL_law 1207 = .ok (.if_icmp .eq 116, 3) := by decide +kernel
theorem dL_law_1210 : decode cL_law 1210 = .ok (.iconst 0, 1) := by decide +kernel
theorem dL_law_1211 : decode cL_law 1211 = .ok (.ireturn, 1) := by decide +kernel
theorem dL_law_1212 : decode cL_law 1212 = .ok (.aload_n 1, 1) := by decide +kernel
theorem dL_law_1213 : decode cL_law 1213 = .ok (.aload_n 0, 1) := by decide +kernel
theorem dL_law_1214 : decode cL_law 1214 = .ok (.iload 4, 2) := by decide +kernel
theorem dL_law_1216 : decode cL_law 1216 = .ok (.iconst 1, 1) := by decide +kernel
theorem dL_law_1217 : decode cL_law 1217 = .ok (.iadd, 1) := by decide +kernel
theorem dL_law_1218 : decode cL_law 1218 = .ok (.iaload, 1) := by decide +kernel
theorem dL_law_1219 : decode cL_law 1219 = .ok (.aload_n 3, 1) := by decide +kernel
theorem dL_law_1220 : decode cL_law 1220 = .ok (.invokestatic 147, 3) := by decide +kernel
theorem dL_law_1223 : decode cL_law 1223 = .ok (.istore 5, 2) := by decide +kernel
theorem dL_law_1225 : decode cL_law 1225 = .ok (.aload_n 2, 1) := by decide +kernel
theorem dL_law_1226 : decode cL_law 1226 = .ok (.aload_n 0, 1) := by decide +kernel
theorem dL_law_1227 : decode cL_law 1227 = .ok (.iload 4, 2) := by decide +kernel
theorem dL_law_1229 : decode cL_law 1229 = .ok (.iconst 1, 1) := by decide +kernel
theorem dL_law_1230 : decode cL_law 1230 = .ok (.iadd, 1) := by decide +kernel
theorem dL_law_1231 : decode cL_law 1231 = .ok (.iaload, 1) := by decide +kernel
theorem dL_law_1232 : decode cL_law 1232 = .ok (.invokevirtual 149, 3) := by decide +kernel
theorem dL_law_1235 : decode cL_law 1235 = .ok (.istore 6, 2) := by decide +kernel
theorem dL_law_1237 : decode cL_law 1237 = .ok (.aload_n 2, 1) := by decide +kernel
theorem dL_law_1238 : decode cL_law 1238 = .ok (.invokevirtual 80, 3) := by decide +kernel
theorem dL_law_1241 : decode cL_law 1241 = .ok (.iload 5, 2) := by decide +kernel
theorem dL_law_1243 : decode cL_law 1243 = .ok (.if_icmp .eq 5, 3) := by decide +kernel
theorem dL_law_1246 : decode cL_law 1246 = .ok (.iconst 0, 1) := by decide +kernel
theorem dL_law_1247 : decode cL_law 1247 = .ok (.ireturn, 1) := by decide +kernel
theorem dL_law_1248 : decode cL_law 1248 = .ok (.iload 5, 2) := by decide +kernel
theorem dL_law_1250 : decode cL_law 1250 = .ok (.ifCond .ne 15, 3) := by decide +kernel
theorem dL_law_1253 : decode cL_law 1253 = .ok (.aload_n 3, 1) := by decide +kernel
theorem dL_law_1254 : decode cL_law 1254 = .ok (.iconst 0, 1) := by decide +kernel
theorem dL_law_1255 : decode cL_law 1255 = .ok (.laload, 1) := by decide +kernel
theorem dL_law_1256 : decode cL_law 1256 = .ok (.iload 6, 2) := by decide +kernel
theorem dL_law_1258 : decode cL_law 1258 = .ok (.i2l, 1) := by decide +kernel
theorem dL_law_1259 : decode cL_law 1259 = .ok (.lcmp, 1) := by decide +kernel
theorem dL_law_1260 : decode cL_law 1260 = .ok (.ifCond .eq 5, 3) := by decide +kernel
theorem dL_law_1263 : decode cL_law 1263 = .ok (.iconst 0, 1) := by decide +kernel
theorem dL_law_1264 : decode cL_law 1264 = .ok (.ireturn, 1) := by decide +kernel
theorem dL_law_1265 : decode cL_law 1265 = .ok (.goto 58, 3) := by decide +kernel
theorem dL_law_1268 : decode cL_law 1268 = .ok (.aload_n 1, 1) := by decide +kernel
theorem dL_law_1269 : decode cL_law 1269 = .ok (.invokevirtual 150, 3) := by decide +kernel
theorem dL_law_1272 : decode cL_law 1272 = .ok (.dstore 5, 2) := by decide +kernel
theorem dL_law_1274 : decode cL_law 1274 = .ok (.aload_n 2, 1) := by decide +kernel
theorem dL_law_1275 : decode cL_law 1275 = .ok (.invokevirtual 154, 3) := by decide +kernel
theorem dL_law_1278 : decode cL_law 1278 = .ok (.dstore 7, 2) := by decide +kernel
theorem dL_law_1280 : decode cL_law 1280 = .ok (.dload 5, 2) := by decide +kernel
theorem dL_law_1282 : decode cL_law 1282 = .ok (.dload 7, 2) := by decide +kernel
theorem dL_law_1284 : decode cL_law 1284 = .ok (.dcmp .l, 1) := by decide +kernel
theorem dL_law_1285 : decode cL_law 1285 = .ok (.ifCond .eq 21, 3) := by decide +kernel
theorem dL_law_1288 : decode cL_law 1288 = .ok (.dload 5, 2) := by decide +kernel
theorem dL_law_1290 : decode cL_law 1290 = .ok (.dload 5, 2) := by decide +kernel
theorem dL_law_1292 : decode cL_law 1292 = .ok (.dcmp .l, 1) := by decide +kernel
theorem dL_law_1293 : decode cL_law 1293 = .ok (.ifCond .eq 11, 3) := by decide +kernel
theorem dL_law_1296 : decode cL_law 1296 = .ok (.dload 7, 2) := by decide +kernel
theorem dL_law_1298 : decode cL_law 1298 = .ok (.dload 7, 2) := by decide +kernel
theorem dL_law_1300 : decode cL_law 1300 = .ok (.dcmp .l, 1) := by decide +kernel
theorem dL_law_1301 : decode cL_law 1301 = .ok (.ifCond .ne 5, 3) := by decide +kernel
theorem dL_law_1304 : decode cL_law 1304 = .ok (.iconst 0, 1) := by decide +kernel
theorem dL_law_1305 : decode cL_law 1305 = .ok (.ireturn, 1) := by decide +kernel
theorem dL_law_1306 : decode cL_law 1306 = .ok (.goto 17, 3) := by decide +kernel
theorem dL_law_1309 : decode cL_law 1309 = .ok (.aload_n 1, 1) := by decide +kernel
theorem dL_law_1310 : decode cL_law 1310 = .ok (.invokevirtual 155, 3) := by decide +kernel
theorem dL_law_1313 : decode cL_law 1313 = .ok (.aload_n 2, 1) := by decide +kernel
theorem dL_law_1314 : decode cL_law 1314 = .ok (.invokevirtual 159, 3) := by decide +kernel
theorem dL_law_1317 : decode cL_law 1317 = .ok (.lcmp, 1) := by decide +kernel
theorem dL_law_1318 : decode cL_law 1318 = .ok (.ifCond .eq 5, 3) := by decide +kernel
theorem dL_law_1321 : decode cL_law 1321 = .ok (.iconst 0, 1) := by decide +kernel
theorem dL_law_1322 : decode cL_law 1322 = .ok (.ireturn, 1) := by decide +kernel
theorem dL_law_1323 : decode cL_law 1323 = .ok (.iinc 4 4, 3) := by decide +kernel
theorem dL_law_1326 : decode cL_law 1326 = .ok (.goto (-1303), 3) := by decide +kernel
theorem dL_law_1329 : decode cL_law 1329 = .ok (.iconst 1, 1) := by decide +kernel
theorem dL_law_1330 : decode cL_law 1330 = .ok (.ireturn, 1) := by decide +kernel
