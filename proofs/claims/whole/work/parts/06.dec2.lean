theorem d_A_firstWaiting_23 : decode b_A_firstWaiting 23 = .ok (.aload 5, 2) := by decide +kernel
theorem d_A_firstWaiting_25 : decode b_A_firstWaiting 25 = .ok (.iload_n 1, 1) := by decide +kernel
theorem d_A_firstWaiting_26 : decode b_A_firstWaiting 26 = .ok (.iload_n 2, 1) := by decide +kernel
theorem d_A_firstWaiting_27 : decode b_A_firstWaiting 27 = .ok (.invokevirtual 238, 3) := by decide +kernel
theorem d_A_firstWaiting_30 : decode b_A_firstWaiting 30 = .ok (.ifCond .eq 15, 3) := by decide +kernel
theorem d_A_firstWaiting_33 : decode b_A_firstWaiting 33 = .ok (.aload 5, 2) := by decide +kernel
theorem d_A_firstWaiting_35 : decode b_A_firstWaiting 35 = .ok (.aload_n 3, 1) := by decide +kernel
theorem d_A_firstWaiting_36 : decode b_A_firstWaiting 36 = .ok (.invokevirtual 235, 3) := by decide +kernel
theorem d_A_firstWaiting_39 : decode b_A_firstWaiting 39 = .ok (.ifCond .eq 6, 3) := by decide +kernel
theorem d_A_firstWaiting_42 : decode b_A_firstWaiting 42 = .ok (.aload 5, 2) := by decide +kernel
theorem d_A_firstWaiting_44 : decode b_A_firstWaiting 44 = .ok (.astore_n 3, 1) := by decide +kernel
theorem d_A_firstWaiting_45 : decode b_A_firstWaiting 45 = .ok (.iinc 4 1, 3) := by decide +kernel
theorem d_A_firstWaiting_48 : decode b_A_firstWaiting 48 = .ok (.goto (-43), 3) := by decide +kernel
theorem d_A_firstWaiting_51 : decode b_A_firstWaiting 51 = .ok (.aload_n 3, 1) := by decide +kernel
theorem d_A_firstWaiting_52 : decode b_A_firstWaiting 52 = .ok (.areturn, 1) := by decide +kernel
theorem d_K_waitsAt_0 : decode b_K_waitsAt 0 = .ok (.aload_n 0, 1) := by decide +kernel
theorem d_K_waitsAt_1 : decode b_K_waitsAt 1 = .ok (.getfield 18, 3) := by decide +kernel
theorem d_K_waitsAt_4 : decode b_K_waitsAt 4 = .ok (.iconst 2, 1) := by decide +kernel
theorem d_K_waitsAt_5 : decode b_K_waitsAt 5 = .ok (.if_icmp .ne 39, 3) := by decide +kernel
theorem d_K_waitsAt_8 : decode b_K_waitsAt 8 = .ok (.aload_n 0, 1) := by decide +kernel
theorem d_K_waitsAt_9 : decode b_K_waitsAt 9 = .ok (.getfield 12, 3) := by decide +kernel
theorem d_K_waitsAt_12 : decode b_K_waitsAt 12 = .ok (.getfield 75, 3) := by decide +kernel
theorem d_K_waitsAt_15 : decode b_K_waitsAt 15 = .ok (.aload_n 0, 1) := by decide +kernel
theorem d_K_waitsAt_16 : decode b_K_waitsAt 16 = .ok (.getfield 59, 3) := by decide +kernel
theorem d_K_waitsAt_19 : decode b_K_waitsAt 19 = .ok (.iaload, 1) := by decide +kernel
theorem d_K_waitsAt_20 : decode b_K_waitsAt 20 = .ok (.iload_n 1, 1) := by decide +kernel
theorem d_K_waitsAt_21 : decode b_K_waitsAt 21 = .ok (.if_icmp .ne 23, 3) := by decide +kernel
theorem d_K_waitsAt_24 : decode b_K_waitsAt 24 = .ok (.aload_n 0, 1) := by decide +kernel
theorem d_K_waitsAt_25 : decode b_K_waitsAt 25 = .ok (.getfield 12, 3) := by decide +kernel
theorem d_K_waitsAt_28 : decode b_K_waitsAt 28 = .ok (.getfield 79, 3) := by decide +kernel
theorem d_K_waitsAt_31 : decode b_K_waitsAt 31 = .ok (.aload_n 0, 1) := by decide +kernel
theorem d_K_waitsAt_32 : decode b_K_waitsAt 32 = .ok (.getfield 59, 3) := by decide +kernel
theorem d_K_waitsAt_35 : decode b_K_waitsAt 35 = .ok (.iaload, 1) := by decide +kernel
theorem d_K_waitsAt_36 : decode b_K_waitsAt 36 = .ok (.iload_n 2, 1) := by decide +kernel
theorem d_K_waitsAt_37 : decode b_K_waitsAt 37 = .ok (.if_icmp .ne 7, 3) := by decide +kernel
theorem d_K_waitsAt_40 : decode b_K_waitsAt 40 = .ok (.iconst 1, 1) := by decide +kernel
theorem d_K_waitsAt_41 : decode b_K_waitsAt 41 = .ok (.goto 4, 3) := by decide +kernel
theorem d_K_waitsAt_44 : decode b_K_waitsAt 44 = .ok (.iconst 0, 1) := by decide +kernel
theorem d_K_waitsAt_45 : decode b_K_waitsAt 45 = .ok (.ireturn, 1) := by decide +kernel
theorem d_O_put_0 : decode b_O_put 0 = .ok (.aload_n 0, 1) := by decide +kernel
theorem d_O_put_1 : decode b_O_put 1 = .ok (.getfield 9, 3) := by decide +kernel
theorem d_O_put_4 : decode b_O_put 4 = .ok (.aload_n 0, 1) := by decide +kernel
theorem d_O_put_5 : decode b_O_put 5 = .ok (.getfield 15, 3) := by decide +kernel
theorem d_O_put_8 : decode b_O_put 8 = .ok (.iload_n 1, 1) := by decide +kernel
theorem d_O_put_9 : decode b_O_put 9 = .ok (.iastore, 1) := by decide +kernel
theorem d_O_put_10 : decode b_O_put 10 = .ok (.aload_n 0, 1) := by decide +kernel
theorem d_O_put_11 : decode b_O_put 11 = .ok (.dup, 1) := by decide +kernel
theorem d_O_put_12 : decode b_O_put 12 = .ok (.getfield 15, 3) := by decide +kernel
theorem d_O_put_15 : decode b_O_put 15 = .ok (.iconst 1, 1) := by decide +kernel
theorem d_O_put_16 : decode b_O_put 16 = .ok (.iadd, 1) := by decide +kernel
theorem d_O_put_17 : decode b_O_put 17 = .ok (.putfield 15, 3) := by decide +kernel
theorem d_O_put_20 : decode b_O_put 20 = .ok (.return_, 1) := by decide +kernel
theorem d_A_take_0 : decode b_A_take 0 = .ok (.aload_n 0, 1) := by decide +kernel
theorem d_A_take_1 : decode b_A_take 1 = .ok (.getfield 34, 3) := by decide +kernel
theorem d_A_take_4 : decode b_A_take 4 = .ok (.iload_n 2, 1) := by decide +kernel
theorem d_A_take_5 : decode b_A_take 5 = .ok (.aaload, 1) := by decide +kernel
theorem d_A_take_6 : decode b_A_take 6 = .ok (.getfield 127, 3) := by decide +kernel
theorem d_A_take_9 : decode b_A_take 9 = .ok (.ifCond .ne 14, 3) := by decide +kernel
theorem d_A_take_12 : decode b_A_take 12 = .ok (.aload_n 1, 1) := by decide +kernel
theorem d_A_take_13 : decode b_A_take 13 = .ok (.aload_n 0, 1) := by decide +kernel
theorem d_A_take_14 : decode b_A_take 14 = .ok (.invokevirtual 112, 3) := by decide +kernel
theorem d_A_take_17 : decode b_A_take 17 = .ok (.invokevirtual 228, 3) := by decide +kernel
theorem d_A_take_20 : decode b_A_take 20 = .ok (.goto 20, 3) := by decide +kernel
theorem d_A_take_23 : decode b_A_take 23 = .ok (.aload_n 1, 1) := by decide +kernel
theorem d_A_take_24 : decode b_A_take 24 = .ok (.aload_n 0, 1) := by decide +kernel
theorem d_A_take_25 : decode b_A_take 25 = .ok (.getfield 34, 3) := by decide +kernel
theorem d_A_take_28 : decode b_A_take 28 = .ok (.iload_n 2, 1) := by decide +kernel
theorem d_A_take_29 : decode b_A_take 29 = .ok (.aaload, 1) := by decide +kernel
theorem d_A_take_30 : decode b_A_take 30 = .ok (.invokevirtual 231, 3) := by decide +kernel
theorem d_A_take_33 : decode b_A_take 33 = .ok (.putfield 216, 3) := by decide +kernel
theorem d_A_take_36 : decode b_A_take 36 = .ok (.aload_n 1, 1) := by decide +kernel
theorem d_A_take_37 : decode b_A_take 37 = .ok (.invokevirtual 222, 3) := by decide +kernel
theorem d_A_take_40 : decode b_A_take 40 = .ok (.return_, 1) := by decide +kernel
theorem d_K_becomeWaiting_0 : decode b_K_becomeWaiting 0 = .ok (.aload_n 0, 1) := by decide +kernel
theorem d_K_becomeWaiting_1 : decode b_K_becomeWaiting 1 = .ok (.iconst 2, 1) := by decide +kernel
theorem d_K_becomeWaiting_2 : decode b_K_becomeWaiting 2 = .ok (.putfield 18, 3) := by decide +kernel
theorem d_K_becomeWaiting_5 : decode b_K_becomeWaiting 5 = .ok (.aload_n 0, 1) := by decide +kernel
theorem d_K_becomeWaiting_6 : decode b_K_becomeWaiting 6 = .ok (.lload_n 1, 1) := by decide +kernel
theorem d_K_becomeWaiting_7 : decode b_K_becomeWaiting 7 = .ok (.putfield 65, 3) := by decide +kernel
theorem d_K_becomeWaiting_10 : decode b_K_becomeWaiting 10 = .ok (.return_, 1) := by decide +kernel
theorem d_O_takeOldest_0 : decode b_O_takeOldest 0 = .ok (.aload_n 0, 1) := by decide +kernel
theorem d_O_takeOldest_1 : decode b_O_takeOldest 1 = .ok (.getfield 9, 3) := by decide +kernel
theorem d_O_takeOldest_4 : decode b_O_takeOldest 4 = .ok (.iconst 0, 1) := by decide +kernel
theorem d_O_takeOldest_5 : decode b_O_takeOldest 5 = .ok (.iaload, 1) := by decide +kernel
theorem d_O_takeOldest_6 : decode b_O_takeOldest 6 = .ok (.istore_n 1, 1) := by decide +kernel
theorem d_O_takeOldest_7 : decode b_O_takeOldest 7 = .ok (.aload_n 0, 1) := by decide +kernel
theorem d_O_takeOldest_8 : decode b_O_takeOldest 8 = .ok (.dup, 1) := by decide +kernel
theorem d_O_takeOldest_9 : decode b_O_takeOldest 9 = .ok (.getfield 15, 3) := by decide +kernel
theorem d_O_takeOldest_12 : decode b_O_takeOldest 12 = .ok (.iconst 1, 1) := by decide +kernel
theorem d_O_takeOldest_13 : decode b_O_takeOldest 13 = .ok (.isub, 1) := by decide +kernel
theorem d_O_takeOldest_14 : decode b_O_takeOldest 14 = .ok (.putfield 15, 3) := by decide +kernel
theorem d_O_takeOldest_17 : decode b_O_takeOldest 17 = .ok (.iconst 0, 1) := by decide +kernel
theorem d_O_takeOldest_18 : decode b_O_takeOldest 18 = .ok (.istore_n 2, 1) := by decide +kernel
theorem d_O_takeOldest_19 : decode b_O_takeOldest 19 = .ok (.iload_n 2, 1) := by decide +kernel
theorem d_O_takeOldest_20 : decode b_O_takeOldest 20 = .ok (.aload_n 0, 1) := by decide +kernel
theorem d_O_takeOldest_21 : decode b_O_takeOldest 21 = .ok (.getfield 15, 3) := by decide +kernel
theorem d_O_takeOldest_24 : decode b_O_takeOldest 24 = .ok (.if_icmp .ge 23, 3) := by decide +kernel
theorem d_O_takeOldest_27 : decode b_O_takeOldest 27 = .ok (.aload_n 0, 1) := by decide +kernel
theorem d_O_takeOldest_28 : decode b_O_takeOldest 28 = .ok (.getfield 9, 3) := by decide +kernel
theorem d_O_takeOldest_31 : decode b_O_takeOldest 31 = .ok (.iload_n 2, 1) := by decide +kernel
theorem d_O_takeOldest_32 : decode b_O_takeOldest 32 = .ok (.aload_n 0, 1) := by decide +kernel
theorem d_O_takeOldest_33 : decode b_O_takeOldest 33 = .ok (.getfield 9, 3) := by decide +kernel
theorem d_O_takeOldest_36 : decode b_O_takeOldest 36 = .ok (.iload_n 2, 1) := by decide +kernel
theorem d_O_takeOldest_37 : decode b_O_takeOldest 37 = .ok (.iconst 1, 1) := by decide +kernel
theorem d_O_takeOldest_38 : decode b_O_takeOldest 38 = .ok (.iadd, 1) := by decide +kernel
theorem d_O_takeOldest_39 : decode b_O_takeOldest 39 = .ok (.iaload, 1) := by decide +kernel
theorem d_O_takeOldest_40 : decode b_O_takeOldest 40 = .ok (.iastore, 1) := by decide +kernel
theorem d_O_takeOldest_41 : decode b_O_takeOldest 41 = .ok (.iinc 2 1, 3) := by decide +kernel
theorem d_O_takeOldest_44 : decode b_O_takeOldest 44 = .ok (.goto (-25), 3) := by decide +kernel
theorem d_O_takeOldest_47 : decode b_O_takeOldest 47 = .ok (.iload_n 1, 1) := by decide +kernel
theorem d_O_takeOldest_48 : decode b_O_takeOldest 48 = .ok (.ireturn, 1) := by decide +kernel
theorem d_A_up_0 : decode b_A_up 0 = .ok (.aload_n 0, 1) := by decide +kernel
theorem d_A_up_1 : decode b_A_up 1 = .ok (.iconst 4, 1) := by decide +kernel
theorem d_A_up_2 : decode b_A_up 2 = .ok (.iload_n 2, 1) := by decide +kernel
theorem d_A_up_3 : decode b_A_up 3 = .ok (.invokevirtual 212, 3) := by decide +kernel
theorem d_A_up_6 : decode b_A_up 6 = .ok (.astore_n 3, 1) := by decide +kernel
theorem d_A_up_7 : decode b_A_up 7 = .ok (.aload_n 3, 1) := by decide +kernel
theorem d_A_up_8 : decode b_A_up 8 = .ok (.ifnull 18, 3) := by decide +kernel
theorem d_A_up_11 : decode b_A_up 11 = .ok (.aload_n 3, 1) := by decide +kernel
theorem d_A_up_12 : decode b_A_up 12 = .ok (.aload_n 0, 1) := by decide +kernel
theorem d_A_up_13 : decode b_A_up 13 = .ok (.invokevirtual 112, 3) := by decide +kernel
theorem d_A_up_16 : decode b_A_up 16 = .ok (.invokevirtual 219, 3) := by decide +kernel
theorem d_A_up_19 : decode b_A_up 19 = .ok (.aload_n 3, 1) := by decide +kernel
theorem d_A_up_20 : decode b_A_up 20 = .ok (.invokevirtual 222, 3) := by decide +kernel
theorem d_A_up_23 : decode b_A_up 23 = .ok (.goto 24, 3) := by decide +kernel
theorem d_A_up_26 : decode b_A_up 26 = .ok (.aload_n 0, 1) := by decide +kernel
theorem d_A_up_27 : decode b_A_up 27 = .ok (.getfield 39, 3) := by decide +kernel
theorem d_A_up_30 : decode b_A_up 30 = .ok (.iload_n 2, 1) := by decide +kernel
theorem d_A_up_31 : decode b_A_up 31 = .ok (.iaload, 1) := by decide +kernel
theorem d_A_up_32 : decode b_A_up 32 = .ok (.bipush 9, 2) := by decide +kernel
theorem d_A_up_34 : decode b_A_up 34 = .ok (.if_icmp .ge 13, 3) := by decide +kernel
theorem d_A_up_37 : decode b_A_up 37 = .ok (.aload_n 0, 1) := by decide +kernel
theorem d_A_up_38 : decode b_A_up 38 = .ok (.getfield 39, 3) := by decide +kernel
theorem d_A_up_41 : decode b_A_up 41 = .ok (.iload_n 2, 1) := by decide +kernel
theorem d_A_up_42 : decode b_A_up 42 = .ok (.dup2, 1) := by decide +kernel
theorem d_A_up_43 : decode b_A_up 43 = .ok (.iaload, 1) := by decide +kernel
theorem d_A_up_44 : decode b_A_up 44 = .ok (.iconst 1, 1) := by decide +kernel
theorem d_A_up_45 : decode b_A_up 45 = .ok (.iadd, 1) := by decide +kernel
theorem d_A_up_46 : decode b_A_up 46 = .ok (.iastore, 1) := by decide +kernel
theorem d_A_up_47 : decode b_A_up 47 = .ok (.aload_n 1, 1) := by decide +kernel
theorem d_A_up_48 : decode b_A_up 48 = .ok (.invokevirtual 222, 3) := by decide +kernel
theorem d_A_up_51 : decode b_A_up 51 = .ok (.return_, 1) := by decide +kernel
theorem d_A_down_0 : decode b_A_down 0 = .ok (.aload_n 0, 1) := by decide +kernel
theorem d_A_down_1 : decode b_A_down 1 = .ok (.getfield 39, 3) := by decide +kernel
theorem d_A_down_4 : decode b_A_down 4 = .ok (.iload_n 2, 1) := by decide +kernel
theorem d_A_down_5 : decode b_A_down 5 = .ok (.iaload, 1) := by decide +kernel
theorem d_A_down_6 : decode b_A_down 6 = .ok (.ifCond .ne 14, 3) := by decide +kernel
theorem d_A_down_9 : decode b_A_down 9 = .ok (.aload_n 1, 1) := by decide +kernel
theorem d_A_down_10 : decode b_A_down 10 = .ok (.aload_n 0, 1) := by decide +kernel
theorem d_A_down_11 : decode b_A_down 11 = .ok (.invokevirtual 112, 3) := by decide +kernel
theorem d_A_down_14 : decode b_A_down 14 = .ok (.invokevirtual 228, 3) := by decide +kernel
theorem d_A_down_17 : decode b_A_down 17 = .ok (.goto 17, 3) := by decide +kernel
theorem d_A_down_20 : decode b_A_down 20 = .ok (.aload_n 0, 1) := by decide +kernel
theorem d_A_down_21 : decode b_A_down 21 = .ok (.getfield 39, 3) := by decide +kernel
theorem d_A_down_24 : decode b_A_down 24 = .ok (.iload_n 2, 1) := by decide +kernel
theorem d_A_down_25 : decode b_A_down 25 = .ok (.dup2, 1) := by decide +kernel
theorem d_A_down_26 : decode b_A_down 26 = .ok (.iaload, 1) := by decide +kernel
theorem d_A_down_27 : decode b_A_down 27 = .ok (.iconst 1, 1) := by decide +kernel
theorem d_A_down_28 : decode b_A_down 28 = .ok (.isub, 1) := by decide +kernel
theorem d_A_down_29 : decode b_A_down 29 = .ok (.iastore, 1) := by decide +kernel
theorem d_A_down_30 : decode b_A_down 30 = .ok (.aload_n 1, 1) := by decide +kernel
theorem d_A_down_31 : decode b_A_down 31 = .ok (.invokevirtual 222, 3) := by decide +kernel
theorem d_A_down_34 : decode b_A_down 34 = .ok (.return_, 1) := by decide +kernel
theorem d_A_partition_0 : decode b_A_partition 0 = .ok (.iload_n 1, 1) := by decide +kernel
theorem d_A_partition_1 : decode b_A_partition 1 = .ok (.invokestatic 43, 3) := by decide +kernel
theorem d_A_partition_4 : decode b_A_partition 4 = .ok (.ifCond .eq 15, 3) := by decide +kernel
theorem d_A_partition_7 : decode b_A_partition 7 = .ok (.aload_n 0, 1) := by decide +kernel
theorem d_A_partition_8 : decode b_A_partition 8 = .ok (.getfield 18, 3) := by decide +kernel
theorem d_A_partition_11 : decode b_A_partition 11 = .ok (.iload_n 1, 1) := by decide +kernel
theorem d_A_partition_12 : decode b_A_partition 12 = .ok (.aaload, 1) := by decide +kernel
theorem d_A_partition_13 : decode b_A_partition 13 = .ok (.getfield 91, 3) := by decide +kernel
theorem d_A_partition_16 : decode b_A_partition 16 = .ok (.goto 4, 3) := by decide +kernel
theorem d_A_partition_19 : decode b_A_partition 19 = .ok (.iconst (-1), 1) := by decide +kernel
theorem d_A_partition_20 : decode b_A_partition 20 = .ok (.ireturn, 1) := by decide +kernel
theorem d_A_state_0 : decode b_A_state 0 = .ok (.aload_n 0, 1) := by decide +kernel
theorem d_A_state_1 : decode b_A_state 1 = .ok (.iload_n 1, 1) := by decide +kernel
theorem d_A_state_2 : decode b_A_state 2 = .ok (.invokevirtual 70, 3) := by decide +kernel
theorem d_A_state_5 : decode b_A_state 5 = .ok (.ifCond .eq 16, 3) := by decide +kernel
theorem d_A_state_8 : decode b_A_state 8 = .ok (.aload_n 0, 1) := by decide +kernel
theorem d_A_state_9 : decode b_A_state 9 = .ok (.getfield 25, 3) := by decide +kernel
theorem d_A_state_12 : decode b_A_state 12 = .ok (.iload_n 1, 1) := by decide +kernel
theorem d_A_state_13 : decode b_A_state 13 = .ok (.aaload, 1) := by decide +kernel
theorem d_A_state_14 : decode b_A_state 14 = .ok (.iload_n 2, 1) := by decide +kernel
theorem d_A_state_15 : decode b_A_state 15 = .ok (.invokevirtual 123, 3) := by decide +kernel
theorem d_A_state_18 : decode b_A_state 18 = .ok (.goto 4, 3) := by decide +kernel
theorem d_A_state_21 : decode b_A_state 21 = .ok (.iconst (-1), 1) := by decide +kernel
theorem d_A_state_22 : decode b_A_state 22 = .ok (.ireturn, 1) := by decide +kernel
theorem d_K_tell_0 : decode b_K_tell 0 = .ok (.iload_n 1, 1) := by decide +kernel
theorem d_K_tell_1 : decode b_K_tell 1 = .ok (.tableswitch 105 0 9 #[55, 60, 65, 70, 75, 80, 85, 90, 95, 100], 55) := by decide +kernel
theorem d_K_tell_56 : decode b_K_tell 56 = .ok (.aload_n 0, 1) := by decide +kernel
theorem d_K_tell_57 : decode b_K_tell 57 = .ok (.getfield 18, 3) := by decide +kernel
theorem d_K_tell_60 : decode b_K_tell 60 = .ok (.ireturn, 1) := by decide +kernel
theorem d_K_tell_61 : decode b_K_tell 61 = .ok (.aload_n 0, 1) := by decide +kernel
theorem d_K_tell_62 : decode b_K_tell 62 = .ok (.getfield 59, 3) := by decide +kernel
theorem d_K_tell_65 : decode b_K_tell 65 = .ok (.ireturn, 1) := by decide +kernel
theorem d_K_tell_66 : decode b_K_tell 66 = .ok (.aload_n 0, 1) := by decide +kernel
theorem d_K_tell_67 : decode b_K_tell 67 = .ok (.getfield 62, 3) := by decide +kernel
theorem d_K_tell_70 : decode b_K_tell 70 = .ok (.ireturn, 1) := by decide +kernel
theorem d_K_tell_71 : decode b_K_tell 71 = .ok (.aload_n 0, 1) := by decide +kernel
theorem d_K_tell_72 : decode b_K_tell 72 = .ok (.getfield 43, 3) := by decide +kernel
theorem d_K_tell_75 : decode b_K_tell 75 = .ok (.ireturn, 1) := by decide +kernel
theorem d_K_tell_76 : decode b_K_tell 76 = .ok (.aload_n 0, 1) := by decide +kernel
theorem d_K_tell_77 : decode b_K_tell 77 = .ok (.getfield 22, 3) := by decide +kernel
theorem d_K_tell_80 : decode b_K_tell 80 = .ok (.ireturn, 1) := by decide +kernel
theorem d_K_tell_81 : decode b_K_tell 81 = .ok (.aload_n 0, 1) := by decide +kernel
theorem d_K_tell_82 : decode b_K_tell 82 = .ok (.getfield 82, 3) := by decide +kernel
theorem d_K_tell_85 : decode b_K_tell 85 = .ok (.ireturn, 1) := by decide +kernel
theorem d_K_tell_86 : decode b_K_tell 86 = .ok (.aload_n 0, 1) := by decide +kernel
theorem d_K_tell_87 : decode b_K_tell 87 = .ok (.getfield 85, 3) := by decide +kernel
theorem d_K_tell_90 : decode b_K_tell 90 = .ok (.ireturn, 1) := by decide +kernel
theorem d_K_tell_91 : decode b_K_tell 91 = .ok (.aload_n 0, 1) := by decide +kernel
theorem d_K_tell_92 : decode b_K_tell 92 = .ok (.getfield 69, 3) := by decide +kernel
theorem d_K_tell_95 : decode b_K_tell 95 = .ok (.ireturn, 1) := by decide +kernel
theorem d_K_tell_96 : decode b_K_tell 96 = .ok (.aload_n 0, 1) := by decide +kernel
theorem d_K_tell_97 : decode b_K_tell 97 = .ok (.getfield 88, 3) := by decide +kernel
theorem d_K_tell_100 : decode b_K_tell 100 = .ok (.ireturn, 1) := by decide +kernel
theorem d_K_tell_101 : decode b_K_tell 101 = .ok (.aload_n 0, 1) := by decide +kernel
theorem d_K_tell_102 : decode b_K_tell 102 = .ok (.getfield 25, 3) := by decide +kernel
theorem d_K_tell_105 : decode b_K_tell 105 = .ok (.ireturn, 1) := by decide +kernel
theorem d_K_tell_106 : decode b_K_tell 106 = .ok (.iconst (-1), 1) := by decide +kernel
theorem d_K_tell_107 : decode b_K_tell 107 = .ok (.ireturn, 1) := by decide +kernel
theorem d_A_port_0 : decode b_A_port 0 = .ok (.iload_n 1, 1) := by decide +kernel
theorem d_A_port_1 : decode b_A_port 1 = .ok (.iconst 0, 1) := by decide +kernel
theorem d_A_port_2 : decode b_A_port 2 = .ok (.iconst 3, 1) := by decide +kernel
theorem d_A_port_3 : decode b_A_port 3 = .ok (.invokestatic 47, 3) := by decide +kernel
theorem d_A_port_6 : decode b_A_port 6 = .ok (.ifCond .eq 15, 3) := by decide +kernel
theorem d_A_port_9 : decode b_A_port 9 = .ok (.aload_n 0, 1) := by decide +kernel
theorem d_A_port_10 : decode b_A_port 10 = .ok (.getfield 34, 3) := by decide +kernel
theorem d_A_port_13 : decode b_A_port 13 = .ok (.iload_n 1, 1) := by decide +kernel
theorem d_A_port_14 : decode b_A_port 14 = .ok (.aaload, 1) := by decide +kernel
theorem d_A_port_15 : decode b_A_port 15 = .ok (.getfield 127, 3) := by decide +kernel
theorem d_A_port_18 : decode b_A_port 18 = .ok (.goto 4, 3) := by decide +kernel
theorem d_A_port_21 : decode b_A_port 21 = .ok (.iconst (-1), 1) := by decide +kernel
theorem d_A_port_22 : decode b_A_port 22 = .ok (.ireturn, 1) := by decide +kernel
theorem d_A_semaphore_0 : decode b_A_semaphore 0 = .ok (.iload_n 1, 1) := by decide +kernel
theorem d_A_semaphore_1 : decode b_A_semaphore 1 = .ok (.iconst 0, 1) := by decide +kernel
theorem d_A_semaphore_2 : decode b_A_semaphore 2 = .ok (.iconst 3, 1) := by decide +kernel
theorem d_A_semaphore_3 : decode b_A_semaphore 3 = .ok (.invokestatic 47, 3) := by decide +kernel
theorem d_A_semaphore_6 : decode b_A_semaphore 6 = .ok (.ifCond .eq 12, 3) := by decide +kernel
theorem d_A_semaphore_9 : decode b_A_semaphore 9 = .ok (.aload_n 0, 1) := by decide +kernel
theorem d_A_semaphore_10 : decode b_A_semaphore 10 = .ok (.getfield 39, 3) := by decide +kernel
theorem d_A_semaphore_13 : decode b_A_semaphore 13 = .ok (.iload_n 1, 1) := by decide +kernel
theorem d_A_semaphore_14 : decode b_A_semaphore 14 = .ok (.iaload, 1) := by decide +kernel
theorem d_A_semaphore_15 : decode b_A_semaphore 15 = .ok (.goto 4, 3) := by decide +kernel
theorem d_A_semaphore_18 : decode b_A_semaphore 18 = .ok (.iconst (-1), 1) := by decide +kernel
theorem d_A_semaphore_19 : decode b_A_semaphore 19 = .ok (.ireturn, 1) := by decide +kernel
theorem d_A_count_0 : decode b_A_count 0 = .ok (.iload_n 1, 1) := by decide +kernel
theorem d_A_count_1 : decode b_A_count 1 = .ok (.tableswitch 123 0 6 #[43, 48, 74, 100, 105, 110, 115], 43) := by decide +kernel
theorem d_A_count_44 : decode b_A_count 44 = .ok (.aload_n 0, 1) := by decide +kernel
theorem d_A_count_45 : decode b_A_count 45 = .ok (.getfield 103, 3) := by decide +kernel
theorem d_A_count_48 : decode b_A_count 48 = .ok (.ireturn, 1) := by decide +kernel
theorem d_A_count_49 : decode b_A_count 49 = .ok (.aload_n 0, 1) := by decide +kernel
theorem d_A_count_50 : decode b_A_count 50 = .ok (.getfield 10, 3) := by decide +kernel
theorem d_A_count_53 : decode b_A_count 53 = .ok (.getfield 55, 3) := by decide +kernel
theorem d_A_count_56 : decode b_A_count 56 = .ok (.ifCond .ne 7, 3) := by decide +kernel
theorem d_A_count_59 : decode b_A_count 59 = .ok (.iconst (-1), 1) := by decide +kernel
theorem d_A_count_60 : decode b_A_count 60 = .ok (.goto 14, 3) := by decide +kernel
theorem d_A_count_63 : decode b_A_count 63 = .ok (.aload_n 0, 1) := by decide +kernel
theorem d_A_count_64 : decode b_A_count 64 = .ok (.getfield 10, 3) := by decide +kernel
theorem d_A_count_67 : decode b_A_count 67 = .ok (.aload_n 0, 1) := by decide +kernel
theorem d_A_count_68 : decode b_A_count 68 = .ok (.getfield 103, 3) := by decide +kernel
theorem d_A_count_71 : decode b_A_count 71 = .ok (.invokevirtual 128, 3) := by decide +kernel
theorem d_A_count_74 : decode b_A_count 74 = .ok (.ireturn, 1) := by decide +kernel
theorem d_A_count_75 : decode b_A_count 75 = .ok (.aload_n 0, 1) := by decide +kernel
theorem d_A_count_76 : decode b_A_count 76 = .ok (.getfield 10, 3) := by decide +kernel
theorem d_A_count_79 : decode b_A_count 79 = .ok (.getfield 55, 3) := by decide +kernel
theorem d_A_count_82 : decode b_A_count 82 = .ok (.ifCond .ne 7, 3) := by decide +kernel
theorem d_A_count_85 : decode b_A_count 85 = .ok (.iconst (-1), 1) := by decide +kernel
theorem d_A_count_86 : decode b_A_count 86 = .ok (.goto 14, 3) := by decide +kernel
theorem d_A_count_89 : decode b_A_count 89 = .ok (.aload_n 0, 1) := by decide +kernel
theorem d_A_count_90 : decode b_A_count 90 = .ok (.getfield 10, 3) := by decide +kernel
theorem d_A_count_93 : decode b_A_count 93 = .ok (.aload_n 0, 1) := by decide +kernel
theorem d_A_count_94 : decode b_A_count 94 = .ok (.getfield 103, 3) := by decide +kernel
theorem d_A_count_97 : decode b_A_count 97 = .ok (.invokevirtual 131, 3) := by decide +kernel
theorem d_A_count_100 : decode b_A_count 100 = .ok (.ireturn, 1) := by decide +kernel
theorem d_A_count_101 : decode b_A_count 101 = .ok (.aload_n 0, 1) := by decide +kernel
theorem d_A_count_102 : decode b_A_count 102 = .ok (.getfield 134, 3) := by decide +kernel
theorem d_A_count_105 : decode b_A_count 105 = .ok (.ireturn, 1) := by decide +kernel
theorem d_A_count_106 : decode b_A_count 106 = .ok (.aload_n 0, 1) := by decide +kernel
theorem d_A_count_107 : decode b_A_count 107 = .ok (.getfield 137, 3) := by decide +kernel
theorem d_A_count_110 : decode b_A_count 110 = .ok (.ireturn, 1) := by decide +kernel
theorem d_A_count_111 : decode b_A_count 111 = .ok (.aload_n 0, 1) := by decide +kernel
theorem d_A_count_112 : decode b_A_count 112 = .ok (.getfield 63, 3) := by decide +kernel
theorem d_A_count_115 : decode b_A_count 115 = .ok (.ireturn, 1) := by decide +kernel
theorem d_A_count_116 : decode b_A_count 116 = .ok (.aload_n 0, 1) := by decide +kernel
theorem d_A_count_117 : decode b_A_count 117 = .ok (.getfield 10, 3) := by decide +kernel
theorem d_A_count_120 : decode b_A_count 120 = .ok (.getfield 55, 3) := by decide +kernel
theorem d_A_count_123 : decode b_A_count 123 = .ok (.ireturn, 1) := by decide +kernel
theorem d_A_count_124 : decode b_A_count 124 = .ok (.iconst (-1), 1) := by decide +kernel
theorem d_A_count_125 : decode b_A_count 125 = .ok (.ireturn, 1) := by decide +kernel
theorem d_Wr_leftAt_0 : decode b_Wr_leftAt 0 = .ok (.aload_n 0, 1) := by decide +kernel
theorem d_Wr_leftAt_1 : decode b_Wr_leftAt 1 = .ok (.getfield 18, 3) := by decide +kernel
theorem d_Wr_leftAt_4 : decode b_Wr_leftAt 4 = .ok (.ifCond .ne 7, 3) := by decide +kernel
theorem d_Wr_leftAt_7 : decode b_Wr_leftAt 7 = .ok (.iconst 0, 1) := by decide +kernel
theorem d_Wr_leftAt_8 : decode b_Wr_leftAt 8 = .ok (.goto 23, 3) := by decide +kernel
theorem d_Wr_leftAt_11 : decode b_Wr_leftAt 11 = .ok (.aload_n 0, 1) := by decide +kernel
theorem d_Wr_leftAt_12 : decode b_Wr_leftAt 12 = .ok (.getfield 15, 3) := by decide +kernel
theorem d_Wr_leftAt_15 : decode b_Wr_leftAt 15 = .ok (.aload_n 0, 1) := by decide +kernel
theorem d_Wr_leftAt_16 : decode b_Wr_leftAt 16 = .ok (.aload_n 0, 1) := by decide +kernel
theorem d_Wr_leftAt_17 : decode b_Wr_leftAt 17 = .ok (.iload_n 1, 1) := by decide +kernel
theorem d_Wr_leftAt_18 : decode b_Wr_leftAt 18 = .ok (.invokevirtual 22, 3) := by decide +kernel
theorem d_Wr_leftAt_21 : decode b_Wr_leftAt 21 = .ok (.invokevirtual 26, 3) := by decide +kernel
theorem d_Wr_leftAt_24 : decode b_Wr_leftAt 24 = .ok (.iaload, 1) := by decide +kernel
theorem d_Wr_leftAt_25 : decode b_Wr_leftAt 25 = .ok (.aload_n 0, 1) := by decide +kernel
theorem d_Wr_leftAt_26 : decode b_Wr_leftAt 26 = .ok (.iload_n 1, 1) := by decide +kernel
theorem d_Wr_leftAt_27 : decode b_Wr_leftAt 27 = .ok (.invokevirtual 22, 3) := by decide +kernel
theorem d_Wr_leftAt_30 : decode b_Wr_leftAt 30 = .ok (.isub, 1) := by decide +kernel
theorem d_Wr_leftAt_31 : decode b_Wr_leftAt 31 = .ok (.ireturn, 1) := by decide +kernel
theorem d_B_init_0 : decode b_B_init 0 = .ok (.aload_n 0, 1) := by decide +kernel
theorem d_B_init_1 : decode b_B_init 1 = .ok (.invokespecial 1, 3) := by decide +kernel
theorem d_B_init_4 : decode b_B_init 4 = .ok (.aload_n 0, 1) := by decide +kernel
theorem d_B_init_5 : decode b_B_init 5 = .ok (.bipush 8, 2) := by decide +kernel
theorem d_B_init_7 : decode b_B_init 7 = .ok (.newarray .int, 2) := by decide +kernel
theorem d_B_init_9 : decode b_B_init 9 = .ok (.putfield 7, 3) := by decide +kernel
theorem d_B_init_12 : decode b_B_init 12 = .ok (.aload_n 0, 1) := by decide +kernel
theorem d_B_init_13 : decode b_B_init 13 = .ok (.bipush 8, 2) := by decide +kernel
theorem d_B_init_15 : decode b_B_init 15 = .ok (.newarray .int, 2) := by decide +kernel
theorem d_B_init_17 : decode b_B_init 17 = .ok (.putfield 13, 3) := by decide +kernel
theorem d_B_init_20 : decode b_B_init 20 = .ok (.aload_n 0, 1) := by decide +kernel
theorem d_B_init_21 : decode b_B_init 21 = .ok (.iconst 3, 1) := by decide +kernel
theorem d_B_init_22 : decode b_B_init 22 = .ok (.newarray .int, 2) := by decide +kernel
theorem d_B_init_24 : decode b_B_init 24 = .ok (.putfield 16, 3) := by decide +kernel
theorem d_B_init_27 : decode b_B_init 27 = .ok (.aload_n 0, 1) := by decide +kernel
theorem d_B_init_28 : decode b_B_init 28 = .ok (.iconst 3, 1) := by decide +kernel
theorem d_B_init_29 : decode b_B_init 29 = .ok (.newarray .int, 2) := by decide +kernel
theorem d_B_init_31 : decode b_B_init 31 = .ok (.putfield 19, 3) := by decide +kernel
theorem d_B_init_34 : decode b_B_init 34 = .ok (.aload_n 0, 1) := by decide +kernel
theorem d_B_init_35 : decode b_B_init 35 = .ok (.bipush 8, 2) := by decide +kernel
theorem d_B_init_37 : decode b_B_init 37 = .ok (.newarray .int, 2) := by decide +kernel
theorem d_B_init_39 : decode b_B_init 39 = .ok (.putfield 22, 3) := by decide +kernel
theorem d_B_init_42 : decode b_B_init 42 = .ok (.aload_n 0, 1) := by decide +kernel
theorem d_B_init_43 : decode b_B_init 43 = .ok (.bipush 8, 2) := by decide +kernel
theorem d_B_init_45 : decode b_B_init 45 = .ok (.newarray .int, 2) := by decide +kernel
theorem d_B_init_47 : decode b_B_init 47 = .ok (.putfield 25, 3) := by decide +kernel
theorem d_B_init_50 : decode b_B_init 50 = .ok (.aload_n 0, 1) := by decide +kernel
theorem d_B_init_51 : decode b_B_init 51 = .ok (.bipush 8, 2) := by decide +kernel
theorem d_B_init_53 : decode b_B_init 53 = .ok (.newarray .int, 2) := by decide +kernel
theorem d_B_init_55 : decode b_B_init 55 = .ok (.putfield 28, 3) := by decide +kernel
theorem d_B_init_58 : decode b_B_init 58 = .ok (.aload_n 0, 1) := by decide +kernel
theorem d_B_init_59 : decode b_B_init 59 = .ok (.bipush 8, 2) := by decide +kernel
theorem d_B_init_61 : decode b_B_init 61 = .ok (.newarray .int, 2) := by decide +kernel
theorem d_B_init_63 : decode b_B_init 63 = .ok (.putfield 31, 3) := by decide +kernel
theorem d_B_init_66 : decode b_B_init 66 = .ok (.aload_n 0, 1) := by decide +kernel
theorem d_B_init_67 : decode b_B_init 67 = .ok (.bipush 8, 2) := by decide +kernel
theorem d_B_init_69 : decode b_B_init 69 = .ok (.newarray .int, 2) := by decide +kernel
theorem d_B_init_71 : decode b_B_init 71 = .ok (.putfield 34, 3) := by decide +kernel
theorem d_B_init_74 : decode b_B_init 74 = .ok (.aload_n 0, 1) := by decide +kernel
theorem d_B_init_75 : decode b_B_init 75 = .ok (.bipush 64, 2) := by decide +kernel
theorem d_B_init_77 : decode b_B_init 77 = .ok (.newarray .int, 2) := by decide +kernel
theorem d_B_init_79 : decode b_B_init 79 = .ok (.putfield 37, 3) := by decide +kernel
theorem d_B_init_82 : decode b_B_init 82 = .ok (.aload_n 0, 1) := by decide +kernel
theorem d_B_init_83 : decode b_B_init 83 = .ok (.bipush 64, 2) := by decide +kernel
theorem d_B_init_85 : decode b_B_init 85 = .ok (.newarray .int, 2) := by decide +kernel
theorem d_B_init_87 : decode b_B_init 87 = .ok (.putfield 40, 3) := by decide +kernel
theorem d_B_init_90 : decode b_B_init 90 = .ok (.aload_n 0, 1) := by decide +kernel
theorem d_B_init_91 : decode b_B_init 91 = .ok (.bipush 8, 2) := by decide +kernel
theorem d_B_init_93 : decode b_B_init 93 = .ok (.newarray .int, 2) := by decide +kernel
theorem d_B_init_95 : decode b_B_init 95 = .ok (.putfield 43, 3) := by decide +kernel
theorem d_B_init_98 : decode b_B_init 98 = .ok (.aload_n 0, 1) := by decide +kernel
theorem d_B_init_99 : decode b_B_init 99 = .ok (.bipush 8, 2) := by decide +kernel
theorem d_B_init_101 : decode b_B_init 101 = .ok (.newarray .int, 2) := by decide +kernel
theorem d_B_init_103 : decode b_B_init 103 = .ok (.putfield 46, 3) := by decide +kernel
theorem d_B_init_106 : decode b_B_init 106 = .ok (.aload_n 0, 1) := by decide +kernel
theorem d_B_init_107 : decode b_B_init 107 = .ok (.bipush 8, 2) := by decide +kernel
theorem d_B_init_109 : decode b_B_init 109 = .ok (.newarray .int, 2) := by decide +kernel
theorem d_B_init_111 : decode b_B_init 111 = .ok (.putfield 49, 3) := by decide +kernel
theorem d_B_init_114 : decode b_B_init 114 = .ok (.aload_n 0, 1) := by decide +kernel
theorem d_B_init_115 : decode b_B_init 115 = .ok (.bipush 8, 2) := by decide +kernel
theorem d_B_init_117 : decode b_B_init 117 = .ok (.newarray .int, 2) := by decide +kernel
theorem d_B_init_119 : decode b_B_init 119 = .ok (.putfield 52, 3) := by decide +kernel
theorem d_B_init_122 : decode b_B_init 122 = .ok (.aload_n 0, 1) := by decide +kernel
theorem d_B_init_123 : decode b_B_init 123 = .ok (.bipush 8, 2) := by decide +kernel
theorem d_B_init_125 : decode b_B_init 125 = .ok (.newarray .int, 2) := by decide +kernel
theorem d_B_init_127 : decode b_B_init 127 = .ok (.putfield 55, 3) := by decide +kernel
theorem d_B_init_130 : decode b_B_init 130 = .ok (.aload_n 0, 1) := by decide +kernel
theorem d_B_init_131 : decode b_B_init 131 = .ok (.bipush 8, 2) := by decide +kernel
theorem d_B_init_133 : decode b_B_init 133 = .ok (.newarray .int, 2) := by decide +kernel
theorem d_B_init_135 : decode b_B_init 135 = .ok (.putfield 58, 3) := by decide +kernel
theorem d_B_init_138 : decode b_B_init 138 = .ok (.aload_n 0, 1) := by decide +kernel
theorem d_B_init_139 : decode b_B_init 139 = .ok (.bipush 8, 2) := by decide +kernel
theorem d_B_init_141 : decode b_B_init 141 = .ok (.newarray .int, 2) := by decide +kernel
theorem d_B_init_143 : decode b_B_init 143 = .ok (.putfield 61, 3) := by decide +kernel
theorem d_B_init_146 : decode b_B_init 146 = .ok (.aload_n 0, 1) := by decide +kernel
theorem d_B_init_147 : decode b_B_init 147 = .ok (.bipush 8, 2) := by decide +kernel
theorem d_B_init_149 : decode b_B_init 149 = .ok (.newarray .int, 2) := by decide +kernel
theorem d_B_init_151 : decode b_B_init 151 = .ok (.putfield 64, 3) := by decide +kernel
theorem d_B_init_154 : decode b_B_init 154 = .ok (.aload_n 0, 1) := by decide +kernel
theorem d_B_init_155 : decode b_B_init 155 = .ok (.bipush 8, 2) := by decide +kernel
theorem d_B_init_157 : decode b_B_init 157 = .ok (.newarray .int, 2) := by decide +kernel
theorem d_B_init_159 : decode b_B_init 159 = .ok (.putfield 67, 3) := by decide +kernel
theorem d_B_init_162 : decode b_B_init 162 = .ok (.aload_n 0, 1) := by decide +kernel
theorem d_B_init_163 : decode b_B_init 163 = .ok (.bipush 8, 2) := by decide +kernel
theorem d_B_init_165 : decode b_B_init 165 = .ok (.newarray .int, 2) := by decide +kernel
theorem d_B_init_167 : decode b_B_init 167 = .ok (.putfield 70, 3) := by decide +kernel
theorem d_B_init_170 : decode b_B_init 170 = .ok (.aload_n 0, 1) := by decide +kernel
theorem d_B_init_171 : decode b_B_init 171 = .ok (.bipush 8, 2) := by decide +kernel
theorem d_B_init_173 : decode b_B_init 173 = .ok (.newarray .int, 2) := by decide +kernel
theorem d_B_init_175 : decode b_B_init 175 = .ok (.putfield 73, 3) := by decide +kernel
theorem d_B_init_178 : decode b_B_init 178 = .ok (.aload_n 0, 1) := by decide +kernel
theorem d_B_init_179 : decode b_B_init 179 = .ok (.bipush 16, 2) := by decide +kernel
theorem d_B_init_181 : decode b_B_init 181 = .ok (.newarray .int, 2) := by decide +kernel
theorem d_B_init_183 : decode b_B_init 183 = .ok (.putfield 76, 3) := by decide +kernel
theorem d_B_init_186 : decode b_B_init 186 = .ok (.aload_n 0, 1) := by decide +kernel
theorem d_B_init_187 : decode b_B_init 187 = .ok (.iconst 4, 1) := by decide +kernel
theorem d_B_init_188 : decode b_B_init 188 = .ok (.newarray .int, 2) := by decide +kernel
theorem d_B_init_190 : decode b_B_init 190 = .ok (.putfield 79, 3) := by decide +kernel
theorem d_B_init_193 : decode b_B_init 193 = .ok (.aload_n 0, 1) := by decide +kernel
theorem d_B_init_194 : decode b_B_init 194 = .ok (.iconst 4, 1) := by decide +kernel
theorem d_B_init_195 : decode b_B_init 195 = .ok (.newarray .int, 2) := by decide +kernel
theorem d_B_init_197 : decode b_B_init 197 = .ok (.putfield 82, 3) := by decide +kernel
theorem d_B_init_200 : decode b_B_init 200 = .ok (.return_, 1) := by decide +kernel
theorem d_B_window_0 : decode b_B_window 0 = .ok (.iload_n 1, 1) := by decide +kernel
theorem d_B_window_1 : decode b_B_window 1 = .ok (.iconst 0, 1) := by decide +kernel
theorem d_B_window_2 : decode b_B_window 2 = .ok (.iconst 2, 1) := by decide +kernel
theorem d_B_window_3 : decode b_B_window 3 = .ok (.invokestatic 85, 3) := by decide +kernel
theorem d_B_window_6 : decode b_B_window 6 = .ok (.ifCond .eq 20, 3) := by decide +kernel
theorem d_B_window_9 : decode b_B_window 9 = .ok (.iload_n 2, 1) := by decide +kernel
theorem d_B_window_10 : decode b_B_window 10 = .ok (.iconst 1, 1) := by decide +kernel
theorem d_B_window_11 : decode b_B_window 11 = .ok (.bipush 30, 2) := by decide +kernel
theorem d_B_window_13 : decode b_B_window 13 = .ok (.invokestatic 85, 3) := by decide +kernel
theorem d_B_window_16 : decode b_B_window 16 = .ok (.ifCond .eq 10, 3) := by decide +kernel
theorem d_B_window_19 : decode b_B_window 19 = .ok (.aload_n 0, 1) := by decide +kernel
theorem d_B_window_20 : decode b_B_window 20 = .ok (.invokevirtual 89, 3) := by decide +kernel
theorem d_B_window_23 : decode b_B_window 23 = .ok (.ifCond .ne 5, 3) := by decide +kernel
theorem d_B_window_26 : decode b_B_window 26 = .ok (.iconst (-1), 1) := by decide +kernel
theorem d_B_window_27 : decode b_B_window 27 = .ok (.ireturn, 1) := by decide +kernel
theorem d_B_window_28 : decode b_B_window 28 = .ok (.aload_n 0, 1) := by decide +kernel
theorem d_B_window_29 : decode b_B_window 29 = .ok (.getfield 93, 3) := by decide +kernel
theorem d_B_window_32 : decode b_B_window 32 = .ok (.bipush 8, 2) := by decide +kernel
theorem d_B_window_34 : decode b_B_window 34 = .ok (.if_icmp .ne 6, 3) := by decide +kernel
theorem d_B_window_37 : decode b_B_window 37 = .ok (.bipush (-2), 2) := by decide +kernel
theorem d_B_window_39 : decode b_B_window 39 = .ok (.ireturn, 1) := by decide +kernel
theorem d_B_window_40 : decode b_B_window 40 = .ok (.aload_n 0, 1) := by decide +kernel
theorem d_B_window_41 : decode b_B_window 41 = .ok (.getfield 7, 3) := by decide +kernel
theorem d_B_window_44 : decode b_B_window 44 = .ok (.aload_n 0, 1) := by decide +kernel
theorem d_B_window_45 : decode b_B_window 45 = .ok (.getfield 93, 3) := by decide +kernel
theorem d_B_window_48 : decode b_B_window 48 = .ok (.iload_n 1, 1) := by decide +kernel
theorem d_B_window_49 : decode b_B_window 49 = .ok (.iastore, 1) := by decide +kernel
theorem d_B_window_50 : decode b_B_window 50 = .ok (.aload_n 0, 1) := by decide +kernel
theorem d_B_window_51 : decode b_B_window 51 = .ok (.getfield 13, 3) := by decide +kernel
theorem d_B_window_54 : decode b_B_window 54 = .ok (.aload_n 0, 1) := by decide +kernel
theorem d_B_window_55 : decode b_B_window 55 = .ok (.getfield 93, 3) := by decide +kernel
theorem d_B_window_58 : decode b_B_window 58 = .ok (.iload_n 2, 1) := by decide +kernel
theorem d_B_window_59 : decode b_B_window 59 = .ok (.iastore, 1) := by decide +kernel
theorem d_B_window_60 : decode b_B_window 60 = .ok (.aload_n 0, 1) := by decide +kernel
theorem d_B_window_61 : decode b_B_window 61 = .ok (.dup, 1) := by decide +kernel
theorem d_B_window_62 : decode b_B_window 62 = .ok (.getfield 93, 3) := by decide +kernel
theorem d_B_window_65 : decode b_B_window 65 = .ok (.iconst 1, 1) := by decide +kernel
theorem d_B_window_66 : decode b_B_window 66 = .ok (.iadd, 1) := by decide +kernel
theorem d_B_window_67 : decode b_B_window 67 = .ok (.putfield 93, 3) := by decide +kernel
theorem d_B_window_70 : decode b_B_window 70 = .ok (.aload_n 0, 1) := by decide +kernel
theorem d_B_window_71 : decode b_B_window 71 = .ok (.getfield 93, 3) := by decide +kernel
theorem d_B_window_74 : decode b_B_window 74 = .ok (.ireturn, 1) := by decide +kernel
theorem d_B_in_0 : decode b_B_in 0 = .ok (.iload_n 0, 1) := by decide +kernel
theorem d_B_in_1 : decode b_B_in 1 = .ok (.iload_n 1, 1) := by decide +kernel
theorem d_B_in_2 : decode b_B_in 2 = .ok (.if_icmp .lt 12, 3) := by decide +kernel
theorem d_B_in_5 : decode b_B_in 5 = .ok (.iload_n 0, 1) := by decide +kernel
theorem d_B_in_6 : decode b_B_in 6 = .ok (.iload_n 2, 1) := by decide +kernel
theorem d_B_in_7 : decode b_B_in 7 = .ok (.if_icmp .gt 7, 3) := by decide +kernel
theorem d_B_in_10 : decode b_B_in 10 = .ok (.iconst 1, 1) := by decide +kernel
theorem d_B_in_11 : decode b_B_in 11 = .ok (.goto 4, 3) := by decide +kernel
theorem d_B_in_14 : decode b_B_in 14 = .ok (.iconst 0, 1) := by decide +kernel
theorem d_B_in_15 : decode b_B_in 15 = .ok (.ireturn, 1) := by decide +kernel
theorem d_B_allOff_0 : decode b_B_allOff 0 = .ok (.aload_n 0, 1) := by decide +kernel
theorem d_B_allOff_1 : decode b_B_allOff 1 = .ok (.getfield 16, 3) := by decide +kernel
theorem d_B_allOff_4 : decode b_B_allOff 4 = .ok (.iconst 0, 1) := by decide +kernel
theorem d_B_allOff_5 : decode b_B_allOff 5 = .ok (.iaload, 1) := by decide +kernel
theorem d_B_allOff_6 : decode b_B_allOff 6 = .ok (.ifCond .ne 25, 3) := by decide +kernel
theorem d_B_allOff_9 : decode b_B_allOff 9 = .ok (.aload_n 0, 1) := by decide +kernel
theorem d_B_allOff_10 : decode b_B_allOff 10 = .ok (.getfield 16, 3) := by decide +kernel
theorem d_B_allOff_13 : decode b_B_allOff 13 = .ok (.iconst 1, 1) := by decide +kernel
theorem d_B_allOff_14 : decode b_B_allOff 14 = .ok (.iaload, 1) := by decide +kernel
theorem d_B_allOff_15 : decode b_B_allOff 15 = .ok (.ifCond .ne 16, 3) := by decide +kernel
theorem d_B_allOff_18 : decode b_B_allOff 18 = .ok (.aload_n 0, 1) := by decide +kernel
theorem d_B_allOff_19 : decode b_B_allOff 19 = .ok (.getfield 16, 3) := by decide +kernel
theorem d_B_allOff_22 : decode b_B_allOff 22 = .ok (.iconst 2, 1) := by decide +kernel
theorem d_B_allOff_23 : decode b_B_allOff 23 = .ok (.iaload, 1) := by decide +kernel
theorem d_B_allOff_24 : decode b_B_allOff 24 = .ok (.ifCond .ne 7, 3) := by decide +kernel
theorem d_B_allOff_27 : decode b_B_allOff 27 = .ok (.iconst 1, 1) := by decide +kernel
theorem d_B_allOff_28 : decode b_B_allOff 28 = .ok (.goto 4, 3) := by decide +kernel
theorem d_B_allOff_31 : decode b_B_allOff 31 = .ok (.iconst 0, 1) := by decide +kernel
theorem d_B_allOff_32 : decode b_B_allOff 32 = .ok (.ireturn, 1) := by decide +kernel
theorem d_B_process_0 : decode b_B_process 0 = .ok (.iload_n 1, 1) := by decide +kernel
theorem d_B_process_1 : decode b_B_process 1 = .ok (.iconst 0, 1) := by decide +kernel
theorem d_B_process_2 : decode b_B_process 2 = .ok (.iconst 2, 1) := by decide +kernel
theorem d_B_process_3 : decode b_B_process 3 = .ok (.invokestatic 85, 3) := by decide +kernel
theorem d_B_process_6 : decode b_B_process 6 = .ok (.ifCond .eq 41, 3) := by decide +kernel
theorem d_B_process_9 : decode b_B_process 9 = .ok (.iload_n 2, 1) := by decide +kernel
theorem d_B_process_10 : decode b_B_process 10 = .ok (.iconst 0, 1) := by decide +kernel
theorem d_B_process_11 : decode b_B_process 11 = .ok (.bipush 9, 2) := by decide +kernel
theorem d_B_process_13 : decode b_B_process 13 = .ok (.invokestatic 85, 3) := by decide +kernel
theorem d_B_process_16 : decode b_B_process 16 = .ok (.ifCond .eq 31, 3) := by decide +kernel
theorem d_B_process_19 : decode b_B_process 19 = .ok (.iload_n 3, 1) := by decide +kernel
theorem d_B_process_20 : decode b_B_process 20 = .ok (.iconst 0, 1) := by decide +kernel
theorem d_B_process_21 : decode b_B_process 21 = .ok (.bipush 60, 2) := by decide +kernel
theorem d_B_process_23 : decode b_B_process 23 = .ok (.invokestatic 85, 3) := by decide +kernel
theorem d_B_process_26 : decode b_B_process 26 = .ok (.ifCond .eq 21, 3) := by decide +kernel
theorem d_B_process_29 : decode b_B_process 29 = .ok (.iload 4, 2) := by decide +kernel
theorem d_B_process_31 : decode b_B_process 31 = .ok (.iconst 0, 1) := by decide +kernel
theorem d_B_process_32 : decode b_B_process 32 = .ok (.bipush 60, 2) := by decide +kernel
