theorem d_LazyMachine_enter_0 : decode b_LazyMachine_enter 0 = .ok (.aload_n 0, 1) := by decide +kernel
theorem d_LazyMachine_enter_1 : decode b_LazyMachine_enter 1 = .ok (.iconst 0, 1) := by decide +kernel
theorem d_LazyMachine_enter_2 : decode b_LazyMachine_enter 2 = .ok (.putfield 83, 3) := by decide +kernel
theorem d_LazyMachine_enter_5 : decode b_LazyMachine_enter 5 = .ok (.aload_n 0, 1) := by decide +kernel
theorem d_LazyMachine_enter_6 : decode b_LazyMachine_enter 6 = .ok (.iload_n 1, 1) := by decide +kernel
theorem d_LazyMachine_enter_7 : decode b_LazyMachine_enter 7 = .ok (.putfield 132, 3) := by decide +kernel
theorem d_LazyMachine_enter_10 : decode b_LazyMachine_enter 10 = .ok (.aload_n 0, 1) := by decide +kernel
theorem d_LazyMachine_enter_11 : decode b_LazyMachine_enter 11 = .ok (.iload_n 2, 1) := by decide +kernel
theorem d_LazyMachine_enter_12 : decode b_LazyMachine_enter 12 = .ok (.putfield 37, 3) := by decide +kernel
theorem d_LazyMachine_enter_15 : decode b_LazyMachine_enter 15 = .ok (.return_, 1) := by decide +kernel
theorem d_LazyMachine_backWith_0 : decode b_LazyMachine_backWith 0 = .ok (.aload_n 0, 1) := by decide +kernel
theorem d_LazyMachine_backWith_1 : decode b_LazyMachine_backWith 1 = .ok (.iconst 1, 1) := by decide +kernel
theorem d_LazyMachine_backWith_2 : decode b_LazyMachine_backWith 2 = .ok (.putfield 83, 3) := by decide +kernel
theorem d_LazyMachine_backWith_5 : decode b_LazyMachine_backWith 5 = .ok (.aload_n 0, 1) := by decide +kernel
theorem d_LazyMachine_backWith_6 : decode b_LazyMachine_backWith 6 = .ok (.iload_n 1, 1) := by decide +kernel
theorem d_LazyMachine_backWith_7 : decode b_LazyMachine_backWith 7 = .ok (.putfield 98, 3) := by decide +kernel
theorem d_LazyMachine_backWith_10 : decode b_LazyMachine_backWith 10 = .ok (.aload_n 0, 1) := by decide +kernel
theorem d_LazyMachine_backWith_11 : decode b_LazyMachine_backWith 11 = .ok (.iload_n 2, 1) := by decide +kernel
theorem d_LazyMachine_backWith_12 : decode b_LazyMachine_backWith 12 = .ok (.putfield 40, 3) := by decide +kernel
theorem d_LazyMachine_backWith_15 : decode b_LazyMachine_backWith 15 = .ok (.aload_n 0, 1) := by decide +kernel
theorem d_LazyMachine_backWith_16 : decode b_LazyMachine_backWith 16 = .ok (.iload_n 3, 1) := by decide +kernel
theorem d_LazyMachine_backWith_17 : decode b_LazyMachine_backWith 17 = .ok (.putfield 43, 3) := by decide +kernel
theorem d_LazyMachine_backWith_20 : decode b_LazyMachine_backWith 20 = .ok (.iconst 1, 1) := by decide +kernel
theorem d_LazyMachine_backWith_21 : decode b_LazyMachine_backWith 21 = .ok (.ireturn, 1) := by decide +kernel
theorem d_LazyMachine_begin_0 : decode b_LazyMachine_begin 0 = .ok (.aload_n 0, 1) := by decide +kernel
theorem d_LazyMachine_begin_1 : decode b_LazyMachine_begin 1 = .ok (.getfield 10, 3) := by decide +kernel
theorem d_LazyMachine_begin_4 : decode b_LazyMachine_begin 4 = .ok (.invokevirtual 138, 3) := by decide +kernel
theorem d_LazyMachine_begin_7 : decode b_LazyMachine_begin 7 = .ok (.aload_n 0, 1) := by decide +kernel
theorem d_LazyMachine_begin_8 : decode b_LazyMachine_begin 8 = .ok (.getfield 19, 3) := by decide +kernel
theorem d_LazyMachine_begin_11 : decode b_LazyMachine_begin 11 = .ok (.invokevirtual 141, 3) := by decide +kernel
theorem d_LazyMachine_begin_14 : decode b_LazyMachine_begin 14 = .ok (.aload_n 0, 1) := by decide +kernel
theorem d_LazyMachine_begin_15 : decode b_LazyMachine_begin 15 = .ok (.iconst 0, 1) := by decide +kernel
theorem d_LazyMachine_begin_16 : decode b_LazyMachine_begin 16 = .ok (.putfield 93, 3) := by decide +kernel
theorem d_LazyMachine_begin_19 : decode b_LazyMachine_begin 19 = .ok (.aload_n 0, 1) := by decide +kernel
theorem d_LazyMachine_begin_20 : decode b_LazyMachine_begin 20 = .ok (.iconst 0, 1) := by decide +kernel
theorem d_LazyMachine_begin_21 : decode b_LazyMachine_begin 21 = .ok (.putfield 122, 3) := by decide +kernel
theorem d_LazyMachine_begin_24 : decode b_LazyMachine_begin 24 = .ok (.aload_n 0, 1) := by decide +kernel
theorem d_LazyMachine_begin_25 : decode b_LazyMachine_begin 25 = .ok (.iload_n 1, 1) := by decide +kernel
theorem d_LazyMachine_begin_26 : decode b_LazyMachine_begin 26 = .ok (.putfield 33, 3) := by decide +kernel
theorem d_LazyMachine_begin_29 : decode b_LazyMachine_begin 29 = .ok (.aload_n 0, 1) := by decide +kernel
theorem d_LazyMachine_begin_30 : decode b_LazyMachine_begin 30 = .ok (.iconst 0, 1) := by decide +kernel
theorem d_LazyMachine_begin_31 : decode b_LazyMachine_begin 31 = .ok (.iconst (-1), 1) := by decide +kernel
theorem d_LazyMachine_begin_32 : decode b_LazyMachine_begin 32 = .ok (.invokevirtual 142, 3) := by decide +kernel
theorem d_LazyMachine_begin_35 : decode b_LazyMachine_begin 35 = .ok (.return_, 1) := by decide +kernel
theorem d_LazyMachine_markRoots_0 : decode b_LazyMachine_markRoots 0 = .ok (.aload_n 0, 1) := by decide +kernel
theorem d_LazyMachine_markRoots_1 : decode b_LazyMachine_markRoots 1 = .ok (.getfield 10, 3) := by decide +kernel
theorem d_LazyMachine_markRoots_4 : decode b_LazyMachine_markRoots 4 = .ok (.invokevirtual 239, 3) := by decide +kernel
theorem d_LazyMachine_markRoots_7 : decode b_LazyMachine_markRoots 7 = .ok (.aload_n 0, 1) := by decide +kernel
theorem d_LazyMachine_markRoots_8 : decode b_LazyMachine_markRoots 8 = .ok (.getfield 83, 3) := by decide +kernel
theorem d_LazyMachine_markRoots_11 : decode b_LazyMachine_markRoots 11 = .ok (.ifCond .eq 25, 3) := by decide +kernel
theorem d_LazyMachine_markRoots_14 : decode b_LazyMachine_markRoots 14 = .ok (.aload_n 0, 1) := by decide +kernel
theorem d_LazyMachine_markRoots_15 : decode b_LazyMachine_markRoots 15 = .ok (.getfield 10, 3) := by decide +kernel
theorem d_LazyMachine_markRoots_18 : decode b_LazyMachine_markRoots 18 = .ok (.aload_n 0, 1) := by decide +kernel
theorem d_LazyMachine_markRoots_19 : decode b_LazyMachine_markRoots 19 = .ok (.getfield 98, 3) := by decide +kernel
theorem d_LazyMachine_markRoots_22 : decode b_LazyMachine_markRoots 22 = .ok (.aload_n 0, 1) := by decide +kernel
theorem d_LazyMachine_markRoots_23 : decode b_LazyMachine_markRoots 23 = .ok (.getfield 40, 3) := by decide +kernel
theorem d_LazyMachine_markRoots_26 : decode b_LazyMachine_markRoots 26 = .ok (.aload_n 0, 1) := by decide +kernel
theorem d_LazyMachine_markRoots_27 : decode b_LazyMachine_markRoots 27 = .ok (.getfield 43, 3) := by decide +kernel
theorem d_LazyMachine_markRoots_30 : decode b_LazyMachine_markRoots 30 = .ok (.invokevirtual 242, 3) := by decide +kernel
theorem d_LazyMachine_markRoots_33 : decode b_LazyMachine_markRoots 33 = .ok (.goto 14, 3) := by decide +kernel
theorem d_LazyMachine_markRoots_36 : decode b_LazyMachine_markRoots 36 = .ok (.aload_n 0, 1) := by decide +kernel
theorem d_LazyMachine_markRoots_37 : decode b_LazyMachine_markRoots 37 = .ok (.getfield 10, 3) := by decide +kernel
theorem d_LazyMachine_markRoots_40 : decode b_LazyMachine_markRoots 40 = .ok (.aload_n 0, 1) := by decide +kernel
theorem d_LazyMachine_markRoots_41 : decode b_LazyMachine_markRoots 41 = .ok (.getfield 37, 3) := by decide +kernel
theorem d_LazyMachine_markRoots_44 : decode b_LazyMachine_markRoots 44 = .ok (.invokevirtual 245, 3) := by decide +kernel
theorem d_LazyMachine_markRoots_47 : decode b_LazyMachine_markRoots 47 = .ok (.aload_n 0, 1) := by decide +kernel
theorem d_LazyMachine_markRoots_48 : decode b_LazyMachine_markRoots 48 = .ok (.getfield 19, 3) := by decide +kernel
theorem d_LazyMachine_markRoots_51 : decode b_LazyMachine_markRoots 51 = .ok (.aload_n 0, 1) := by decide +kernel
theorem d_LazyMachine_markRoots_52 : decode b_LazyMachine_markRoots 52 = .ok (.getfield 10, 3) := by decide +kernel
theorem d_LazyMachine_markRoots_55 : decode b_LazyMachine_markRoots 55 = .ok (.invokevirtual 248, 3) := by decide +kernel
theorem d_LazyMachine_markRoots_58 : decode b_LazyMachine_markRoots 58 = .ok (.return_, 1) := by decide +kernel
theorem d_LazyMachine_hasRoomFor_0 : decode b_LazyMachine_hasRoomFor 0 = .ok (.aload_n 0, 1) := by decide +kernel
theorem d_LazyMachine_hasRoomFor_1 : decode b_LazyMachine_hasRoomFor 1 = .ok (.getfield 10, 3) := by decide +kernel
theorem d_LazyMachine_hasRoomFor_4 : decode b_LazyMachine_hasRoomFor 4 = .ok (.invokevirtual 233, 3) := by decide +kernel
theorem d_LazyMachine_hasRoomFor_7 : decode b_LazyMachine_hasRoomFor 7 = .ok (.iload_n 1, 1) := by decide +kernel
theorem d_LazyMachine_hasRoomFor_8 : decode b_LazyMachine_hasRoomFor 8 = .ok (.if_icmp .ge 22, 3) := by decide +kernel
theorem d_LazyMachine_hasRoomFor_11 : decode b_LazyMachine_hasRoomFor 11 = .ok (.aload_n 0, 1) := by decide +kernel
theorem d_LazyMachine_hasRoomFor_12 : decode b_LazyMachine_hasRoomFor 12 = .ok (.invokevirtual 126, 3) := by decide +kernel
theorem d_LazyMachine_hasRoomFor_15 : decode b_LazyMachine_hasRoomFor 15 = .ok (.aload_n 0, 1) := by decide +kernel
theorem d_LazyMachine_hasRoomFor_16 : decode b_LazyMachine_hasRoomFor 16 = .ok (.getfield 10, 3) := by decide +kernel
theorem d_LazyMachine_hasRoomFor_19 : decode b_LazyMachine_hasRoomFor 19 = .ok (.invokevirtual 129, 3) := by decide +kernel
theorem d_LazyMachine_hasRoomFor_22 : decode b_LazyMachine_hasRoomFor 22 = .ok (.pop, 1) := by decide +kernel
theorem d_LazyMachine_hasRoomFor_23 : decode b_LazyMachine_hasRoomFor 23 = .ok (.aload_n 0, 1) := by decide +kernel
theorem d_LazyMachine_hasRoomFor_24 : decode b_LazyMachine_hasRoomFor 24 = .ok (.getfield 10, 3) := by decide +kernel
theorem d_LazyMachine_hasRoomFor_27 : decode b_LazyMachine_hasRoomFor 27 = .ok (.invokevirtual 236, 3) := by decide +kernel
theorem d_LazyMachine_hasRoomFor_30 : decode b_LazyMachine_hasRoomFor 30 = .ok (.aload_n 0, 1) := by decide +kernel
theorem d_LazyMachine_hasRoomFor_31 : decode b_LazyMachine_hasRoomFor 31 = .ok (.getfield 10, 3) := by decide +kernel
theorem d_LazyMachine_hasRoomFor_34 : decode b_LazyMachine_hasRoomFor 34 = .ok (.invokevirtual 233, 3) := by decide +kernel
theorem d_LazyMachine_hasRoomFor_37 : decode b_LazyMachine_hasRoomFor 37 = .ok (.iload_n 1, 1) := by decide +kernel
theorem d_LazyMachine_hasRoomFor_38 : decode b_LazyMachine_hasRoomFor 38 = .ok (.if_icmp .lt 7, 3) := by decide +kernel
theorem d_LazyMachine_hasRoomFor_41 : decode b_LazyMachine_hasRoomFor 41 = .ok (.iconst 1, 1) := by decide +kernel
theorem d_LazyMachine_hasRoomFor_42 : decode b_LazyMachine_hasRoomFor 42 = .ok (.goto 4, 3) := by decide +kernel
theorem d_LazyMachine_hasRoomFor_45 : decode b_LazyMachine_hasRoomFor 45 = .ok (.iconst 0, 1) := by decide +kernel
theorem d_LazyMachine_hasRoomFor_46 : decode b_LazyMachine_hasRoomFor 46 = .ok (.ireturn, 1) := by decide +kernel
theorem d_LazyMachine_cellsFor_0 : decode b_LazyMachine_cellsFor 0 = .ok (.aload_n 0, 1) := by decide +kernel
theorem d_LazyMachine_cellsFor_1 : decode b_LazyMachine_cellsFor 1 = .ok (.getfield 30, 3) := by decide +kernel
theorem d_LazyMachine_cellsFor_4 : decode b_LazyMachine_cellsFor 4 = .ok (.iload_n 1, 1) := by decide +kernel
theorem d_LazyMachine_cellsFor_5 : decode b_LazyMachine_cellsFor 5 = .ok (.invokevirtual 146, 3) := by decide +kernel
theorem d_LazyMachine_cellsFor_8 : decode b_LazyMachine_cellsFor 8 = .ok (.ifCond .ne 7, 3) := by decide +kernel
theorem d_LazyMachine_cellsFor_11 : decode b_LazyMachine_cellsFor 11 = .ok (.iconst 0, 1) := by decide +kernel
theorem d_LazyMachine_cellsFor_12 : decode b_LazyMachine_cellsFor 12 = .ok (.goto 4, 3) := by decide +kernel
theorem d_LazyMachine_cellsFor_15 : decode b_LazyMachine_cellsFor 15 = .ok (.iconst 1, 1) := by decide +kernel
theorem d_LazyMachine_cellsFor_16 : decode b_LazyMachine_cellsFor 16 = .ok (.ireturn, 1) := by decide +kernel
theorem d_LazyMachine_thunkFor_0 : decode b_LazyMachine_thunkFor 0 = .ok (.aload_n 0, 1) := by decide +kernel
theorem d_LazyMachine_thunkFor_1 : decode b_LazyMachine_thunkFor 1 = .ok (.getfield 30, 3) := by decide +kernel
theorem d_LazyMachine_thunkFor_4 : decode b_LazyMachine_thunkFor 4 = .ok (.iload_n 1, 1) := by decide +kernel
theorem d_LazyMachine_thunkFor_5 : decode b_LazyMachine_thunkFor 5 = .ok (.invokevirtual 146, 3) := by decide +kernel
theorem d_LazyMachine_thunkFor_8 : decode b_LazyMachine_thunkFor 8 = .ok (.ifCond .ne 23, 3) := by decide +kernel
theorem d_LazyMachine_thunkFor_11 : decode b_LazyMachine_thunkFor 11 = .ok (.aload_n 0, 1) := by decide +kernel
theorem d_LazyMachine_thunkFor_12 : decode b_LazyMachine_thunkFor 12 = .ok (.getfield 10, 3) := by decide +kernel
theorem d_LazyMachine_thunkFor_15 : decode b_LazyMachine_thunkFor 15 = .ok (.aload_n 0, 1) := by decide +kernel
theorem d_LazyMachine_thunkFor_16 : decode b_LazyMachine_thunkFor 16 = .ok (.getfield 37, 3) := by decide +kernel
theorem d_LazyMachine_thunkFor_19 : decode b_LazyMachine_thunkFor 19 = .ok (.aload_n 0, 1) := by decide +kernel
theorem d_LazyMachine_thunkFor_20 : decode b_LazyMachine_thunkFor 20 = .ok (.getfield 30, 3) := by decide +kernel
theorem d_LazyMachine_thunkFor_23 : decode b_LazyMachine_thunkFor 23 = .ok (.iload_n 1, 1) := by decide +kernel
theorem d_LazyMachine_thunkFor_24 : decode b_LazyMachine_thunkFor 24 = .ok (.invokevirtual 149, 3) := by decide +kernel
theorem d_LazyMachine_thunkFor_27 : decode b_LazyMachine_thunkFor 27 = .ok (.invokevirtual 152, 3) := by decide +kernel
theorem d_LazyMachine_thunkFor_30 : decode b_LazyMachine_thunkFor 30 = .ok (.ireturn, 1) := by decide +kernel
theorem d_LazyMachine_thunkFor_31 : decode b_LazyMachine_thunkFor 31 = .ok (.aload_n 0, 1) := by decide +kernel
theorem d_LazyMachine_thunkFor_32 : decode b_LazyMachine_thunkFor 32 = .ok (.getfield 10, 3) := by decide +kernel
theorem d_LazyMachine_thunkFor_35 : decode b_LazyMachine_thunkFor 35 = .ok (.iconst 3, 1) := by decide +kernel
theorem d_LazyMachine_thunkFor_36 : decode b_LazyMachine_thunkFor 36 = .ok (.iload_n 1, 1) := by decide +kernel
theorem d_LazyMachine_thunkFor_37 : decode b_LazyMachine_thunkFor 37 = .ok (.aload_n 0, 1) := by decide +kernel
theorem d_LazyMachine_thunkFor_38 : decode b_LazyMachine_thunkFor 38 = .ok (.getfield 37, 3) := by decide +kernel
theorem d_LazyMachine_thunkFor_41 : decode b_LazyMachine_thunkFor 41 = .ok (.invokevirtual 115, 3) := by decide +kernel
theorem d_LazyMachine_thunkFor_44 : decode b_LazyMachine_thunkFor 44 = .ok (.ireturn, 1) := by decide +kernel
