theorem dX0_init_0 : decode cX0_init 0 = .ok (.aload_n 0, 1) := by decide +kernel
theorem dX0_init_1 : decode cX0_init 1 = .ok (.invokespecial 3, 3) := by decide +kernel
theorem dX0_init_4 : decode cX0_init 4 = .ok (.aload_n 0, 1) := by decide +kernel
theorem dX0_init_5 : decode cX0_init 5 = .ok (.bipush (-5), 2) := by decide +kernel
theorem dX0_init_7 : decode cX0_init 7 = .ok (.putfield 9, 3) := by decide +kernel
theorem dX0_init_10 : decode cX0_init 10 = .ok (.aload_n 0, 1) := by decide +kernel
theorem dX0_init_11 : decode cX0_init 11 = .ok (.bipush (-5), 2) := by decide +kernel
theorem dX0_init_13 : decode cX0_init 13 = .ok (.putfield 15, 3) := by decide +kernel
theorem dX0_init_16 : decode cX0_init 16 = .ok (.return_, 1) := by decide +kernel
theorem dX0_copyFrom_0 : decode cX0_copyFrom 0 = .ok (.aload_n 0, 1) := by decide +kernel
theorem dX0_copyFrom_1 : decode cX0_copyFrom 1 = .ok (.aload_n 1, 1) := by decide +kernel
theorem dX0_copyFrom_2 : decode cX0_copyFrom 2 = .ok (.getfield 18, 3) := by decide +kernel
theorem dX0_copyFrom_5 : decode cX0_copyFrom 5 = .ok (.putfield 18, 3) := by decide +kernel
theorem dX0_copyFrom_8 : decode cX0_copyFrom 8 = .ok (.aload_n 0, 1) := by decide +kernel
theorem dX0_copyFrom_9 : decode cX0_copyFrom 9 = .ok (.aload_n 1, 1) := by decide +kernel
theorem dX0_copyFrom_10 : decode cX0_copyFrom 10 = .ok (.getfield 21, 3) := by decide +kernel
theorem dX0_copyFrom_13 : decode cX0_copyFrom 13 = .ok (.putfield 21, 3) := by decide +kernel
theorem dX0_copyFrom_16 : decode cX0_copyFrom 16 = .ok (.aload_n 0, 1) := by decide +kernel
theorem dX0_copyFrom_17 : decode cX0_copyFrom 17 = .ok (.aload_n 1, 1) := by decide +kernel
theorem dX0_copyFrom_18 : decode cX0_copyFrom 18 = .ok (.getfield 24, 3) := by decide +kernel
theorem dX0_copyFrom_21 : decode cX0_copyFrom 21 = .ok (.putfield 24, 3) := by decide +kernel
theorem dX0_copyFrom_24 : decode cX0_copyFrom 24 = .ok (.aload_n 0, 1) := by decide +kernel
theorem dX0_copyFrom_25 : decode cX0_copyFrom 25 = .ok (.aload_n 1, 1) := by decide +kernel
theorem dX0_copyFrom_26 : decode cX0_copyFrom 26 = .ok (.getfield 27, 3) := by decide +kernel
theorem dX0_copyFrom_29 : decode cX0_copyFrom 29 = .ok (.putfield 27, 3) := by decide +kernel
theorem dX0_copyFrom_32 : decode cX0_copyFrom 32 = .ok (.aload_n 0, 1) := by decide +kernel
theorem dX0_copyFrom_33 : decode cX0_copyFrom 33 = .ok (.aload_n 1, 1) := by decide +kernel
theorem dX0_copyFrom_34 : decode cX0_copyFrom 34 = .ok (.getfield 9, 3) := by decide +kernel
theorem dX0_copyFrom_37 : decode cX0_copyFrom 37 = .ok (.putfield 9, 3) := by decide +kernel
theorem dX0_copyFrom_40 : decode cX0_copyFrom 40 = .ok (.aload_n 0, 1) := by decide +kernel
theorem dX0_copyFrom_41 : decode cX0_copyFrom 41 = .ok (.aload_n 1, 1) := by decide +kernel
theorem dX0_copyFrom_42 : decode cX0_copyFrom 42 = .ok (.getfield 30, 3) := by decide +kernel
theorem dX0_copyFrom_45 : decode cX0_copyFrom 45 = .ok (.putfield 30, 3) := by decide +kernel
theorem dX0_copyFrom_48 : decode cX0_copyFrom 48 = .ok (.aload_n 0, 1) := by decide +kernel
theorem dX0_copyFrom_49 : decode cX0_copyFrom 49 = .ok (.aload_n 1, 1) := by decide +kernel
theorem dX0_copyFrom_50 : decode cX0_copyFrom 50 = .ok (.getfield 33, 3) := by decide +kernel
theorem dX0_copyFrom_53 : decode cX0_copyFrom 53 = .ok (.putfield 33, 3) := by decide +kernel
theorem dX0_copyFrom_56 : decode cX0_copyFrom 56 = .ok (.aload_n 0, 1) := by decide +kernel
theorem dX0_copyFrom_57 : decode cX0_copyFrom 57 = .ok (.aload_n 1, 1) := by decide +kernel
theorem dX0_copyFrom_58 : decode cX0_copyFrom 58 = .ok (.getfield 36, 3) := by decide +kernel
theorem dX0_copyFrom_61 : decode cX0_copyFrom 61 = .ok (.putfield 36, 3) := by decide +kernel
theorem dX0_copyFrom_64 : decode cX0_copyFrom 64 = .ok (.aload_n 0, 1) := by decide +kernel
theorem dX0_copyFrom_65 : decode cX0_copyFrom 65 = .ok (.aload_n 1, 1) := by decide +kernel
theorem dX0_copyFrom_66 : decode cX0_copyFrom 66 = .ok (.getfield 15, 3) := by decide +kernel
theorem dX0_copyFrom_69 : decode cX0_copyFrom 69 = .ok (.putfield 15, 3) := by decide +kernel
theorem dX0_copyFrom_72 : decode cX0_copyFrom 72 = .ok (.return_, 1) := by decide +kernel
theorem dX0_begin_0 : decode cX0_begin 0 = .ok (.aload_n 0, 1) := by decide +kernel
theorem dX0_begin_1 : decode cX0_begin 1 = .ok (.iload_n 1, 1) := by decide +kernel
theorem dX0_begin_2 : decode cX0_begin 2 = .ok (.putfield 18, 3) := by decide +kernel
theorem dX0_begin_5 : decode cX0_begin 5 = .ok (.aload_n 0, 1) := by decide +kernel
theorem dX0_begin_6 : decode cX0_begin 6 = .ok (.iload_n 2, 1) := by decide +kernel
theorem dX0_begin_7 : decode cX0_begin 7 = .ok (.putfield 21, 3) := by decide +kernel
theorem dX0_begin_10 : decode cX0_begin 10 = .ok (.aload_n 0, 1) := by decide +kernel
theorem dX0_begin_11 : decode cX0_begin 11 = .ok (.iload_n 3, 1) := by decide +kernel
theorem dX0_begin_12 : decode cX0_begin 12 = .ok (.putfield 24, 3) := by decide +kernel
theorem dX0_begin_15 : decode cX0_begin 15 = .ok (.aload_n 0, 1) := by decide +kernel
theorem dX0_begin_16 : decode cX0_begin 16 = .ok (.iload 4, 2) := by decide +kernel
theorem dX0_begin_18 : decode cX0_begin 18 = .ok (.putfield 27, 3) := by decide +kernel
theorem dX0_begin_21 : decode cX0_begin 21 = .ok (.aload_n 0, 1) := by decide +kernel
theorem dX0_begin_22 : decode cX0_begin 22 = .ok (.bipush (-5), 2) := by decide +kernel
theorem dX0_begin_24 : decode cX0_begin 24 = .ok (.putfield 9, 3) := by decide +kernel
theorem dX0_begin_27 : decode cX0_begin 27 = .ok (.aload_n 0, 1) := by decide +kernel
theorem dX0_begin_28 : decode cX0_begin 28 = .ok (.iconst 0, 1) := by decide +kernel
theorem dX0_begin_29 : decode cX0_begin 29 = .ok (.putfield 30, 3) := by decide +kernel
theorem dX0_begin_32 : decode cX0_begin 32 = .ok (.aload_n 0, 1) := by decide +kernel
theorem dX0_begin_33 : decode cX0_begin 33 = .ok (.iconst 0, 1) := by decide +kernel
theorem dX0_begin_34 : decode cX0_begin 34 = .ok (.putfield 33, 3) := by decide +kernel
theorem dX0_begin_37 : decode cX0_begin 37 = .ok (.aload_n 0, 1) := by decide +kernel
theorem dX0_begin_38 : decode cX0_begin 38 = .ok (.iconst 0, 1) := by decide +kernel
theorem dX0_begin_39 : decode cX0_begin 39 = .ok (.putfield 36, 3) := by decide +kernel
theorem dX0_begin_42 : decode cX0_begin 42 = .ok (.aload_n 0, 1) := by decide +kernel
theorem dX0_begin_43 : decode cX0_begin 43 = .ok (.bipush (-5), 2) := by decide +kernel
theorem dX0_begin_45 : decode cX0_begin 45 = .ok (.putfield 15, 3) := by decide +kernel
theorem dX0_begin_48 : decode cX0_begin 48 = .ok (.return_, 1) := by decide +kernel
theorem dX0_isOpenIn_0 : decode cX0_isOpenIn 0 = .ok (.aload_n 0, 1) := by decide +kernel
theorem dX0_isOpenIn_1 : decode cX0_isOpenIn 1 = .ok (.getfield 24, 3) := by decide +kernel
theorem dX0_isOpenIn_4 : decode cX0_isOpenIn 4 = .ok (.iload_n 1, 1) := by decide +kernel
theorem dX0_isOpenIn_5 : decode cX0_isOpenIn 5 = .ok (.if_icmp .gt 15, 3) := by decide +kernel
theorem dX0_isOpenIn_8 : decode cX0_isOpenIn 8 = .ok (.iload_n 1, 1) := by decide +kernel
theorem dX0_isOpenIn_9 : decode cX0_isOpenIn 9 = .ok (.aload_n 0, 1) := by decide +kernel
theorem dX0_isOpenIn_10 : decode cX0_isOpenIn 10 = .ok (.getfield 27, 3) := by decide +kernel
theorem dX0_isOpenIn_13 : decode cX0_isOpenIn 13 = .ok (.if_icmp .ge 7, 3) := by decide +kernel
theorem dX0_isOpenIn_16 : decode cX0_isOpenIn 16 = .ok (.iconst 1, 1) := by decide +kernel
theorem dX0_isOpenIn_17 : decode cX0_isOpenIn 17 = .ok (.goto 4, 3) := by decide +kernel
theorem dX0_isOpenIn_20 : decode cX0_isOpenIn 20 = .ok (.iconst 0, 1) := by decide +kernel
theorem dX0_isOpenIn_21 : decode cX0_isOpenIn 21 = .ok (.ireturn, 1) := by decide +kernel
theorem dX0_needsMoreThan_0 : decode cX0_needsMoreThan 0 = .ok (.aload_n 0, 1) := by decide +kernel
theorem dX0_needsMoreThan_1 : decode cX0_needsMoreThan 1 = .ok (.getfield 18, 3) := by decide +kernel
theorem dX0_needsMoreThan_4 : decode cX0_needsMoreThan 4 = .ok (.aload_n 1, 1) := by decide +kernel
theorem dX0_needsMoreThan_5 : decode cX0_needsMoreThan 5 = .ok (.getfield 18, 3) := by decide +kernel
theorem dX0_needsMoreThan_8 : decode cX0_needsMoreThan 8 = .ok (.if_icmp .gt 25, 3) := by decide +kernel
theorem dX0_needsMoreThan_11 : decode cX0_needsMoreThan 11 = .ok (.aload_n 0, 1) := by decide +kernel
theorem dX0_needsMoreThan_12 : decode cX0_needsMoreThan 12 = .ok (.getfield 18, 3) := by decide +kernel
theorem dX0_needsMoreThan_15 : decode cX0_needsMoreThan 15 = .ok (.aload_n 1, 1) := by decide +kernel
theorem dX0_needsMoreThan_16 : decode cX0_needsMoreThan 16 = .ok (.getfield 18, 3) := by decide +kernel
theorem dX0_needsMoreThan_19 : decode cX0_needsMoreThan 19 = .ok (.if_icmp .ne 18, 3) := by decide +kernel
theorem dX0_needsMoreThan_22 : decode cX0_needsMoreThan 22 = .ok (.aload_n 0, 1) := by decide +kernel
theorem dX0_needsMoreThan_23 : decode cX0_needsMoreThan 23 = .ok (.getfield 21, 3) := by decide +kernel
theorem dX0_needsMoreThan_26 : decode cX0_needsMoreThan 26 = .ok (.aload_n 1, 1) := by decide +kernel
theorem dX0_needsMoreThan_27 : decode cX0_needsMoreThan 27 = .ok (.getfield 21, 3) := by decide +kernel
theorem dX0_needsMoreThan_30 : decode cX0_needsMoreThan 30 = .ok (.if_icmp .le 7, 3) := by decide +kernel
theorem dX0_needsMoreThan_33 : decode cX0_needsMoreThan 33 = .ok (.iconst 1, 1) := by decide +kernel
theorem dX0_needsMoreThan_34 : decode cX0_needsMoreThan 34 = .ok (.goto 4, 3) := by decide +kernel
theorem dX0_needsMoreThan_37 : decode cX0_needsMoreThan 37 = .ok (.iconst 0, 1) := by decide +kernel
theorem dX0_needsMoreThan_38 : decode cX0_needsMoreThan 38 = .ok (.ireturn, 1) := by decide +kernel
theorem dX0_darken_0 : decode cX0_darken 0 = .ok (.aload_n 0, 1) := by decide +kernel
theorem dX0_darken_1 : decode cX0_darken 1 = .ok (.dup, 1) := by decide +kernel
theorem dX0_darken_2 : decode cX0_darken 2 = .ok (.getfield 33, 3) := by decide +kernel
theorem dX0_darken_5 : decode cX0_darken 5 = .ok (.iconst 1, 1) := by decide +kernel
theorem dX0_darken_6 : decode cX0_darken 6 = .ok (.iadd, 1) := by decide +kernel
theorem dX0_darken_7 : decode cX0_darken 7 = .ok (.putfield 33, 3) := by decide +kernel
theorem dX0_darken_10 : decode cX0_darken 10 = .ok (.aload_n 0, 1) := by decide +kernel
theorem dX0_darken_11 : decode cX0_darken 11 = .ok (.iload_n 1, 1) := by decide +kernel
theorem dX0_darken_12 : decode cX0_darken 12 = .ok (.putfield 15, 3) := by decide +kernel
theorem dX0_darken_15 : decode cX0_darken 15 = .ok (.return_, 1) := by decide +kernel
theorem dX0_light_0 : decode cX0_light 0 = .ok (.aload_n 0, 1) := by decide +kernel
theorem dX0_light_1 : decode cX0_light 1 = .ok (.dup, 1) := by decide +kernel
theorem dX0_light_2 : decode cX0_light 2 = .ok (.getfield 30, 3) := by decide +kernel
theorem dX0_light_5 : decode cX0_light 5 = .ok (.iconst 1, 1) := by decide +kernel
theorem dX0_light_6 : decode cX0_light 6 = .ok (.iadd, 1) := by decide +kernel
theorem dX0_light_7 : decode cX0_light 7 = .ok (.putfield 30, 3) := by decide +kernel
theorem dX0_light_10 : decode cX0_light 10 = .ok (.aload_n 0, 1) := by decide +kernel
theorem dX0_light_11 : decode cX0_light 11 = .ok (.dup, 1) := by decide +kernel
theorem dX0_light_12 : decode cX0_light 12 = .ok (.getfield 36, 3) := by decide +kernel
theorem dX0_light_15 : decode cX0_light 15 = .ok (.iload_n 1, 1) := by decide +kernel
theorem dX0_light_16 : decode cX0_light 16 = .ok (.iadd, 1) := by decide +kernel
theorem dX0_light_17 : decode cX0_light 17 = .ok (.putfield 36, 3) := by decide +kernel
theorem dX0_light_20 : decode cX0_light 20 = .ok (.return_, 1) := by decide +kernel
theorem dX1_init_0 : decode cX1_init 0 = .ok (.aload_n 0, 1) := by decide +kernel
theorem dX1_init_1 : decode cX1_init 1 = .ok (.invokespecial 3, 3) := by decide +kernel
theorem dX1_init_4 : decode cX1_init 4 = .ok (.aload_n 0, 1) := by decide +kernel
theorem dX1_init_5 : decode cX1_init 5 = .ok (.bipush (-5), 2) := by decide +kernel
theorem dX1_init_7 : decode cX1_init 7 = .ok (.putfield 9, 3) := by decide +kernel
theorem dX1_init_10 : decode cX1_init 10 = .ok (.return_, 1) := by decide +kernel
theorem dX1_copyFrom_0 : decode cX1_copyFrom 0 = .ok (.aload_n 0, 1) := by decide +kernel
theorem dX1_copyFrom_1 : decode cX1_copyFrom 1 = .ok (.aload_n 1, 1) := by decide +kernel
theorem dX1_copyFrom_2 : decode cX1_copyFrom 2 = .ok (.getfield 15, 3) := by decide +kernel
theorem dX1_copyFrom_5 : decode cX1_copyFrom 5 = .ok (.putfield 15, 3) := by decide +kernel
theorem dX1_copyFrom_8 : decode cX1_copyFrom 8 = .ok (.aload_n 0, 1) := by decide +kernel
theorem dX1_copyFrom_9 : decode cX1_copyFrom 9 = .ok (.aload_n 1, 1) := by decide +kernel
theorem dX1_copyFrom_10 : decode cX1_copyFrom 10 = .ok (.getfield 18, 3) := by decide +kernel
theorem dX1_copyFrom_13 : decode cX1_copyFrom 13 = .ok (.putfield 18, 3) := by decide +kernel
theorem dX1_copyFrom_16 : decode cX1_copyFrom 16 = .ok (.aload_n 0, 1) := by decide +kernel
theorem dX1_copyFrom_17 : decode cX1_copyFrom 17 = .ok (.aload_n 1, 1) := by decide +kernel
theorem dX1_copyFrom_18 : decode cX1_copyFrom 18 = .ok (.getfield 21, 3) := by decide +kernel
theorem dX1_copyFrom_21 : decode cX1_copyFrom 21 = .ok (.putfield 21, 3) := by decide +kernel
theorem dX1_copyFrom_24 : decode cX1_copyFrom 24 = .ok (.aload_n 0, 1) := by decide +kernel
theorem dX1_copyFrom_25 : decode cX1_copyFrom 25 = .ok (.aload_n 1, 1) := by decide +kernel
theorem dX1_copyFrom_26 : decode cX1_copyFrom 26 = .ok (.getfield 24, 3) := by decide +kernel
theorem dX1_copyFrom_29 : decode cX1_copyFrom 29 = .ok (.putfield 24, 3) := by decide +kernel
theorem dX1_copyFrom_32 : decode cX1_copyFrom 32 = .ok (.aload_n 0, 1) := by decide +kernel
theorem dX1_copyFrom_33 : decode cX1_copyFrom 33 = .ok (.aload_n 1, 1) := by decide +kernel
theorem dX1_copyFrom_34 : decode cX1_copyFrom 34 = .ok (.getfield 27, 3) := by decide +kernel
theorem dX1_copyFrom_37 : decode cX1_copyFrom 37 = .ok (.putfield 27, 3) := by decide +kernel
theorem dX1_copyFrom_40 : decode cX1_copyFrom 40 = .ok (.aload_n 0, 1) := by decide +kernel
theorem dX1_copyFrom_41 : decode cX1_copyFrom 41 = .ok (.aload_n 1, 1) := by decide +kernel
theorem dX1_copyFrom_42 : decode cX1_copyFrom 42 = .ok (.getfield 9, 3) := by decide +kernel
theorem dX1_copyFrom_45 : decode cX1_copyFrom 45 = .ok (.putfield 9, 3) := by decide +kernel
theorem dX1_copyFrom_48 : decode cX1_copyFrom 48 = .ok (.aload_n 0, 1) := by decide +kernel
theorem dX1_copyFrom_49 : decode cX1_copyFrom 49 = .ok (.aload_n 1, 1) := by decide +kernel
theorem dX1_copyFrom_50 : decode cX1_copyFrom 50 = .ok (.getfield 30, 3) := by decide +kernel
theorem dX1_copyFrom_53 : decode cX1_copyFrom 53 = .ok (.putfield 30, 3) := by decide +kernel
theorem dX1_copyFrom_56 : decode cX1_copyFrom 56 = .ok (.aload_n 0, 1) := by decide +kernel
theorem dX1_copyFrom_57 : decode cX1_copyFrom 57 = .ok (.aload_n 1, 1) := by decide +kernel
theorem dX1_copyFrom_58 : decode cX1_copyFrom 58 = .ok (.getfield 34, 3) := by decide +kernel
theorem dX1_copyFrom_61 : decode cX1_copyFrom 61 = .ok (.putfield 34, 3) := by decide +kernel
theorem dX1_copyFrom_64 : decode cX1_copyFrom 64 = .ok (.aload_n 0, 1) := by decide +kernel
theorem dX1_copyFrom_65 : decode cX1_copyFrom 65 = .ok (.aload_n 1, 1) := by decide +kernel
theorem dX1_copyFrom_66 : decode cX1_copyFrom 66 = .ok (.getfield 37, 3) := by decide +kernel
theorem dX1_copyFrom_69 : decode cX1_copyFrom 69 = .ok (.putfield 37, 3) := by decide +kernel
theorem dX1_copyFrom_72 : decode cX1_copyFrom 72 = .ok (.return_, 1) := by decide +kernel
theorem dX1_room_0 : decode cX1_room 0 = .ok (.aload_n 0, 1) := by decide +kernel
theorem dX1_room_1 : decode cX1_room 1 = .ok (.getfield 18, 3) := by decide +kernel
theorem dX1_room_4 : decode cX1_room 4 = .ok (.aload_n 0, 1) := by decide +kernel
theorem dX1_room_5 : decode cX1_room 5 = .ok (.getfield 27, 3) := by decide +kernel
theorem dX1_room_8 : decode cX1_room 8 = .ok (.isub, 1) := by decide +kernel
theorem dX1_room_9 : decode cX1_room 9 = .ok (.ireturn, 1) := by decide +kernel
theorem dX1_hoursLeft_0 : decode cX1_hoursLeft 0 = .ok (.aload_n 0, 1) := by decide +kernel
theorem dX1_hoursLeft_1 : decode cX1_hoursLeft 1 = .ok (.getfield 21, 3) := by decide +kernel
theorem dX1_hoursLeft_4 : decode cX1_hoursLeft 4 = .ok (.ifCond .le 15, 3) := by decide +kernel
theorem dX1_hoursLeft_7 : decode cX1_hoursLeft 7 = .ok (.aload_n 0, 1) := by decide +kernel
theorem dX1_hoursLeft_8 : decode cX1_hoursLeft 8 = .ok (.getfield 27, 3) := by decide +kernel
theorem dX1_hoursLeft_11 : decode cX1_hoursLeft 11 = .ok (.aload_n 0, 1) := by decide +kernel
theorem dX1_hoursLeft_12 : decode cX1_hoursLeft 12 = .ok (.getfield 21, 3) := by decide +kernel
theorem dX1_hoursLeft_15 : decode cX1_hoursLeft 15 = .ok (.idiv, 1) := by decide +kernel
theorem dX1_hoursLeft_16 : decode cX1_hoursLeft 16 = .ok (.goto 4, 3) := by decide +kernel
theorem dX1_hoursLeft_19 : decode cX1_hoursLeft 19 = .ok (.iconst 0, 1) := by decide +kernel
theorem dX1_hoursLeft_20 : decode cX1_hoursLeft 20 = .ok (.ireturn, 1) := by decide +kernel
theorem dX1_moveTo_0 : decode cX1_moveTo 0 = .ok (.aload_n 0, 1) := by decide +kernel
theorem dX1_moveTo_1 : decode cX1_moveTo 1 = .ok (.iload_n 1, 1) := by decide +kernel
theorem dX1_moveTo_2 : decode cX1_moveTo 2 = .ok (.putfield 9, 3) := by decide +kernel
theorem dX1_moveTo_5 : decode cX1_moveTo 5 = .ok (.aload_n 0, 1) := by decide +kernel
theorem dX1_moveTo_6 : decode cX1_moveTo 6 = .ok (.iconst 0, 1) := by decide +kernel
theorem dX1_moveTo_7 : decode cX1_moveTo 7 = .ok (.putfield 30, 3) := by decide +kernel
theorem dX1_moveTo_10 : decode cX1_moveTo 10 = .ok (.aload_n 0, 1) := by decide +kernel
theorem dX1_moveTo_11 : decode cX1_moveTo 11 = .ok (.iconst 0, 1) := by decide +kernel
theorem dX1_moveTo_12 : decode cX1_moveTo 12 = .ok (.putfield 34, 3) := by decide +kernel
theorem dX1_moveTo_15 : decode cX1_moveTo 15 = .ok (.return_, 1) := by decide +kernel
theorem dX1_causeAt_0 : decode cX1_causeAt 0 = .ok (.aload_n 0, 1) := by decide +kernel
theorem dX1_causeAt_1 : decode cX1_causeAt 1 = .ok (.getfield 30, 3) := by decide +kernel
theorem dX1_causeAt_4 : decode cX1_causeAt 4 = .ok (.ifCond .eq 5, 3) := by decide +kernel
theorem dX1_causeAt_7 : decode cX1_causeAt 7 = .ok (.iconst 0, 1) := by decide +kernel
theorem dX1_causeAt_8 : decode cX1_causeAt 8 = .ok (.ireturn, 1) := by decide +kernel
theorem dX1_causeAt_9 : decode cX1_causeAt 9 = .ok (.aload_n 0, 1) := by decide +kernel
theorem dX1_causeAt_10 : decode cX1_causeAt 10 = .ok (.getfield 27, 3) := by decide +kernel
theorem dX1_causeAt_13 : decode cX1_causeAt 13 = .ok (.aload_n 0, 1) := by decide +kernel
theorem dX1_causeAt_14 : decode cX1_causeAt 14 = .ok (.getfield 21, 3) := by decide +kernel
theorem dX1_causeAt_17 : decode cX1_causeAt 17 = .ok (.if_icmp .ge 5, 3) := by decide +kernel
theorem dX1_causeAt_20 : decode cX1_causeAt 20 = .ok (.iconst 2, 1) := by decide +kernel
theorem dX1_causeAt_21 : decode cX1_causeAt 21 = .ok (.ireturn, 1) := by decide +kernel
theorem dX1_causeAt_22 : decode cX1_causeAt 22 = .ok (.iload_n 1, 1) := by decide +kernel
theorem dX1_causeAt_23 : decode cX1_causeAt 23 = .ok (.aload_n 0, 1) := by decide +kernel
theorem dX1_causeAt_24 : decode cX1_causeAt 24 = .ok (.getfield 24, 3) := by decide +kernel
theorem dX1_causeAt_27 : decode cX1_causeAt 27 = .ok (.if_icmp .ge 22, 3) := by decide +kernel
theorem dX1_causeAt_30 : decode cX1_causeAt 30 = .ok (.aload_n 0, 1) := by decide +kernel
theorem dX1_causeAt_31 : decode cX1_causeAt 31 = .ok (.getfield 24, 3) := by decide +kernel
theorem dX1_causeAt_34 : decode cX1_causeAt 34 = .ok (.iload_n 1, 1) := by decide +kernel
theorem dX1_causeAt_35 : decode cX1_causeAt 35 = .ok (.isub, 1) := by decide +kernel
theorem dX1_causeAt_36 : decode cX1_causeAt 36 = .ok (.iconst 5, 1) := by decide +kernel
theorem dX1_causeAt_37 : decode cX1_causeAt 37 = .ok (.aload_n 0, 1) := by decide +kernel
theorem dX1_causeAt_38 : decode cX1_causeAt 38 = .ok (.getfield 34, 3) := by decide +kernel
theorem dX1_causeAt_41 : decode cX1_causeAt 41 = .ok (.imul, 1) := by decide +kernel
theorem dX1_causeAt_42 : decode cX1_causeAt 42 = .ok (.if_icmp .le 7, 3) := by decide +kernel
theorem dX1_causeAt_45 : decode cX1_causeAt 45 = .ok (.iconst 3, 1) := by decide +kernel
theorem dX1_causeAt_46 : decode cX1_causeAt 46 = .ok (.goto 4, 3) := by decide +kernel
theorem dX1_causeAt_49 : decode cX1_causeAt 49 = .ok (.iconst 0, 1) := by decide +kernel
theorem dX1_causeAt_50 : decode cX1_causeAt 50 = .ok (.ireturn, 1) := by decide +kernel
theorem dX1_burnHour_0 : decode cX1_burnHour 0 = .ok (.aload_n 0, 1) := by decide +kernel
theorem dX1_burnHour_1 : decode cX1_burnHour 1 = .ok (.dup, 1) := by decide +kernel
theorem dX1_burnHour_2 : decode cX1_burnHour 2 = .ok (.getfield 27, 3) := by decide +kernel
theorem dX1_burnHour_5 : decode cX1_burnHour 5 = .ok (.aload_n 0, 1) := by decide +kernel
theorem dX1_burnHour_6 : decode cX1_burnHour 6 = .ok (.getfield 21, 3) := by decide +kernel
theorem dX1_burnHour_9 : decode cX1_burnHour 9 = .ok (.isub, 1) := by decide +kernel
theorem dX1_burnHour_10 : decode cX1_burnHour 10 = .ok (.putfield 27, 3) := by decide +kernel
theorem dX1_burnHour_13 : decode cX1_burnHour 13 = .ok (.aload_n 0, 1) := by decide +kernel
theorem dX1_burnHour_14 : decode cX1_burnHour 14 = .ok (.dup, 1) := by decide +kernel
theorem dX1_burnHour_15 : decode cX1_burnHour 15 = .ok (.getfield 37, 3) := by decide +kernel
theorem dX1_burnHour_18 : decode cX1_burnHour 18 = .ok (.iconst 1, 1) := by decide +kernel
theorem dX1_burnHour_19 : decode cX1_burnHour 19 = .ok (.iadd, 1) := by decide +kernel
theorem dX1_burnHour_20 : decode cX1_burnHour 20 = .ok (.putfield 37, 3) := by decide +kernel
theorem dX1_burnHour_23 : decode cX1_burnHour 23 = .ok (.aload_n 0, 1) := by decide +kernel
theorem dX1_burnHour_24 : decode cX1_burnHour 24 = .ok (.aload_n 0, 1) := by decide +kernel
theorem dX1_burnHour_25 : decode cX1_burnHour 25 = .ok (.getfield 27, 3) := by decide +kernel
theorem dX1_burnHour_28 : decode cX1_burnHour 28 = .ok (.aload_n 0, 1) := by decide +kernel
theorem dX1_burnHour_29 : decode cX1_burnHour 29 = .ok (.getfield 21, 3) := by decide +kernel
theorem dX1_burnHour_32 : decode cX1_burnHour 32 = .ok (.if_icmp .lt 7, 3) := by decide +kernel
theorem dX1_burnHour_35 : decode cX1_burnHour 35 = .ok (.iconst 1, 1) := by decide +kernel
theorem dX1_burnHour_36 : decode cX1_burnHour 36 = .ok (.goto 4, 3) := by decide +kernel
theorem dX1_burnHour_39 : decode cX1_burnHour 39 = .ok (.iconst 0, 1) := by decide +kernel
theorem dX1_burnHour_40 : decode cX1_burnHour 40 = .ok (.putfield 30, 3) := by decide +kernel
theorem dX1_burnHour_43 : decode cX1_burnHour 43 = .ok (.return_, 1) := by decide +kernel
theorem dX2_init_0 : decode cX2_init 0 = .ok (.aload_n 0, 1) := by decide +kernel
theorem dX2_init_1 : decode cX2_init 1 = .ok (.invokespecial 3, 3) := by decide +kernel
theorem dX2_init_4 : decode cX2_init 4 = .ok (.aload_n 0, 1) := by decide +kernel
theorem dX2_init_5 : decode cX2_init 5 = .ok (.iconst 5, 1) := by decide +kernel
theorem dX2_init_6 : decode cX2_init 6 = .ok (.anewarray 9, 3) := by decide +kernel
theorem dX2_init_9 : decode cX2_init 9 = .ok (.putfield 11, 3) := by decide +kernel
theorem dX2_init_12 : decode cX2_init 12 = .ok (.iconst 0, 1) := by decide +kernel
theorem dX2_init_13 : decode cX2_init 13 = .ok (.istore_n 1, 1) := by decide +kernel
theorem dX2_init_14 : decode cX2_init 14 = .ok (.iload_n 1, 1) := by decide +kernel
theorem dX2_init_15 : decode cX2_init 15 = .ok (.iconst 5, 1) := by decide +kernel
theorem dX2_init_16 : decode cX2_init 16 = .ok (.if_icmp .ge 22, 3) := by decide +kernel
theorem dX2_init_19 : decode cX2_init 19 = .ok (.aload_n 0, 1) := by decide +kernel
theorem dX2_init_20 : decode cX2_init 20 = .ok (.getfield 11, 3) := by decide +kernel
theorem dX2_init_23 : decode cX2_init 23 = .ok (.iload_n 1, 1) := by decide +kernel
theorem dX2_init_24 : decode cX2_init 24 = .ok (.new 9, 3) := by decide +kernel
theorem dX2_init_27 : decode cX2_init 27 = .ok (.dup, 1) := by decide +kernel
theorem dX2_init_28 : decode cX2_init 28 = .ok (.invokespecial 17, 3) := by decide +kernel
theorem dX2_init_31 : decode cX2_init 31 = .ok (.aastore, 1) := by decide +kernel
theorem dX2_init_32 : decode cX2_init 32 = .ok (.iinc 1 1, 3) := by decide +kernel
theorem dX2_init_35 : decode cX2_init 35 = .ok (.goto (-21), 3) := by decide +kernel
theorem dX2_init_38 : decode cX2_init 38 = .ok (.return_, 1) := by decide +kernel
theorem dX2_push_0 : decode cX2_push 0 = .ok (.aload_n 0, 1) := by decide +kernel
theorem dX2_push_1 : decode cX2_push 1 = .ok (.getfield 11, 3) := by decide +kernel
theorem dX2_push_4 : decode cX2_push 4 = .ok (.aload_n 0, 1) := by decide +kernel
theorem dX2_push_5 : decode cX2_push 5 = .ok (.getfield 18, 3) := by decide +kernel
theorem dX2_push_8 : decode cX2_push 8 = .ok (.aload_n 0, 1) := by decide +kernel
theorem dX2_push_9 : decode cX2_push 9 = .ok (.getfield 22, 3) := by decide +kernel
theorem dX2_push_12 : decode cX2_push 12 = .ok (.iadd, 1) := by decide +kernel
theorem dX2_push_13 : decode cX2_push 13 = .ok (.iconst 5, 1) := by decide +kernel
theorem dX2_push_14 : decode cX2_push 14 = .ok (.irem, 1) := by decide +kernel
theorem dX2_push_15 : decode cX2_push 15 = .ok (.aaload, 1) := by decide +kernel
theorem dX2_push_16 : decode cX2_push 16 = .ok (.aload_n 1, 1) := by decide +kernel
theorem dX2_push_17 : decode cX2_push 17 = .ok (.invokevirtual 25, 3) := by decide +kernel
theorem dX2_push_20 : decode cX2_push 20 = .ok (.aload_n 0, 1) := by decide +kernel
theorem dX2_push_21 : decode cX2_push 21 = .ok (.getfield 22, 3) := by decide +kernel
theorem dX2_push_24 : decode cX2_push 24 = .ok (.iconst 5, 1) := by decide +kernel
theorem dX2_push_25 : decode cX2_push 25 = .ok (.if_icmp .ge 16, 3) := by decide +kernel
theorem dX2_push_28 : decode cX2_push 28 = .ok (.aload_n 0, 1) := by decide +kernel
theorem dX2_push_29 : decode cX2_push 29 = .ok (.dup, 1) := by decide +kernel
theorem dX2_push_30 : decode cX2_push 30 = .ok (.getfield 22, 3) := by decide +kernel
theorem dX2_push_33 : decode cX2_push 33 = .ok (.iconst 1, 1) := by decide +kernel
theorem dX2_push_34 : decode cX2_push 34 = .ok (.iadd, 1) := by decide +kernel
theorem dX2_push_35 : decode cX2_push 35 = .ok (.putfield 22, 3) := by decide +kernel
theorem dX2_push_38 : decode cX2_push 38 = .ok (.goto 15, 3) := by decide +kernel
theorem dX2_push_41 : decode cX2_push 41 = .ok (.aload_n 0, 1) := by decide +kernel
theorem dX2_push_42 : decode cX2_push 42 = .ok (.aload_n 0, 1) := by decide +kernel
theorem dX2_push_43 : decode cX2_push 43 = .ok (.getfield 18, 3) := by decide +kernel
theorem dX2_push_46 : decode cX2_push 46 = .ok (.iconst 1, 1) := by decide +kernel
theorem dX2_push_47 : decode cX2_push 47 = .ok (.iadd, 1) := by decide +kernel
theorem dX2_push_48 : decode cX2_push 48 = .ok (.iconst 5, 1) := by decide +kernel
theorem dX2_push_49 : decode cX2_push 49 = .ok (.irem, 1) := by decide +kernel
theorem dX2_push_50 : decode cX2_push 50 = .ok (.putfield 18, 3) := by decide +kernel
theorem dX2_push_53 : decode cX2_push 53 = .ok (.return_, 1) := by decide +kernel
theorem dX2_popInto_0 : decode cX2_popInto 0 = .ok (.aload_n 0, 1) := by decide +kernel
theorem dX2_popInto_1 : decode cX2_popInto 1 = .ok (.getfield 22, 3) := by decide +kernel
theorem dX2_popInto_4 : decode cX2_popInto 4 = .ok (.ifCond .gt 5, 3) := by decide +kernel
theorem dX2_popInto_7 : decode cX2_popInto 7 = .ok (.iconst 0, 1) := by decide +kernel
theorem dX2_popInto_8 : decode cX2_popInto 8 = .ok (.ireturn, 1) := by decide +kernel
theorem dX2_popInto_9 : decode cX2_popInto 9 = .ok (.aload_n 0, 1) := by decide +kernel
theorem dX2_popInto_10 : decode cX2_popInto 10 = .ok (.dup, 1) := by decide +kernel
theorem dX2_popInto_11 : decode cX2_popInto 11 = .ok (.getfield 22, 3) := by decide +kernel
theorem dX2_popInto_14 : decode cX2_popInto 14 = .ok (.iconst 1, 1) := by decide +kernel
theorem dX2_popInto_15 : decode cX2_popInto 15 = .ok (.isub, 1) := by decide +kernel
theorem dX2_popInto_16 : decode cX2_popInto 16 = .ok (.putfield 22, 3) := by decide +kernel
theorem dX2_popInto_19 : decode cX2_popInto 19 = .ok (.aload_n 1, 1) := by decide +kernel
theorem dX2_popInto_20 : decode cX2_popInto 20 = .ok (.aload_n 0, 1) := by decide +kernel
theorem dX2_popInto_21 : decode cX2_popInto 21 = .ok (.getfield 11, 3) := by decide +kernel
theorem dX2_popInto_24 : decode cX2_popInto 24 = .ok (.aload_n 0, 1) := by decide +kernel
theorem dX2_popInto_25 : decode cX2_popInto 25 = .ok (.getfield 18, 3) := by decide +kernel
theorem dX2_popInto_28 : decode cX2_popInto 28 = .ok (.aload_n 0, 1) := by decide +kernel
theorem dX2_popInto_29 : decode cX2_popInto 29 = .ok (.getfield 22, 3) := by decide +kernel
theorem dX2_popInto_32 : decode cX2_popInto 32 = .ok (.iadd, 1) := by decide +kernel
theorem dX2_popInto_33 : decode cX2_popInto 33 = .ok (.iconst 5, 1) := by decide +kernel
theorem dX2_popInto_34 : decode cX2_popInto 34 = .ok (.irem, 1) := by decide +kernel
theorem dX2_popInto_35 : decode cX2_popInto 35 = .ok (.aaload, 1) := by decide +kernel
theorem dX2_popInto_36 : decode cX2_popInto 36 = .ok (.invokevirtual 25, 3) := by decide +kernel
theorem dX2_popInto_39 : decode cX2_popInto 39 = .ok (.iconst 1, 1) := by decide +kernel
theorem dX2_popInto_40 : decode cX2_popInto 40 = .ok (.ireturn, 1) := by decide +kernel
theorem dX3_init_0 : decode cX3_init 0 = .ok (.aload_n 0, 1) := by decide +kernel
theorem dX3_init_1 : decode cX3_init 1 = .ok (.invokespecial 3, 3) := by decide +kernel
theorem dX3_init_4 : decode cX3_init 4 = .ok (.aload_n 0, 1) := by decide +kernel
theorem dX3_init_5 : decode cX3_init 5 = .ok (.bipush 60, 2) := by decide +kernel
theorem dX3_init_7 : decode cX3_init 7 = .ok (.newarray .char, 2) := by decide +kernel
theorem dX3_init_9 : decode cX3_init 9 = .ok (.putfield 9, 3) := by decide +kernel
theorem dX3_init_12 : decode cX3_init 12 = .ok (.aload_n 0, 1) := by decide +kernel
theorem dX3_init_13 : decode cX3_init 13 = .ok (.bipush 8, 2) := by decide +kernel
theorem dX3_init_15 : decode cX3_init 15 = .ok (.anewarray 15, 3) := by decide +kernel
theorem dX3_init_18 : decode cX3_init 18 = .ok (.putfield 17, 3) := by decide +kernel
theorem dX3_init_21 : decode cX3_init 21 = .ok (.iconst 0, 1) := by decide +kernel
theorem dX3_init_22 : decode cX3_init 22 = .ok (.istore_n 1, 1) := by decide +kernel
theorem dX3_init_23 : decode cX3_init 23 = .ok (.iload_n 1, 1) := by decide +kernel
theorem dX3_init_24 : decode cX3_init 24 = .ok (.bipush 8, 2) := by decide +kernel
theorem dX3_init_26 : decode cX3_init 26 = .ok (.if_icmp .ge 22, 3) := by decide +kernel
theorem dX3_init_29 : decode cX3_init 29 = .ok (.aload_n 0, 1) := by decide +kernel
theorem dX3_init_30 : decode cX3_init 30 = .ok (.getfield 17, 3) := by decide +kernel
theorem dX3_init_33 : decode cX3_init 33 = .ok (.iload_n 1, 1) := by decide +kernel
theorem dX3_init_34 : decode cX3_init 34 = .ok (.new 15, 3) := by decide +kernel
theorem dX3_init_37 : decode cX3_init 37 = .ok (.dup, 1) := by decide +kernel
theorem dX3_init_38 : decode cX3_init 38 = .ok (.invokespecial 21, 3) := by decide +kernel
theorem dX3_init_41 : decode cX3_init 41 = .ok (.aastore, 1) := by decide +kernel
theorem dX3_init_42 : decode cX3_init 42 = .ok (.iinc 1 1, 3) := by decide +kernel
theorem dX3_init_45 : decode cX3_init 45 = .ok (.goto (-22), 3) := by decide +kernel
theorem dX3_init_48 : decode cX3_init 48 = .ok (.return_, 1) := by decide +kernel
theorem dX3_read_0 : decode cX3_read 0 = .ok (.aload_n 0, 1) := by decide +kernel
theorem dX3_read_1 : decode cX3_read 1 = .ok (.iconst 0, 1) := by decide +kernel
theorem dX3_read_2 : decode cX3_read 2 = .ok (.putfield 26, 3) := by decide +kernel
theorem dX3_read_5 : decode cX3_read 5 = .ok (.aload_n 0, 1) := by decide +kernel
theorem dX3_read_6 : decode cX3_read 6 = .ok (.iconst 0, 1) := by decide +kernel
theorem dX3_read_7 : decode cX3_read 7 = .ok (.putfield 29, 3) := by decide +kernel
theorem dX3_read_10 : decode cX3_read 10 = .ok (.aload_n 0, 1) := by decide +kernel
theorem dX3_read_11 : decode cX3_read 11 = .ok (.invokevirtual 32, 3) := by decide +kernel
theorem dX3_read_14 : decode cX3_read 14 = .ok (.istore_n 1, 1) := by decide +kernel
theorem dX3_read_15 : decode cX3_read 15 = .ok (.iconst 1, 1) := by decide +kernel
theorem dX3_read_16 : decode cX3_read 16 = .ok (.istore_n 2, 1) := by decide +kernel
theorem dX3_read_17 : decode cX3_read 17 = .ok (.iload_n 2, 1) := by decide +kernel
theorem dX3_read_18 : decode cX3_read 18 = .ok (.bipush 8, 2) := by decide +kernel
theorem dX3_read_20 : decode cX3_read 20 = .ok (.if_icmp .ge 46, 3) := by decide +kernel
theorem dX3_read_23 : decode cX3_read 23 = .ok (.iload_n 1, 1) := by decide +kernel
theorem dX3_read_24 : decode cX3_read 24 = .ok (.ifCond .eq 42, 3) := by decide +kernel
theorem dX3_read_27 : decode cX3_read 27 = .ok (.aload_n 0, 1) := by decide +kernel
theorem dX3_read_28 : decode cX3_read 28 = .ok (.getfield 26, 3) := by decide +kernel
theorem dX3_read_31 : decode cX3_read 31 = .ok (.aload_n 0, 1) := by decide +kernel
theorem dX3_read_32 : decode cX3_read 32 = .ok (.getfield 22, 3) := by decide +kernel
theorem dX3_read_35 : decode cX3_read 35 = .ok (.if_icmp .ge 31, 3) := by decide +kernel
theorem dX3_read_38 : decode cX3_read 38 = .ok (.aload_n 0, 1) := by decide +kernel
theorem dX3_read_39 : decode cX3_read 39 = .ok (.bipush 59, 2) := by decide +kernel
theorem dX3_read_41 : decode cX3_read 41 = .ok (.invokevirtual 36, 3) := by decide +kernel
theorem dX3_read_44 : decode cX3_read 44 = .ok (.ifCond .eq 14, 3) := by decide +kernel
theorem dX3_read_47 : decode cX3_read 47 = .ok (.aload_n 0, 1) := by decide +kernel
theorem dX3_read_48 : decode cX3_read 48 = .ok (.invokevirtual 32, 3) := by decide +kernel
theorem dX3_read_51 : decode cX3_read 51 = .ok (.ifCond .eq 7, 3) := by decide +kernel
theorem dX3_read_54 : decode cX3_read 54 = .ok (.iconst 1, 1) := by decide +kernel
theorem dX3_read_55 : decode cX3_read 55 = .ok (.goto 4, 3) := by decide +kernel
theorem dX3_read_58 : decode cX3_read 58 = .ok (.iconst 0, 1) := by decide +kernel
theorem dX3_read_59 : decode cX3_read 59 = .ok (.istore_n 1, 1) := by decide +kernel
theorem dX3_read_60 : decode cX3_read 60 = .ok (.iinc 2 1, 3) := by decide +kernel
theorem dX3_read_63 : decode cX3_read 63 = .ok (.goto (-46), 3) := by decide +kernel
theorem dX3_read_66 : decode cX3_read 66 = .ok (.iload_n 1, 1) := by decide +kernel
theorem dX3_read_67 : decode cX3_read 67 = .ok (.ireturn, 1) := by decide +kernel
theorem dX3_readSite_0 : decode cX3_readSite 0 = .ok (.aload_n 0, 1) := by decide +kernel
theorem dX3_readSite_1 : decode cX3_readSite 1 = .ok (.bipush 49, 2) := by decide +kernel
theorem dX3_readSite_3 : decode cX3_readSite 3 = .ok (.iconst 1, 1) := by decide +kernel
theorem dX3_readSite_4 : decode cX3_readSite 4 = .ok (.invokevirtual 40, 3) := by decide +kernel
theorem dX3_readSite_7 : decode cX3_readSite 7 = .ok (.istore_n 1, 1) := by decide +kernel
theorem dX3_readSite_8 : decode cX3_readSite 8 = .ok (.iload_n 1, 1) := by decide +kernel
theorem dX3_readSite_9 : decode cX3_readSite 9 = .ok (.iconst (-1), 1) := by decide +kernel
theorem dX3_readSite_10 : decode cX3_readSite 10 = .ok (.if_icmp .eq 12, 3) := by decide +kernel
theorem dX3_readSite_13 : decode cX3_readSite 13 = .ok (.aload_n 0, 1) := by decide +kernel
theorem dX3_readSite_14 : decode cX3_readSite 14 = .ok (.bipush 42, 2) := by decide +kernel
theorem dX3_readSite_16 : decode cX3_readSite 16 = .ok (.invokevirtual 36, 3) := by decide +kernel
theorem dX3_readSite_19 : decode cX3_readSite 19 = .ok (.ifCond .ne 5, 3) := by decide +kernel
theorem dX3_readSite_22 : decode cX3_readSite 22 = .ok (.iconst 0, 1) := by decide +kernel
theorem dX3_readSite_23 : decode cX3_readSite 23 = .ok (.ireturn, 1) := by decide +kernel
theorem dX3_readSite_24 : decode cX3_readSite 24 = .ok (.aload_n 0, 1) := by decide +kernel
theorem dX3_readSite_25 : decode cX3_readSite 25 = .ok (.bipush 49, 2) := by decide +kernel
theorem dX3_readSite_27 : decode cX3_readSite 27 = .ok (.iconst 2, 1) := by decide +kernel
theorem dX3_readSite_28 : decode cX3_readSite 28 = .ok (.invokevirtual 40, 3) := by decide +kernel
theorem dX3_readSite_31 : decode cX3_readSite 31 = .ok (.istore_n 2, 1) := by decide +kernel
theorem dX3_readSite_32 : decode cX3_readSite 32 = .ok (.iload_n 2, 1) := by decide +kernel
theorem dX3_readSite_33 : decode cX3_readSite 33 = .ok (.iconst (-1), 1) := by decide +kernel
theorem dX3_readSite_34 : decode cX3_readSite 34 = .ok (.if_icmp .eq 12, 3) := by decide +kernel
theorem dX3_readSite_37 : decode cX3_readSite 37 = .ok (.aload_n 0, 1) := by decide +kernel
theorem dX3_readSite_38 : decode cX3_readSite 38 = .ok (.bipush 64, 2) := by decide +kernel
theorem dX3_readSite_40 : decode cX3_readSite 40 = .ok (.invokevirtual 36, 3) := by decide +kernel
theorem dX3_readSite_43 : decode cX3_readSite 43 = .ok (.ifCond .ne 5, 3) := by decide +kernel
theorem dX3_readSite_46 : decode cX3_readSite 46 = .ok (.iconst 0, 1) := by decide +kernel
theorem dX3_readSite_47 : decode cX3_readSite 47 = .ok (.ireturn, 1) := by decide +kernel
theorem dX3_readSite_48 : decode cX3_readSite 48 = .ok (.aload_n 0, 1) := by decide +kernel
theorem dX3_readSite_49 : decode cX3_readSite 49 = .ok (.bipush 48, 2) := by decide +kernel
theorem dX3_readSite_51 : decode cX3_readSite 51 = .ok (.iconst 3, 1) := by decide +kernel
theorem dX3_readSite_52 : decode cX3_readSite 52 = .ok (.invokevirtual 40, 3) := by decide +kernel
theorem dX3_readSite_55 : decode cX3_readSite 55 = .ok (.istore_n 3, 1) := by decide +kernel
theorem dX3_readSite_56 : decode cX3_readSite 56 = .ok (.iload_n 3, 1) := by decide +kernel
theorem dX3_readSite_57 : decode cX3_readSite 57 = .ok (.iconst (-1), 1) := by decide +kernel
theorem dX3_readSite_58 : decode cX3_readSite 58 = .ok (.if_icmp .eq 12, 3) := by decide +kernel
theorem dX3_readSite_61 : decode cX3_readSite 61 = .ok (.aload_n 0, 1) := by decide +kernel
theorem dX3_readSite_62 : decode cX3_readSite 62 = .ok (.bipush 45, 2) := by decide +kernel
theorem dX3_readSite_64 : decode cX3_readSite 64 = .ok (.invokevirtual 36, 3) := by decide +kernel
theorem dX3_readSite_67 : decode cX3_readSite 67 = .ok (.ifCond .ne 5, 3) := by decide +kernel
theorem dX3_readSite_70 : decode cX3_readSite 70 = .ok (.iconst 0, 1) := by decide +kernel
theorem dX3_readSite_71 : decode cX3_readSite 71 = .ok (.ireturn, 1) := by decide +kernel
theorem dX3_readSite_72 : decode cX3_readSite 72 = .ok (.aload_n 0, 1) := by decide +kernel
theorem dX3_readSite_73 : decode cX3_readSite 73 = .ok (.bipush 48, 2) := by decide +kernel
theorem dX3_readSite_75 : decode cX3_readSite 75 = .ok (.iconst 3, 1) := by decide +kernel
theorem dX3_readSite_76 : decode cX3_readSite 76 = .ok (.invokevirtual 40, 3) := by decide +kernel
theorem dX3_readSite_79 : decode cX3_readSite 79 = .ok (.istore 4, 2) := by decide +kernel
theorem dX3_readSite_81 : decode cX3_readSite 81 = .ok (.iload 4, 2) := by decide +kernel
theorem dX3_readSite_83 : decode cX3_readSite 83 = .ok (.iconst (-1), 1) := by decide +kernel
theorem dX3_readSite_84 : decode cX3_readSite 84 = .ok (.if_icmp .eq 12, 3) := by decide +kernel
theorem dX3_readSite_87 : decode cX3_readSite 87 = .ok (.aload_n 0, 1) := by decide +kernel
theorem dX3_readSite_88 : decode cX3_readSite 88 = .ok (.getfield 29, 3) := by decide +kernel
theorem dX3_readSite_91 : decode cX3_readSite 91 = .ok (.bipush 8, 2) := by decide +kernel
theorem dX3_readSite_93 : decode cX3_readSite 93 = .ok (.if_icmp .lt 5, 3) := by decide +kernel
theorem dX3_readSite_96 : decode cX3_readSite 96 = .ok (.iconst 0, 1) := by decide +kernel
theorem dX3_readSite_97 : decode cX3_readSite 97 = .ok (.ireturn, 1) := by decide +kernel
theorem dX3_readSite_98 : decode cX3_readSite 98 = .ok (.aload_n 0, 1) := by decide +kernel
theorem dX3_readSite_99 : decode cX3_readSite 99 = .ok (.getfield 17, 3) := by decide +kernel
theorem dX3_readSite_102 : decode cX3_readSite 102 = .ok (.aload_n 0, 1) := by decide +kernel
theorem dX3_readSite_103 : decode cX3_readSite 103 = .ok (.getfield 29, 3) := by decide +kernel
theorem dX3_readSite_106 : decode cX3_readSite 106 = .ok (.aaload, 1) := by decide +kernel
theorem dX3_readSite_107 : decode cX3_readSite 107 = .ok (.iload_n 1, 1) := by decide +kernel
theorem dX3_readSite_108 : decode cX3_readSite 108 = .ok (.iload_n 2, 1) := by decide +kernel
theorem dX3_readSite_109 : decode cX3_readSite 109 = .ok (.iload_n 3, 1) := by decide +kernel
theorem dX3_readSite_110 : decode cX3_readSite 110 = .ok (.iload 4, 2) := by decide +kernel
theorem dX3_readSite_112 : decode cX3_readSite 112 = .ok (.invokevirtual 44, 3) := by decide +kernel
theorem dX3_readSite_115 : decode cX3_readSite 115 = .ok (.aload_n 0, 1) := by decide +kernel
theorem dX3_readSite_116 : decode cX3_readSite 116 = .ok (.dup, 1) := by decide +kernel
theorem dX3_readSite_117 : decode cX3_readSite 117 = .ok (.getfield 29, 3) := by decide +kernel
theorem dX3_readSite_120 : decode cX3_readSite 120 = .ok (.iconst 1, 1) := by decide +kernel
theorem dX3_readSite_121 : decode cX3_readSite 121 = .ok (.iadd, 1) := by decide +kernel
theorem dX3_readSite_122 : decode cX3_readSite 122 = .ok (.putfield 29, 3) := by decide +kernel
theorem dX3_readSite_125 : decode cX3_readSite 125 = .ok (.iconst 1, 1) := by decide +kernel
theorem dX3_readSite_126 : decode cX3_readSite 126 = .ok (.ireturn, 1) := by decide +kernel
theorem dX3_readNumber_0 : decode cX3_readNumber 0 = .ok (.aload_n 0, 1) := by decide +kernel
theorem dX3_readNumber_1 : decode cX3_readNumber 1 = .ok (.iload_n 1, 1) := by decide +kernel
theorem dX3_readNumber_2 : decode cX3_readNumber 2 = .ok (.invokevirtual 48, 3) := by decide +kernel
theorem dX3_readNumber_5 : decode cX3_readNumber 5 = .ok (.ifCond .ne 5, 3) := by decide +kernel
theorem dX3_readNumber_8 : decode cX3_readNumber 8 = .ok (.iconst (-1), 1) := by decide +kernel
theorem dX3_readNumber_9 : decode cX3_readNumber 9 = .ok (.ireturn, 1) := by decide +kernel
theorem dX3_readNumber_10 : decode cX3_readNumber 10 = .ok (.aload_n 0, 1) := by decide +kernel
theorem dX3_readNumber_11 : decode cX3_readNumber 11 = .ok (.getfield 9, 3) := by decide +kernel
theorem dX3_readNumber_14 : decode cX3_readNumber 14 = .ok (.aload_n 0, 1) := by decide +kernel
theorem dX3_readNumber_15 : decode cX3_readNumber 15 = .ok (.getfield 26, 3) := by decide +kernel
theorem dX3_readNumber_18 : decode cX3_readNumber 18 = .ok (.caload, 1) := by decide +kernel
theorem dX3_readNumber_19 : decode cX3_readNumber 19 = .ok (.bipush 48, 2) := by decide +kernel
theorem dX3_readNumber_21 : decode cX3_readNumber 21 = .ok (.isub, 1) := by decide +kernel
theorem dX3_readNumber_22 : decode cX3_readNumber 22 = .ok (.istore_n 3, 1) := by decide +kernel
theorem dX3_readNumber_23 : decode cX3_readNumber 23 = .ok (.aload_n 0, 1) := by decide +kernel
theorem dX3_readNumber_24 : decode cX3_readNumber 24 = .ok (.dup, 1) := by decide +kernel
theorem dX3_readNumber_25 : decode cX3_readNumber 25 = .ok (.getfield 26, 3) := by decide +kernel
theorem dX3_readNumber_28 : decode cX3_readNumber 28 = .ok (.iconst 1, 1) := by decide +kernel
theorem dX3_readNumber_29 : decode cX3_readNumber 29 = .ok (.iadd, 1) := by decide +kernel
theorem dX3_readNumber_30 : decode cX3_readNumber 30 = .ok (.putfield 26, 3) := by decide +kernel
theorem dX3_readNumber_33 : decode cX3_readNumber 33 = .ok (.iload_n 3, 1) := by decide +kernel
theorem dX3_readNumber_34 : decode cX3_readNumber 34 = .ok (.ifCond .ne 7, 3) := by decide +kernel
theorem dX3_readNumber_37 : decode cX3_readNumber 37 = .ok (.iconst 0, 1) := by decide +kernel
theorem dX3_readNumber_38 : decode cX3_readNumber 38 = .ok (.goto 6, 3) := by decide +kernel
theorem dX3_readNumber_41 : decode cX3_readNumber 41 = .ok (.iload_n 2, 1) := by decide +kernel
theorem dX3_readNumber_42 : decode cX3_readNumber 42 = .ok (.iconst 1, 1) := by decide +kernel
theorem dX3_readNumber_43 : decode cX3_readNumber 43 = .ok (.isub, 1) := by decide +kernel
theorem dX3_readNumber_44 : decode cX3_readNumber 44 = .ok (.istore 4, 2) := by decide +kernel
theorem dX3_readNumber_46 : decode cX3_readNumber 46 = .ok (.iconst 0, 1) := by decide +kernel
theorem dX3_readNumber_47 : decode cX3_readNumber 47 = .ok (.istore 5, 2) := by decide +kernel
theorem dX3_readNumber_49 : decode cX3_readNumber 49 = .ok (.iload 5, 2) := by decide +kernel
theorem dX3_readNumber_51 : decode cX3_readNumber 51 = .ok (.iload 4, 2) := by decide +kernel
theorem dX3_readNumber_53 : decode cX3_readNumber 53 = .ok (.if_icmp .ge 46, 3) := by decide +kernel
theorem dX3_readNumber_56 : decode cX3_readNumber 56 = .ok (.aload_n 0, 1) := by decide +kernel
theorem dX3_readNumber_57 : decode cX3_readNumber 57 = .ok (.bipush 48, 2) := by decide +kernel
theorem dX3_readNumber_59 : decode cX3_readNumber 59 = .ok (.invokevirtual 48, 3) := by decide +kernel
theorem dX3_readNumber_62 : decode cX3_readNumber 62 = .ok (.ifCond .eq 37, 3) := by decide +kernel
theorem dX3_readNumber_65 : decode cX3_readNumber 65 = .ok (.bipush 10, 2) := by decide +kernel
theorem dX3_readNumber_67 : decode cX3_readNumber 67 = .ok (.iload_n 3, 1) := by decide +kernel
theorem dX3_readNumber_68 : decode cX3_readNumber 68 = .ok (.imul, 1) := by decide +kernel
theorem dX3_readNumber_69 : decode cX3_readNumber 69 = .ok (.aload_n 0, 1) := by decide +kernel
theorem dX3_readNumber_70 : decode cX3_readNumber 70 = .ok (.getfield 9, 3) := by decide +kernel
theorem dX3_readNumber_73 : decode cX3_readNumber 73 = .ok (.aload_n 0, 1) := by decide +kernel
theorem dX3_readNumber_74 : decode cX3_readNumber 74 = .ok (.getfield 26, 3) := by decide +kernel
theorem dX3_readNumber_77 : decode cX3_readNumber 77 = .ok (.caload, 1) := by decide +kernel
theorem dX3_readNumber_78 : decode cX3_readNumber 78 = .ok (.bipush 48, 2) := by decide +kernel
theorem dX3_readNumber_80 : decode cX3_readNumber 80 = .ok (.isub, 1) := by decide +kernel
theorem dX3_readNumber_81 : decode cX3_readNumber 81 = .ok (.iadd, 1) := by decide +kernel
theorem dX3_readNumber_82 : decode cX3_readNumber 82 = .ok (.istore_n 3, 1) := by decide +kernel
theorem dX3_readNumber_83 : decode cX3_readNumber 83 = .ok (.aload_n 0, 1) := by decide +kernel
theorem dX3_readNumber_84 : decode cX3_readNumber 84 = .ok (.dup, 1) := by decide +kernel
theorem dX3_readNumber_85 : decode cX3_readNumber 85 = .ok (.getfield 26, 3) := by decide +kernel
theorem dX3_readNumber_88 : decode cX3_readNumber 88 = .ok (.iconst 1, 1) := by decide +kernel
theorem dX3_readNumber_89 : decode cX3_readNumber 89 = .ok (.iadd, 1) := by decide +kernel
theorem dX3_readNumber_90 : decode cX3_readNumber 90 = .ok (.putfield 26, 3) := by decide +kernel
theorem dX3_readNumber_93 : decode cX3_readNumber 93 = .ok (.iinc 5 1, 3) := by decide +kernel
theorem dX3_readNumber_96 : decode cX3_readNumber 96 = .ok (.goto (-47), 3) := by decide +kernel
theorem dX3_readNumber_99 : decode cX3_readNumber 99 = .ok (.iload_n 3, 1) := by decide +kernel
theorem dX3_readNumber_100 : decode cX3_readNumber 100 = .ok (.ireturn, 1) := by decide +kernel
theorem dX3_isDigitFrom_0 : decode cX3_isDigitFrom 0 = .ok (.aload_n 0, 1) := by decide +kernel
theorem dX3_isDigitFrom_1 : decode cX3_isDigitFrom 1 = .ok (.getfield 26, 3) := by decide +kernel
theorem dX3_isDigitFrom_4 : decode cX3_isDigitFrom 4 = .ok (.aload_n 0, 1) := by decide +kernel
theorem dX3_isDigitFrom_5 : decode cX3_isDigitFrom 5 = .ok (.getfield 22, 3) := by decide +kernel
theorem dX3_isDigitFrom_8 : decode cX3_isDigitFrom 8 = .ok (.if_icmp .ge 34, 3) := by decide +kernel
theorem dX3_isDigitFrom_11 : decode cX3_isDigitFrom 11 = .ok (.aload_n 0, 1) := by decide +kernel
theorem dX3_isDigitFrom_12 : decode cX3_isDigitFrom 12 = .ok (.getfield 9, 3) := by decide +kernel
theorem dX3_isDigitFrom_15 : decode cX3_isDigitFrom 15 = .ok (.aload_n 0, 1) := by decide +kernel
theorem dX3_isDigitFrom_16 : decode cX3_isDigitFrom 16 = .ok (.getfield 26, 3) := by decide +kernel
theorem dX3_isDigitFrom_19 : decode cX3_isDigitFrom 19 = .ok (.caload, 1) := by decide +kernel
theorem dX3_isDigitFrom_20 : decode cX3_isDigitFrom 20 = .ok (.iload_n 1, 1) := by decide +kernel
theorem dX3_isDigitFrom_21 : decode cX3_isDigitFrom 21 = .ok (.if_icmp .lt 21, 3) := by decide +kernel
theorem dX3_isDigitFrom_24 : decode cX3_isDigitFrom 24 = .ok (.aload_n 0, 1) := by decide +kernel
theorem dX3_isDigitFrom_25 : decode cX3_isDigitFrom 25 = .ok (.getfield 9, 3) := by decide +kernel
theorem dX3_isDigitFrom_28 : decode cX3_isDigitFrom 28 = .ok (.aload_n 0, 1) := by decide +kernel
theorem dX3_isDigitFrom_29 : decode cX3_isDigitFrom 29 = .ok (.getfield 26, 3) := by decide +kernel
theorem dX3_isDigitFrom_32 : decode cX3_isDigitFrom 32 = .ok (.caload, 1) := by decide +kernel
theorem dX3_isDigitFrom_33 : decode cX3_isDigitFrom 33 = .ok (.bipush 57, 2) := by decide +kernel
theorem dX3_isDigitFrom_35 : decode cX3_isDigitFrom 35 = .ok (.if_icmp .gt 7, 3) := by decide +kernel
theorem dX3_isDigitFrom_38 : decode cX3_isDigitFrom 38 = .ok (.iconst 1, 1) := by decide +kernel
theorem dX3_isDigitFrom_39 : decode cX3_isDigitFrom 39 = .ok (.goto 4, 3) := by decide +kernel
theorem dX3_isDigitFrom_42 : decode cX3_isDigitFrom 42 = .ok (.iconst 0, 1) := by decide +kernel
theorem dX3_isDigitFrom_43 : decode cX3_isDigitFrom 43 = .ok (.ireturn, 1) := by decide +kernel
theorem dX3_skip_0 : decode cX3_skip 0 = .ok (.aload_n 0, 1) := by decide +kernel
theorem dX3_skip_1 : decode cX3_skip 1 = .ok (.getfield 26, 3) := by decide +kernel
theorem dX3_skip_4 : decode cX3_skip 4 = .ok (.aload_n 0, 1) := by decide +kernel
theorem dX3_skip_5 : decode cX3_skip 5 = .ok (.getfield 22, 3) := by decide +kernel
theorem dX3_skip_8 : decode cX3_skip 8 = .ok (.if_icmp .ge 16, 3) := by decide +kernel
theorem dX3_skip_11 : decode cX3_skip 11 = .ok (.aload_n 0, 1) := by decide +kernel
theorem dX3_skip_12 : decode cX3_skip 12 = .ok (.getfield 9, 3) := by decide +kernel
theorem dX3_skip_15 : decode cX3_skip 15 = .ok (.aload_n 0, 1) := by decide +kernel
theorem dX3_skip_16 : decode cX3_skip 16 = .ok (.getfield 26, 3) := by decide +kernel
theorem dX3_skip_19 : decode cX3_skip 19 = .ok (.caload, 1) := by decide +kernel
theorem dX3_skip_20 : decode cX3_skip 20 = .ok (.iload_n 1, 1) := by decide +kernel
theorem dX3_skip_21 : decode cX3_skip 21 = .ok (.if_icmp .eq 5, 3) := by decide +kernel
theorem dX3_skip_24 : decode cX3_skip 24 = .ok (.iconst 0, 1) := by decide +kernel
theorem dX3_skip_25 : decode cX3_skip 25 = .ok (.ireturn, 1) := by decide +kernel
theorem dX3_skip_26 : decode cX3_skip 26 = .ok (.aload_n 0, 1) := by decide +kernel
theorem dX3_skip_27 : decode cX3_skip 27 = .ok (.dup, 1) := by decide +kernel
theorem dX3_skip_28 : decode cX3_skip 28 = .ok (.getfield 26, 3) := by decide +kernel
theorem dX3_skip_31 : decode cX3_skip 31 = .ok (.iconst 1, 1) := by decide +kernel
theorem dX3_skip_32 : decode cX3_skip 32 = .ok (.iadd, 1) := by decide +kernel
theorem dX3_skip_33 : decode cX3_skip 33 = .ok (.putfield 26, 3) := by decide +kernel
theorem dX3_skip_36 : decode cX3_skip 36 = .ok (.iconst 1, 1) := by decide +kernel
theorem dX3_skip_37 : decode cX3_skip 37 = .ok (.ireturn, 1) := by decide +kernel
theorem dX4_init_0 : decode cX4_init 0 = .ok (.aload_n 0, 1) := by decide +kernel
theorem dX4_init_1 : decode cX4_init 1 = .ok (.invokespecial 3, 3) := by decide +kernel
theorem dX4_init_4 : decode cX4_init 4 = .ok (.aload_n 0, 1) := by decide +kernel
theorem dX4_init_5 : decode cX4_init 5 = .ok (.iconst 5, 1) := by decide +kernel
theorem dX4_init_6 : decode cX4_init 6 = .ok (.putfield 9, 3) := by decide +kernel
theorem dX4_init_9 : decode cX4_init 9 = .ok (.aload_n 0, 1) := by decide +kernel
theorem dX4_init_10 : decode cX4_init 10 = .ok (.bipush 10, 2) := by decide +kernel
theorem dX4_init_12 : decode cX4_init 12 = .ok (.putfield 15, 3) := by decide +kernel
theorem dX4_init_15 : decode cX4_init 15 = .ok (.aload_n 0, 1) := by decide +kernel
theorem dX4_init_16 : decode cX4_init 16 = .ok (.bipush 10, 2) := by decide +kernel
theorem dX4_init_18 : decode cX4_init 18 = .ok (.anewarray 18, 3) := by decide +kernel
theorem dX4_init_21 : decode cX4_init 21 = .ok (.putfield 20, 3) := by decide +kernel
theorem dX4_init_24 : decode cX4_init 24 = .ok (.aload_n 0, 1) := by decide +kernel
theorem dX4_init_25 : decode cX4_init 25 = .ok (.bipush 12, 2) := by decide +kernel
theorem dX4_init_27 : decode cX4_init 27 = .ok (.anewarray 24, 3) := by decide +kernel
theorem dX4_init_30 : decode cX4_init 30 = .ok (.putfield 26, 3) := by decide +kernel
theorem dX4_init_33 : decode cX4_init 33 = .ok (.iconst 0, 1) := by decide +kernel
theorem dX4_init_34 : decode cX4_init 34 = .ok (.istore_n 1, 1) := by decide +kernel
theorem dX4_init_35 : decode cX4_init 35 = .ok (.iload_n 1, 1) := by decide +kernel
theorem dX4_init_36 : decode cX4_init 36 = .ok (.bipush 10, 2) := by decide +kernel
theorem dX4_init_38 : decode cX4_init 38 = .ok (.if_icmp .ge 22, 3) := by decide +kernel
theorem dX4_init_41 : decode cX4_init 41 = .ok (.aload_n 0, 1) := by decide +kernel
theorem dX4_init_42 : decode cX4_init 42 = .ok (.getfield 20, 3) := by decide +kernel
theorem dX4_init_45 : decode cX4_init 45 = .ok (.iload_n 1, 1) := by decide +kernel
theorem dX4_init_46 : decode cX4_init 46 = .ok (.new 18, 3) := by decide +kernel
theorem dX4_init_49 : decode cX4_init 49 = .ok (.dup, 1) := by decide +kernel
theorem dX4_init_50 : decode cX4_init 50 = .ok (.invokespecial 30, 3) := by decide +kernel
theorem dX4_init_53 : decode cX4_init 53 = .ok (.aastore, 1) := by decide +kernel
theorem dX4_init_54 : decode cX4_init 54 = .ok (.iinc 1 1, 3) := by decide +kernel
theorem dX4_init_57 : decode cX4_init 57 = .ok (.goto (-22), 3) := by decide +kernel
theorem dX4_init_60 : decode cX4_init 60 = .ok (.iconst 0, 1) := by decide +kernel
theorem dX4_init_61 : decode cX4_init 61 = .ok (.istore_n 1, 1) := by decide +kernel
theorem dX4_init_62 : decode cX4_init 62 = .ok (.iload_n 1, 1) := by decide +kernel
theorem dX4_init_63 : decode cX4_init 63 = .ok (.bipush 12, 2) := by decide +kernel
theorem dX4_init_65 : decode cX4_init 65 = .ok (.if_icmp .ge 22, 3) := by decide +kernel
theorem dX4_init_68 : decode cX4_init 68 = .ok (.aload_n 0, 1) := by decide +kernel
theorem dX4_init_69 : decode cX4_init 69 = .ok (.getfield 26, 3) := by decide +kernel
theorem dX4_init_72 : decode cX4_init 72 = .ok (.iload_n 1, 1) := by decide +kernel
theorem dX4_init_73 : decode cX4_init 73 = .ok (.new 24, 3) := by decide +kernel
theorem dX4_init_76 : decode cX4_init 76 = .ok (.dup, 1) := by decide +kernel
theorem dX4_init_77 : decode cX4_init 77 = .ok (.invokespecial 31, 3) := by decide +kernel
theorem dX4_init_80 : decode cX4_init 80 = .ok (.aastore, 1) := by decide +kernel
theorem dX4_init_81 : decode cX4_init 81 = .ok (.iinc 1 1, 3) := by decide +kernel
theorem dX4_init_84 : decode cX4_init 84 = .ok (.goto (-22), 3) := by decide +kernel
theorem dX4_init_87 : decode cX4_init 87 = .ok (.return_, 1) := by decide +kernel
theorem dX4_copyFrom_0 : decode cX4_copyFrom 0 = .ok (.aload_n 0, 1) := by decide +kernel
theorem dX4_copyFrom_1 : decode cX4_copyFrom 1 = .ok (.aload_n 1, 1) := by decide +kernel
theorem dX4_copyFrom_2 : decode cX4_copyFrom 2 = .ok (.getfield 32, 3) := by decide +kernel
theorem dX4_copyFrom_5 : decode cX4_copyFrom 5 = .ok (.putfield 32, 3) := by decide +kernel
theorem dX4_copyFrom_8 : decode cX4_copyFrom 8 = .ok (.aload_n 0, 1) := by decide +kernel
theorem dX4_copyFrom_9 : decode cX4_copyFrom 9 = .ok (.aload_n 1, 1) := by decide +kernel
theorem dX4_copyFrom_10 : decode cX4_copyFrom 10 = .ok (.getfield 9, 3) := by decide +kernel
theorem dX4_copyFrom_13 : decode cX4_copyFrom 13 = .ok (.putfield 9, 3) := by decide +kernel
theorem dX4_copyFrom_16 : decode cX4_copyFrom 16 = .ok (.aload_n 0, 1) := by decide +kernel
theorem dX4_copyFrom_17 : decode cX4_copyFrom 17 = .ok (.aload_n 1, 1) := by decide +kernel
theorem dX4_copyFrom_18 : decode cX4_copyFrom 18 = .ok (.getfield 15, 3) := by decide +kernel
theorem dX4_copyFrom_21 : decode cX4_copyFrom 21 = .ok (.putfield 15, 3) := by decide +kernel
theorem dX4_copyFrom_24 : decode cX4_copyFrom 24 = .ok (.aload_n 0, 1) := by decide +kernel
theorem dX4_copyFrom_25 : decode cX4_copyFrom 25 = .ok (.aload_n 1, 1) := by decide +kernel
theorem dX4_copyFrom_26 : decode cX4_copyFrom 26 = .ok (.getfield 35, 3) := by decide +kernel
theorem dX4_copyFrom_29 : decode cX4_copyFrom 29 = .ok (.putfield 35, 3) := by decide +kernel
theorem dX4_copyFrom_32 : decode cX4_copyFrom 32 = .ok (.aload_n 0, 1) := by decide +kernel
theorem dX4_copyFrom_33 : decode cX4_copyFrom 33 = .ok (.aload_n 1, 1) := by decide +kernel
theorem dX4_copyFrom_34 : decode cX4_copyFrom 34 = .ok (.getfield 38, 3) := by decide +kernel
theorem dX4_copyFrom_37 : decode cX4_copyFrom 37 = .ok (.putfield 38, 3) := by decide +kernel
theorem dX4_copyFrom_40 : decode cX4_copyFrom 40 = .ok (.aload_n 0, 1) := by decide +kernel
theorem dX4_copyFrom_41 : decode cX4_copyFrom 41 = .ok (.aload_n 1, 1) := by decide +kernel
theorem dX4_copyFrom_42 : decode cX4_copyFrom 42 = .ok (.getfield 41, 3) := by decide +kernel
theorem dX4_copyFrom_45 : decode cX4_copyFrom 45 = .ok (.putfield 41, 3) := by decide +kernel
theorem dX4_copyFrom_48 : decode cX4_copyFrom 48 = .ok (.aload_n 0, 1) := by decide +kernel
theorem dX4_copyFrom_49 : decode cX4_copyFrom 49 = .ok (.aload_n 1, 1) := by decide +kernel
theorem dX4_copyFrom_50 : decode cX4_copyFrom 50 = .ok (.getfield 44, 3) := by decide +kernel
theorem dX4_copyFrom_53 : decode cX4_copyFrom 53 = .ok (.putfield 44, 3) := by decide +kernel
theorem dX4_copyFrom_56 : decode cX4_copyFrom 56 = .ok (.aload_n 0, 1) := by decide +kernel
theorem dX4_copyFrom_57 : decode cX4_copyFrom 57 = .ok (.aload_n 1, 1) := by decide +kernel
theorem dX4_copyFrom_58 : decode cX4_copyFrom 58 = .ok (.getfield 47, 3) := by decide +kernel
theorem dX4_copyFrom_61 : decode cX4_copyFrom 61 = .ok (.putfield 47, 3) := by decide +kernel
theorem dX4_copyFrom_64 : decode cX4_copyFrom 64 = .ok (.aload_n 0, 1) := by decide +kernel
theorem dX4_copyFrom_65 : decode cX4_copyFrom 65 = .ok (.aload_n 1, 1) := by decide +kernel
theorem dX4_copyFrom_66 : decode cX4_copyFrom 66 = .ok (.getfield 50, 3) := by decide +kernel
theorem dX4_copyFrom_69 : decode cX4_copyFrom 69 = .ok (.putfield 50, 3) := by decide +kernel
theorem dX4_copyFrom_72 : decode cX4_copyFrom 72 = .ok (.iconst 0, 1) := by decide +kernel
theorem dX4_copyFrom_73 : decode cX4_copyFrom 73 = .ok (.istore_n 2, 1) := by decide +kernel
theorem dX4_copyFrom_74 : decode cX4_copyFrom 74 = .ok (.iload_n 2, 1) := by decide +kernel
theorem dX4_copyFrom_75 : decode cX4_copyFrom 75 = .ok (.aload_n 0, 1) := by decide +kernel
theorem dX4_copyFrom_76 : decode cX4_copyFrom 76 = .ok (.getfield 47, 3) := by decide +kernel
theorem dX4_copyFrom_79 : decode cX4_copyFrom 79 = .ok (.if_icmp .ge 24, 3) := by decide +kernel
theorem dX4_copyFrom_82 : decode cX4_copyFrom 82 = .ok (.aload_n 0, 1) := by decide +kernel
theorem dX4_copyFrom_83 : decode cX4_copyFrom 83 = .ok (.getfield 20, 3) := by decide +kernel
theorem dX4_copyFrom_86 : decode cX4_copyFrom 86 = .ok (.iload_n 2, 1) := by decide +kernel
theorem dX4_copyFrom_87 : decode cX4_copyFrom 87 = .ok (.aaload, 1) := by decide +kernel
theorem dX4_copyFrom_88 : decode cX4_copyFrom 88 = .ok (.aload_n 1, 1) := by decide +kernel
theorem dX4_copyFrom_89 : decode cX4_copyFrom 89 = .ok (.getfield 20, 3) := by decide +kernel
theorem dX4_copyFrom_92 : decode cX4_copyFrom 92 = .ok (.iload_n 2, 1) := by decide +kernel
theorem dX4_copyFrom_93 : decode cX4_copyFrom 93 = .ok (.aaload, 1) := by decide +kernel
theorem dX4_copyFrom_94 : decode cX4_copyFrom 94 = .ok (.invokevirtual 53, 3) := by decide +kernel
theorem dX4_copyFrom_97 : decode cX4_copyFrom 97 = .ok (.iinc 2 1, 3) := by decide +kernel
theorem dX4_copyFrom_100 : decode cX4_copyFrom 100 = .ok (.goto (-26), 3) := by decide +kernel
theorem dX4_copyFrom_103 : decode cX4_copyFrom 103 = .ok (.iconst 0, 1) := by decide +kernel
theorem dX4_copyFrom_104 : decode cX4_copyFrom 104 = .ok (.istore_n 2, 1) := by decide +kernel
theorem dX4_copyFrom_105 : decode cX4_copyFrom 105 = .ok (.iload_n 2, 1) := by decide +kernel
theorem dX4_copyFrom_106 : decode cX4_copyFrom 106 = .ok (.aload_n 0, 1) := by decide +kernel
theorem dX4_copyFrom_107 : decode cX4_copyFrom 107 = .ok (.getfield 50, 3) := by decide +kernel
theorem dX4_copyFrom_110 : decode cX4_copyFrom 110 = .ok (.if_icmp .ge 24, 3) := by decide +kernel
theorem dX4_copyFrom_113 : decode cX4_copyFrom 113 = .ok (.aload_n 0, 1) := by decide +kernel
theorem dX4_copyFrom_114 : decode cX4_copyFrom 114 = .ok (.getfield 26, 3) := by decide +kernel
theorem dX4_copyFrom_117 : decode cX4_copyFrom 117 = .ok (.iload_n 2, 1) := by decide +kernel
theorem dX4_copyFrom_118 : decode cX4_copyFrom 118 = .ok (.aaload, 1) := by decide +kernel
theorem dX4_copyFrom_119 : decode cX4_copyFrom 119 = .ok (.aload_n 1, 1) := by decide +kernel
theorem dX4_copyFrom_120 : decode cX4_copyFrom 120 = .ok (.getfield 26, 3) := by decide +kernel
theorem dX4_copyFrom_123 : decode cX4_copyFrom 123 = .ok (.iload_n 2, 1) := by decide +kernel
theorem dX4_copyFrom_124 : decode cX4_copyFrom 124 = .ok (.aaload, 1) := by decide +kernel
theorem dX4_copyFrom_125 : decode cX4_copyFrom 125 = .ok (.invokevirtual 57, 3) := by decide +kernel
theorem dX4_copyFrom_128 : decode cX4_copyFrom 128 = .ok (.iinc 2 1, 3) := by decide +kernel
theorem dX4_copyFrom_131 : decode cX4_copyFrom 131 = .ok (.goto (-26), 3) := by decide +kernel
theorem dX4_copyFrom_134 : decode cX4_copyFrom 134 = .ok (.return_, 1) := by decide +kernel
theorem dX4_isSet_0 : decode cX4_isSet 0 = .ok (.iload_n 1, 1) := by decide +kernel
theorem dX4_isSet_1 : decode cX4_isSet 1 = .ok (.ifCond .lt 15, 3) := by decide +kernel
theorem dX4_isSet_4 : decode cX4_isSet 4 = .ok (.iload_n 1, 1) := by decide +kernel
theorem dX4_isSet_5 : decode cX4_isSet 5 = .ok (.aload_n 0, 1) := by decide +kernel
theorem dX4_isSet_6 : decode cX4_isSet 6 = .ok (.getfield 47, 3) := by decide +kernel
theorem dX4_isSet_9 : decode cX4_isSet 9 = .ok (.if_icmp .ge 7, 3) := by decide +kernel
theorem dX4_isSet_12 : decode cX4_isSet 12 = .ok (.iconst 1, 1) := by decide +kernel
theorem dX4_isSet_13 : decode cX4_isSet 13 = .ok (.goto 4, 3) := by decide +kernel
theorem dX4_isSet_16 : decode cX4_isSet 16 = .ok (.iconst 0, 1) := by decide +kernel
theorem dX4_isSet_17 : decode cX4_isSet 17 = .ok (.ireturn, 1) := by decide +kernel
theorem dX4_isSite_0 : decode cX4_isSite 0 = .ok (.iload_n 1, 1) := by decide +kernel
theorem dX4_isSite_1 : decode cX4_isSite 1 = .ok (.ifCond .lt 15, 3) := by decide +kernel
theorem dX4_isSite_4 : decode cX4_isSite 4 = .ok (.iload_n 1, 1) := by decide +kernel
theorem dX4_isSite_5 : decode cX4_isSite 5 = .ok (.aload_n 0, 1) := by decide +kernel
theorem dX4_isSite_6 : decode cX4_isSite 6 = .ok (.getfield 50, 3) := by decide +kernel
theorem dX4_isSite_9 : decode cX4_isSite 9 = .ok (.if_icmp .ge 7, 3) := by decide +kernel
theorem dX4_isSite_12 : decode cX4_isSite 12 = .ok (.iconst 1, 1) := by decide +kernel
theorem dX4_isSite_13 : decode cX4_isSite 13 = .ok (.goto 4, 3) := by decide +kernel
theorem dX4_isSite_16 : decode cX4_isSite 16 = .ok (.iconst 0, 1) := by decide +kernel
theorem dX4_isSite_17 : decode cX4_isSite 17 = .ok (.ireturn, 1) := by decide +kernel
theorem dX4_allowsHours_0 : decode cX4_allowsHours 0 = .ok (.iload_n 1, 1) := by decide +kernel
theorem dX4_allowsHours_1 : decode cX4_allowsHours 1 = .ok (.iconst 0, 1) := by decide +kernel
theorem dX4_allowsHours_2 : decode cX4_allowsHours 2 = .ok (.sipush 998, 3) := by decide +kernel
theorem dX4_allowsHours_5 : decode cX4_allowsHours 5 = .ok (.invokestatic 60, 3) := by decide +kernel
theorem dX4_allowsHours_8 : decode cX4_allowsHours 8 = .ok (.ifCond .eq 27, 3) := by decide +kernel
theorem dX4_allowsHours_11 : decode cX4_allowsHours 11 = .ok (.iload_n 2, 1) := by decide +kernel
theorem dX4_allowsHours_12 : decode cX4_allowsHours 12 = .ok (.iload_n 1, 1) := by decide +kernel
theorem dX4_allowsHours_13 : decode cX4_allowsHours 13 = .ok (.if_icmp .le 22, 3) := by decide +kernel
theorem dX4_allowsHours_16 : decode cX4_allowsHours 16 = .ok (.iload_n 2, 1) := by decide +kernel
theorem dX4_allowsHours_17 : decode cX4_allowsHours 17 = .ok (.aload_n 0, 1) := by decide +kernel
theorem dX4_allowsHours_18 : decode cX4_allowsHours 18 = .ok (.getfield 32, 3) := by decide +kernel
theorem dX4_allowsHours_21 : decode cX4_allowsHours 21 = .ok (.if_icmp .le 14, 3) := by decide +kernel
theorem dX4_allowsHours_24 : decode cX4_allowsHours 24 = .ok (.iload_n 2, 1) := by decide +kernel
theorem dX4_allowsHours_25 : decode cX4_allowsHours 25 = .ok (.sipush 999, 3) := by decide +kernel
theorem dX4_allowsHours_28 : decode cX4_allowsHours 28 = .ok (.if_icmp .gt 7, 3) := by decide +kernel
theorem dX4_allowsHours_31 : decode cX4_allowsHours 31 = .ok (.iconst 1, 1) := by decide +kernel
theorem dX4_allowsHours_32 : decode cX4_allowsHours 32 = .ok (.goto 4, 3) := by decide +kernel
theorem dX4_allowsHours_35 : decode cX4_allowsHours 35 = .ok (.iconst 0, 1) := by decide +kernel
theorem dX4_allowsHours_36 : decode cX4_allowsHours 36 = .ok (.ireturn, 1) := by decide +kernel
theorem dX4_appendSet_0 : decode cX4_appendSet 0 = .ok (.aload_n 0, 1) := by decide +kernel
theorem dX4_appendSet_1 : decode cX4_appendSet 1 = .ok (.getfield 20, 3) := by decide +kernel
theorem dX4_appendSet_4 : decode cX4_appendSet 4 = .ok (.aload_n 0, 1) := by decide +kernel
theorem dX4_appendSet_5 : decode cX4_appendSet 5 = .ok (.getfield 47, 3) := by decide +kernel
theorem dX4_appendSet_8 : decode cX4_appendSet 8 = .ok (.aaload, 1) := by decide +kernel
theorem dX4_appendSet_9 : decode cX4_appendSet 9 = .ok (.astore 5, 2) := by decide +kernel
theorem dX4_appendSet_11 : decode cX4_appendSet 11 = .ok (.aload 5, 2) := by decide +kernel
theorem dX4_appendSet_13 : decode cX4_appendSet 13 = .ok (.iload_n 1, 1) := by decide +kernel
theorem dX4_appendSet_14 : decode cX4_appendSet 14 = .ok (.putfield 64, 3) := by decide +kernel
theorem dX4_appendSet_17 : decode cX4_appendSet 17 = .ok (.aload 5, 2) := by decide +kernel
theorem dX4_appendSet_19 : decode cX4_appendSet 19 = .ok (.iload_n 2, 1) := by decide +kernel
theorem dX4_appendSet_20 : decode cX4_appendSet 20 = .ok (.putfield 67, 3) := by decide +kernel
theorem dX4_appendSet_23 : decode cX4_appendSet 23 = .ok (.aload 5, 2) := by decide +kernel
theorem dX4_appendSet_25 : decode cX4_appendSet 25 = .ok (.iload_n 3, 1) := by decide +kernel
theorem dX4_appendSet_26 : decode cX4_appendSet 26 = .ok (.putfield 70, 3) := by decide +kernel
theorem dX4_appendSet_29 : decode cX4_appendSet 29 = .ok (.aload 5, 2) := by decide +kernel
theorem dX4_appendSet_31 : decode cX4_appendSet 31 = .ok (.iload 4, 2) := by decide +kernel
theorem dX4_appendSet_33 : decode cX4_appendSet 33 = .ok (.putfield 73, 3) := by decide +kernel
theorem dX4_appendSet_36 : decode cX4_appendSet 36 = .ok (.aload 5, 2) := by decide +kernel
theorem dX4_appendSet_38 : decode cX4_appendSet 38 = .ok (.iconst 0, 1) := by decide +kernel
theorem dX4_appendSet_39 : decode cX4_appendSet 39 = .ok (.putfield 76, 3) := by decide +kernel
theorem dX4_appendSet_42 : decode cX4_appendSet 42 = .ok (.aload 5, 2) := by decide +kernel
theorem dX4_appendSet_44 : decode cX4_appendSet 44 = .ok (.iconst 0, 1) := by decide +kernel
theorem dX4_appendSet_45 : decode cX4_appendSet 45 = .ok (.putfield 79, 3) := by decide +kernel
theorem dX4_appendSet_48 : decode cX4_appendSet 48 = .ok (.aload 5, 2) := by decide +kernel
theorem dX4_appendSet_50 : decode cX4_appendSet 50 = .ok (.bipush (-5), 2) := by decide +kernel
theorem dX4_appendSet_52 : decode cX4_appendSet 52 = .ok (.invokevirtual 82, 3) := by decide +kernel
theorem dX4_appendSet_55 : decode cX4_appendSet 55 = .ok (.aload_n 0, 1) := by decide +kernel
theorem dX4_appendSet_56 : decode cX4_appendSet 56 = .ok (.dup, 1) := by decide +kernel
theorem dX4_appendSet_57 : decode cX4_appendSet 57 = .ok (.getfield 47, 3) := by decide +kernel
theorem dX4_appendSet_60 : decode cX4_appendSet 60 = .ok (.iconst 1, 1) := by decide +kernel
theorem dX4_appendSet_61 : decode cX4_appendSet 61 = .ok (.iadd, 1) := by decide +kernel
theorem dX4_appendSet_62 : decode cX4_appendSet 62 = .ok (.putfield 47, 3) := by decide +kernel
theorem dX4_appendSet_65 : decode cX4_appendSet 65 = .ok (.aload_n 0, 1) := by decide +kernel
theorem dX4_appendSet_66 : decode cX4_appendSet 66 = .ok (.getfield 47, 3) := by decide +kernel
theorem dX4_appendSet_69 : decode cX4_appendSet 69 = .ok (.iconst 1, 1) := by decide +kernel
theorem dX4_appendSet_70 : decode cX4_appendSet 70 = .ok (.isub, 1) := by decide +kernel
theorem dX4_appendSet_71 : decode cX4_appendSet 71 = .ok (.ireturn, 1) := by decide +kernel
theorem dX4_appendSite_0 : decode cX4_appendSite 0 = .ok (.aload_n 0, 1) := by decide +kernel
theorem dX4_appendSite_1 : decode cX4_appendSite 1 = .ok (.getfield 26, 3) := by decide +kernel
theorem dX4_appendSite_4 : decode cX4_appendSite 4 = .ok (.aload_n 0, 1) := by decide +kernel
theorem dX4_appendSite_5 : decode cX4_appendSite 5 = .ok (.getfield 50, 3) := by decide +kernel
theorem dX4_appendSite_8 : decode cX4_appendSite 8 = .ok (.aaload, 1) := by decide +kernel
theorem dX4_appendSite_9 : decode cX4_appendSite 9 = .ok (.iload_n 1, 1) := by decide +kernel
theorem dX4_appendSite_10 : decode cX4_appendSite 10 = .ok (.iload_n 2, 1) := by decide +kernel
theorem dX4_appendSite_11 : decode cX4_appendSite 11 = .ok (.iload_n 3, 1) := by decide +kernel
theorem dX4_appendSite_12 : decode cX4_appendSite 12 = .ok (.iload 4, 2) := by decide +kernel
theorem dX4_appendSite_14 : decode cX4_appendSite 14 = .ok (.invokevirtual 86, 3) := by decide +kernel
theorem dX4_appendSite_17 : decode cX4_appendSite 17 = .ok (.aload_n 0, 1) := by decide +kernel
theorem dX4_appendSite_18 : decode cX4_appendSite 18 = .ok (.dup, 1) := by decide +kernel
theorem dX4_appendSite_19 : decode cX4_appendSite 19 = .ok (.getfield 50, 3) := by decide +kernel
theorem dX4_appendSite_22 : decode cX4_appendSite 22 = .ok (.iconst 1, 1) := by decide +kernel
theorem dX4_appendSite_23 : decode cX4_appendSite 23 = .ok (.iadd, 1) := by decide +kernel
theorem dX4_appendSite_24 : decode cX4_appendSite 24 = .ok (.putfield 50, 3) := by decide +kernel
theorem dX4_appendSite_27 : decode cX4_appendSite 27 = .ok (.aload_n 0, 1) := by decide +kernel
theorem dX4_appendSite_28 : decode cX4_appendSite 28 = .ok (.getfield 50, 3) := by decide +kernel
theorem dX4_appendSite_31 : decode cX4_appendSite 31 = .ok (.iconst 1, 1) := by decide +kernel
theorem dX4_appendSite_32 : decode cX4_appendSite 32 = .ok (.isub, 1) := by decide +kernel
theorem dX4_appendSite_33 : decode cX4_appendSite 33 = .ok (.ireturn, 1) := by decide +kernel
theorem dX4_supplyOf_0 : decode cX4_supplyOf 0 = .ok (.aload_n 0, 1) := by decide +kernel
theorem dX4_supplyOf_1 : decode cX4_supplyOf 1 = .ok (.aload_n 1, 1) := by decide +kernel
theorem dX4_supplyOf_2 : decode cX4_supplyOf 2 = .ok (.getfield 90, 3) := by decide +kernel
theorem dX4_supplyOf_5 : decode cX4_supplyOf 5 = .ok (.invokevirtual 93, 3) := by decide +kernel
theorem dX4_supplyOf_8 : decode cX4_supplyOf 8 = .ok (.ifCond .eq 15, 3) := by decide +kernel
theorem dX4_supplyOf_11 : decode cX4_supplyOf 11 = .ok (.aload_n 0, 1) := by decide +kernel
theorem dX4_supplyOf_12 : decode cX4_supplyOf 12 = .ok (.getfield 20, 3) := by decide +kernel
theorem dX4_supplyOf_15 : decode cX4_supplyOf 15 = .ok (.aload_n 1, 1) := by decide +kernel
theorem dX4_supplyOf_16 : decode cX4_supplyOf 16 = .ok (.getfield 90, 3) := by decide +kernel
theorem dX4_supplyOf_19 : decode cX4_supplyOf 19 = .ok (.aaload, 1) := by decide +kernel
theorem dX4_supplyOf_20 : decode cX4_supplyOf 20 = .ok (.goto 4, 3) := by decide +kernel
theorem dX4_supplyOf_23 : decode cX4_supplyOf 23 = .ok (.aconst_null, 1) := by decide +kernel
theorem dX4_supplyOf_24 : decode cX4_supplyOf 24 = .ok (.areturn, 1) := by decide +kernel
theorem dX4_send_0 : decode cX4_send 0 = .ok (.aload_n 0, 1) := by decide +kernel
theorem dX4_send_1 : decode cX4_send 1 = .ok (.getfield 26, 3) := by decide +kernel
theorem dX4_send_4 : decode cX4_send 4 = .ok (.iload_n 2, 1) := by decide +kernel
theorem dX4_send_5 : decode cX4_send 5 = .ok (.aaload, 1) := by decide +kernel
theorem dX4_send_6 : decode cX4_send 6 = .ok (.iload_n 1, 1) := by decide +kernel
theorem dX4_send_7 : decode cX4_send 7 = .ok (.putfield 90, 3) := by decide +kernel
theorem dX4_send_10 : decode cX4_send 10 = .ok (.aload_n 0, 1) := by decide +kernel
theorem dX4_send_11 : decode cX4_send 11 = .ok (.getfield 20, 3) := by decide +kernel
theorem dX4_send_14 : decode cX4_send 14 = .ok (.iload_n 1, 1) := by decide +kernel
theorem dX4_send_15 : decode cX4_send 15 = .ok (.aaload, 1) := by decide +kernel
theorem dX4_send_16 : decode cX4_send 16 = .ok (.iload_n 2, 1) := by decide +kernel
theorem dX4_send_17 : decode cX4_send 17 = .ok (.invokevirtual 82, 3) := by decide +kernel
theorem dX4_send_20 : decode cX4_send 20 = .ok (.return_, 1) := by decide +kernel
theorem dX4_release_0 : decode cX4_release 0 = .ok (.aload_n 0, 1) := by decide +kernel
theorem dX4_release_1 : decode cX4_release 1 = .ok (.aload_n 0, 1) := by decide +kernel
theorem dX4_release_2 : decode cX4_release 2 = .ok (.getfield 26, 3) := by decide +kernel
theorem dX4_release_5 : decode cX4_release 5 = .ok (.iload_n 1, 1) := by decide +kernel
theorem dX4_release_6 : decode cX4_release 6 = .ok (.aaload, 1) := by decide +kernel
theorem dX4_release_7 : decode cX4_release 7 = .ok (.invokevirtual 97, 3) := by decide +kernel
theorem dX4_release_10 : decode cX4_release 10 = .ok (.astore_n 2, 1) := by decide +kernel
theorem dX4_release_11 : decode cX4_release 11 = .ok (.aload_n 2, 1) := by decide +kernel
theorem dX4_release_12 : decode cX4_release 12 = .ok (.ifnull 9, 3) := by decide +kernel
theorem dX4_release_15 : decode cX4_release 15 = .ok (.aload_n 2, 1) := by decide +kernel
theorem dX4_release_16 : decode cX4_release 16 = .ok (.bipush (-5), 2) := by decide +kernel
theorem dX4_release_18 : decode cX4_release 18 = .ok (.invokevirtual 82, 3) := by decide +kernel
theorem dX4_release_21 : decode cX4_release 21 = .ok (.aload_n 0, 1) := by decide +kernel
theorem dX4_release_22 : decode cX4_release 22 = .ok (.getfield 26, 3) := by decide +kernel
theorem dX4_release_25 : decode cX4_release 25 = .ok (.iload_n 1, 1) := by decide +kernel
theorem dX4_release_26 : decode cX4_release 26 = .ok (.aaload, 1) := by decide +kernel
theorem dX4_release_27 : decode cX4_release 27 = .ok (.bipush (-5), 2) := by decide +kernel
theorem dX4_release_29 : decode cX4_release 29 = .ok (.putfield 90, 3) := by decide +kernel
theorem dX4_release_32 : decode cX4_release 32 = .ok (.return_, 1) := by decide +kernel
theorem dX4_leastInYard_0 : decode cX4_leastInYard 0 = .ok (.bipush (-5), 2) := by decide +kernel
theorem dX4_leastInYard_2 : decode cX4_leastInYard 2 = .ok (.istore_n 2, 1) := by decide +kernel
theorem dX4_leastInYard_3 : decode cX4_leastInYard 3 = .ok (.iconst 0, 1) := by decide +kernel
theorem dX4_leastInYard_4 : decode cX4_leastInYard 4 = .ok (.istore_n 3, 1) := by decide +kernel
theorem dX4_leastInYard_5 : decode cX4_leastInYard 5 = .ok (.iload_n 3, 1) := by decide +kernel
theorem dX4_leastInYard_6 : decode cX4_leastInYard 6 = .ok (.aload_n 0, 1) := by decide +kernel
theorem dX4_leastInYard_7 : decode cX4_leastInYard 7 = .ok (.getfield 47, 3) := by decide +kernel
theorem dX4_leastInYard_10 : decode cX4_leastInYard 10 = .ok (.if_icmp .ge 85, 3) := by decide +kernel
theorem dX4_leastInYard_13 : decode cX4_leastInYard 13 = .ok (.aload_n 0, 1) := by decide +kernel
theorem dX4_leastInYard_14 : decode cX4_leastInYard 14 = .ok (.getfield 20, 3) := by decide +kernel
theorem dX4_leastInYard_17 : decode cX4_leastInYard 17 = .ok (.iload_n 3, 1) := by decide +kernel
theorem dX4_leastInYard_18 : decode cX4_leastInYard 18 = .ok (.aaload, 1) := by decide +kernel
theorem dX4_leastInYard_19 : decode cX4_leastInYard 19 = .ok (.getfield 101, 3) := by decide +kernel
theorem dX4_leastInYard_22 : decode cX4_leastInYard 22 = .ok (.bipush (-5), 2) := by decide +kernel
theorem dX4_leastInYard_24 : decode cX4_leastInYard 24 = .ok (.if_icmp .ne 28, 3) := by decide +kernel
theorem dX4_leastInYard_27 : decode cX4_leastInYard 27 = .ok (.aload_n 0, 1) := by decide +kernel
theorem dX4_leastInYard_28 : decode cX4_leastInYard 28 = .ok (.getfield 20, 3) := by decide +kernel
theorem dX4_leastInYard_31 : decode cX4_leastInYard 31 = .ok (.iload_n 3, 1) := by decide +kernel
theorem dX4_leastInYard_32 : decode cX4_leastInYard 32 = .ok (.aaload, 1) := by decide +kernel
theorem dX4_leastInYard_33 : decode cX4_leastInYard 33 = .ok (.getfield 64, 3) := by decide +kernel
theorem dX4_leastInYard_36 : decode cX4_leastInYard 36 = .ok (.aload_n 0, 1) := by decide +kernel
theorem dX4_leastInYard_37 : decode cX4_leastInYard 37 = .ok (.getfield 26, 3) := by decide +kernel
theorem dX4_leastInYard_40 : decode cX4_leastInYard 40 = .ok (.iload_n 1, 1) := by decide +kernel
theorem dX4_leastInYard_41 : decode cX4_leastInYard 41 = .ok (.aaload, 1) := by decide +kernel
theorem dX4_leastInYard_42 : decode cX4_leastInYard 42 = .ok (.getfield 104, 3) := by decide +kernel
theorem dX4_leastInYard_45 : decode cX4_leastInYard 45 = .ok (.if_icmp .lt 7, 3) := by decide +kernel
theorem dX4_leastInYard_48 : decode cX4_leastInYard 48 = .ok (.iconst 1, 1) := by decide +kernel
theorem dX4_leastInYard_49 : decode cX4_leastInYard 49 = .ok (.goto 4, 3) := by decide +kernel
theorem dX4_leastInYard_52 : decode cX4_leastInYard 52 = .ok (.iconst 0, 1) := by decide +kernel
theorem dX4_leastInYard_53 : decode cX4_leastInYard 53 = .ok (.istore 4, 2) := by decide +kernel
theorem dX4_leastInYard_55 : decode cX4_leastInYard 55 = .ok (.iload 4, 2) := by decide +kernel
theorem dX4_leastInYard_57 : decode cX4_leastInYard 57 = .ok (.ifCond .eq 32, 3) := by decide +kernel
theorem dX4_leastInYard_60 : decode cX4_leastInYard 60 = .ok (.iload_n 2, 1) := by decide +kernel
theorem dX4_leastInYard_61 : decode cX4_leastInYard 61 = .ok (.bipush (-5), 2) := by decide +kernel
theorem dX4_leastInYard_63 : decode cX4_leastInYard 63 = .ok (.if_icmp .eq 24, 3) := by decide +kernel
theorem dX4_leastInYard_66 : decode cX4_leastInYard 66 = .ok (.aload_n 0, 1) := by decide +kernel
theorem dX4_leastInYard_67 : decode cX4_leastInYard 67 = .ok (.getfield 20, 3) := by decide +kernel
theorem dX4_leastInYard_70 : decode cX4_leastInYard 70 = .ok (.iload_n 3, 1) := by decide +kernel
theorem dX4_leastInYard_71 : decode cX4_leastInYard 71 = .ok (.aaload, 1) := by decide +kernel
theorem dX4_leastInYard_72 : decode cX4_leastInYard 72 = .ok (.getfield 64, 3) := by decide +kernel
theorem dX4_leastInYard_75 : decode cX4_leastInYard 75 = .ok (.aload_n 0, 1) := by decide +kernel
theorem dX4_leastInYard_76 : decode cX4_leastInYard 76 = .ok (.getfield 20, 3) := by decide +kernel
theorem dX4_leastInYard_79 : decode cX4_leastInYard 79 = .ok (.iload_n 2, 1) := by decide +kernel
theorem dX4_leastInYard_80 : decode cX4_leastInYard 80 = .ok (.aaload, 1) := by decide +kernel
theorem dX4_leastInYard_81 : decode cX4_leastInYard 81 = .ok (.getfield 64, 3) := by decide +kernel
theorem dX4_leastInYard_84 : decode cX4_leastInYard 84 = .ok (.if_icmp .ge 5, 3) := by decide +kernel
theorem dX4_leastInYard_87 : decode cX4_leastInYard 87 = .ok (.iload_n 3, 1) := by decide +kernel
theorem dX4_leastInYard_88 : decode cX4_leastInYard 88 = .ok (.istore_n 2, 1) := by decide +kernel
theorem dX4_leastInYard_89 : decode cX4_leastInYard 89 = .ok (.iinc 3 1, 3) := by decide +kernel
theorem dX4_leastInYard_92 : decode cX4_leastInYard 92 = .ok (.goto (-87), 3) := by decide +kernel
theorem dX4_leastInYard_95 : decode cX4_leastInYard 95 = .ok (.iload_n 2, 1) := by decide +kernel
theorem dX4_leastInYard_96 : decode cX4_leastInYard 96 = .ok (.ireturn, 1) := by decide +kernel
theorem dX4_giverFor_0 : decode cX4_giverFor 0 = .ok (.bipush (-5), 2) := by decide +kernel
theorem dX4_giverFor_2 : decode cX4_giverFor 2 = .ok (.istore_n 2, 1) := by decide +kernel
theorem dX4_giverFor_3 : decode cX4_giverFor 3 = .ok (.iconst 0, 1) := by decide +kernel
theorem dX4_giverFor_4 : decode cX4_giverFor 4 = .ok (.istore_n 3, 1) := by decide +kernel
theorem dX4_giverFor_5 : decode cX4_giverFor 5 = .ok (.iconst 0, 1) := by decide +kernel
theorem dX4_giverFor_6 : decode cX4_giverFor 6 = .ok (.istore 4, 2) := by decide +kernel
theorem dX4_giverFor_8 : decode cX4_giverFor 8 = .ok (.iload 4, 2) := by decide +kernel
theorem dX4_giverFor_10 : decode cX4_giverFor 10 = .ok (.aload_n 0, 1) := by decide +kernel
theorem dX4_giverFor_11 : decode cX4_giverFor 11 = .ok (.getfield 50, 3) := by decide +kernel
theorem dX4_giverFor_14 : decode cX4_giverFor 14 = .ok (.if_icmp .ge 91, 3) := by decide +kernel
theorem dX4_giverFor_17 : decode cX4_giverFor 17 = .ok (.aload_n 0, 1) := by decide +kernel
theorem dX4_giverFor_18 : decode cX4_giverFor 18 = .ok (.aload_n 0, 1) := by decide +kernel
theorem dX4_giverFor_19 : decode cX4_giverFor 19 = .ok (.getfield 26, 3) := by decide +kernel
theorem dX4_giverFor_22 : decode cX4_giverFor 22 = .ok (.iload 4, 2) := by decide +kernel
theorem dX4_giverFor_24 : decode cX4_giverFor 24 = .ok (.aaload, 1) := by decide +kernel
theorem dX4_giverFor_25 : decode cX4_giverFor 25 = .ok (.invokevirtual 97, 3) := by decide +kernel
theorem dX4_giverFor_28 : decode cX4_giverFor 28 = .ok (.astore 5, 2) := by decide +kernel
theorem dX4_giverFor_30 : decode cX4_giverFor 30 = .ok (.aload 5, 2) := by decide +kernel
theorem dX4_giverFor_32 : decode cX4_giverFor 32 = .ok (.ifnull 35, 3) := by decide +kernel
theorem dX4_giverFor_35 : decode cX4_giverFor 35 = .ok (.aload 5, 2) := by decide +kernel
theorem dX4_giverFor_37 : decode cX4_giverFor 37 = .ok (.getfield 64, 3) := by decide +kernel
theorem dX4_giverFor_40 : decode cX4_giverFor 40 = .ok (.aload_n 0, 1) := by decide +kernel
theorem dX4_giverFor_41 : decode cX4_giverFor 41 = .ok (.getfield 26, 3) := by decide +kernel
theorem dX4_giverFor_44 : decode cX4_giverFor 44 = .ok (.iload_n 1, 1) := by decide +kernel
theorem dX4_giverFor_45 : decode cX4_giverFor 45 = .ok (.aaload, 1) := by decide +kernel
theorem dX4_giverFor_46 : decode cX4_giverFor 46 = .ok (.getfield 104, 3) := by decide +kernel
theorem dX4_giverFor_49 : decode cX4_giverFor 49 = .ok (.if_icmp .lt 18, 3) := by decide +kernel
theorem dX4_giverFor_52 : decode cX4_giverFor 52 = .ok (.aload_n 0, 1) := by decide +kernel
theorem dX4_giverFor_53 : decode cX4_giverFor 53 = .ok (.iload 4, 2) := by decide +kernel
theorem dX4_giverFor_55 : decode cX4_giverFor 55 = .ok (.invokevirtual 107, 3) := by decide +kernel
theorem dX4_giverFor_58 : decode cX4_giverFor 58 = .ok (.bipush (-5), 2) := by decide +kernel
theorem dX4_giverFor_60 : decode cX4_giverFor 60 = .ok (.if_icmp .eq 7, 3) := by decide +kernel
theorem dX4_giverFor_63 : decode cX4_giverFor 63 = .ok (.iconst 1, 1) := by decide +kernel
theorem dX4_giverFor_64 : decode cX4_giverFor 64 = .ok (.goto 4, 3) := by decide +kernel
theorem dX4_giverFor_67 : decode cX4_giverFor 67 = .ok (.iconst 0, 1) := by decide +kernel
theorem dX4_giverFor_68 : decode cX4_giverFor 68 = .ok (.istore 6, 2) := by decide +kernel
theorem dX4_giverFor_70 : decode cX4_giverFor 70 = .ok (.iload 6, 2) := by decide +kernel
theorem dX4_giverFor_72 : decode cX4_giverFor 72 = .ok (.ifCond .eq 27, 3) := by decide +kernel
theorem dX4_giverFor_75 : decode cX4_giverFor 75 = .ok (.iload_n 2, 1) := by decide +kernel
theorem dX4_giverFor_76 : decode cX4_giverFor 76 = .ok (.bipush (-5), 2) := by decide +kernel
theorem dX4_giverFor_78 : decode cX4_giverFor 78 = .ok (.if_icmp .eq 12, 3) := by decide +kernel
theorem dX4_giverFor_81 : decode cX4_giverFor 81 = .ok (.aload 5, 2) := by decide +kernel
theorem dX4_giverFor_83 : decode cX4_giverFor 83 = .ok (.getfield 64, 3) := by decide +kernel
theorem dX4_giverFor_86 : decode cX4_giverFor 86 = .ok (.iload_n 3, 1) := by decide +kernel
theorem dX4_giverFor_87 : decode cX4_giverFor 87 = .ok (.if_icmp .ge 12, 3) := by decide +kernel
theorem dX4_giverFor_90 : decode cX4_giverFor 90 = .ok (.iload 4, 2) := by decide +kernel
theorem dX4_giverFor_92 : decode cX4_giverFor 92 = .ok (.istore_n 2, 1) := by decide +kernel
theorem dX4_giverFor_93 : decode cX4_giverFor 93 = .ok (.aload 5, 2) := by decide +kernel
theorem dX4_giverFor_95 : decode cX4_giverFor 95 = .ok (.getfield 64, 3) := by decide +kernel
theorem dX4_giverFor_98 : decode cX4_giverFor 98 = .ok (.istore_n 3, 1) := by decide +kernel
theorem dX4_giverFor_99 : decode cX4_giverFor 99 = .ok (.iinc 4 1, 3) := by decide +kernel
theorem dX4_giverFor_102 : decode cX4_giverFor 102 = .ok (.goto (-94), 3) := by decide +kernel
theorem dX4_giverFor_105 : decode cX4_giverFor 105 = .ok (.iload_n 2, 1) := by decide +kernel
theorem dX4_giverFor_106 : decode cX4_giverFor 106 = .ok (.ireturn, 1) := by decide +kernel
theorem dX4_exchange_0 : decode cX4_exchange 0 = .ok (.aload_n 0, 1) := by decide +kernel
theorem dX4_exchange_1 : decode cX4_exchange 1 = .ok (.getfield 26, 3) := by decide +kernel
theorem dX4_exchange_4 : decode cX4_exchange 4 = .ok (.iload_n 2, 1) := by decide +kernel
theorem dX4_exchange_5 : decode cX4_exchange 5 = .ok (.aaload, 1) := by decide +kernel
theorem dX4_exchange_6 : decode cX4_exchange 6 = .ok (.getfield 90, 3) := by decide +kernel
theorem dX4_exchange_9 : decode cX4_exchange 9 = .ok (.istore_n 3, 1) := by decide +kernel
theorem dX4_exchange_10 : decode cX4_exchange 10 = .ok (.aload_n 0, 1) := by decide +kernel
theorem dX4_exchange_11 : decode cX4_exchange 11 = .ok (.iload_n 2, 1) := by decide +kernel
theorem dX4_exchange_12 : decode cX4_exchange 12 = .ok (.invokevirtual 107, 3) := by decide +kernel
theorem dX4_exchange_15 : decode cX4_exchange 15 = .ok (.istore 4, 2) := by decide +kernel
theorem dX4_exchange_17 : decode cX4_exchange 17 = .ok (.aload_n 0, 1) := by decide +kernel
theorem dX4_exchange_18 : decode cX4_exchange 18 = .ok (.iload_n 3, 1) := by decide +kernel
theorem dX4_exchange_19 : decode cX4_exchange 19 = .ok (.invokevirtual 93, 3) := by decide +kernel
theorem dX4_exchange_22 : decode cX4_exchange 22 = .ok (.ifCond .eq 25, 3) := by decide +kernel
theorem dX4_exchange_25 : decode cX4_exchange 25 = .ok (.aload_n 0, 1) := by decide +kernel
theorem dX4_exchange_26 : decode cX4_exchange 26 = .ok (.iload 4, 2) := by decide +kernel
theorem dX4_exchange_28 : decode cX4_exchange 28 = .ok (.invokevirtual 93, 3) := by decide +kernel
theorem dX4_exchange_31 : decode cX4_exchange 31 = .ok (.ifCond .eq 16, 3) := by decide +kernel
theorem dX4_exchange_34 : decode cX4_exchange 34 = .ok (.aload_n 0, 1) := by decide +kernel
theorem dX4_exchange_35 : decode cX4_exchange 35 = .ok (.iload 4, 2) := by decide +kernel
theorem dX4_exchange_37 : decode cX4_exchange 37 = .ok (.iload_n 2, 1) := by decide +kernel
theorem dX4_exchange_38 : decode cX4_exchange 38 = .ok (.invokevirtual 111, 3) := by decide +kernel
theorem dX4_exchange_41 : decode cX4_exchange 41 = .ok (.aload_n 0, 1) := by decide +kernel
theorem dX4_exchange_42 : decode cX4_exchange 42 = .ok (.iload_n 3, 1) := by decide +kernel
theorem dX4_exchange_43 : decode cX4_exchange 43 = .ok (.iload_n 1, 1) := by decide +kernel
theorem dX4_exchange_44 : decode cX4_exchange 44 = .ok (.invokevirtual 111, 3) := by decide +kernel
theorem dX4_exchange_47 : decode cX4_exchange 47 = .ok (.return_, 1) := by decide +kernel
theorem dX4_listOpen_0 : decode cX4_listOpen 0 = .ok (.iconst 0, 1) := by decide +kernel
theorem dX4_listOpen_1 : decode cX4_listOpen 1 = .ok (.istore_n 2, 1) := by decide +kernel
theorem dX4_listOpen_2 : decode cX4_listOpen 2 = .ok (.iconst 0, 1) := by decide +kernel
theorem dX4_listOpen_3 : decode cX4_listOpen 3 = .ok (.istore_n 3, 1) := by decide +kernel
theorem dX4_listOpen_4 : decode cX4_listOpen 4 = .ok (.iload_n 3, 1) := by decide +kernel
theorem dX4_listOpen_5 : decode cX4_listOpen 5 = .ok (.aload_n 0, 1) := by decide +kernel
theorem dX4_listOpen_6 : decode cX4_listOpen 6 = .ok (.getfield 50, 3) := by decide +kernel
theorem dX4_listOpen_9 : decode cX4_listOpen 9 = .ok (.if_icmp .ge 36, 3) := by decide +kernel
theorem dX4_listOpen_12 : decode cX4_listOpen 12 = .ok (.aload_n 0, 1) := by decide +kernel
theorem dX4_listOpen_13 : decode cX4_listOpen 13 = .ok (.getfield 26, 3) := by decide +kernel
theorem dX4_listOpen_16 : decode cX4_listOpen 16 = .ok (.iload_n 3, 1) := by decide +kernel
theorem dX4_listOpen_17 : decode cX4_listOpen 17 = .ok (.aaload, 1) := by decide +kernel
theorem dX4_listOpen_18 : decode cX4_listOpen 18 = .ok (.aload_n 0, 1) := by decide +kernel
theorem dX4_listOpen_19 : decode cX4_listOpen 19 = .ok (.getfield 32, 3) := by decide +kernel
theorem dX4_listOpen_22 : decode cX4_listOpen 22 = .ok (.invokevirtual 115, 3) := by decide +kernel
theorem dX4_listOpen_25 : decode cX4_listOpen 25 = .ok (.ifCond .eq 14, 3) := by decide +kernel
theorem dX4_listOpen_28 : decode cX4_listOpen 28 = .ok (.aload_n 0, 1) := by decide +kernel
theorem dX4_listOpen_29 : decode cX4_listOpen 29 = .ok (.aload_n 1, 1) := by decide +kernel
theorem dX4_listOpen_30 : decode cX4_listOpen 30 = .ok (.iload_n 2, 1) := by decide +kernel
theorem dX4_listOpen_31 : decode cX4_listOpen 31 = .ok (.iload_n 3, 1) := by decide +kernel
theorem dX4_listOpen_32 : decode cX4_listOpen 32 = .ok (.iconst 0, 1) := by decide +kernel
theorem dX4_listOpen_33 : decode cX4_listOpen 33 = .ok (.invokevirtual 118, 3) := by decide +kernel
theorem dX4_listOpen_36 : decode cX4_listOpen 36 = .ok (.iinc 2 1, 3) := by decide +kernel
theorem dX4_listOpen_39 : decode cX4_listOpen 39 = .ok (.iinc 3 1, 3) := by decide +kernel
theorem dX4_listOpen_42 : decode cX4_listOpen 42 = .ok (.goto (-38), 3) := by decide +kernel
theorem dX4_listOpen_45 : decode cX4_listOpen 45 = .ok (.iload_n 2, 1) := by decide +kernel
theorem dX4_listOpen_46 : decode cX4_listOpen 46 = .ok (.ireturn, 1) := by decide +kernel
theorem dX4_listSupplied_0 : decode cX4_listSupplied 0 = .ok (.iconst 0, 1) := by decide +kernel
theorem dX4_listSupplied_1 : decode cX4_listSupplied 1 = .ok (.istore_n 2, 1) := by decide +kernel
theorem dX4_listSupplied_2 : decode cX4_listSupplied 2 = .ok (.iconst 0, 1) := by decide +kernel
theorem dX4_listSupplied_3 : decode cX4_listSupplied 3 = .ok (.istore_n 3, 1) := by decide +kernel
theorem dX4_listSupplied_4 : decode cX4_listSupplied 4 = .ok (.iload_n 3, 1) := by decide +kernel
theorem dX4_listSupplied_5 : decode cX4_listSupplied 5 = .ok (.aload_n 0, 1) := by decide +kernel
theorem dX4_listSupplied_6 : decode cX4_listSupplied 6 = .ok (.getfield 50, 3) := by decide +kernel
theorem dX4_listSupplied_9 : decode cX4_listSupplied 9 = .ok (.if_icmp .ge 34, 3) := by decide +kernel
theorem dX4_listSupplied_12 : decode cX4_listSupplied 12 = .ok (.aload_n 0, 1) := by decide +kernel
theorem dX4_listSupplied_13 : decode cX4_listSupplied 13 = .ok (.getfield 26, 3) := by decide +kernel
theorem dX4_listSupplied_16 : decode cX4_listSupplied 16 = .ok (.iload_n 3, 1) := by decide +kernel
theorem dX4_listSupplied_17 : decode cX4_listSupplied 17 = .ok (.aaload, 1) := by decide +kernel
theorem dX4_listSupplied_18 : decode cX4_listSupplied 18 = .ok (.getfield 90, 3) := by decide +kernel
theorem dX4_listSupplied_21 : decode cX4_listSupplied 21 = .ok (.bipush (-5), 2) := by decide +kernel
theorem dX4_listSupplied_23 : decode cX4_listSupplied 23 = .ok (.if_icmp .eq 14, 3) := by decide +kernel
theorem dX4_listSupplied_26 : decode cX4_listSupplied 26 = .ok (.aload_n 0, 1) := by decide +kernel
theorem dX4_listSupplied_27 : decode cX4_listSupplied 27 = .ok (.aload_n 1, 1) := by decide +kernel
theorem dX4_listSupplied_28 : decode cX4_listSupplied 28 = .ok (.iload_n 2, 1) := by decide +kernel
theorem dX4_listSupplied_29 : decode cX4_listSupplied 29 = .ok (.iload_n 3, 1) := by decide +kernel
theorem dX4_listSupplied_30 : decode cX4_listSupplied 30 = .ok (.iconst 1, 1) := by decide +kernel
theorem dX4_listSupplied_31 : decode cX4_listSupplied 31 = .ok (.invokevirtual 118, 3) := by decide +kernel
theorem dX4_listSupplied_34 : decode cX4_listSupplied 34 = .ok (.iinc 2 1, 3) := by decide +kernel
theorem dX4_listSupplied_37 : decode cX4_listSupplied 37 = .ok (.iinc 3 1, 3) := by decide +kernel
theorem dX4_listSupplied_40 : decode cX4_listSupplied 40 = .ok (.goto (-36), 3) := by decide +kernel
theorem dX4_listSupplied_43 : decode cX4_listSupplied 43 = .ok (.iload_n 2, 1) := by decide +kernel
theorem dX4_listSupplied_44 : decode cX4_listSupplied 44 = .ok (.ireturn, 1) := by decide +kernel
theorem dX4_insert_0 : decode cX4_insert 0 = .ok (.iload_n 2, 1) := by decide +kernel
theorem dX4_insert_1 : decode cX4_insert 1 = .ok (.istore 5, 2) := by decide +kernel
theorem dX4_insert_3 : decode cX4_insert 3 = .ok (.iload 5, 2) := by decide +kernel
theorem dX4_insert_5 : decode cX4_insert 5 = .ok (.ifCond .le 35, 3) := by decide +kernel
theorem dX4_insert_8 : decode cX4_insert 8 = .ok (.aload_n 0, 1) := by decide +kernel
theorem dX4_insert_9 : decode cX4_insert 9 = .ok (.iload_n 3, 1) := by decide +kernel
theorem dX4_insert_10 : decode cX4_insert 10 = .ok (.aload_n 1, 1) := by decide +kernel
theorem dX4_insert_11 : decode cX4_insert 11 = .ok (.iload 5, 2) := by decide +kernel
theorem dX4_insert_13 : decode cX4_insert 13 = .ok (.iconst 1, 1) := by decide +kernel
theorem dX4_insert_14 : decode cX4_insert 14 = .ok (.isub, 1) := by decide +kernel
theorem dX4_insert_15 : decode cX4_insert 15 = .ok (.iaload, 1) := by decide +kernel
theorem dX4_insert_16 : decode cX4_insert 16 = .ok (.iload 4, 2) := by decide +kernel
theorem dX4_insert_18 : decode cX4_insert 18 = .ok (.invokevirtual 122, 3) := by decide +kernel
theorem dX4_insert_21 : decode cX4_insert 21 = .ok (.ifCond .eq 19, 3) := by decide +kernel
theorem dX4_insert_24 : decode cX4_insert 24 = .ok (.aload_n 1, 1) := by decide +kernel
theorem dX4_insert_25 : decode cX4_insert 25 = .ok (.iload 5, 2) := by decide +kernel
theorem dX4_insert_27 : decode cX4_insert 27 = .ok (.aload_n 1, 1) := by decide +kernel
theorem dX4_insert_28 : decode cX4_insert 28 = .ok (.iload 5, 2) := by decide +kernel
theorem dX4_insert_30 : decode cX4_insert 30 = .ok (.iconst 1, 1) := by decide +kernel
theorem dX4_insert_31 : decode cX4_insert 31 = .ok (.isub, 1) := by decide +kernel
theorem dX4_insert_32 : decode cX4_insert 32 = .ok (.iaload, 1) := by decide +kernel
theorem dX4_insert_33 : decode cX4_insert 33 = .ok (.iastore, 1) := by decide +kernel
theorem dX4_insert_34 : decode cX4_insert 34 = .ok (.iinc 5 (-1), 3) := by decide +kernel
theorem dX4_insert_37 : decode cX4_insert 37 = .ok (.goto (-34), 3) := by decide +kernel
theorem dX4_insert_40 : decode cX4_insert 40 = .ok (.aload_n 1, 1) := by decide +kernel
theorem dX4_insert_41 : decode cX4_insert 41 = .ok (.iload 5, 2) := by decide +kernel
theorem dX4_insert_43 : decode cX4_insert 43 = .ok (.iload_n 3, 1) := by decide +kernel
theorem dX4_insert_44 : decode cX4_insert 44 = .ok (.iastore, 1) := by decide +kernel
theorem dX4_insert_45 : decode cX4_insert 45 = .ok (.return_, 1) := by decide +kernel
theorem dX4_isAhead_0 : decode cX4_isAhead 0 = .ok (.iload_n 3, 1) := by decide +kernel
theorem dX4_isAhead_1 : decode cX4_isAhead 1 = .ok (.ifCond .eq 17, 3) := by decide +kernel
theorem dX4_isAhead_4 : decode cX4_isAhead 4 = .ok (.aload_n 0, 1) := by decide +kernel
theorem dX4_isAhead_5 : decode cX4_isAhead 5 = .ok (.iload_n 1, 1) := by decide +kernel
theorem dX4_isAhead_6 : decode cX4_isAhead 6 = .ok (.invokevirtual 126, 3) := by decide +kernel
theorem dX4_isAhead_9 : decode cX4_isAhead 9 = .ok (.aload_n 0, 1) := by decide +kernel
theorem dX4_isAhead_10 : decode cX4_isAhead 10 = .ok (.iload_n 2, 1) := by decide +kernel
theorem dX4_isAhead_11 : decode cX4_isAhead 11 = .ok (.invokevirtual 126, 3) := by decide +kernel
theorem dX4_isAhead_14 : decode cX4_isAhead 14 = .ok (.isub, 1) := by decide +kernel
theorem dX4_isAhead_15 : decode cX4_isAhead 15 = .ok (.goto 4, 3) := by decide +kernel
theorem dX4_isAhead_18 : decode cX4_isAhead 18 = .ok (.iconst 0, 1) := by decide +kernel
theorem dX4_isAhead_19 : decode cX4_isAhead 19 = .ok (.istore 4, 2) := by decide +kernel
theorem dX4_isAhead_21 : decode cX4_isAhead 21 = .ok (.iload 4, 2) := by decide +kernel
theorem dX4_isAhead_23 : decode cX4_isAhead 23 = .ok (.ifCond .lt 26, 3) := by decide +kernel
theorem dX4_isAhead_26 : decode cX4_isAhead 26 = .ok (.iload 4, 2) := by decide +kernel
theorem dX4_isAhead_28 : decode cX4_isAhead 28 = .ok (.ifCond .ne 25, 3) := by decide +kernel
theorem dX4_isAhead_31 : decode cX4_isAhead 31 = .ok (.aload_n 0, 1) := by decide +kernel
theorem dX4_isAhead_32 : decode cX4_isAhead 32 = .ok (.getfield 26, 3) := by decide +kernel
theorem dX4_isAhead_35 : decode cX4_isAhead 35 = .ok (.iload_n 1, 1) := by decide +kernel
theorem dX4_isAhead_36 : decode cX4_isAhead 36 = .ok (.aaload, 1) := by decide +kernel
theorem dX4_isAhead_37 : decode cX4_isAhead 37 = .ok (.aload_n 0, 1) := by decide +kernel
theorem dX4_isAhead_38 : decode cX4_isAhead 38 = .ok (.getfield 26, 3) := by decide +kernel
theorem dX4_isAhead_41 : decode cX4_isAhead 41 = .ok (.iload_n 2, 1) := by decide +kernel
theorem dX4_isAhead_42 : decode cX4_isAhead 42 = .ok (.aaload, 1) := by decide +kernel
theorem dX4_isAhead_43 : decode cX4_isAhead 43 = .ok (.invokevirtual 129, 3) := by decide +kernel
theorem dX4_isAhead_46 : decode cX4_isAhead 46 = .ok (.ifCond .eq 7, 3) := by decide +kernel
theorem dX4_isAhead_49 : decode cX4_isAhead 49 = .ok (.iconst 1, 1) := by decide +kernel
theorem dX4_isAhead_50 : decode cX4_isAhead 50 = .ok (.goto 4, 3) := by decide +kernel
theorem dX4_isAhead_53 : decode cX4_isAhead 53 = .ok (.iconst 0, 1) := by decide +kernel
theorem dX4_isAhead_54 : decode cX4_isAhead 54 = .ok (.ireturn, 1) := by decide +kernel
theorem dX4_hoursLeftAt_0 : decode cX4_hoursLeftAt 0 = .ok (.aload_n 0, 1) := by decide +kernel
theorem dX4_hoursLeftAt_1 : decode cX4_hoursLeftAt 1 = .ok (.aload_n 0, 1) := by decide +kernel
theorem dX4_hoursLeftAt_2 : decode cX4_hoursLeftAt 2 = .ok (.getfield 26, 3) := by decide +kernel
theorem dX4_hoursLeftAt_5 : decode cX4_hoursLeftAt 5 = .ok (.iload_n 1, 1) := by decide +kernel
theorem dX4_hoursLeftAt_6 : decode cX4_hoursLeftAt 6 = .ok (.aaload, 1) := by decide +kernel
theorem dX4_hoursLeftAt_7 : decode cX4_hoursLeftAt 7 = .ok (.invokevirtual 97, 3) := by decide +kernel
theorem dX4_hoursLeftAt_10 : decode cX4_hoursLeftAt 10 = .ok (.astore_n 2, 1) := by decide +kernel
theorem dX4_hoursLeftAt_11 : decode cX4_hoursLeftAt 11 = .ok (.aload_n 2, 1) := by decide +kernel
theorem dX4_hoursLeftAt_12 : decode cX4_hoursLeftAt 12 = .ok (.ifnonnull 7, 3) := by decide +kernel
theorem dX4_hoursLeftAt_15 : decode cX4_hoursLeftAt 15 = .ok (.iconst 0, 1) := by decide +kernel
theorem dX4_hoursLeftAt_16 : decode cX4_hoursLeftAt 16 = .ok (.goto 7, 3) := by decide +kernel
theorem dX4_hoursLeftAt_19 : decode cX4_hoursLeftAt 19 = .ok (.aload_n 2, 1) := by decide +kernel
theorem dX4_hoursLeftAt_20 : decode cX4_hoursLeftAt 20 = .ok (.invokevirtual 133, 3) := by decide +kernel
theorem dX4_hoursLeftAt_23 : decode cX4_hoursLeftAt 23 = .ok (.ireturn, 1) := by decide +kernel
theorem dX4_causeFor_0 : decode cX4_causeFor 0 = .ok (.aload_n 0, 1) := by decide +kernel
theorem dX4_causeFor_1 : decode cX4_causeFor 1 = .ok (.aload_n 1, 1) := by decide +kernel
theorem dX4_causeFor_2 : decode cX4_causeFor 2 = .ok (.invokevirtual 97, 3) := by decide +kernel
theorem dX4_causeFor_5 : decode cX4_causeFor 5 = .ok (.astore_n 2, 1) := by decide +kernel
theorem dX4_causeFor_6 : decode cX4_causeFor 6 = .ok (.aload_n 2, 1) := by decide +kernel
theorem dX4_causeFor_7 : decode cX4_causeFor 7 = .ok (.ifnonnull 7, 3) := by decide +kernel
theorem dX4_causeFor_10 : decode cX4_causeFor 10 = .ok (.iconst 1, 1) := by decide +kernel
theorem dX4_causeFor_11 : decode cX4_causeFor 11 = .ok (.goto 11, 3) := by decide +kernel
theorem dX4_causeFor_14 : decode cX4_causeFor 14 = .ok (.aload_n 2, 1) := by decide +kernel
theorem dX4_causeFor_15 : decode cX4_causeFor 15 = .ok (.aload_n 0, 1) := by decide +kernel
theorem dX4_causeFor_16 : decode cX4_causeFor 16 = .ok (.getfield 9, 3) := by decide +kernel
theorem dX4_causeFor_19 : decode cX4_causeFor 19 = .ok (.invokevirtual 137, 3) := by decide +kernel
theorem dX4_causeFor_22 : decode cX4_causeFor 22 = .ok (.ireturn, 1) := by decide +kernel
theorem dX4_passHours_0 : decode cX4_passHours 0 = .ok (.iconst 0, 1) := by decide +kernel
theorem dX4_passHours_1 : decode cX4_passHours 1 = .ok (.istore_n 2, 1) := by decide +kernel
theorem dX4_passHours_2 : decode cX4_passHours 2 = .ok (.iload_n 2, 1) := by decide +kernel
theorem dX4_passHours_3 : decode cX4_passHours 3 = .ok (.iload_n 1, 1) := by decide +kernel
theorem dX4_passHours_4 : decode cX4_passHours 4 = .ok (.if_icmp .ge 13, 3) := by decide +kernel
theorem dX4_passHours_7 : decode cX4_passHours 7 = .ok (.aload_n 0, 1) := by decide +kernel
theorem dX4_passHours_8 : decode cX4_passHours 8 = .ok (.invokevirtual 140, 3) := by decide +kernel
theorem dX4_passHours_11 : decode cX4_passHours 11 = .ok (.iinc 2 1, 3) := by decide +kernel
theorem dX4_passHours_14 : decode cX4_passHours 14 = .ok (.goto (-12), 3) := by decide +kernel
theorem dX4_passHours_17 : decode cX4_passHours 17 = .ok (.return_, 1) := by decide +kernel
theorem dX4_passHour_0 : decode cX4_passHour 0 = .ok (.iconst 0, 1) := by decide +kernel
theorem dX4_passHour_1 : decode cX4_passHour 1 = .ok (.istore_n 1, 1) := by decide +kernel
theorem dX4_passHour_2 : decode cX4_passHour 2 = .ok (.iload_n 1, 1) := by decide +kernel
theorem dX4_passHour_3 : decode cX4_passHour 3 = .ok (.aload_n 0, 1) := by decide +kernel
theorem dX4_passHour_4 : decode cX4_passHour 4 = .ok (.getfield 50, 3) := by decide +kernel
theorem dX4_passHour_7 : decode cX4_passHour 7 = .ok (.if_icmp .ge 35, 3) := by decide +kernel
theorem dX4_passHour_10 : decode cX4_passHour 10 = .ok (.aload_n 0, 1) := by decide +kernel
theorem dX4_passHour_11 : decode cX4_passHour 11 = .ok (.getfield 26, 3) := by decide +kernel
theorem dX4_passHour_14 : decode cX4_passHour 14 = .ok (.iload_n 1, 1) := by decide +kernel
theorem dX4_passHour_15 : decode cX4_passHour 15 = .ok (.aaload, 1) := by decide +kernel
theorem dX4_passHour_16 : decode cX4_passHour 16 = .ok (.aload_n 0, 1) := by decide +kernel
theorem dX4_passHour_17 : decode cX4_passHour 17 = .ok (.getfield 32, 3) := by decide +kernel
theorem dX4_passHour_20 : decode cX4_passHour 20 = .ok (.invokevirtual 115, 3) := by decide +kernel
theorem dX4_passHour_23 : decode cX4_passHour 23 = .ok (.ifCond .eq 13, 3) := by decide +kernel
theorem dX4_passHour_26 : decode cX4_passHour 26 = .ok (.aload_n 0, 1) := by decide +kernel
theorem dX4_passHour_27 : decode cX4_passHour 27 = .ok (.aload_n 0, 1) := by decide +kernel
theorem dX4_passHour_28 : decode cX4_passHour 28 = .ok (.getfield 26, 3) := by decide +kernel
theorem dX4_passHour_31 : decode cX4_passHour 31 = .ok (.iload_n 1, 1) := by decide +kernel
theorem dX4_passHour_32 : decode cX4_passHour 32 = .ok (.aaload, 1) := by decide +kernel
theorem dX4_passHour_33 : decode cX4_passHour 33 = .ok (.invokevirtual 143, 3) := by decide +kernel
theorem dX4_passHour_36 : decode cX4_passHour 36 = .ok (.iinc 1 1, 3) := by decide +kernel
theorem dX4_passHour_39 : decode cX4_passHour 39 = .ok (.goto (-37), 3) := by decide +kernel
theorem dX4_passHour_42 : decode cX4_passHour 42 = .ok (.aload_n 0, 1) := by decide +kernel
theorem dX4_passHour_43 : decode cX4_passHour 43 = .ok (.dup, 1) := by decide +kernel
theorem dX4_passHour_44 : decode cX4_passHour 44 = .ok (.getfield 32, 3) := by decide +kernel
theorem dX4_passHour_47 : decode cX4_passHour 47 = .ok (.iconst 1, 1) := by decide +kernel
theorem dX4_passHour_48 : decode cX4_passHour 48 = .ok (.iadd, 1) := by decide +kernel
theorem dX4_passHour_49 : decode cX4_passHour 49 = .ok (.putfield 32, 3) := by decide +kernel
theorem dX4_passHour_52 : decode cX4_passHour 52 = .ok (.iconst 0, 1) := by decide +kernel
theorem dX4_passHour_53 : decode cX4_passHour 53 = .ok (.istore_n 1, 1) := by decide +kernel
theorem dX4_passHour_54 : decode cX4_passHour 54 = .ok (.iload_n 1, 1) := by decide +kernel
theorem dX4_passHour_55 : decode cX4_passHour 55 = .ok (.aload_n 0, 1) := by decide +kernel
theorem dX4_passHour_56 : decode cX4_passHour 56 = .ok (.getfield 50, 3) := by decide +kernel
theorem dX4_passHour_59 : decode cX4_passHour 59 = .ok (.if_icmp .ge 30, 3) := by decide +kernel
theorem dX4_passHour_62 : decode cX4_passHour 62 = .ok (.aload_n 0, 1) := by decide +kernel
theorem dX4_passHour_63 : decode cX4_passHour 63 = .ok (.getfield 26, 3) := by decide +kernel
theorem dX4_passHour_66 : decode cX4_passHour 66 = .ok (.iload_n 1, 1) := by decide +kernel
theorem dX4_passHour_67 : decode cX4_passHour 67 = .ok (.aaload, 1) := by decide +kernel
theorem dX4_passHour_68 : decode cX4_passHour 68 = .ok (.getfield 146, 3) := by decide +kernel
theorem dX4_passHour_71 : decode cX4_passHour 71 = .ok (.aload_n 0, 1) := by decide +kernel
theorem dX4_passHour_72 : decode cX4_passHour 72 = .ok (.getfield 32, 3) := by decide +kernel
theorem dX4_passHour_75 : decode cX4_passHour 75 = .ok (.if_icmp .ne 8, 3) := by decide +kernel
theorem dX4_passHour_78 : decode cX4_passHour 78 = .ok (.aload_n 0, 1) := by decide +kernel
theorem dX4_passHour_79 : decode cX4_passHour 79 = .ok (.iload_n 1, 1) := by decide +kernel
theorem dX4_passHour_80 : decode cX4_passHour 80 = .ok (.invokevirtual 149, 3) := by decide +kernel
theorem dX4_passHour_83 : decode cX4_passHour 83 = .ok (.iinc 1 1, 3) := by decide +kernel
theorem dX4_passHour_86 : decode cX4_passHour 86 = .ok (.goto (-32), 3) := by decide +kernel
theorem dX4_passHour_89 : decode cX4_passHour 89 = .ok (.return_, 1) := by decide +kernel
theorem dX4_lightOrDarken_0 : decode cX4_lightOrDarken 0 = .ok (.aload_n 0, 1) := by decide +kernel
theorem dX4_lightOrDarken_1 : decode cX4_lightOrDarken 1 = .ok (.aload_n 1, 1) := by decide +kernel
theorem dX4_lightOrDarken_2 : decode cX4_lightOrDarken 2 = .ok (.invokevirtual 152, 3) := by decide +kernel
theorem dX4_lightOrDarken_5 : decode cX4_lightOrDarken 5 = .ok (.istore_n 2, 1) := by decide +kernel
theorem dX4_lightOrDarken_6 : decode cX4_lightOrDarken 6 = .ok (.aload_n 0, 1) := by decide +kernel
theorem dX4_lightOrDarken_7 : decode cX4_lightOrDarken 7 = .ok (.aload_n 1, 1) := by decide +kernel
theorem dX4_lightOrDarken_8 : decode cX4_lightOrDarken 8 = .ok (.invokevirtual 97, 3) := by decide +kernel
theorem dX4_lightOrDarken_11 : decode cX4_lightOrDarken 11 = .ok (.astore_n 3, 1) := by decide +kernel
theorem dX4_lightOrDarken_12 : decode cX4_lightOrDarken 12 = .ok (.aload_n 3, 1) := by decide +kernel
theorem dX4_lightOrDarken_13 : decode cX4_lightOrDarken 13 = .ok (.ifnonnull 11, 3) := by decide +kernel
theorem dX4_lightOrDarken_16 : decode cX4_lightOrDarken 16 = .ok (.aload_n 1, 1) := by decide +kernel
theorem dX4_lightOrDarken_17 : decode cX4_lightOrDarken 17 = .ok (.iload_n 2, 1) := by decide +kernel
theorem dX4_lightOrDarken_18 : decode cX4_lightOrDarken 18 = .ok (.invokevirtual 156, 3) := by decide +kernel
theorem dX4_lightOrDarken_21 : decode cX4_lightOrDarken 21 = .ok (.goto 74, 3) := by decide +kernel
theorem dX4_lightOrDarken_24 : decode cX4_lightOrDarken 24 = .ok (.iload_n 2, 1) := by decide +kernel
theorem dX4_lightOrDarken_25 : decode cX4_lightOrDarken 25 = .ok (.ifCond .ne 36, 3) := by decide +kernel
theorem dX4_lightOrDarken_28 : decode cX4_lightOrDarken 28 = .ok (.aload_n 3, 1) := by decide +kernel
theorem dX4_lightOrDarken_29 : decode cX4_lightOrDarken 29 = .ok (.invokevirtual 159, 3) := by decide +kernel
theorem dX4_lightOrDarken_32 : decode cX4_lightOrDarken 32 = .ok (.aload_n 0, 1) := by decide +kernel
theorem dX4_lightOrDarken_33 : decode cX4_lightOrDarken 33 = .ok (.dup, 1) := by decide +kernel
theorem dX4_lightOrDarken_34 : decode cX4_lightOrDarken 34 = .ok (.getfield 38, 3) := by decide +kernel
theorem dX4_lightOrDarken_37 : decode cX4_lightOrDarken 37 = .ok (.aload_n 3, 1) := by decide +kernel
theorem dX4_lightOrDarken_38 : decode cX4_lightOrDarken 38 = .ok (.getfield 70, 3) := by decide +kernel
theorem dX4_lightOrDarken_41 : decode cX4_lightOrDarken 41 = .ok (.iadd, 1) := by decide +kernel
theorem dX4_lightOrDarken_42 : decode cX4_lightOrDarken 42 = .ok (.putfield 38, 3) := by decide +kernel
theorem dX4_lightOrDarken_45 : decode cX4_lightOrDarken 45 = .ok (.aload_n 1, 1) := by decide +kernel
theorem dX4_lightOrDarken_46 : decode cX4_lightOrDarken 46 = .ok (.aload_n 3, 1) := by decide +kernel
theorem dX4_lightOrDarken_47 : decode cX4_lightOrDarken 47 = .ok (.getfield 64, 3) := by decide +kernel
theorem dX4_lightOrDarken_50 : decode cX4_lightOrDarken 50 = .ok (.aload_n 0, 1) := by decide +kernel
theorem dX4_lightOrDarken_51 : decode cX4_lightOrDarken 51 = .ok (.getfield 15, 3) := by decide +kernel
theorem dX4_lightOrDarken_54 : decode cX4_lightOrDarken 54 = .ok (.imul, 1) := by decide +kernel
theorem dX4_lightOrDarken_55 : decode cX4_lightOrDarken 55 = .ok (.invokevirtual 162, 3) := by decide +kernel
theorem dX4_lightOrDarken_58 : decode cX4_lightOrDarken 58 = .ok (.goto 37, 3) := by decide +kernel
theorem dX4_lightOrDarken_61 : decode cX4_lightOrDarken 61 = .ok (.aload_n 1, 1) := by decide +kernel
theorem dX4_lightOrDarken_62 : decode cX4_lightOrDarken 62 = .ok (.iload_n 2, 1) := by decide +kernel
theorem dX4_lightOrDarken_63 : decode cX4_lightOrDarken 63 = .ok (.invokevirtual 156, 3) := by decide +kernel
theorem dX4_lightOrDarken_66 : decode cX4_lightOrDarken 66 = .ok (.aload_n 0, 1) := by decide +kernel
theorem dX4_lightOrDarken_67 : decode cX4_lightOrDarken 67 = .ok (.dup, 1) := by decide +kernel
theorem dX4_lightOrDarken_68 : decode cX4_lightOrDarken 68 = .ok (.getfield 44, 3) := by decide +kernel
theorem dX4_lightOrDarken_71 : decode cX4_lightOrDarken 71 = .ok (.iconst 1, 1) := by decide +kernel
theorem dX4_lightOrDarken_72 : decode cX4_lightOrDarken 72 = .ok (.iadd, 1) := by decide +kernel
theorem dX4_lightOrDarken_73 : decode cX4_lightOrDarken 73 = .ok (.putfield 44, 3) := by decide +kernel
theorem dX4_lightOrDarken_76 : decode cX4_lightOrDarken 76 = .ok (.aload_n 3, 1) := by decide +kernel
theorem dX4_lightOrDarken_77 : decode cX4_lightOrDarken 77 = .ok (.dup, 1) := by decide +kernel
theorem dX4_lightOrDarken_78 : decode cX4_lightOrDarken 78 = .ok (.getfield 165, 3) := by decide +kernel
theorem dX4_lightOrDarken_81 : decode cX4_lightOrDarken 81 = .ok (.iload_n 2, 1) := by decide +kernel
theorem dX4_lightOrDarken_82 : decode cX4_lightOrDarken 82 = .ok (.iconst 3, 1) := by decide +kernel
theorem dX4_lightOrDarken_83 : decode cX4_lightOrDarken 83 = .ok (.if_icmp .ne 7, 3) := by decide +kernel
theorem dX4_lightOrDarken_86 : decode cX4_lightOrDarken 86 = .ok (.iconst 1, 1) := by decide +kernel
theorem dX4_lightOrDarken_87 : decode cX4_lightOrDarken 87 = .ok (.goto 4, 3) := by decide +kernel
theorem dX4_lightOrDarken_90 : decode cX4_lightOrDarken 90 = .ok (.iconst 0, 1) := by decide +kernel
theorem dX4_lightOrDarken_91 : decode cX4_lightOrDarken 91 = .ok (.iadd, 1) := by decide +kernel
theorem dX4_lightOrDarken_92 : decode cX4_lightOrDarken 92 = .ok (.putfield 165, 3) := by decide +kernel
theorem dX4_lightOrDarken_95 : decode cX4_lightOrDarken 95 = .ok (.return_, 1) := by decide +kernel
theorem dX4_darkestSince_0 : decode cX4_darkestSince 0 = .ok (.bipush (-5), 2) := by decide +kernel
theorem dX4_darkestSince_2 : decode cX4_darkestSince 2 = .ok (.istore_n 2, 1) := by decide +kernel
theorem dX4_darkestSince_3 : decode cX4_darkestSince 3 = .ok (.iconst 0, 1) := by decide +kernel
theorem dX4_darkestSince_4 : decode cX4_darkestSince 4 = .ok (.istore_n 3, 1) := by decide +kernel
theorem dX4_darkestSince_5 : decode cX4_darkestSince 5 = .ok (.iconst 0, 1) := by decide +kernel
theorem dX4_darkestSince_6 : decode cX4_darkestSince 6 = .ok (.istore 4, 2) := by decide +kernel
theorem dX4_darkestSince_8 : decode cX4_darkestSince 8 = .ok (.iload 4, 2) := by decide +kernel
theorem dX4_darkestSince_10 : decode cX4_darkestSince 10 = .ok (.aload_n 1, 1) := by decide +kernel
theorem dX4_darkestSince_11 : decode cX4_darkestSince 11 = .ok (.getfield 50, 3) := by decide +kernel
theorem dX4_darkestSince_14 : decode cX4_darkestSince 14 = .ok (.if_icmp .ge 44, 3) := by decide +kernel
theorem dX4_darkestSince_17 : decode cX4_darkestSince 17 = .ok (.aload_n 0, 1) := by decide +kernel
theorem dX4_darkestSince_18 : decode cX4_darkestSince 18 = .ok (.getfield 26, 3) := by decide +kernel
theorem dX4_darkestSince_21 : decode cX4_darkestSince 21 = .ok (.iload 4, 2) := by decide +kernel
theorem dX4_darkestSince_23 : decode cX4_darkestSince 23 = .ok (.aaload, 1) := by decide +kernel
theorem dX4_darkestSince_24 : decode cX4_darkestSince 24 = .ok (.getfield 168, 3) := by decide +kernel
theorem dX4_darkestSince_27 : decode cX4_darkestSince 27 = .ok (.aload_n 1, 1) := by decide +kernel
theorem dX4_darkestSince_28 : decode cX4_darkestSince 28 = .ok (.getfield 26, 3) := by decide +kernel
theorem dX4_darkestSince_31 : decode cX4_darkestSince 31 = .ok (.iload 4, 2) := by decide +kernel
theorem dX4_darkestSince_33 : decode cX4_darkestSince 33 = .ok (.aaload, 1) := by decide +kernel
theorem dX4_darkestSince_34 : decode cX4_darkestSince 34 = .ok (.getfield 168, 3) := by decide +kernel
theorem dX4_darkestSince_37 : decode cX4_darkestSince 37 = .ok (.isub, 1) := by decide +kernel
theorem dX4_darkestSince_38 : decode cX4_darkestSince 38 = .ok (.istore 5, 2) := by decide +kernel
theorem dX4_darkestSince_40 : decode cX4_darkestSince 40 = .ok (.iload 5, 2) := by decide +kernel
theorem dX4_darkestSince_42 : decode cX4_darkestSince 42 = .ok (.iload_n 3, 1) := by decide +kernel
theorem dX4_darkestSince_43 : decode cX4_darkestSince 43 = .ok (.if_icmp .le 9, 3) := by decide +kernel
theorem dX4_darkestSince_46 : decode cX4_darkestSince 46 = .ok (.iload 4, 2) := by decide +kernel
theorem dX4_darkestSince_48 : decode cX4_darkestSince 48 = .ok (.istore_n 2, 1) := by decide +kernel
theorem dX4_darkestSince_49 : decode cX4_darkestSince 49 = .ok (.iload 5, 2) := by decide +kernel
theorem dX4_darkestSince_51 : decode cX4_darkestSince 51 = .ok (.istore_n 3, 1) := by decide +kernel
theorem dX4_darkestSince_52 : decode cX4_darkestSince 52 = .ok (.iinc 4 1, 3) := by decide +kernel
theorem dX4_darkestSince_55 : decode cX4_darkestSince 55 = .ok (.goto (-47), 3) := by decide +kernel
theorem dX4_darkestSince_58 : decode cX4_darkestSince 58 = .ok (.iload_n 2, 1) := by decide +kernel
theorem dX4_darkestSince_59 : decode cX4_darkestSince 59 = .ok (.ireturn, 1) := by decide +kernel
theorem dX4_yardSize_0 : decode cX4_yardSize 0 = .ok (.iconst 0, 1) := by decide +kernel
theorem dX4_yardSize_1 : decode cX4_yardSize 1 = .ok (.istore_n 1, 1) := by decide +kernel
theorem dX4_yardSize_2 : decode cX4_yardSize 2 = .ok (.iconst 0, 1) := by decide +kernel
theorem dX4_yardSize_3 : decode cX4_yardSize 3 = .ok (.istore_n 2, 1) := by decide +kernel
theorem dX4_yardSize_4 : decode cX4_yardSize 4 = .ok (.iload_n 2, 1) := by decide +kernel
theorem dX4_yardSize_5 : decode cX4_yardSize 5 = .ok (.aload_n 0, 1) := by decide +kernel
theorem dX4_yardSize_6 : decode cX4_yardSize 6 = .ok (.getfield 47, 3) := by decide +kernel
theorem dX4_yardSize_9 : decode cX4_yardSize 9 = .ok (.if_icmp .ge 31, 3) := by decide +kernel
theorem dX4_yardSize_12 : decode cX4_yardSize 12 = .ok (.iload_n 1, 1) := by decide +kernel
theorem dX4_yardSize_13 : decode cX4_yardSize 13 = .ok (.aload_n 0, 1) := by decide +kernel
theorem dX4_yardSize_14 : decode cX4_yardSize 14 = .ok (.getfield 20, 3) := by decide +kernel
theorem dX4_yardSize_17 : decode cX4_yardSize 17 = .ok (.iload_n 2, 1) := by decide +kernel
theorem dX4_yardSize_18 : decode cX4_yardSize 18 = .ok (.aaload, 1) := by decide +kernel
theorem dX4_yardSize_19 : decode cX4_yardSize 19 = .ok (.getfield 101, 3) := by decide +kernel
theorem dX4_yardSize_22 : decode cX4_yardSize 22 = .ok (.bipush (-5), 2) := by decide +kernel
theorem dX4_yardSize_24 : decode cX4_yardSize 24 = .ok (.if_icmp .ne 7, 3) := by decide +kernel
theorem dX4_yardSize_27 : decode cX4_yardSize 27 = .ok (.iconst 1, 1) := by decide +kernel
theorem dX4_yardSize_28 : decode cX4_yardSize 28 = .ok (.goto 4, 3) := by decide +kernel
theorem dX4_yardSize_31 : decode cX4_yardSize 31 = .ok (.iconst 0, 1) := by decide +kernel
theorem dX4_yardSize_32 : decode cX4_yardSize 32 = .ok (.iadd, 1) := by decide +kernel
theorem dX4_yardSize_33 : decode cX4_yardSize 33 = .ok (.istore_n 1, 1) := by decide +kernel
theorem dX4_yardSize_34 : decode cX4_yardSize 34 = .ok (.iinc 2 1, 3) := by decide +kernel
theorem dX4_yardSize_37 : decode cX4_yardSize 37 = .ok (.goto (-33), 3) := by decide +kernel
theorem dX4_yardSize_40 : decode cX4_yardSize 40 = .ok (.iload_n 1, 1) := by decide +kernel
theorem dX4_yardSize_41 : decode cX4_yardSize 41 = .ok (.ireturn, 1) := by decide +kernel
theorem dX4_fuelInTanks_0 : decode cX4_fuelInTanks 0 = .ok (.iconst 0, 1) := by decide +kernel
theorem dX4_fuelInTanks_1 : decode cX4_fuelInTanks 1 = .ok (.istore_n 1, 1) := by decide +kernel
theorem dX4_fuelInTanks_2 : decode cX4_fuelInTanks 2 = .ok (.iconst 0, 1) := by decide +kernel
theorem dX4_fuelInTanks_3 : decode cX4_fuelInTanks 3 = .ok (.istore_n 2, 1) := by decide +kernel
theorem dX4_fuelInTanks_4 : decode cX4_fuelInTanks 4 = .ok (.iload_n 2, 1) := by decide +kernel
theorem dX4_fuelInTanks_5 : decode cX4_fuelInTanks 5 = .ok (.aload_n 0, 1) := by decide +kernel
theorem dX4_fuelInTanks_6 : decode cX4_fuelInTanks 6 = .ok (.getfield 47, 3) := by decide +kernel
theorem dX4_fuelInTanks_9 : decode cX4_fuelInTanks 9 = .ok (.if_icmp .ge 21, 3) := by decide +kernel
theorem dX4_fuelInTanks_12 : decode cX4_fuelInTanks 12 = .ok (.iload_n 1, 1) := by decide +kernel
theorem dX4_fuelInTanks_13 : decode cX4_fuelInTanks 13 = .ok (.aload_n 0, 1) := by decide +kernel
theorem dX4_fuelInTanks_14 : decode cX4_fuelInTanks 14 = .ok (.getfield 20, 3) := by decide +kernel
theorem dX4_fuelInTanks_17 : decode cX4_fuelInTanks 17 = .ok (.iload_n 2, 1) := by decide +kernel
theorem dX4_fuelInTanks_18 : decode cX4_fuelInTanks 18 = .ok (.aaload, 1) := by decide +kernel
theorem dX4_fuelInTanks_19 : decode cX4_fuelInTanks 19 = .ok (.getfield 76, 3) := by decide +kernel
theorem dX4_fuelInTanks_22 : decode cX4_fuelInTanks 22 = .ok (.iadd, 1) := by decide +kernel
theorem dX4_fuelInTanks_23 : decode cX4_fuelInTanks 23 = .ok (.istore_n 1, 1) := by decide +kernel
theorem dX4_fuelInTanks_24 : decode cX4_fuelInTanks 24 = .ok (.iinc 2 1, 3) := by decide +kernel
theorem dX4_fuelInTanks_27 : decode cX4_fuelInTanks 27 = .ok (.goto (-23), 3) := by decide +kernel
theorem dX4_fuelInTanks_30 : decode cX4_fuelInTanks 30 = .ok (.iload_n 1, 1) := by decide +kernel
theorem dX4_fuelInTanks_31 : decode cX4_fuelInTanks 31 = .ok (.ireturn, 1) := by decide +kernel
theorem dX4_litTotal_0 : decode cX4_litTotal 0 = .ok (.iconst 0, 1) := by decide +kernel
theorem dX4_litTotal_1 : decode cX4_litTotal 1 = .ok (.istore_n 1, 1) := by decide +kernel
theorem dX4_litTotal_2 : decode cX4_litTotal 2 = .ok (.iconst 0, 1) := by decide +kernel
theorem dX4_litTotal_3 : decode cX4_litTotal 3 = .ok (.istore_n 2, 1) := by decide +kernel
theorem dX4_litTotal_4 : decode cX4_litTotal 4 = .ok (.iload_n 2, 1) := by decide +kernel
theorem dX4_litTotal_5 : decode cX4_litTotal 5 = .ok (.aload_n 0, 1) := by decide +kernel
theorem dX4_litTotal_6 : decode cX4_litTotal 6 = .ok (.getfield 50, 3) := by decide +kernel
theorem dX4_litTotal_9 : decode cX4_litTotal 9 = .ok (.if_icmp .ge 21, 3) := by decide +kernel
theorem dX4_litTotal_12 : decode cX4_litTotal 12 = .ok (.iload_n 1, 1) := by decide +kernel
theorem dX4_litTotal_13 : decode cX4_litTotal 13 = .ok (.aload_n 0, 1) := by decide +kernel
theorem dX4_litTotal_14 : decode cX4_litTotal 14 = .ok (.getfield 26, 3) := by decide +kernel
theorem dX4_litTotal_17 : decode cX4_litTotal 17 = .ok (.iload_n 2, 1) := by decide +kernel
theorem dX4_litTotal_18 : decode cX4_litTotal 18 = .ok (.aaload, 1) := by decide +kernel
theorem dX4_litTotal_19 : decode cX4_litTotal 19 = .ok (.getfield 171, 3) := by decide +kernel
theorem dX4_litTotal_22 : decode cX4_litTotal 22 = .ok (.iadd, 1) := by decide +kernel
theorem dX4_litTotal_23 : decode cX4_litTotal 23 = .ok (.istore_n 1, 1) := by decide +kernel
theorem dX4_litTotal_24 : decode cX4_litTotal 24 = .ok (.iinc 2 1, 3) := by decide +kernel
theorem dX4_litTotal_27 : decode cX4_litTotal 27 = .ok (.goto (-23), 3) := by decide +kernel
theorem dX4_litTotal_30 : decode cX4_litTotal 30 = .ok (.iload_n 1, 1) := by decide +kernel
theorem dX4_litTotal_31 : decode cX4_litTotal 31 = .ok (.ireturn, 1) := by decide +kernel
theorem dX4_darkTotal_0 : decode cX4_darkTotal 0 = .ok (.iconst 0, 1) := by decide +kernel
theorem dX4_darkTotal_1 : decode cX4_darkTotal 1 = .ok (.istore_n 1, 1) := by decide +kernel
theorem dX4_darkTotal_2 : decode cX4_darkTotal 2 = .ok (.iconst 0, 1) := by decide +kernel
theorem dX4_darkTotal_3 : decode cX4_darkTotal 3 = .ok (.istore_n 2, 1) := by decide +kernel
theorem dX4_darkTotal_4 : decode cX4_darkTotal 4 = .ok (.iload_n 2, 1) := by decide +kernel
theorem dX4_darkTotal_5 : decode cX4_darkTotal 5 = .ok (.aload_n 0, 1) := by decide +kernel
theorem dX4_darkTotal_6 : decode cX4_darkTotal 6 = .ok (.getfield 50, 3) := by decide +kernel
theorem dX4_darkTotal_9 : decode cX4_darkTotal 9 = .ok (.if_icmp .ge 21, 3) := by decide +kernel
theorem dX4_darkTotal_12 : decode cX4_darkTotal 12 = .ok (.iload_n 1, 1) := by decide +kernel
theorem dX4_darkTotal_13 : decode cX4_darkTotal 13 = .ok (.aload_n 0, 1) := by decide +kernel
theorem dX4_darkTotal_14 : decode cX4_darkTotal 14 = .ok (.getfield 26, 3) := by decide +kernel
theorem dX4_darkTotal_17 : decode cX4_darkTotal 17 = .ok (.iload_n 2, 1) := by decide +kernel
theorem dX4_darkTotal_18 : decode cX4_darkTotal 18 = .ok (.aaload, 1) := by decide +kernel
theorem dX4_darkTotal_19 : decode cX4_darkTotal 19 = .ok (.getfield 168, 3) := by decide +kernel
theorem dX4_darkTotal_22 : decode cX4_darkTotal 22 = .ok (.iadd, 1) := by decide +kernel
theorem dX4_darkTotal_23 : decode cX4_darkTotal 23 = .ok (.istore_n 1, 1) := by decide +kernel
theorem dX4_darkTotal_24 : decode cX4_darkTotal 24 = .ok (.iinc 2 1, 3) := by decide +kernel
theorem dX4_darkTotal_27 : decode cX4_darkTotal 27 = .ok (.goto (-23), 3) := by decide +kernel
theorem dX4_darkTotal_30 : decode cX4_darkTotal 30 = .ok (.iload_n 1, 1) := by decide +kernel
theorem dX4_darkTotal_31 : decode cX4_darkTotal 31 = .ok (.ireturn, 1) := by decide +kernel
theorem dX4_billTotal_0 : decode cX4_billTotal 0 = .ok (.iconst 0, 1) := by decide +kernel
theorem dX4_billTotal_1 : decode cX4_billTotal 1 = .ok (.istore_n 1, 1) := by decide +kernel
theorem dX4_billTotal_2 : decode cX4_billTotal 2 = .ok (.iconst 0, 1) := by decide +kernel
theorem dX4_billTotal_3 : decode cX4_billTotal 3 = .ok (.istore_n 2, 1) := by decide +kernel
theorem dX4_billTotal_4 : decode cX4_billTotal 4 = .ok (.iload_n 2, 1) := by decide +kernel
theorem dX4_billTotal_5 : decode cX4_billTotal 5 = .ok (.aload_n 0, 1) := by decide +kernel
theorem dX4_billTotal_6 : decode cX4_billTotal 6 = .ok (.getfield 50, 3) := by decide +kernel
theorem dX4_billTotal_9 : decode cX4_billTotal 9 = .ok (.if_icmp .ge 21, 3) := by decide +kernel
theorem dX4_billTotal_12 : decode cX4_billTotal 12 = .ok (.iload_n 1, 1) := by decide +kernel
theorem dX4_billTotal_13 : decode cX4_billTotal 13 = .ok (.aload_n 0, 1) := by decide +kernel
theorem dX4_billTotal_14 : decode cX4_billTotal 14 = .ok (.getfield 26, 3) := by decide +kernel
theorem dX4_billTotal_17 : decode cX4_billTotal 17 = .ok (.iload_n 2, 1) := by decide +kernel
theorem dX4_billTotal_18 : decode cX4_billTotal 18 = .ok (.aaload, 1) := by decide +kernel
theorem dX4_billTotal_19 : decode cX4_billTotal 19 = .ok (.getfield 174, 3) := by decide +kernel
theorem dX4_billTotal_22 : decode cX4_billTotal 22 = .ok (.iadd, 1) := by decide +kernel
theorem dX4_billTotal_23 : decode cX4_billTotal 23 = .ok (.istore_n 1, 1) := by decide +kernel
theorem dX4_billTotal_24 : decode cX4_billTotal 24 = .ok (.iinc 2 1, 3) := by decide +kernel
theorem dX4_billTotal_27 : decode cX4_billTotal 27 = .ok (.goto (-23), 3) := by decide +kernel
theorem dX4_billTotal_30 : decode cX4_billTotal 30 = .ok (.iload_n 1, 1) := by decide +kernel
theorem dX4_billTotal_31 : decode cX4_billTotal 31 = .ok (.ireturn, 1) := by decide +kernel
