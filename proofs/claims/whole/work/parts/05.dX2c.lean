theorem dX2_count_17 : decode cX2_count 17 = .ok (.aload_n 0, 1) := by decide +kernel
theorem dX2_count_18 : decode cX2_count 18 = .ok (.getfield 29, 3) := by decide +kernel
theorem dX2_count_21 : decode cX2_count 21 = .ok (.if_icmp .ge 33, 3) := by decide +kernel
theorem dX2_count_24 : decode cX2_count 24 = .ok (.iload_n 2, 1) := by decide +kernel
theorem dX2_count_25 : decode cX2_count 25 = .ok (.aload_n 0, 1) := by decide +kernel
theorem dX2_count_26 : decode cX2_count 26 = .ok (.getfield 7, 3) := by decide +kernel
theorem dX2_count_29 : decode cX2_count 29 = .ok (.bipush 24, 2) := by decide +kernel
theorem dX2_count_31 : decode cX2_count 31 = .ok (.iload_n 3, 1) := by decide +kernel
theorem dX2_count_32 : decode cX2_count 32 = .ok (.imul, 1) := by decide +kernel
theorem dX2_count_33 : decode cX2_count 33 = .ok (.iload 4, 2) := by decide +kernel
theorem dX2_count_35 : decode cX2_count 35 = .ok (.iadd, 1) := by decide +kernel
theorem dX2_count_36 : decode cX2_count 36 = .ok (.iaload, 1) := by decide +kernel
theorem dX2_count_37 : decode cX2_count 37 = .ok (.iload_n 1, 1) := by decide +kernel
theorem dX2_count_38 : decode cX2_count 38 = .ok (.if_icmp .ne 7, 3) := by decide +kernel
theorem dX2_count_41 : decode cX2_count 41 = .ok (.iconst 1, 1) := by decide +kernel
theorem dX2_count_42 : decode cX2_count 42 = .ok (.goto 4, 3) := by decide +kernel
theorem dX2_count_45 : decode cX2_count 45 = .ok (.iconst 0, 1) := by decide +kernel
theorem dX2_count_46 : decode cX2_count 46 = .ok (.iadd, 1) := by decide +kernel
theorem dX2_count_47 : decode cX2_count 47 = .ok (.istore_n 2, 1) := by decide +kernel
theorem dX2_count_48 : decode cX2_count 48 = .ok (.iinc 4 1, 3) := by decide +kernel
theorem dX2_count_51 : decode cX2_count 51 = .ok (.goto (-36), 3) := by decide +kernel
theorem dX2_count_54 : decode cX2_count 54 = .ok (.iinc 3 1, 3) := by decide +kernel
theorem dX2_count_57 : decode cX2_count 57 = .ok (.goto (-53), 3) := by decide +kernel
theorem dX2_count_60 : decode cX2_count 60 = .ok (.iload_n 2, 1) := by decide +kernel
theorem dX2_count_61 : decode cX2_count 61 = .ok (.ireturn, 1) := by decide +kernel
