theorem dX6_commonDivisor_0 : decode cX6_commonDivisor 0 = .ok (.iload_n 0, 1) := by decide +kernel
theorem dX6_commonDivisor_1 : decode cX6_commonDivisor 1 = .ok (.istore_n 2, 1) := by decide +kernel
theorem dX6_commonDivisor_2 : decode cX6_commonDivisor 2 = .ok (.iload_n 1, 1) := by decide +kernel
theorem dX6_commonDivisor_3 : decode cX6_commonDivisor 3 = .ok (.istore_n 3, 1) := by decide +kernel
theorem dX6_commonDivisor_4 : decode cX6_commonDivisor 4 = .ok (.iconst 0, 1) := by decide +kernel
theorem dX6_commonDivisor_5 : decode cX6_commonDivisor 5 = .ok (.istore 4, 2) := by decide +kernel
theorem dX6_commonDivisor_7 : decode cX6_commonDivisor 7 = .ok (.iload 4, 2) := by decide +kernel
theorem dX6_commonDivisor_9 : decode cX6_commonDivisor 9 = .ok (.bipush 64, 2) := by decide +kernel
theorem dX6_commonDivisor_11 : decode cX6_commonDivisor 11 = .ok (.if_icmp .ge 23, 3) := by decide +kernel
theorem dX6_commonDivisor_34 : decode cX6_commonDivisor 34 = .ok (.iload_n 2, 1) := by decide +kernel
theorem dX6_commonDivisor_35 : decode cX6_commonDivisor 35 = .ok (.ireturn, 1) := by decide +kernel
theorem dX6_commonDivisor_14 : decode cX6_commonDivisor 14 = .ok (.iload_n 3, 1) := by decide +kernel
theorem dX6_commonDivisor_15 : decode cX6_commonDivisor 15 = .ok (.ifCond .eq 19, 3) := by decide +kernel
theorem dX6_commonDivisor_18 : decode cX6_commonDivisor 18 = .ok (.iload_n 2, 1) := by decide +kernel
theorem dX6_commonDivisor_19 : decode cX6_commonDivisor 19 = .ok (.iload_n 3, 1) := by decide +kernel
theorem dX6_commonDivisor_20 : decode cX6_commonDivisor 20 = .ok (.irem, 1) := by decide +kernel
theorem dX6_commonDivisor_21 : decode cX6_commonDivisor 21 = .ok (.istore 5, 2) := by decide +kernel
theorem dX6_commonDivisor_23 : decode cX6_commonDivisor 23 = .ok (.iload_n 3, 1) := by decide +kernel
theorem dX6_commonDivisor_24 : decode cX6_commonDivisor 24 = .ok (.istore_n 2, 1) := by decide +kernel
theorem dX6_commonDivisor_25 : decode cX6_commonDivisor 25 = .ok (.iload 5, 2) := by decide +kernel
theorem dX6_commonDivisor_27 : decode cX6_commonDivisor 27 = .ok (.istore_n 3, 1) := by decide +kernel
theorem dX6_commonDivisor_28 : decode cX6_commonDivisor 28 = .ok (.iinc 4 1, 3) := by decide +kernel
theorem dX6_commonDivisor_31 : decode cX6_commonDivisor 31 = .ok (.goto (-24), 3) := by decide +kernel
