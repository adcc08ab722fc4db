theorem dL_law_1494 : decode cL_law 1494 = .ok (.ifCond .eq 5, 3) := by decide +kernel
theorem dL_law_1497 : decode cL_law 1497 = .ok (.iconst 0, 1) := by decide +kernel
theorem dL_law_1498 : decode cL_law 1498 = .ok (.ireturn, 1) := by decide +kernel
theorem dL_law_1499 : decode cL_law 1499 = .ok (.goto 3, 3) := by decide +kernel
theorem dL_law_1502 : decode cL_law 1502 = .ok (.iinc 4 4, 3) := by decide +kernel
theorem dL_law_1505 : decode cL_law 1505 = .ok (.goto (-1482), 3) := by decide +kernel
theorem dL_law_1508 : decode cL_law 1508 = .ok (.iconst 1, 1) := by decide +kernel
theorem dL_law_1509 : decode cL_law 1509 = .ok (.ireturn, 1) := by decide +kernel
