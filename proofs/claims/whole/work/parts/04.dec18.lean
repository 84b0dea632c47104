theorem d_L_law_713 : decode b_L_law 713 = .ok (.iinc 4 4, 3) := by decide +kernel
theorem d_L_law_716 : decode b_L_law 716 = .ok (.goto (-693), 3) := by decide +kernel
theorem d_L_law_719 : decode b_L_law 719 = .ok (.iconst 1, 1) := by decide +kernel
theorem d_L_law_720 : decode b_L_law 720 = .ok (.ireturn, 1) := by decide +kernel
