theorem d_M_count_36 : decode b_M_count 36 = .ok (.getfield 16, 3) := by decide +kernel
theorem d_M_count_39 : decode b_M_count 39 = .ok (.bipush 32, 2) := by decide +kernel
theorem d_M_count_41 : decode b_M_count 41 = .ok (.iload_n 1, 1) := by decide +kernel
theorem d_M_count_42 : decode b_M_count 42 = .ok (.imul, 1) := by decide +kernel
theorem d_M_count_43 : decode b_M_count 43 = .ok (.bipush 8, 2) := by decide +kernel
theorem d_M_count_45 : decode b_M_count 45 = .ok (.iload_n 2, 1) := by decide +kernel
theorem d_M_count_46 : decode b_M_count 46 = .ok (.imul, 1) := by decide +kernel
theorem d_M_count_47 : decode b_M_count 47 = .ok (.iadd, 1) := by decide +kernel
theorem d_M_count_48 : decode b_M_count 48 = .ok (.iload_n 3, 1) := by decide +kernel
theorem d_M_count_49 : decode b_M_count 49 = .ok (.iadd, 1) := by decide +kernel
theorem d_M_count_50 : decode b_M_count 50 = .ok (.laload, 1) := by decide +kernel
theorem d_M_count_51 : decode b_M_count 51 = .ok (.lreturn, 1) := by decide +kernel
