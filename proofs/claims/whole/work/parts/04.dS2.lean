theorem d_S_lifts_84 : decode b_S_lifts 84 = .ok (.aload_n 1, 1) := by decide +kernel
theorem d_S_lifts_85 : decode b_S_lifts 85 = .ok (.getfield 54, 3) := by decide +kernel
theorem d_S_lifts_88 : decode b_S_lifts 88 = .ok (.iconst 0, 1) := by decide +kernel
theorem d_S_lifts_89 : decode b_S_lifts 89 = .ok (.bipush 12, 2) := by decide +kernel
theorem d_S_lifts_91 : decode b_S_lifts 91 = .ok (.invokestatic 66, 3) := by decide +kernel
theorem d_S_lifts_94 : decode b_S_lifts 94 = .ok (.iconst 0, 1) := by decide +kernel
theorem d_S_lifts_95 : decode b_S_lifts 95 = .ok (.ireturn, 1) := by decide +kernel
