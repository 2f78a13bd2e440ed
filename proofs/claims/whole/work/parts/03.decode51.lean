theorem d_Md_alexander_12 : decode b_Md_alexander 12 = .ok (.iconst 1, 1) := by decide +kernel
theorem d_Md_alexander_13 : decode b_Md_alexander 13 = .ok (.isub, 1) := by decide +kernel
theorem d_Md_alexander_14 : decode b_Md_alexander 14 = .ok (.istore_n 1, 1) := by decide +kernel
theorem d_Md_alexander_15 : decode b_Md_alexander 15 = .ok (.iload_n 1, 1) := by decide +kernel
theorem d_Md_alexander_16 : decode b_Md_alexander 16 = .ok (.ifCond .lt 14, 3) := by decide +kernel
theorem d_Md_alexander_30 : decode b_Md_alexander 30 = .ok (.return_, 1) := by decide +kernel
theorem d_Md_alexander_19 : decode b_Md_alexander 19 = .ok (.iload_n 1, 1) := by decide +kernel
theorem d_Md_alexander_20 : decode b_Md_alexander 20 = .ok (.aload_n 0, 1) := by decide +kernel
theorem d_Md_alexander_21 : decode b_Md_alexander 21 = .ok (.getfield 37, 3) := by decide +kernel
theorem d_Md_alexander_24 : decode b_Md_alexander 24 = .ok (.getfield 312, 3) := by decide +kernel
theorem d_Md_alexander_27 : decode b_Md_alexander 27 = .ok (.if_icmp .le 4, 3) := by decide +kernel
theorem d_Md_alexander_31 : decode b_Md_alexander 31 = .ok (.aload_n 0, 1) := by decide +kernel
theorem d_Md_alexander_32 : decode b_Md_alexander 32 = .ok (.invokevirtual 499, 3) := by decide +kernel
theorem d_Md_alexander_35 : decode b_Md_alexander 35 = .ok (.iconst 0, 1) := by decide +kernel
theorem d_Md_alexander_36 : decode b_Md_alexander 36 = .ok (.istore_n 2, 1) := by decide +kernel
