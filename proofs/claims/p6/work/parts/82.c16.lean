theorem B112_0_1 : s_dk T112.2.2.1 0 [.aload_n 0] 1 = true := by decide +kernel
theorem D112_1 : decode T112.2.2.1 1 = .ok (.invokevirtual 149, 3) := by decide +kernel
theorem B112_4_6 : s_dk T112.2.2.1 4 [.istore_n 1, .aload_n 0] 6 = true := by decide +kernel
theorem D112_6 : decode T112.2.2.1 6 = .ok (.getfield 10, 3) := by decide +kernel
theorem D112_9 : decode T112.2.2.1 9 = .ok (.getfield 237, 3) := by decide +kernel
theorem B112_12_14 : s_dk T112.2.2.1 12 [.bipush 8] 14 = true := by decide +kernel
theorem D112_14 : decode T112.2.2.1 14 = .ok (.if_icmp .lt 10, 3) := by decide +kernel
theorem B112_24_25 : s_dk T112.2.2.1 24 [.aload_n 0] 25 = true := by decide +kernel
theorem D112_25 : decode T112.2.2.1 25 = .ok (.getfield 37, 3) := by decide +kernel
theorem B112_28_29 : s_dk T112.2.2.1 28 [.aload_n 0] 29 = true := by decide +kernel
theorem D112_29 : decode T112.2.2.1 29 = .ok (.getfield 20, 3) := by decide +kernel
theorem B112_32_33 : s_dk T112.2.2.1 32 [.iload_n 1] 33 = true := by decide +kernel
theorem B112_17_20 : s_dk T112.2.2.1 17 [.aload_n 0, .bipush (-5)] 20 = true := by decide +kernel
theorem D112_20 : decode T112.2.2.1 20 = .ok (.invokevirtual 106, 3) := by decide +kernel
theorem D112_23 : decode T112.2.2.1 23 = .ok (.ireturn, 1) := by decide +kernel