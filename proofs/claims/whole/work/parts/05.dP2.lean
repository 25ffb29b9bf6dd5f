theorem d_P_sendToAll_18 : decode b_P_sendToAll 18 = .ok (.aload_n 0, 1) := by decide +kernel
theorem d_P_sendToAll_19 : decode b_P_sendToAll 19 = .ok (.getfield 37, 3) := by decide +kernel
theorem d_P_sendToAll_22 : decode b_P_sendToAll 22 = .ok (.iload_n 1, 1) := by decide +kernel
theorem d_P_sendToAll_23 : decode b_P_sendToAll 23 = .ok (.iload_n 2, 1) := by decide +kernel
theorem d_P_sendToAll_24 : decode b_P_sendToAll 24 = .ok (.iload 6, 2) := by decide +kernel
theorem d_P_sendToAll_26 : decode b_P_sendToAll 26 = .ok (.iload_n 3, 1) := by decide +kernel
theorem d_P_sendToAll_27 : decode b_P_sendToAll 27 = .ok (.iload 4, 2) := by decide +kernel
theorem d_P_sendToAll_29 : decode b_P_sendToAll 29 = .ok (.iload 5, 2) := by decide +kernel
theorem d_P_sendToAll_31 : decode b_P_sendToAll 31 = .ok (.iconst 0, 1) := by decide +kernel
theorem d_P_sendToAll_32 : decode b_P_sendToAll 32 = .ok (.invokevirtual 281, 3) := by decide +kernel
theorem d_P_sendToAll_35 : decode b_P_sendToAll 35 = .ok (.iinc 6 1, 3) := by decide +kernel
theorem d_P_sendToAll_38 : decode b_P_sendToAll 38 = .ok (.goto (-35), 3) := by decide +kernel
theorem d_P_sendToAll_41 : decode b_P_sendToAll 41 = .ok (.return_, 1) := by decide +kernel
