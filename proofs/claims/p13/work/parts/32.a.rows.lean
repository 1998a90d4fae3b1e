theorem dX8_reached_0 : decode cX8_reached 0 = .ok (.aload_n 0, 1) := by decide +kernel
theorem dX8_reached_1 : decode cX8_reached 1 = .ok (.getfield 19, 3) := by decide +kernel
theorem dX8_reached_4 : decode cX8_reached 4 = .ok (.ireturn, 1) := by decide +kernel
theorem dX8_letters_0 : decode cX8_letters 0 = .ok (.aload_n 0, 1) := by decide +kernel
theorem dX8_letters_1 : decode cX8_letters 1 = .ok (.getfield 29, 3) := by decide +kernel
theorem dX8_letters_4 : decode cX8_letters 4 = .ok (.ireturn, 1) := by decide +kernel
