theorem dX1_translate_42 : decode cX1_translate 42 = .ok (.aload_n 0, 1) := by decide +kernel
theorem dX1_translate_43 : decode cX1_translate 43 = .ok (.getfield 54, 3) := by decide +kernel
theorem dX1_translate_46 : decode cX1_translate 46 = .ok (.isub, 1) := by decide +kernel
theorem dX1_translate_47 : decode cX1_translate 47 = .ok (.goto 4, 3) := by decide +kernel
theorem dX1_translate_50 : decode cX1_translate 50 = .ok (.iload_n 3, 1) := by decide +kernel
theorem dX1_translate_51 : decode cX1_translate 51 = .ok (.ireturn, 1) := by decide +kernel
