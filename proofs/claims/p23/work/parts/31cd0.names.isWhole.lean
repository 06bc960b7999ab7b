/-! ===== the names of the law: isWhole (printed; those that the walks use) ===== -/
theorem dL_isWhole_0 : decode cL_isWhole 0 = .ok (.iconst 1, 1) := by decide +kernel
theorem dL_isWhole_1 : decode cL_isWhole 1 = .ok (.istore_n 2, 1) := by decide +kernel
theorem dL_isWhole_2 : decode cL_isWhole 2 = .ok (.iconst 0, 1) := by decide +kernel
theorem dL_isWhole_3 : decode cL_isWhole 3 = .ok (.istore_n 3, 1) := by decide +kernel
theorem dL_isWhole_4 : decode cL_isWhole 4 = .ok (.iload_n 3, 1) := by decide +kernel
theorem dL_isWhole_5 : decode cL_isWhole 5 = .ok (.aload_n 1, 1) := by decide +kernel
theorem dL_isWhole_6 : decode cL_isWhole 6 = .ok (.iconst 2, 1) := by decide +kernel
theorem dL_isWhole_7 : decode cL_isWhole 7 = .ok (.iaload, 1) := by decide +kernel
theorem dL_isWhole_8 : decode cL_isWhole 8 = .ok (.if_icmp .ge 178, 3) := by decide +kernel
theorem dL_isWhole_186 : decode cL_isWhole 186 = .ok (.iconst 0, 1) := by decide +kernel
theorem dL_isWhole_187 : decode cL_isWhole 187 = .ok (.istore_n 3, 1) := by decide +kernel
theorem dL_isWhole_188 : decode cL_isWhole 188 = .ok (.iload_n 3, 1) := by decide +kernel
theorem dL_isWhole_189 : decode cL_isWhole 189 = .ok (.aload_n 1, 1) := by decide +kernel
theorem dL_isWhole_190 : decode cL_isWhole 190 = .ok (.iconst 1, 1) := by decide +kernel
theorem dL_isWhole_191 : decode cL_isWhole 191 = .ok (.iaload, 1) := by decide +kernel
theorem dL_isWhole_192 : decode cL_isWhole 192 = .ok (.if_icmp .ge 389, 3) := by decide +kernel
theorem dL_isWhole_581 : decode cL_isWhole 581 = .ok (.iload_n 2, 1) := by decide +kernel
theorem dL_isWhole_582 : decode cL_isWhole 582 = .ok (.ireturn, 1) := by decide +kernel
