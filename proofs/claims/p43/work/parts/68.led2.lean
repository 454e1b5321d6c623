theorem dL_led_7 : decode cL_led 7 = .ok (.i2l, 1) := bo_133 (by decide +kernel)
theorem dL_led_8 : decode cL_led 8 = .ok (.lastore, 1) := bo_80 (by decide +kernel)
theorem dL_led_9 : decode cL_led 9 = .ok (.goto 6, 3) := bo_167 0 6 (by decide +kernel)
theorem dL_led_15 : decode cL_led 15 = .ok (.iconst 0, 1) := bo_3 (by decide +kernel)
theorem dL_led_16 : decode cL_led 16 = .ok (.ireturn, 1) := bo_172 (by decide +kernel)
theorem kl_led : bw_KS RL yL_led (Cond.codeWith yL_led cL_led 4 (some .int) [(0, 9, 12, 13)]) := ⟨bw_m 1081 (by decide +kernel) rfl, bw_m 93 (by decide +kernel) rfl, bw_m 1082 (by decide +kernel) rfl⟩
