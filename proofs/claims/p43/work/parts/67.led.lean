theorem dX8_led_25 : decode cX8_led 25 = .ok (.iload_n 2, 1) := bo_28 (by decide +kernel)
theorem dX8_led_26 : decode cX8_led 26 = .ok (.ireturn, 1) := bo_172 (by decide +kernel)