theorem d_law_832 : decode code 832 = .ok (.ireturn, 1) := by decide +kernel
theorem d_law_833 : decode code 833 = .ok (.iinc 3 5, 3) := by decide +kernel
theorem d_law_836 : decode code 836 = .ok (.goto (-818), 3) := by decide +kernel
theorem d_law_839 : decode code 839 = .ok (.iconst 1, 1) := by decide +kernel
theorem d_law_840 : decode code 840 = .ok (.ireturn, 1) := by decide +kernel
