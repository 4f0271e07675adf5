theorem dL_law_2118 : decode cL_law 2118 = .ok (.aload_n 0, 1) := by decide +kernel
theorem dL_law_2119 : decode cL_law 2119 = .ok (.iload_n 3, 1) := by decide +kernel
theorem dL_law_2120 : decode cL_law 2120 = .ok (.iconst 2, 1) := by decide +kernel
theorem dL_law_2121 : decode cL_law 2121 = .ok (.iadd, 1) := by decide +kernel
theorem dL_law_2122 : decode cL_law 2122 = .ok (.iaload, 1) := by decide +kernel
theorem dL_law_2123 : decode cL_law 2123 = .ok (.aload_n 0, 1) := by decide +kernel
theorem dL_law_2124 : decode cL_law 2124 = .ok (.iload_n 3, 1) := by decide +kernel
theorem dL_law_2125 : decode cL_law 2125 = .ok (.iconst 3, 1) := by decide +kernel
theorem dL_law_2126 : decode cL_law 2126 = .ok (.iadd, 1) := by decide +kernel
theorem dL_law_2127 : decode cL_law 2127 = .ok (.iaload, 1) := by decide +kernel
theorem dL_law_2128 : decode cL_law 2128 = .ok (.aload_n 0, 1) := by decide +kernel
theorem dL_law_2129 : decode cL_law 2129 = .ok (.iload_n 3, 1) := by decide +kernel
theorem dL_law_2130 : decode cL_law 2130 = .ok (.iconst 4, 1) := by decide +kernel
theorem dL_law_2131 : decode cL_law 2131 = .ok (.iadd, 1) := by decide +kernel
theorem dL_law_2132 : decode cL_law 2132 = .ok (.iaload, 1) := by decide +kernel
theorem dL_law_2133 : decode cL_law 2133 = .ok (.aload_n 0, 1) := by decide +kernel
theorem dL_law_2134 : decode cL_law 2134 = .ok (.iload_n 3, 1) := by decide +kernel
theorem dL_law_2135 : decode cL_law 2135 = .ok (.iconst 5, 1) := by decide +kernel
theorem dL_law_2136 : decode cL_law 2136 = .ok (.iadd, 1) := by decide +kernel
theorem dL_law_2137 : decode cL_law 2137 = .ok (.iaload, 1) := by decide +kernel
theorem dL_law_2138 : decode cL_law 2138 = .ok (.invokevirtual 319, 3) := by decide +kernel
theorem dL_law_2141 : decode cL_law 2141 = .ok (.if_icmp .eq 5, 3) := by decide +kernel
theorem dL_law_2146 : decode cL_law 2146 = .ok (.iinc 3 6, 3) := by decide +kernel
theorem dL_law_2149 : decode cL_law 2149 = .ok (.goto (-2131), 3) := by decide +kernel
theorem dL_law_2152 : decode cL_law 2152 = .ok (.iconst 1, 1) := by decide +kernel
theorem dL_law_2153 : decode cL_law 2153 = .ok (.ireturn, 1) := by decide +kernel
