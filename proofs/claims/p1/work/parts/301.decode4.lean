theorem dL_law_2114 : decode cL_law 2114 = .ok (.aload_n 2, 1) := by decide +kernel
theorem dL_law_2115 : decode cL_law 2115 = .ok (.aload_n 0, 1) := by decide +kernel
theorem dL_law_2116 : decode cL_law 2116 = .ok (.iload_n 3, 1) := by decide +kernel
theorem dL_law_2117 : decode cL_law 2117 = .ok (.iconst 1, 1) := by decide +kernel
theorem dL_law_2118 : decode cL_law 2118 = .ok (.iadd, 1) := by decide +kernel
theorem dL_law_2119 : decode cL_law 2119 = .ok (.iaload, 1) := by decide +kernel
theorem dL_law_2120 : decode cL_law 2120 = .ok (.aload_n 0, 1) := by decide +kernel
theorem dL_law_2121 : decode cL_law 2121 = .ok (.iload_n 3, 1) := by decide +kernel
theorem dL_law_2122 : decode cL_law 2122 = .ok (.iconst 2, 1) := by decide +kernel
theorem dL_law_2123 : decode cL_law 2123 = .ok (.iadd, 1) := by decide +kernel
theorem dL_law_2124 : decode cL_law 2124 = .ok (.iaload, 1) := by decide +kernel
theorem dL_law_2125 : decode cL_law 2125 = .ok (.aload_n 0, 1) := by decide +kernel
theorem dL_law_2126 : decode cL_law 2126 = .ok (.iload_n 3, 1) := by decide +kernel
theorem dL_law_2127 : decode cL_law 2127 = .ok (.iconst 3, 1) := by decide +kernel
theorem dL_law_2128 : decode cL_law 2128 = .ok (.iadd, 1) := by decide +kernel
theorem dL_law_2129 : decode cL_law 2129 = .ok (.iaload, 1) := by decide +kernel
theorem dL_law_2130 : decode cL_law 2130 = .ok (.aload_n 0, 1) := by decide +kernel
theorem dL_law_2131 : decode cL_law 2131 = .ok (.iload_n 3, 1) := by decide +kernel
theorem dL_law_2132 : decode cL_law 2132 = .ok (.iconst 4, 1) := by decide +kernel
theorem dL_law_2133 : decode cL_law 2133 = .ok (.iadd, 1) := by decide +kernel
theorem dL_law_2134 : decode cL_law 2134 = .ok (.iaload, 1) := by decide +kernel
theorem dL_law_2135 : decode cL_law 2135 = .ok (.aload_n 0, 1) := by decide +kernel
theorem dL_law_2136 : decode cL_law 2136 = .ok (.iload_n 3, 1) := by decide +kernel
theorem dL_law_2137 : decode cL_law 2137 = .ok (.iconst 5, 1) := by decide +kernel
theorem dL_law_2138 : decode cL_law 2138 = .ok (.iadd, 1) := by decide +kernel
theorem dL_law_2139 : decode cL_law 2139 = .ok (.iaload, 1) := by decide +kernel
theorem dL_law_2140 : decode cL_law 2140 = .ok (.invokevirtual 319, 3) := by decide +kernel
theorem dL_law_2143 : decode cL_law 2143 = .ok (.if_icmp .eq 5, 3) := by decide +kernel
theorem dL_law_2148 : decode cL_law 2148 = .ok (.iinc 3 6, 3) := by decide +kernel
theorem dL_law_2151 : decode cL_law 2151 = .ok (.goto (-2133), 3) := by decide +kernel
theorem dL_law_2154 : decode cL_law 2154 = .ok (.iconst 1, 1) := by decide +kernel
theorem dL_law_2155 : decode cL_law 2155 = .ok (.ireturn, 1) := by decide +kernel
