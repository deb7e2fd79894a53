theorem dL_law_2020 : decode cL_law 2020 = .ok (.invokevirtual 273, 3) := by decide +kernel
theorem dL_law_2023 : decode cL_law 2023 = .ok (.if_icmp .eq 339, 3) := by decide +kernel
theorem dL_law_2028 : decode cL_law 2028 = .ok (.aload_n 1, 1) := by decide +kernel
theorem dL_law_2029 : decode cL_law 2029 = .ok (.aload_n 0, 1) := by decide +kernel
theorem dL_law_2030 : decode cL_law 2030 = .ok (.iload_n 3, 1) := by decide +kernel
theorem dL_law_2031 : decode cL_law 2031 = .ok (.iconst 1, 1) := by decide +kernel
theorem dL_law_2032 : decode cL_law 2032 = .ok (.iadd, 1) := by decide +kernel
theorem dL_law_2033 : decode cL_law 2033 = .ok (.iaload, 1) := by decide +kernel
theorem dL_law_2034 : decode cL_law 2034 = .ok (.aload_n 0, 1) := by decide +kernel
theorem dL_law_2035 : decode cL_law 2035 = .ok (.iload_n 3, 1) := by decide +kernel
theorem dL_law_2036 : decode cL_law 2036 = .ok (.iconst 2, 1) := by decide +kernel
theorem dL_law_2037 : decode cL_law 2037 = .ok (.iadd, 1) := by decide +kernel
theorem dL_law_2038 : decode cL_law 2038 = .ok (.iaload, 1) := by decide +kernel
theorem dL_law_2039 : decode cL_law 2039 = .ok (.aload_n 0, 1) := by decide +kernel
theorem dL_law_2040 : decode cL_law 2040 = .ok (.iload_n 3, 1) := by decide +kernel
theorem dL_law_2041 : decode cL_law 2041 = .ok (.iconst 3, 1) := by decide +kernel
theorem dL_law_2042 : decode cL_law 2042 = .ok (.iadd, 1) := by decide +kernel
theorem dL_law_2043 : decode cL_law 2043 = .ok (.iaload, 1) := by decide +kernel
theorem dL_law_2044 : decode cL_law 2044 = .ok (.aload_n 0, 1) := by decide +kernel
theorem dL_law_2045 : decode cL_law 2045 = .ok (.iload_n 3, 1) := by decide +kernel
theorem dL_law_2046 : decode cL_law 2046 = .ok (.iconst 4, 1) := by decide +kernel
theorem dL_law_2047 : decode cL_law 2047 = .ok (.iadd, 1) := by decide +kernel
theorem dL_law_2048 : decode cL_law 2048 = .ok (.iaload, 1) := by decide +kernel
theorem dL_law_2049 : decode cL_law 2049 = .ok (.invokevirtual 274, 3) := by decide +kernel
theorem dL_law_2052 : decode cL_law 2052 = .ok (.aload_n 2, 1) := by decide +kernel
theorem dL_law_2053 : decode cL_law 2053 = .ok (.aload_n 0, 1) := by decide +kernel
theorem dL_law_2054 : decode cL_law 2054 = .ok (.iload_n 3, 1) := by decide +kernel
theorem dL_law_2055 : decode cL_law 2055 = .ok (.iconst 1, 1) := by decide +kernel
theorem dL_law_2056 : decode cL_law 2056 = .ok (.iadd, 1) := by decide +kernel
theorem dL_law_2057 : decode cL_law 2057 = .ok (.iaload, 1) := by decide +kernel
theorem dL_law_2058 : decode cL_law 2058 = .ok (.aload_n 0, 1) := by decide +kernel
theorem dL_law_2059 : decode cL_law 2059 = .ok (.iload_n 3, 1) := by decide +kernel
theorem dL_law_2060 : decode cL_law 2060 = .ok (.iconst 2, 1) := by decide +kernel
theorem dL_law_2061 : decode cL_law 2061 = .ok (.iadd, 1) := by decide +kernel
theorem dL_law_2062 : decode cL_law 2062 = .ok (.iaload, 1) := by decide +kernel
theorem dL_law_2063 : decode cL_law 2063 = .ok (.aload_n 0, 1) := by decide +kernel
theorem dL_law_2064 : decode cL_law 2064 = .ok (.iload_n 3, 1) := by decide +kernel
theorem dL_law_2065 : decode cL_law 2065 = .ok (.iconst 3, 1) := by decide +kernel
theorem dL_law_2066 : decode cL_law 2066 = .ok (.iadd, 1) := by decide +kernel
theorem dL_law_2067 : decode cL_law 2067 = .ok (.iaload, 1) := by decide +kernel
theorem dL_law_2068 : decode cL_law 2068 = .ok (.aload_n 0, 1) := by decide +kernel
theorem dL_law_2069 : decode cL_law 2069 = .ok (.iload_n 3, 1) := by decide +kernel
theorem dL_law_2070 : decode cL_law 2070 = .ok (.iconst 4, 1) := by decide +kernel
theorem dL_law_2071 : decode cL_law 2071 = .ok (.iadd, 1) := by decide +kernel
theorem dL_law_2072 : decode cL_law 2072 = .ok (.iaload, 1) := by decide +kernel
theorem dL_law_2073 : decode cL_law 2073 = .ok (.invokevirtual 278, 3) := by decide +kernel
theorem dL_law_2076 : decode cL_law 2076 = .ok (.if_icmp .eq 286, 3) := by decide +kernel
theorem dL_law_2081 : decode cL_law 2081 = .ok (.aload_n 1, 1) := by decide +kernel
theorem dL_law_2082 : decode cL_law 2082 = .ok (.aload_n 0, 1) := by decide +kernel
theorem dL_law_2083 : decode cL_law 2083 = .ok (.iload_n 3, 1) := by decide +kernel
theorem dL_law_2084 : decode cL_law 2084 = .ok (.iconst 1, 1) := by decide +kernel
theorem dL_law_2085 : decode cL_law 2085 = .ok (.iadd, 1) := by decide +kernel
theorem dL_law_2086 : decode cL_law 2086 = .ok (.iaload, 1) := by decide +kernel
theorem dL_law_2087 : decode cL_law 2087 = .ok (.aload_n 0, 1) := by decide +kernel
theorem dL_law_2088 : decode cL_law 2088 = .ok (.iload_n 3, 1) := by decide +kernel
theorem dL_law_2089 : decode cL_law 2089 = .ok (.iconst 2, 1) := by decide +kernel
theorem dL_law_2090 : decode cL_law 2090 = .ok (.iadd, 1) := by decide +kernel
theorem dL_law_2091 : decode cL_law 2091 = .ok (.iaload, 1) := by decide +kernel
theorem dL_law_2092 : decode cL_law 2092 = .ok (.invokevirtual 279, 3) := by decide +kernel
theorem dL_law_2095 : decode cL_law 2095 = .ok (.aload_n 2, 1) := by decide +kernel
theorem dL_law_2096 : decode cL_law 2096 = .ok (.aload_n 0, 1) := by decide +kernel
theorem dL_law_2097 : decode cL_law 2097 = .ok (.iload_n 3, 1) := by decide +kernel
theorem dL_law_2098 : decode cL_law 2098 = .ok (.iconst 1, 1) := by decide +kernel
theorem dL_law_2099 : decode cL_law 2099 = .ok (.iadd, 1) := by decide +kernel
theorem dL_law_2100 : decode cL_law 2100 = .ok (.iaload, 1) := by decide +kernel
theorem dL_law_2101 : decode cL_law 2101 = .ok (.aload_n 0, 1) := by decide +kernel
theorem dL_law_2102 : decode cL_law 2102 = .ok (.iload_n 3, 1) := by decide +kernel
theorem dL_law_2103 : decode cL_law 2103 = .ok (.iconst 2, 1) := by decide +kernel
theorem dL_law_2104 : decode cL_law 2104 = .ok (.iadd, 1) := by decide +kernel
theorem dL_law_2105 : decode cL_law 2105 = .ok (.iaload, 1) := by decide +kernel
theorem dL_law_2106 : decode cL_law 2106 = .ok (.invokevirtual 282, 3) := by decide +kernel
theorem dL_law_2109 : decode cL_law 2109 = .ok (.if_icmp .eq 253, 3) := by decide +kernel
theorem dL_law_2114 : decode cL_law 2114 = .ok (.aload_n 1, 1) := by decide +kernel
theorem dL_law_2115 : decode cL_law 2115 = .ok (.aload_n 0, 1) := by decide +kernel
theorem dL_law_2116 : decode cL_law 2116 = .ok (.iload_n 3, 1) := by decide +kernel
theorem dL_law_2117 : decode cL_law 2117 = .ok (.iconst 1, 1) := by decide +kernel
theorem dL_law_2118 : decode cL_law 2118 = .ok (.iadd, 1) := by decide +kernel
theorem dL_law_2119 : decode cL_law 2119 = .ok (.iaload, 1) := by decide +kernel
theorem dL_law_2120 : decode cL_law 2120 = .ok (.invokevirtual 283, 3) := by decide +kernel
theorem dL_law_2123 : decode cL_law 2123 = .ok (.aload_n 2, 1) := by decide +kernel
theorem dL_law_2124 : decode cL_law 2124 = .ok (.aload_n 0, 1) := by decide +kernel
theorem dL_law_2125 : decode cL_law 2125 = .ok (.iload_n 3, 1) := by decide +kernel
theorem dL_law_2126 : decode cL_law 2126 = .ok (.iconst 1, 1) := by decide +kernel
theorem dL_law_2127 : decode cL_law 2127 = .ok (.iadd, 1) := by decide +kernel
theorem dL_law_2128 : decode cL_law 2128 = .ok (.iaload, 1) := by decide +kernel
theorem dL_law_2129 : decode cL_law 2129 = .ok (.invokevirtual 286, 3) := by decide +kernel
theorem dL_law_2132 : decode cL_law 2132 = .ok (.if_icmp .eq 230, 3) := by decide +kernel
theorem dL_law_2137 : decode cL_law 2137 = .ok (.aload_n 1, 1) := by decide +kernel
theorem dL_law_2138 : decode cL_law 2138 = .ok (.aload_n 0, 1) := by decide +kernel
theorem dL_law_2139 : decode cL_law 2139 = .ok (.iload_n 3, 1) := by decide +kernel
theorem dL_law_2140 : decode cL_law 2140 = .ok (.iconst 1, 1) := by decide +kernel
theorem dL_law_2141 : decode cL_law 2141 = .ok (.iadd, 1) := by decide +kernel
theorem dL_law_2142 : decode cL_law 2142 = .ok (.iaload, 1) := by decide +kernel
theorem dL_law_2143 : decode cL_law 2143 = .ok (.invokevirtual 287, 3) := by decide +kernel
theorem dL_law_2146 : decode cL_law 2146 = .ok (.aload_n 2, 1) := by decide +kernel
theorem dL_law_2147 : decode cL_law 2147 = .ok (.aload_n 0, 1) := by decide +kernel
theorem dL_law_2148 : decode cL_law 2148 = .ok (.iload_n 3, 1) := by decide +kernel
theorem dL_law_2149 : decode cL_law 2149 = .ok (.iconst 1, 1) := by decide +kernel
theorem dL_law_2150 : decode cL_law 2150 = .ok (.iadd, 1) := by decide +kernel
theorem dL_law_2151 : decode cL_law 2151 = .ok (.iaload, 1) := by decide +kernel
theorem dL_law_2152 : decode cL_law 2152 = .ok (.invokevirtual 290, 3) := by decide +kernel
theorem dL_law_2155 : decode cL_law 2155 = .ok (.if_icmp .eq 207, 3) := by decide +kernel
theorem dL_law_2160 : decode cL_law 2160 = .ok (.aload_n 1, 1) := by decide +kernel
theorem dL_law_2161 : decode cL_law 2161 = .ok (.aload_n 0, 1) := by decide +kernel
theorem dL_law_2162 : decode cL_law 2162 = .ok (.iload_n 3, 1) := by decide +kernel
theorem dL_law_2163 : decode cL_law 2163 = .ok (.iconst 1, 1) := by decide +kernel
theorem dL_law_2164 : decode cL_law 2164 = .ok (.iadd, 1) := by decide +kernel
theorem dL_law_2165 : decode cL_law 2165 = .ok (.iaload, 1) := by decide +kernel
theorem dL_law_2166 : decode cL_law 2166 = .ok (.invokevirtual 291, 3) := by decide +kernel
theorem dL_law_2169 : decode cL_law 2169 = .ok (.aload_n 2, 1) := by decide +kernel
theorem dL_law_2170 : decode cL_law 2170 = .ok (.aload_n 0, 1) := by decide +kernel
theorem dL_law_2171 : decode cL_law 2171 = .ok (.iload_n 3, 1) := by decide +kernel
theorem dL_law_2172 : decode cL_law 2172 = .ok (.iconst 1, 1) := by decide +kernel
theorem dL_law_2173 : decode cL_law 2173 = .ok (.iadd, 1) := by decide +kernel
theorem dL_law_2174 : decode cL_law 2174 = .ok (.iaload, 1) := by decide +kernel
theorem dL_law_2175 : decode cL_law 2175 = .ok (.invokevirtual 294, 3) := by decide +kernel
theorem dL_law_2178 : decode cL_law 2178 = .ok (.if_icmp .eq 184, 3) := by decide +kernel
theorem dL_law_2183 : decode cL_law 2183 = .ok (.aload_n 1, 1) := by decide +kernel
theorem dL_law_2184 : decode cL_law 2184 = .ok (.aload_n 0, 1) := by decide +kernel
theorem dL_law_2185 : decode cL_law 2185 = .ok (.iload_n 3, 1) := by decide +kernel
theorem dL_law_2186 : decode cL_law 2186 = .ok (.iconst 1, 1) := by decide +kernel
theorem dL_law_2187 : decode cL_law 2187 = .ok (.iadd, 1) := by decide +kernel
theorem dL_law_2188 : decode cL_law 2188 = .ok (.iaload, 1) := by decide +kernel
theorem dL_law_2189 : decode cL_law 2189 = .ok (.aload_n 0, 1) := by decide +kernel
theorem dL_law_2190 : decode cL_law 2190 = .ok (.iload_n 3, 1) := by decide +kernel
theorem dL_law_2191 : decode cL_law 2191 = .ok (.iconst 2, 1) := by decide +kernel
theorem dL_law_2192 : decode cL_law 2192 = .ok (.iadd, 1) := by decide +kernel
theorem dL_law_2193 : decode cL_law 2193 = .ok (.iaload, 1) := by decide +kernel
theorem dL_law_2194 : decode cL_law 2194 = .ok (.aload_n 0, 1) := by decide +kernel
theorem dL_law_2195 : decode cL_law 2195 = .ok (.iload_n 3, 1) := by decide +kernel
theorem dL_law_2196 : decode cL_law 2196 = .ok (.iconst 3, 1) := by decide +kernel
theorem dL_law_2197 : decode cL_law 2197 = .ok (.iadd, 1) := by decide +kernel
theorem dL_law_2198 : decode cL_law 2198 = .ok (.iaload, 1) := by decide +kernel
theorem dL_law_2199 : decode cL_law 2199 = .ok (.invokevirtual 295, 3) := by decide +kernel
theorem dL_law_2202 : decode cL_law 2202 = .ok (.aload_n 2, 1) := by decide +kernel
theorem dL_law_2203 : decode cL_law 2203 = .ok (.aload_n 0, 1) := by decide +kernel
theorem dL_law_2204 : decode cL_law 2204 = .ok (.iload_n 3, 1) := by decide +kernel
theorem dL_law_2205 : decode cL_law 2205 = .ok (.iconst 1, 1) := by decide +kernel
theorem dL_law_2206 : decode cL_law 2206 = .ok (.iadd, 1) := by decide +kernel
theorem dL_law_2207 : decode cL_law 2207 = .ok (.iaload, 1) := by decide +kernel
theorem dL_law_2208 : decode cL_law 2208 = .ok (.aload_n 0, 1) := by decide +kernel
theorem dL_law_2209 : decode cL_law 2209 = .ok (.iload_n 3, 1) := by decide +kernel
theorem dL_law_2210 : decode cL_law 2210 = .ok (.iconst 2, 1) := by decide +kernel
theorem dL_law_2211 : decode cL_law 2211 = .ok (.iadd, 1) := by decide +kernel
theorem dL_law_2212 : decode cL_law 2212 = .ok (.iaload, 1) := by decide +kernel
theorem dL_law_2213 : decode cL_law 2213 = .ok (.aload_n 0, 1) := by decide +kernel
theorem dL_law_2214 : decode cL_law 2214 = .ok (.iload_n 3, 1) := by decide +kernel
theorem dL_law_2215 : decode cL_law 2215 = .ok (.iconst 3, 1) := by decide +kernel
theorem dL_law_2216 : decode cL_law 2216 = .ok (.iadd, 1) := by decide +kernel
theorem dL_law_2217 : decode cL_law 2217 = .ok (.iaload, 1) := by decide +kernel
theorem dL_law_2218 : decode cL_law 2218 = .ok (.invokevirtual 298, 3) := by decide +kernel
theorem dL_law_2221 : decode cL_law 2221 = .ok (.if_icmp .eq 141, 3) := by decide +kernel
theorem dL_law_2226 : decode cL_law 2226 = .ok (.aload_n 1, 1) := by decide +kernel
theorem dL_law_2227 : decode cL_law 2227 = .ok (.aload_n 0, 1) := by decide +kernel
theorem dL_law_2228 : decode cL_law 2228 = .ok (.iload_n 3, 1) := by decide +kernel
theorem dL_law_2229 : decode cL_law 2229 = .ok (.iconst 1, 1) := by decide +kernel
theorem dL_law_2230 : decode cL_law 2230 = .ok (.iadd, 1) := by decide +kernel
theorem dL_law_2231 : decode cL_law 2231 = .ok (.iaload, 1) := by decide +kernel
theorem dL_law_2232 : decode cL_law 2232 = .ok (.aload_n 0, 1) := by decide +kernel
theorem dL_law_2233 : decode cL_law 2233 = .ok (.iload_n 3, 1) := by decide +kernel
theorem dL_law_2234 : decode cL_law 2234 = .ok (.iconst 2, 1) := by decide +kernel
theorem dL_law_2235 : decode cL_law 2235 = .ok (.iadd, 1) := by decide +kernel
theorem dL_law_2236 : decode cL_law 2236 = .ok (.iaload, 1) := by decide +kernel
theorem dL_law_2237 : decode cL_law 2237 = .ok (.aload_n 0, 1) := by decide +kernel
theorem dL_law_2238 : decode cL_law 2238 = .ok (.iload_n 3, 1) := by decide +kernel
theorem dL_law_2239 : decode cL_law 2239 = .ok (.iconst 3, 1) := by decide +kernel
theorem dL_law_2240 : decode cL_law 2240 = .ok (.iadd, 1) := by decide +kernel
theorem dL_law_2241 : decode cL_law 2241 = .ok (.iaload, 1) := by decide +kernel
theorem dL_law_2242 : decode cL_law 2242 = .ok (.i2l, 1) := by decide +kernel
theorem dL_law_2243 : decode cL_law 2243 = .ok (.bipush 32, 2) := by decide +kernel
theorem dL_law_2245 : decode cL_law 2245 = .ok (.lshl, 1) := by decide +kernel
theorem dL_law_2246 : decode cL_law 2246 = .ok (.aload_n 0, 1) := by decide +kernel
theorem dL_law_2247 : decode cL_law 2247 = .ok (.iload_n 3, 1) := by decide +kernel
theorem dL_law_2248 : decode cL_law 2248 = .ok (.iconst 4, 1) := by decide +kernel
theorem dL_law_2249 : decode cL_law 2249 = .ok (.iadd, 1) := by decide +kernel
theorem dL_law_2250 : decode cL_law 2250 = .ok (.iaload, 1) := by decide +kernel
theorem dL_law_2251 : decode cL_law 2251 = .ok (.i2l, 1) := by decide +kernel
theorem dL_law_2252 : decode cL_law 2252 = .ok (.ldc2_w 299, 3) := by decide +kernel
theorem dL_law_2255 : decode cL_law 2255 = .ok (.land, 1) := by decide +kernel
theorem dL_law_2256 : decode cL_law 2256 = .ok (.lor, 1) := by decide +kernel
theorem dL_law_2257 : decode cL_law 2257 = .ok (.invokevirtual 301, 3) := by decide +kernel
theorem dL_law_2260 : decode cL_law 2260 = .ok (.aload_n 2, 1) := by decide +kernel
theorem dL_law_2261 : decode cL_law 2261 = .ok (.aload_n 0, 1) := by decide +kernel
theorem dL_law_2262 : decode cL_law 2262 = .ok (.iload_n 3, 1) := by decide +kernel
theorem dL_law_2263 : decode cL_law 2263 = .ok (.iconst 1, 1) := by decide +kernel
theorem dL_law_2264 : decode cL_law 2264 = .ok (.iadd, 1) := by decide +kernel
theorem dL_law_2265 : decode cL_law 2265 = .ok (.iaload, 1) := by decide +kernel
theorem dL_law_2266 : decode cL_law 2266 = .ok (.aload_n 0, 1) := by decide +kernel
theorem dL_law_2267 : decode cL_law 2267 = .ok (.iload_n 3, 1) := by decide +kernel
theorem dL_law_2268 : decode cL_law 2268 = .ok (.iconst 2, 1) := by decide +kernel
theorem dL_law_2269 : decode cL_law 2269 = .ok (.iadd, 1) := by decide +kernel
theorem dL_law_2270 : decode cL_law 2270 = .ok (.iaload, 1) := by decide +kernel
theorem dL_law_2271 : decode cL_law 2271 = .ok (.aload_n 0, 1) := by decide +kernel
theorem dL_law_2272 : decode cL_law 2272 = .ok (.iload_n 3, 1) := by decide +kernel
theorem dL_law_2273 : decode cL_law 2273 = .ok (.iconst 3, 1) := by decide +kernel
theorem dL_law_2274 : decode cL_law 2274 = .ok (.iadd, 1) := by decide +kernel
theorem dL_law_2275 : decode cL_law 2275 = .ok (.iaload, 1) := by decide +kernel
theorem dL_law_2276 : decode cL_law 2276 = .ok (.i2l, 1) := by decide +kernel
theorem dL_law_2277 : decode cL_law 2277 = .ok (.bipush 32, 2) := by decide +kernel
theorem dL_law_2279 : decode cL_law 2279 = .ok (.lshl, 1) := by decide +kernel
theorem dL_law_2280 : decode cL_law 2280 = .ok (.aload_n 0, 1) := by decide +kernel
theorem dL_law_2281 : decode cL_law 2281 = .ok (.iload_n 3, 1) := by decide +kernel
theorem dL_law_2282 : decode cL_law 2282 = .ok (.iconst 4, 1) := by decide +kernel
theorem dL_law_2283 : decode cL_law 2283 = .ok (.iadd, 1) := by decide +kernel
theorem dL_law_2284 : decode cL_law 2284 = .ok (.iaload, 1) := by decide +kernel
theorem dL_law_2285 : decode cL_law 2285 = .ok (.i2l, 1) := by decide +kernel
theorem dL_law_2286 : decode cL_law 2286 = .ok (.ldc2_w 299, 3) := by decide +kernel
theorem dL_law_2289 : decode cL_law 2289 = .ok (.land, 1) := by decide +kernel
theorem dL_law_2290 : decode cL_law 2290 = .ok (.lor, 1) := by decide +kernel
theorem dL_law_2291 : decode cL_law 2291 = .ok (.invokevirtual 305, 3) := by decide +kernel
theorem dL_law_2294 : decode cL_law 2294 = .ok (.if_icmp .eq 68, 3) := by decide +kernel
theorem dL_law_2299 : decode cL_law 2299 = .ok (.aload_n 1, 1) := by decide +kernel
theorem dL_law_2300 : decode cL_law 2300 = .ok (.aload_n 0, 1) := by decide +kernel
theorem dL_law_2301 : decode cL_law 2301 = .ok (.iload_n 3, 1) := by decide +kernel
theorem dL_law_2302 : decode cL_law 2302 = .ok (.iconst 1, 1) := by decide +kernel
theorem dL_law_2303 : decode cL_law 2303 = .ok (.iadd, 1) := by decide +kernel
theorem dL_law_2304 : decode cL_law 2304 = .ok (.iaload, 1) := by decide +kernel
theorem dL_law_2305 : decode cL_law 2305 = .ok (.aload_n 0, 1) := by decide +kernel
theorem dL_law_2306 : decode cL_law 2306 = .ok (.iload_n 3, 1) := by decide +kernel
theorem dL_law_2307 : decode cL_law 2307 = .ok (.iconst 2, 1) := by decide +kernel
theorem dL_law_2308 : decode cL_law 2308 = .ok (.iadd, 1) := by decide +kernel
theorem dL_law_2309 : decode cL_law 2309 = .ok (.iaload, 1) := by decide +kernel
theorem dL_law_2310 : decode cL_law 2310 = .ok (.aload_n 0, 1) := by decide +kernel
theorem dL_law_2311 : decode cL_law 2311 = .ok (.iload_n 3, 1) := by decide +kernel
theorem dL_law_2312 : decode cL_law 2312 = .ok (.iconst 3, 1) := by decide +kernel
theorem dL_law_2313 : decode cL_law 2313 = .ok (.iadd, 1) := by decide +kernel
theorem dL_law_2314 : decode cL_law 2314 = .ok (.iaload, 1) := by decide +kernel
theorem dL_law_2315 : decode cL_law 2315 = .ok (.aload_n 0, 1) := by decide +kernel
theorem dL_law_2316 : decode cL_law 2316 = .ok (.iload_n 3, 1) := by decide +kernel
theorem dL_law_2317 : decode cL_law 2317 = .ok (.iconst 4, 1) := by decide +kernel
theorem dL_law_2318 : decode cL_law 2318 = .ok (.iadd, 1) := by decide +kernel
theorem dL_law_2319 : decode cL_law 2319 = .ok (.iaload, 1) := by decide +kernel
theorem dL_law_2320 : decode cL_law 2320 = .ok (.aload_n 0, 1) := by decide +kernel
theorem dL_law_2321 : decode cL_law 2321 = .ok (.iload_n 3, 1) := by decide +kernel
theorem dL_law_2322 : decode cL_law 2322 = .ok (.iconst 5, 1) := by decide +kernel
theorem dL_law_2323 : decode cL_law 2323 = .ok (.iadd, 1) := by decide +kernel
theorem dL_law_2324 : decode cL_law 2324 = .ok (.iaload, 1) := by decide +kernel
theorem dL_law_2325 : decode cL_law 2325 = .ok (.invokevirtual 306, 3) := by decide +kernel
theorem dL_law_2328 : decode cL_law 2328 = .ok (.aload_n 2, 1) := by decide +kernel
theorem dL_law_2329 : decode cL_law 2329 = .ok (.aload_n 0, 1) := by decide +kernel
theorem dL_law_2330 : decode cL_law 2330 = .ok (.iload_n 3, 1) := by decide +kernel
theorem dL_law_2331 : decode cL_law 2331 = .ok (.iconst 1, 1) := by decide +kernel
theorem dL_law_2332 : decode cL_law 2332 = .ok (.iadd, 1) := by decide +kernel
theorem dL_law_2333 : decode cL_law 2333 = .ok (.iaload, 1) := by decide +kernel
theorem dL_law_2334 : decode cL_law 2334 = .ok (.aload_n 0, 1) := by decide +kernel
theorem dL_law_2335 : decode cL_law 2335 = .ok (.iload_n 3, 1) := by decide +kernel
theorem dL_law_2336 : decode cL_law 2336 = .ok (.iconst 2, 1) := by decide +kernel
theorem dL_law_2337 : decode cL_law 2337 = .ok (.iadd, 1) := by decide +kernel
theorem dL_law_2338 : decode cL_law 2338 = .ok (.iaload, 1) := by decide +kernel
theorem dL_law_2339 : decode cL_law 2339 = .ok (.aload_n 0, 1) := by decide +kernel
theorem dL_law_2340 : decode cL_law 2340 = .ok (.iload_n 3, 1) := by decide +kernel
theorem dL_law_2341 : decode cL_law 2341 = .ok (.iconst 3, 1) := by decide +kernel
theorem dL_law_2342 : decode cL_law 2342 = .ok (.iadd, 1) := by decide +kernel
theorem dL_law_2343 : decode cL_law 2343 = .ok (.iaload, 1) := by decide +kernel
theorem dL_law_2344 : decode cL_law 2344 = .ok (.aload_n 0, 1) := by decide +kernel
theorem dL_law_2345 : decode cL_law 2345 = .ok (.iload_n 3, 1) := by decide +kernel
theorem dL_law_2346 : decode cL_law 2346 = .ok (.iconst 4, 1) := by decide +kernel
theorem dL_law_2347 : decode cL_law 2347 = .ok (.iadd, 1) := by decide +kernel
theorem dL_law_2348 : decode cL_law 2348 = .ok (.iaload, 1) := by decide +kernel
theorem dL_law_2349 : decode cL_law 2349 = .ok (.aload_n 0, 1) := by decide +kernel
theorem dL_law_2350 : decode cL_law 2350 = .ok (.iload_n 3, 1) := by decide +kernel
theorem dL_law_2351 : decode cL_law 2351 = .ok (.iconst 5, 1) := by decide +kernel
theorem dL_law_2352 : decode cL_law 2352 = .ok (.iadd, 1) := by decide +kernel
theorem dL_law_2353 : decode cL_law 2353 = .ok (.iaload, 1) := by decide +kernel
theorem dL_law_2354 : decode cL_law 2354 = .ok (.invokevirtual 309, 3) := by decide +kernel
theorem dL_law_2357 : decode cL_law 2357 = .ok (.if_icmp .eq 5, 3) := by decide +kernel
theorem dL_law_2362 : decode cL_law 2362 = .ok (.iinc 3 6, 3) := by decide +kernel
theorem dL_law_2365 : decode cL_law 2365 = .ok (.goto (-2347), 3) := by decide +kernel
theorem dL_law_2368 : decode cL_law 2368 = .ok (.iconst 1, 1) := by decide +kernel
theorem dL_law_2369 : decode cL_law 2369 = .ok (.ireturn, 1) := by decide +kernel
