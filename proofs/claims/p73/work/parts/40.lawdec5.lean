theorem dL_law_2234 : decode cL_law 2234 = .ok (.iconst 2, 1) := by decide +kernel
theorem dL_law_2235 : decode cL_law 2235 = .ok (.iadd, 1) := by decide +kernel
theorem dL_law_2236 : decode cL_law 2236 = .ok (.iaload, 1) := by decide +kernel
theorem dL_law_2237 : decode cL_law 2237 = .ok (.aload_n 0, 1) := by decide +kernel
theorem dL_law_2238 : decode cL_law 2238 = .ok (.iload_n 3, 1) := by decide +kernel
theorem dL_law_2239 : decode cL_law 2239 = .ok (.iconst 3, 1) := by decide +kernel
theorem dL_law_2240 : decode cL_law 2240 = .ok (.iadd, 1) := by decide +kernel
theorem dL_law_2241 : decode cL_law 2241 = .ok (.iaload, 1) := by decide +kernel
theorem dL_law_2242 : decode cL_law 2242 = .ok (.i2l, 1) := by decide +kernel
theorem dL_law_2243 : decode cL_law 2243 = .ok (.bipush 32, 2) := by decide +kernel
theorem dL_law_2245 : decode cL_law 2245 = .ok (.lshl, 1) := by decide +kernel
theorem dL_law_2246 : decode cL_law 2246 = .ok (.aload_n 0, 1) := by decide +kernel
theorem dL_law_2247 : decode cL_law 2247 = .ok (.iload_n 3, 1) := by decide +kernel
theorem dL_law_2248 : decode cL_law 2248 = .ok (.iconst 4, 1) := by decide +kernel
theorem dL_law_2249 : decode cL_law 2249 = .ok (.iadd, 1) := by decide +kernel
theorem dL_law_2250 : decode cL_law 2250 = .ok (.iaload, 1) := by decide +kernel
theorem dL_law_2251 : decode cL_law 2251 = .ok (.i2l, 1) := by decide +kernel
theorem dL_law_2252 : decode cL_law 2252 = .ok (.ldc2_w 299, 3) := by decide +kernel
theorem dL_law_2255 : decode cL_law 2255 = .ok (.land, 1) := by decide +kernel
theorem dL_law_2256 : decode cL_law 2256 = .ok (.lor, 1) := by decide +kernel
theorem dL_law_2257 : decode cL_law 2257 = .ok (.invokevirtual 301, 3) := by decide +kernel
theorem dL_law_2260 : decode cL_law 2260 = .ok (.pop, 1) := by decide +kernel
theorem dL_law_2261 : decode cL_law 2261 = .ok (.aload_n 2, 1) := by decide +kernel
theorem dL_law_2262 : decode cL_law 2262 = .ok (.aload_n 0, 1) := by decide +kernel
theorem dL_law_2263 : decode cL_law 2263 = .ok (.iload_n 3, 1) := by decide +kernel
theorem dL_law_2264 : decode cL_law 2264 = .ok (.iconst 1, 1) := by decide +kernel
theorem dL_law_2265 : decode cL_law 2265 = .ok (.iadd, 1) := by decide +kernel
theorem dL_law_2266 : decode cL_law 2266 = .ok (.iaload, 1) := by decide +kernel
theorem dL_law_2267 : decode cL_law 2267 = .ok (.aload_n 0, 1) := by decide +kernel
theorem dL_law_2268 : decode cL_law 2268 = .ok (.iload_n 3, 1) := by decide +kernel
theorem dL_law_2269 : decode cL_law 2269 = .ok (.iconst 2, 1) := by decide +kernel
theorem dL_law_2270 : decode cL_law 2270 = .ok (.iadd, 1) := by decide +kernel
theorem dL_law_2271 : decode cL_law 2271 = .ok (.iaload, 1) := by decide +kernel
theorem dL_law_2272 : decode cL_law 2272 = .ok (.aload_n 0, 1) := by decide +kernel
theorem dL_law_2273 : decode cL_law 2273 = .ok (.iload_n 3, 1) := by decide +kernel
theorem dL_law_2274 : decode cL_law 2274 = .ok (.iconst 3, 1) := by decide +kernel
theorem dL_law_2275 : decode cL_law 2275 = .ok (.iadd, 1) := by decide +kernel
theorem dL_law_2276 : decode cL_law 2276 = .ok (.iaload, 1) := by decide +kernel
theorem dL_law_2277 : decode cL_law 2277 = .ok (.i2l, 1) := by decide +kernel
theorem dL_law_2278 : decode cL_law 2278 = .ok (.bipush 32, 2) := by decide +kernel
theorem dL_law_2280 : decode cL_law 2280 = .ok (.lshl, 1) := by decide +kernel
theorem dL_law_2281 : decode cL_law 2281 = .ok (.aload_n 0, 1) := by decide +kernel
theorem dL_law_2282 : decode cL_law 2282 = .ok (.iload_n 3, 1) := by decide +kernel
theorem dL_law_2283 : decode cL_law 2283 = .ok (.iconst 4, 1) := by decide +kernel
theorem dL_law_2284 : decode cL_law 2284 = .ok (.iadd, 1) := by decide +kernel
theorem dL_law_2285 : decode cL_law 2285 = .ok (.iaload, 1) := by decide +kernel
theorem dL_law_2286 : decode cL_law 2286 = .ok (.i2l, 1) := by decide +kernel
theorem dL_law_2287 : decode cL_law 2287 = .ok (.ldc2_w 299, 3) := by decide +kernel
theorem dL_law_2290 : decode cL_law 2290 = .ok (.land, 1) := by decide +kernel
theorem dL_law_2291 : decode cL_law 2291 = .ok (.lor, 1) := by decide +kernel
theorem dL_law_2292 : decode cL_law 2292 = .ok (.invokevirtual 305, 3) := by decide +kernel
theorem dL_law_2295 : decode cL_law 2295 = .ok (.pop, 1) := by decide +kernel
theorem dL_law_2296 : decode cL_law 2296 = .ok (.goto 66, 3) := by decide +kernel
theorem dL_law_2299 : decode cL_law 2299 = .ok (.aload_n 1, 1) := by decide +kernel
theorem dL_law_2300 : decode cL_law 2300 = .ok (.aload_n 0, 1) := by decide +kernel
theorem dL_law_2301 : decode cL_law 2301 = .ok (.iload_n 3, 1) := by decide +kernel
theorem dL_law_2302 : decode cL_law 2302 = .ok (.iconst 1, 1) := by decide +kernel
theorem dL_law_2303 : decode cL_law 2303 = .ok (.iadd, 1) := by decide +kernel
theorem dL_law_2304 : decode cL_law 2304 = .ok (.iaload, 1) := by decide +kernel
theorem dL_law_2305 : decode cL_law 2305 = .ok (.aload_n 0, 1) := by decide +kernel
theorem dL_law_2306 : decode cL_law 2306 = .ok (.iload_n 3, 1) := by decide +kernel
theorem dL_law_2307 : decode cL_law 2307 = .ok (.iconst 2, 1) := by decide +kernel
theorem dL_law_2308 : decode cL_law 2308 = .ok (.iadd, 1) := by decide +kernel
theorem dL_law_2309 : decode cL_law 2309 = .ok (.iaload, 1) := by decide +kernel
theorem dL_law_2310 : decode cL_law 2310 = .ok (.aload_n 0, 1) := by decide +kernel
theorem dL_law_2311 : decode cL_law 2311 = .ok (.iload_n 3, 1) := by decide +kernel
theorem dL_law_2312 : decode cL_law 2312 = .ok (.iconst 3, 1) := by decide +kernel
theorem dL_law_2313 : decode cL_law 2313 = .ok (.iadd, 1) := by decide +kernel
theorem dL_law_2314 : decode cL_law 2314 = .ok (.iaload, 1) := by decide +kernel
theorem dL_law_2315 : decode cL_law 2315 = .ok (.aload_n 0, 1) := by decide +kernel
theorem dL_law_2316 : decode cL_law 2316 = .ok (.iload_n 3, 1) := by decide +kernel
theorem dL_law_2317 : decode cL_law 2317 = .ok (.iconst 4, 1) := by decide +kernel
theorem dL_law_2318 : decode cL_law 2318 = .ok (.iadd, 1) := by decide +kernel
theorem dL_law_2319 : decode cL_law 2319 = .ok (.iaload, 1) := by decide +kernel
theorem dL_law_2320 : decode cL_law 2320 = .ok (.aload_n 0, 1) := by decide +kernel
theorem dL_law_2321 : decode cL_law 2321 = .ok (.iload_n 3, 1) := by decide +kernel
theorem dL_law_2322 : decode cL_law 2322 = .ok (.iconst 5, 1) := by decide +kernel
theorem dL_law_2323 : decode cL_law 2323 = .ok (.iadd, 1) := by decide +kernel
theorem dL_law_2324 : decode cL_law 2324 = .ok (.iaload, 1) := by decide +kernel
theorem dL_law_2325 : decode cL_law 2325 = .ok (.invokevirtual 306, 3) := by decide +kernel
theorem dL_law_2328 : decode cL_law 2328 = .ok (.aload_n 2, 1) := by decide +kernel
theorem dL_law_2329 : decode cL_law 2329 = .ok (.aload_n 0, 1) := by decide +kernel
theorem dL_law_2330 : decode cL_law 2330 = .ok (.iload_n 3, 1) := by decide +kernel
theorem dL_law_2331 : decode cL_law 2331 = .ok (.iconst 1, 1) := by decide +kernel
theorem dL_law_2332 : decode cL_law 2332 = .ok (.iadd, 1) := by decide +kernel
theorem dL_law_2333 : decode cL_law 2333 = .ok (.iaload, 1) := by decide +kernel
theorem dL_law_2334 : decode cL_law 2334 = .ok (.aload_n 0, 1) := by decide +kernel
theorem dL_law_2335 : decode cL_law 2335 = .ok (.iload_n 3, 1) := by decide +kernel
theorem dL_law_2336 : decode cL_law 2336 = .ok (.iconst 2, 1) := by decide +kernel
theorem dL_law_2337 : decode cL_law 2337 = .ok (.iadd, 1) := by decide +kernel
theorem dL_law_2338 : decode cL_law 2338 = .ok (.iaload, 1) := by decide +kernel
theorem dL_law_2339 : decode cL_law 2339 = .ok (.aload_n 0, 1) := by decide +kernel
theorem dL_law_2340 : decode cL_law 2340 = .ok (.iload_n 3, 1) := by decide +kernel
theorem dL_law_2341 : decode cL_law 2341 = .ok (.iconst 3, 1) := by decide +kernel
theorem dL_law_2342 : decode cL_law 2342 = .ok (.iadd, 1) := by decide +kernel
theorem dL_law_2343 : decode cL_law 2343 = .ok (.iaload, 1) := by decide +kernel
theorem dL_law_2344 : decode cL_law 2344 = .ok (.aload_n 0, 1) := by decide +kernel
theorem dL_law_2345 : decode cL_law 2345 = .ok (.iload_n 3, 1) := by decide +kernel
theorem dL_law_2346 : decode cL_law 2346 = .ok (.iconst 4, 1) := by decide +kernel
theorem dL_law_2347 : decode cL_law 2347 = .ok (.iadd, 1) := by decide +kernel
theorem dL_law_2348 : decode cL_law 2348 = .ok (.iaload, 1) := by decide +kernel
theorem dL_law_2349 : decode cL_law 2349 = .ok (.aload_n 0, 1) := by decide +kernel
theorem dL_law_2350 : decode cL_law 2350 = .ok (.iload_n 3, 1) := by decide +kernel
theorem dL_law_2351 : decode cL_law 2351 = .ok (.iconst 5, 1) := by decide +kernel
theorem dL_law_2352 : decode cL_law 2352 = .ok (.iadd, 1) := by decide +kernel
theorem dL_law_2353 : decode cL_law 2353 = .ok (.iaload, 1) := by decide +kernel
theorem dL_law_2354 : decode cL_law 2354 = .ok (.invokevirtual 309, 3) := by decide +kernel
theorem dL_law_2357 : decode cL_law 2357 = .ok (.if_icmp .eq 5, 3) := by decide +kernel
theorem dL_law_2362 : decode cL_law 2362 = .ok (.iinc 3 6, 3) := by decide +kernel
theorem dL_law_2365 : decode cL_law 2365 = .ok (.goto (-2347), 3) := by decide +kernel
theorem dL_law_2368 : decode cL_law 2368 = .ok (.iconst 1, 1) := by decide +kernel
theorem dL_law_2369 : decode cL_law 2369 = .ok (.ireturn, 1) := by decide +kernel
