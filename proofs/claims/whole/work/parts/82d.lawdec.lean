theorem dL_law_2063 : decode cL_law 2063 = .ok (.iadd, 1) := by decide +kernel
theorem dL_law_2064 : decode cL_law 2064 = .ok (.iaload, 1) := by decide +kernel
theorem dL_law_2065 : decode cL_law 2065 = .ok (.aload_n 3, 1) := by decide +kernel
theorem dL_law_2066 : decode cL_law 2066 = .ok (.invokestatic 255, 3) := by decide +kernel
theorem dL_law_2069 : decode cL_law 2069 = .ok (.istore 6, 2) := by decide +kernel
theorem dL_law_2071 : decode cL_law 2071 = .ok (.aload_n 2, 1) := by decide +kernel
theorem dL_law_2072 : decode cL_law 2072 = .ok (.aload_n 0, 1) := by decide +kernel
theorem dL_law_2073 : decode cL_law 2073 = .ok (.iload 5, 2) := by decide +kernel
theorem dL_law_2075 : decode cL_law 2075 = .ok (.iconst 1, 1) := by decide +kernel
theorem dL_law_2076 : decode cL_law 2076 = .ok (.iadd, 1) := by decide +kernel
theorem dL_law_2077 : decode cL_law 2077 = .ok (.iaload, 1) := by decide +kernel
theorem dL_law_2078 : decode cL_law 2078 = .ok (.aload_n 0, 1) := by decide +kernel
theorem dL_law_2079 : decode cL_law 2079 = .ok (.iload 5, 2) := by decide +kernel
theorem dL_law_2081 : decode cL_law 2081 = .ok (.iconst 2, 1) := by decide +kernel
theorem dL_law_2082 : decode cL_law 2082 = .ok (.iadd, 1) := by decide +kernel
theorem dL_law_2083 : decode cL_law 2083 = .ok (.iaload, 1) := by decide +kernel
theorem dL_law_2084 : decode cL_law 2084 = .ok (.invokevirtual 257, 3) := by decide +kernel
theorem dL_law_2087 : decode cL_law 2087 = .ok (.istore 7, 2) := by decide +kernel
theorem dL_law_2089 : decode cL_law 2089 = .ok (.aload_n 2, 1) := by decide +kernel
theorem dL_law_2090 : decode cL_law 2090 = .ok (.invokevirtual 170, 3) := by decide +kernel
theorem dL_law_2093 : decode cL_law 2093 = .ok (.iload 6, 2) := by decide +kernel
theorem dL_law_2095 : decode cL_law 2095 = .ok (.if_icmp .eq 5, 3) := by decide +kernel
theorem dL_law_2098 : decode cL_law 2098 = .ok (.iconst 0, 1) := by decide +kernel
theorem dL_law_2099 : decode cL_law 2099 = .ok (.ireturn, 1) := by decide +kernel
theorem dL_law_2100 : decode cL_law 2100 = .ok (.iload 6, 2) := by decide +kernel
theorem dL_law_2102 : decode cL_law 2102 = .ok (.ifCond .ne 15, 3) := by decide +kernel
theorem dL_law_2105 : decode cL_law 2105 = .ok (.aload_n 3, 1) := by decide +kernel
theorem dL_law_2106 : decode cL_law 2106 = .ok (.iconst 0, 1) := by decide +kernel
theorem dL_law_2107 : decode cL_law 2107 = .ok (.laload, 1) := by decide +kernel
theorem dL_law_2108 : decode cL_law 2108 = .ok (.iload 7, 2) := by decide +kernel
theorem dL_law_2110 : decode cL_law 2110 = .ok (.i2l, 1) := by decide +kernel
theorem dL_law_2111 : decode cL_law 2111 = .ok (.lcmp, 1) := by decide +kernel
theorem dL_law_2112 : decode cL_law 2112 = .ok (.ifCond .eq 5, 3) := by decide +kernel
theorem dL_law_2115 : decode cL_law 2115 = .ok (.iconst 0, 1) := by decide +kernel
theorem dL_law_2116 : decode cL_law 2116 = .ok (.ireturn, 1) := by decide +kernel
theorem dL_law_2117 : decode cL_law 2117 = .ok (.goto 1478, 3) := by decide +kernel
theorem dL_law_2120 : decode cL_law 2120 = .ok (.aload_n 1, 1) := by decide +kernel
theorem dL_law_2121 : decode cL_law 2121 = .ok (.aload_n 0, 1) := by decide +kernel
theorem dL_law_2122 : decode cL_law 2122 = .ok (.iload 5, 2) := by decide +kernel
theorem dL_law_2124 : decode cL_law 2124 = .ok (.iconst 1, 1) := by decide +kernel
theorem dL_law_2125 : decode cL_law 2125 = .ok (.iadd, 1) := by decide +kernel
theorem dL_law_2126 : decode cL_law 2126 = .ok (.iaload, 1) := by decide +kernel
theorem dL_law_2127 : decode cL_law 2127 = .ok (.aload_n 0, 1) := by decide +kernel
theorem dL_law_2128 : decode cL_law 2128 = .ok (.iload 5, 2) := by decide +kernel
theorem dL_law_2130 : decode cL_law 2130 = .ok (.iconst 2, 1) := by decide +kernel
theorem dL_law_2131 : decode cL_law 2131 = .ok (.iadd, 1) := by decide +kernel
theorem dL_law_2132 : decode cL_law 2132 = .ok (.iaload, 1) := by decide +kernel
theorem dL_law_2133 : decode cL_law 2133 = .ok (.aload_n 3, 1) := by decide +kernel
theorem dL_law_2134 : decode cL_law 2134 = .ok (.invokestatic 258, 3) := by decide +kernel
theorem dL_law_2137 : decode cL_law 2137 = .ok (.istore 6, 2) := by decide +kernel
theorem dL_law_2139 : decode cL_law 2139 = .ok (.aload_n 2, 1) := by decide +kernel
theorem dL_law_2140 : decode cL_law 2140 = .ok (.aload_n 0, 1) := by decide +kernel
theorem dL_law_2141 : decode cL_law 2141 = .ok (.iload 5, 2) := by decide +kernel
theorem dL_law_2143 : decode cL_law 2143 = .ok (.iconst 1, 1) := by decide +kernel
theorem dL_law_2144 : decode cL_law 2144 = .ok (.iadd, 1) := by decide +kernel
theorem dL_law_2145 : decode cL_law 2145 = .ok (.iaload, 1) := by decide +kernel
theorem dL_law_2146 : decode cL_law 2146 = .ok (.aload_n 0, 1) := by decide +kernel
theorem dL_law_2147 : decode cL_law 2147 = .ok (.iload 5, 2) := by decide +kernel
theorem dL_law_2149 : decode cL_law 2149 = .ok (.iconst 2, 1) := by decide +kernel
theorem dL_law_2150 : decode cL_law 2150 = .ok (.iadd, 1) := by decide +kernel
theorem dL_law_2151 : decode cL_law 2151 = .ok (.iaload, 1) := by decide +kernel
theorem dL_law_2152 : decode cL_law 2152 = .ok (.invokevirtual 260, 3) := by decide +kernel
theorem dL_law_2155 : decode cL_law 2155 = .ok (.istore 7, 2) := by decide +kernel
theorem dL_law_2157 : decode cL_law 2157 = .ok (.aload_n 2, 1) := by decide +kernel
theorem dL_law_2158 : decode cL_law 2158 = .ok (.invokevirtual 170, 3) := by decide +kernel
theorem dL_law_2161 : decode cL_law 2161 = .ok (.iload 6, 2) := by decide +kernel
theorem dL_law_2163 : decode cL_law 2163 = .ok (.if_icmp .eq 5, 3) := by decide +kernel
theorem dL_law_2166 : decode cL_law 2166 = .ok (.iconst 0, 1) := by decide +kernel
theorem dL_law_2167 : decode cL_law 2167 = .ok (.ireturn, 1) := by decide +kernel
theorem dL_law_2168 : decode cL_law 2168 = .ok (.iload 6, 2) := by decide +kernel
theorem dL_law_2170 : decode cL_law 2170 = .ok (.ifCond .ne 15, 3) := by decide +kernel
theorem dL_law_2173 : decode cL_law 2173 = .ok (.aload_n 3, 1) := by decide +kernel
theorem dL_law_2174 : decode cL_law 2174 = .ok (.iconst 0, 1) := by decide +kernel
theorem dL_law_2175 : decode cL_law 2175 = .ok (.laload, 1) := by decide +kernel
theorem dL_law_2176 : decode cL_law 2176 = .ok (.iload 7, 2) := by decide +kernel
theorem dL_law_2178 : decode cL_law 2178 = .ok (.i2l, 1) := by decide +kernel
theorem dL_law_2179 : decode cL_law 2179 = .ok (.lcmp, 1) := by decide +kernel
theorem dL_law_2180 : decode cL_law 2180 = .ok (.ifCond .eq 5, 3) := by decide +kernel
theorem dL_law_2183 : decode cL_law 2183 = .ok (.iconst 0, 1) := by decide +kernel
theorem dL_law_2184 : decode cL_law 2184 = .ok (.ireturn, 1) := by decide +kernel
theorem dL_law_2185 : decode cL_law 2185 = .ok (.goto 1410, 3) := by decide +kernel
theorem dL_law_2188 : decode cL_law 2188 = .ok (.aload_n 1, 1) := by decide +kernel
theorem dL_law_2189 : decode cL_law 2189 = .ok (.aload_n 0, 1) := by decide +kernel
theorem dL_law_2190 : decode cL_law 2190 = .ok (.iload 5, 2) := by decide +kernel
theorem dL_law_2192 : decode cL_law 2192 = .ok (.iconst 1, 1) := by decide +kernel
theorem dL_law_2193 : decode cL_law 2193 = .ok (.iadd, 1) := by decide +kernel
theorem dL_law_2194 : decode cL_law 2194 = .ok (.iaload, 1) := by decide +kernel
theorem dL_law_2195 : decode cL_law 2195 = .ok (.aload_n 0, 1) := by decide +kernel
theorem dL_law_2196 : decode cL_law 2196 = .ok (.iload 5, 2) := by decide +kernel
theorem dL_law_2198 : decode cL_law 2198 = .ok (.iconst 2, 1) := by decide +kernel
theorem dL_law_2199 : decode cL_law 2199 = .ok (.iadd, 1) := by decide +kernel
theorem dL_law_2200 : decode cL_law 2200 = .ok (.iaload, 1) := by decide +kernel
theorem dL_law_2201 : decode cL_law 2201 = .ok (.aload_n 3, 1) := by decide +kernel
theorem dL_law_2202 : decode cL_law 2202 = .ok (.invokestatic 261, 3) := by decide +kernel
theorem dL_law_2205 : decode cL_law 2205 = .ok (.istore 6, 2) := by decide +kernel
theorem dL_law_2207 : decode cL_law 2207 = .ok (.aload_n 2, 1) := by decide +kernel
theorem dL_law_2208 : decode cL_law 2208 = .ok (.aload_n 0, 1) := by decide +kernel
theorem dL_law_2209 : decode cL_law 2209 = .ok (.iload 5, 2) := by decide +kernel
theorem dL_law_2211 : decode cL_law 2211 = .ok (.iconst 1, 1) := by decide +kernel
theorem dL_law_2212 : decode cL_law 2212 = .ok (.iadd, 1) := by decide +kernel
theorem dL_law_2213 : decode cL_law 2213 = .ok (.iaload, 1) := by decide +kernel
theorem dL_law_2214 : decode cL_law 2214 = .ok (.aload_n 0, 1) := by decide +kernel
theorem dL_law_2215 : decode cL_law 2215 = .ok (.iload 5, 2) := by decide +kernel
theorem dL_law_2217 : decode cL_law 2217 = .ok (.iconst 2, 1) := by decide +kernel
theorem dL_law_2218 : decode cL_law 2218 = .ok (.iadd, 1) := by decide +kernel
theorem dL_law_2219 : decode cL_law 2219 = .ok (.iaload, 1) := by decide +kernel
theorem dL_law_2220 : decode cL_law 2220 = .ok (.invokevirtual 263, 3) := by decide +kernel
theorem dL_law_2223 : decode cL_law 2223 = .ok (.istore 7, 2) := by decide +kernel
theorem dL_law_2225 : decode cL_law 2225 = .ok (.aload_n 2, 1) := by decide +kernel
theorem dL_law_2226 : decode cL_law 2226 = .ok (.invokevirtual 170, 3) := by decide +kernel
theorem dL_law_2229 : decode cL_law 2229 = .ok (.iload 6, 2) := by decide +kernel
theorem dL_law_2231 : decode cL_law 2231 = .ok (.if_icmp .eq 5, 3) := by decide +kernel
theorem dL_law_2234 : decode cL_law 2234 = .ok (.iconst 0, 1) := by decide +kernel
theorem dL_law_2235 : decode cL_law 2235 = .ok (.ireturn, 1) := by decide +kernel
theorem dL_law_2236 : decode cL_law 2236 = .ok (.iload 6, 2) := by decide +kernel
theorem dL_law_2238 : decode cL_law 2238 = .ok (.ifCond .ne 15, 3) := by decide +kernel
theorem dL_law_2241 : decode cL_law 2241 = .ok (.aload_n 3, 1) := by decide +kernel
theorem dL_law_2242 : decode cL_law 2242 = .ok (.iconst 0, 1) := by decide +kernel
theorem dL_law_2243 : decode cL_law 2243 = .ok (.laload, 1) := by decide +kernel
theorem dL_law_2244 : decode cL_law 2244 = .ok (.iload 7, 2) := by decide +kernel
theorem dL_law_2246 : decode cL_law 2246 = .ok (.i2l, 1) := by decide +kernel
theorem dL_law_2247 : decode cL_law 2247 = .ok (.lcmp, 1) := by decide +kernel
theorem dL_law_2248 : decode cL_law 2248 = .ok (.ifCond .eq 5, 3) := by decide +kernel
theorem dL_law_2251 : decode cL_law 2251 = .ok (.iconst 0, 1) := by decide +kernel
theorem dL_law_2252 : decode cL_law 2252 = .ok (.ireturn, 1) := by decide +kernel
theorem dL_law_2253 : decode cL_law 2253 = .ok (.goto 1342, 3) := by decide +kernel
theorem dL_law_2256 : decode cL_law 2256 = .ok (.aload_n 1, 1) := by decide +kernel
theorem dL_law_2257 : decode cL_law 2257 = .ok (.invokevirtual 264, 3) := by decide +kernel
theorem dL_law_2260 : decode cL_law 2260 = .ok (.aload_n 2, 1) := by decide +kernel
theorem dL_law_2261 : decode cL_law 2261 = .ok (.invokevirtual 267, 3) := by decide +kernel
theorem dL_law_2264 : decode cL_law 2264 = .ok (.if_icmp .eq 1331, 3) := by decide +kernel
theorem dL_law_2267 : decode cL_law 2267 = .ok (.iconst 0, 1) := by decide +kernel
theorem dL_law_2268 : decode cL_law 2268 = .ok (.ireturn, 1) := by decide +kernel
theorem dL_law_2269 : decode cL_law 2269 = .ok (.aload_n 1, 1) := by decide +kernel
theorem dL_law_2270 : decode cL_law 2270 = .ok (.aload_n 0, 1) := by decide +kernel
theorem dL_law_2271 : decode cL_law 2271 = .ok (.iload 5, 2) := by decide +kernel
theorem dL_law_2273 : decode cL_law 2273 = .ok (.iconst 1, 1) := by decide +kernel
theorem dL_law_2274 : decode cL_law 2274 = .ok (.iadd, 1) := by decide +kernel
theorem dL_law_2275 : decode cL_law 2275 = .ok (.iaload, 1) := by decide +kernel
theorem dL_law_2276 : decode cL_law 2276 = .ok (.aload_n 0, 1) := by decide +kernel
theorem dL_law_2277 : decode cL_law 2277 = .ok (.iload 5, 2) := by decide +kernel
theorem dL_law_2279 : decode cL_law 2279 = .ok (.iconst 2, 1) := by decide +kernel
theorem dL_law_2280 : decode cL_law 2280 = .ok (.iadd, 1) := by decide +kernel
theorem dL_law_2281 : decode cL_law 2281 = .ok (.iaload, 1) := by decide +kernel
theorem dL_law_2282 : decode cL_law 2282 = .ok (.aload_n 0, 1) := by decide +kernel
theorem dL_law_2283 : decode cL_law 2283 = .ok (.iload 5, 2) := by decide +kernel
theorem dL_law_2285 : decode cL_law 2285 = .ok (.iconst 3, 1) := by decide +kernel
theorem dL_law_2286 : decode cL_law 2286 = .ok (.iadd, 1) := by decide +kernel
theorem dL_law_2287 : decode cL_law 2287 = .ok (.iaload, 1) := by decide +kernel
theorem dL_law_2288 : decode cL_law 2288 = .ok (.aload_n 3, 1) := by decide +kernel
theorem dL_law_2289 : decode cL_law 2289 = .ok (.invokestatic 268, 3) := by decide +kernel
theorem dL_law_2292 : decode cL_law 2292 = .ok (.istore 6, 2) := by decide +kernel
theorem dL_law_2294 : decode cL_law 2294 = .ok (.aload_n 2, 1) := by decide +kernel
theorem dL_law_2295 : decode cL_law 2295 = .ok (.aload_n 0, 1) := by decide +kernel
theorem dL_law_2296 : decode cL_law 2296 = .ok (.iload 5, 2) := by decide +kernel
theorem dL_law_2298 : decode cL_law 2298 = .ok (.iconst 1, 1) := by decide +kernel
theorem dL_law_2299 : decode cL_law 2299 = .ok (.iadd, 1) := by decide +kernel
theorem dL_law_2300 : decode cL_law 2300 = .ok (.iaload, 1) := by decide +kernel
theorem dL_law_2301 : decode cL_law 2301 = .ok (.aload_n 0, 1) := by decide +kernel
theorem dL_law_2302 : decode cL_law 2302 = .ok (.iload 5, 2) := by decide +kernel
theorem dL_law_2304 : decode cL_law 2304 = .ok (.iconst 2, 1) := by decide +kernel
theorem dL_law_2305 : decode cL_law 2305 = .ok (.iadd, 1) := by decide +kernel
theorem dL_law_2306 : decode cL_law 2306 = .ok (.iaload, 1) := by decide +kernel
theorem dL_law_2307 : decode cL_law 2307 = .ok (.aload_n 0, 1) := by decide +kernel
theorem dL_law_2308 : decode cL_law 2308 = .ok (.iload 5, 2) := by decide +kernel
theorem dL_law_2310 : decode cL_law 2310 = .ok (.iconst 3, 1) := by decide +kernel
theorem dL_law_2311 : decode cL_law 2311 = .ok (.iadd, 1) := by decide +kernel
theorem dL_law_2312 : decode cL_law 2312 = .ok (.iaload, 1) := by decide +kernel
theorem dL_law_2313 : decode cL_law 2313 = .ok (.invokevirtual 270, 3) := by decide +kernel
theorem dL_law_2316 : decode cL_law 2316 = .ok (.istore 7, 2) := by decide +kernel
theorem dL_law_2318 : decode cL_law 2318 = .ok (.aload_n 2, 1) := by decide +kernel
theorem dL_law_2319 : decode cL_law 2319 = .ok (.invokevirtual 170, 3) := by decide +kernel
theorem dL_law_2322 : decode cL_law 2322 = .ok (.iload 6, 2) := by decide +kernel
theorem dL_law_2324 : decode cL_law 2324 = .ok (.if_icmp .eq 5, 3) := by decide +kernel
theorem dL_law_2327 : decode cL_law 2327 = .ok (.iconst 0, 1) := by decide +kernel
theorem dL_law_2328 : decode cL_law 2328 = .ok (.ireturn, 1) := by decide +kernel
theorem dL_law_2329 : decode cL_law 2329 = .ok (.iload 6, 2) := by decide +kernel
theorem dL_law_2331 : decode cL_law 2331 = .ok (.ifCond .ne 15, 3) := by decide +kernel
theorem dL_law_2334 : decode cL_law 2334 = .ok (.aload_n 3, 1) := by decide +kernel
theorem dL_law_2335 : decode cL_law 2335 = .ok (.iconst 0, 1) := by decide +kernel
theorem dL_law_2336 : decode cL_law 2336 = .ok (.laload, 1) := by decide +kernel
theorem dL_law_2337 : decode cL_law 2337 = .ok (.iload 7, 2) := by decide +kernel
theorem dL_law_2339 : decode cL_law 2339 = .ok (.i2l, 1) := by decide +kernel
theorem dL_law_2340 : decode cL_law 2340 = .ok (.lcmp, 1) := by decide +kernel
theorem dL_law_2341 : decode cL_law 2341 = .ok (.ifCond .eq 5, 3) := by decide +kernel
theorem dL_law_2344 : decode cL_law 2344 = .ok (.iconst 0, 1) := by decide +kernel
theorem dL_law_2345 : decode cL_law 2345 = .ok (.ireturn, 1) := by decide +kernel
theorem dL_law_2346 : decode cL_law 2346 = .ok (.goto 1249, 3) := by decide +kernel
theorem dL_law_2349 : decode cL_law 2349 = .ok (.aload_n 1, 1) := by decide +kernel
theorem dL_law_2350 : decode cL_law 2350 = .ok (.aload_n 0, 1) := by decide +kernel
theorem dL_law_2351 : decode cL_law 2351 = .ok (.iload 5, 2) := by decide +kernel
theorem dL_law_2353 : decode cL_law 2353 = .ok (.iconst 1, 1) := by decide +kernel
theorem dL_law_2354 : decode cL_law 2354 = .ok (.iadd, 1) := by decide +kernel
theorem dL_law_2355 : decode cL_law 2355 = .ok (.iaload, 1) := by decide +kernel
theorem dL_law_2356 : decode cL_law 2356 = .ok (.aload_n 0, 1) := by decide +kernel
theorem dL_law_2357 : decode cL_law 2357 = .ok (.iload 5, 2) := by decide +kernel
theorem dL_law_2359 : decode cL_law 2359 = .ok (.iconst 2, 1) := by decide +kernel
theorem dL_law_2360 : decode cL_law 2360 = .ok (.iadd, 1) := by decide +kernel
theorem dL_law_2361 : decode cL_law 2361 = .ok (.iaload, 1) := by decide +kernel
theorem dL_law_2362 : decode cL_law 2362 = .ok (.aload_n 3, 1) := by decide +kernel
theorem dL_law_2363 : decode cL_law 2363 = .ok (.invokestatic 271, 3) := by decide +kernel
theorem dL_law_2366 : decode cL_law 2366 = .ok (.istore 6, 2) := by decide +kernel
theorem dL_law_2368 : decode cL_law 2368 = .ok (.aload_n 2, 1) := by decide +kernel
theorem dL_law_2369 : decode cL_law 2369 = .ok (.aload_n 0, 1) := by decide +kernel
theorem dL_law_2370 : decode cL_law 2370 = .ok (.iload 5, 2) := by decide +kernel
theorem dL_law_2372 : decode cL_law 2372 = .ok (.iconst 1, 1) := by decide +kernel
theorem dL_law_2373 : decode cL_law 2373 = .ok (.iadd, 1) := by decide +kernel
theorem dL_law_2374 : decode cL_law 2374 = .ok (.iaload, 1) := by decide +kernel
theorem dL_law_2375 : decode cL_law 2375 = .ok (.aload_n 0, 1) := by decide +kernel
theorem dL_law_2376 : decode cL_law 2376 = .ok (.iload 5, 2) := by decide +kernel
theorem dL_law_2378 : decode cL_law 2378 = .ok (.iconst 2, 1) := by decide +kernel
theorem dL_law_2379 : decode cL_law 2379 = .ok (.iadd, 1) := by decide +kernel
theorem dL_law_2380 : decode cL_law 2380 = .ok (.iaload, 1) := by decide +kernel
theorem dL_law_2381 : decode cL_law 2381 = .ok (.invokevirtual 273, 3) := by decide +kernel
theorem dL_law_2384 : decode cL_law 2384 = .ok (.istore 7, 2) := by decide +kernel
theorem dL_law_2386 : decode cL_law 2386 = .ok (.aload_n 2, 1) := by decide +kernel
theorem dL_law_2387 : decode cL_law 2387 = .ok (.invokevirtual 170, 3) := by decide +kernel
theorem dL_law_2390 : decode cL_law 2390 = .ok (.iload 6, 2) := by decide +kernel
theorem dL_law_2392 : decode cL_law 2392 = .ok (.if_icmp .eq 5, 3) := by decide +kernel
theorem dL_law_2395 : decode cL_law 2395 = .ok (.iconst 0, 1) := by decide +kernel
theorem dL_law_2396 : decode cL_law 2396 = .ok (.ireturn, 1) := by decide +kernel
theorem dL_law_2397 : decode cL_law 2397 = .ok (.iload 6, 2) := by decide +kernel
theorem dL_law_2399 : decode cL_law 2399 = .ok (.ifCond .ne 22, 3) := by decide +kernel
theorem dL_law_2402 : decode cL_law 2402 = .ok (.aload_n 3, 1) := by decide +kernel
theorem dL_law_2403 : decode cL_law 2403 = .ok (.iconst 0, 1) := by decide +kernel
theorem dL_law_2404 : decode cL_law 2404 = .ok (.laload, 1) := by decide +kernel
theorem dL_law_2405 : decode cL_law 2405 = .ok (.iload 7, 2) := by decide +kernel
theorem dL_law_2407 : decode cL_law 2407 = .ok (.ifCond .eq 7, 3) := by decide +kernel
theorem dL_law_2410 : decode cL_law 2410 = .ok (.lconst 1, 1) := by decide +kernel
theorem dL_law_2411 : decode cL_law 2411 = .ok (.goto 4, 3) := by decide +kernel
theorem dL_law_2414 : decode cL_law 2414 = .ok (.lconst 0, 1) := by decide +kernel
theorem dL_law_2415 : decode cL_law 2415 = .ok (.lcmp, 1) := by decide +kernel
theorem dL_law_2416 : decode cL_law 2416 = .ok (.ifCond .eq 5, 3) := by decide +kernel
theorem dL_law_2419 : decode cL_law 2419 = .ok (.iconst 0, 1) := by decide +kernel
theorem dL_law_2420 : decode cL_law 2420 = .ok (.ireturn, 1) := by decide +kernel
theorem dL_law_2421 : decode cL_law 2421 = .ok (.goto 1174, 3) := by decide +kernel
theorem dL_law_2424 : decode cL_law 2424 = .ok (.aload_n 1, 1) := by decide +kernel
theorem dL_law_2425 : decode cL_law 2425 = .ok (.invokevirtual 274, 3) := by decide +kernel
theorem dL_law_2428 : decode cL_law 2428 = .ok (.aload_n 2, 1) := by decide +kernel
theorem dL_law_2429 : decode cL_law 2429 = .ok (.invokevirtual 277, 3) := by decide +kernel
theorem dL_law_2432 : decode cL_law 2432 = .ok (.if_icmp .eq 1163, 3) := by decide +kernel
theorem dL_law_2435 : decode cL_law 2435 = .ok (.iconst 0, 1) := by decide +kernel
theorem dL_law_2436 : decode cL_law 2436 = .ok (.ireturn, 1) := by decide +kernel
theorem dL_law_2437 : decode cL_law 2437 = .ok (.aload_n 1, 1) := by decide +kernel
theorem dL_law_2438 : decode cL_law 2438 = .ok (.aload_n 0, 1) := by decide +kernel
theorem dL_law_2439 : decode cL_law 2439 = .ok (.iload 5, 2) := by decide +kernel
theorem dL_law_2441 : decode cL_law 2441 = .ok (.iconst 1, 1) := by decide +kernel
theorem dL_law_2442 : decode cL_law 2442 = .ok (.iadd, 1) := by decide +kernel
theorem dL_law_2443 : decode cL_law 2443 = .ok (.iaload, 1) := by decide +kernel
theorem dL_law_2444 : decode cL_law 2444 = .ok (.ifCond .eq 7, 3) := by decide +kernel
theorem dL_law_2447 : decode cL_law 2447 = .ok (.iconst 1, 1) := by decide +kernel
theorem dL_law_2448 : decode cL_law 2448 = .ok (.goto 4, 3) := by decide +kernel
theorem dL_law_2451 : decode cL_law 2451 = .ok (.iconst 0, 1) := by decide +kernel
theorem dL_law_2452 : decode cL_law 2452 = .ok (.invokevirtual 278, 3) := by decide +kernel
theorem dL_law_2455 : decode cL_law 2455 = .ok (.aload_n 2, 1) := by decide +kernel
theorem dL_law_2456 : decode cL_law 2456 = .ok (.aload_n 0, 1) := by decide +kernel
theorem dL_law_2457 : decode cL_law 2457 = .ok (.iload 5, 2) := by decide +kernel
theorem dL_law_2459 : decode cL_law 2459 = .ok (.iconst 1, 1) := by decide +kernel
theorem dL_law_2460 : decode cL_law 2460 = .ok (.iadd, 1) := by decide +kernel
theorem dL_law_2461 : decode cL_law 2461 = .ok (.iaload, 1) := by decide +kernel
theorem dL_law_2462 : decode cL_law 2462 = .ok (.ifCond .eq 7, 3) := by decide +kernel
theorem dL_law_2465 : decode cL_law 2465 = .ok (.iconst 1, 1) := by decide +kernel
theorem dL_law_2466 : decode cL_law 2466 = .ok (.goto 4, 3) := by decide +kernel
theorem dL_law_2469 : decode cL_law 2469 = .ok (.iconst 0, 1) := by decide +kernel
theorem dL_law_2470 : decode cL_law 2470 = .ok (.invokevirtual 282, 3) := by decide +kernel
theorem dL_law_2473 : decode cL_law 2473 = .ok (.if_icmp .eq 1122, 3) := by decide +kernel
theorem dL_law_2476 : decode cL_law 2476 = .ok (.iconst 0, 1) := by decide +kernel
theorem dL_law_2477 : decode cL_law 2477 = .ok (.ireturn, 1) := by decide +kernel
theorem dL_law_2478 : decode cL_law 2478 = .ok (.aload_n 1, 1) := by decide +kernel
theorem dL_law_2479 : decode cL_law 2479 = .ok (.aload_n 0, 1) := by decide +kernel
theorem dL_law_2480 : decode cL_law 2480 = .ok (.iload 5, 2) := by decide +kernel
theorem dL_law_2482 : decode cL_law 2482 = .ok (.iconst 1, 1) := by decide +kernel
theorem dL_law_2483 : decode cL_law 2483 = .ok (.iadd, 1) := by decide +kernel
theorem dL_law_2484 : decode cL_law 2484 = .ok (.iaload, 1) := by decide +kernel
theorem dL_law_2485 : decode cL_law 2485 = .ok (.aload_n 0, 1) := by decide +kernel
theorem dL_law_2486 : decode cL_law 2486 = .ok (.iload 5, 2) := by decide +kernel
theorem dL_law_2488 : decode cL_law 2488 = .ok (.iconst 2, 1) := by decide +kernel
theorem dL_law_2489 : decode cL_law 2489 = .ok (.iadd, 1) := by decide +kernel
theorem dL_law_2490 : decode cL_law 2490 = .ok (.iaload, 1) := by decide +kernel
theorem dL_law_2491 : decode cL_law 2491 = .ok (.aload_n 3, 1) := by decide +kernel
theorem dL_law_2492 : decode cL_law 2492 = .ok (.invokestatic 283, 3) := by decide +kernel
theorem dL_law_2495 : decode cL_law 2495 = .ok (.istore 6, 2) := by decide +kernel
theorem dL_law_2497 : decode cL_law 2497 = .ok (.aload_n 2, 1) := by decide +kernel
theorem dL_law_2498 : decode cL_law 2498 = .ok (.aload_n 0, 1) := by decide +kernel
theorem dL_law_2499 : decode cL_law 2499 = .ok (.iload 5, 2) := by decide +kernel
theorem dL_law_2501 : decode cL_law 2501 = .ok (.iconst 1, 1) := by decide +kernel
theorem dL_law_2502 : decode cL_law 2502 = .ok (.iadd, 1) := by decide +kernel
theorem dL_law_2503 : decode cL_law 2503 = .ok (.iaload, 1) := by decide +kernel
theorem dL_law_2504 : decode cL_law 2504 = .ok (.aload_n 0, 1) := by decide +kernel
theorem dL_law_2505 : decode cL_law 2505 = .ok (.iload 5, 2) := by decide +kernel
theorem dL_law_2507 : decode cL_law 2507 = .ok (.iconst 2, 1) := by decide +kernel
theorem dL_law_2508 : decode cL_law 2508 = .ok (.iadd, 1) := by decide +kernel
theorem dL_law_2509 : decode cL_law 2509 = .ok (.iaload, 1) := by decide +kernel
theorem dL_law_2510 : decode cL_law 2510 = .ok (.invokevirtual 285, 3) := by decide +kernel
theorem dL_law_2513 : decode cL_law 2513 = .ok (.istore 7, 2) := by decide +kernel
theorem dL_law_2515 : decode cL_law 2515 = .ok (.aload_n 2, 1) := by decide +kernel
theorem dL_law_2516 : decode cL_law 2516 = .ok (.invokevirtual 170, 3) := by decide +kernel
theorem dL_law_2519 : decode cL_law 2519 = .ok (.iload 6, 2) := by decide +kernel
theorem dL_law_2521 : decode cL_law 2521 = .ok (.if_icmp .eq 5, 3) := by decide +kernel
theorem dL_law_2524 : decode cL_law 2524 = .ok (.iconst 0, 1) := by decide +kernel
theorem dL_law_2525 : decode cL_law 2525 = .ok (.ireturn, 1) := by decide +kernel
theorem dL_law_2526 : decode cL_law 2526 = .ok (.iload 6, 2) := by decide +kernel
theorem dL_law_2528 : decode cL_law 2528 = .ok (.ifCond .ne 15, 3) := by decide +kernel
theorem dL_law_2531 : decode cL_law 2531 = .ok (.aload_n 3, 1) := by decide +kernel
theorem dL_law_2532 : decode cL_law 2532 = .ok (.iconst 0, 1) := by decide +kernel
theorem dL_law_2533 : decode cL_law 2533 = .ok (.laload, 1) := by decide +kernel
theorem dL_law_2534 : decode cL_law 2534 = .ok (.iload 7, 2) := by decide +kernel
theorem dL_law_2536 : decode cL_law 2536 = .ok (.i2l, 1) := by decide +kernel
theorem dL_law_2537 : decode cL_law 2537 = .ok (.lcmp, 1) := by decide +kernel
theorem dL_law_2538 : decode cL_law 2538 = .ok (.ifCond .eq 5, 3) := by decide +kernel
theorem dL_law_2541 : decode cL_law 2541 = .ok (.iconst 0, 1) := by decide +kernel
theorem dL_law_2542 : decode cL_law 2542 = .ok (.ireturn, 1) := by decide +kernel
theorem dL_law_2543 : decode cL_law 2543 = .ok (.goto 1052, 3) := by decide +kernel
theorem dL_law_2546 : decode cL_law 2546 = .ok (.aload_n 1, 1) := by decide +kernel
theorem dL_law_2547 : decode cL_law 2547 = .ok (.aload_n 0, 1) := by decide +kernel
theorem dL_law_2548 : decode cL_law 2548 = .ok (.iload 5, 2) := by decide +kernel
theorem dL_law_2550 : decode cL_law 2550 = .ok (.iconst 1, 1) := by decide +kernel
theorem dL_law_2551 : decode cL_law 2551 = .ok (.iadd, 1) := by decide +kernel
theorem dL_law_2552 : decode cL_law 2552 = .ok (.iaload, 1) := by decide +kernel
theorem dL_law_2553 : decode cL_law 2553 = .ok (.aload_n 0, 1) := by decide +kernel
theorem dL_law_2554 : decode cL_law 2554 = .ok (.iload 5, 2) := by decide +kernel
theorem dL_law_2556 : decode cL_law 2556 = .ok (.iconst 2, 1) := by decide +kernel
theorem dL_law_2557 : decode cL_law 2557 = .ok (.iadd, 1) := by decide +kernel
theorem dL_law_2558 : decode cL_law 2558 = .ok (.iaload, 1) := by decide +kernel
theorem dL_law_2559 : decode cL_law 2559 = .ok (.aload_n 0, 1) := by decide +kernel
theorem dL_law_2560 : decode cL_law 2560 = .ok (.iload 5, 2) := by decide +kernel
theorem dL_law_2562 : decode cL_law 2562 = .ok (.iconst 3, 1) := by decide +kernel
theorem dL_law_2563 : decode cL_law 2563 = .ok (.iadd, 1) := by decide +kernel
theorem dL_law_2564 : decode cL_law 2564 = .ok (.iaload, 1) := by decide +kernel
theorem dL_law_2565 : decode cL_law 2565 = .ok (.aload_n 3, 1) := by decide +kernel
theorem dL_law_2566 : decode cL_law 2566 = .ok (.invokestatic 286, 3) := by decide +kernel
theorem dL_law_2569 : decode cL_law 2569 = .ok (.istore 6, 2) := by decide +kernel
theorem dL_law_2571 : decode cL_law 2571 = .ok (.aload_n 2, 1) := by decide +kernel
theorem dL_law_2572 : decode cL_law 2572 = .ok (.aload_n 0, 1) := by decide +kernel
theorem dL_law_2573 : decode cL_law 2573 = .ok (.iload 5, 2) := by decide +kernel
theorem dL_law_2575 : decode cL_law 2575 = .ok (.iconst 1, 1) := by decide +kernel
theorem dL_law_2576 : decode cL_law 2576 = .ok (.iadd, 1) := by decide +kernel
theorem dL_law_2577 : decode cL_law 2577 = .ok (.iaload, 1) := by decide +kernel
theorem dL_law_2578 : decode cL_law 2578 = .ok (.aload_n 0, 1) := by decide +kernel
theorem dL_law_2579 : decode cL_law 2579 = .ok (.iload 5, 2) := by decide +kernel
theorem dL_law_2581 : decode cL_law 2581 = .ok (.iconst 2, 1) := by decide +kernel
theorem dL_law_2582 : decode cL_law 2582 = .ok (.iadd, 1) := by decide +kernel
theorem dL_law_2583 : decode cL_law 2583 = .ok (.iaload, 1) := by decide +kernel
theorem dL_law_2584 : decode cL_law 2584 = .ok (.aload_n 0, 1) := by decide +kernel
theorem dL_law_2585 : decode cL_law 2585 = .ok (.iload 5, 2) := by decide +kernel
theorem dL_law_2587 : decode cL_law 2587 = .ok (.iconst 3, 1) := by decide +kernel
theorem dL_law_2588 : decode cL_law 2588 = .ok (.iadd, 1) := by decide +kernel
theorem dL_law_2589 : decode cL_law 2589 = .ok (.iaload, 1) := by decide +kernel
theorem dL_law_2590 : decode cL_law 2590 = .ok (.invokevirtual 288, 3) := by decide +kernel
theorem dL_law_2593 : decode cL_law 2593 = .ok (.istore 7, 2) := by decide +kernel
theorem dL_law_2595 : decode cL_law 2595 = .ok (.aload_n 2, 1) := by decide +kernel
theorem dL_law_2596 : decode cL_law 2596 = .ok (.invokevirtual 170, 3) := by decide +kernel
theorem dL_law_2599 : decode cL_law 2599 = .ok (.iload 6, 2) := by decide +kernel
theorem dL_law_2601 : decode cL_law 2601 = .ok (.if_icmp .eq 5, 3) := by decide +kernel
theorem dL_law_2604 : decode cL_law 2604 = .ok (.iconst 0, 1) := by decide +kernel
theorem dL_law_2605 : decode cL_law 2605 = .ok (.ireturn, 1) := by decide +kernel
theorem dL_law_2606 : decode cL_law 2606 = .ok (.iload 6, 2) := by decide +kernel
theorem dL_law_2608 : decode cL_law 2608 = .ok (.ifCond .ne 15, 3) := by decide +kernel
theorem dL_law_2611 : decode cL_law 2611 = .ok (.aload_n 3, 1) := by decide +kernel
theorem dL_law_2612 : decode cL_law 2612 = .ok (.iconst 0, 1) := by decide +kernel
theorem dL_law_2613 : decode cL_law 2613 = .ok (.laload, 1) := by decide +kernel
theorem dL_law_2614 : decode cL_law 2614 = .ok (.iload 7, 2) := by decide +kernel
theorem dL_law_2616 : decode cL_law 2616 = .ok (.i2l, 1) := by decide +kernel
theorem dL_law_2617 : decode cL_law 2617 = .ok (.lcmp, 1) := by decide +kernel
theorem dL_law_2618 : decode cL_law 2618 = .ok (.ifCond .eq 5, 3) := by decide +kernel
theorem dL_law_2621 : decode cL_law 2621 = .ok (.iconst 0, 1) := by decide +kernel
theorem dL_law_2622 : decode cL_law 2622 = .ok (.ireturn, 1) := by decide +kernel
theorem dL_law_2623 : decode cL_law 2623 = .ok (.goto 972, 3) := by decide +kernel
theorem dL_law_2626 : decode cL_law 2626 = .ok (.aload_n 1, 1) := by decide +kernel
theorem dL_law_2627 : decode cL_law 2627 = .ok (.aload_n 0, 1) := by decide +kernel
theorem dL_law_2628 : decode cL_law 2628 = .ok (.iload 5, 2) := by decide +kernel
theorem dL_law_2630 : decode cL_law 2630 = .ok (.iconst 1, 1) := by decide +kernel
theorem dL_law_2631 : decode cL_law 2631 = .ok (.iadd, 1) := by decide +kernel
theorem dL_law_2632 : decode cL_law 2632 = .ok (.iaload, 1) := by decide +kernel
theorem dL_law_2633 : decode cL_law 2633 = .ok (.aload_n 0, 1) := by decide +kernel
theorem dL_law_2634 : decode cL_law 2634 = .ok (.iload 5, 2) := by decide +kernel
theorem dL_law_2636 : decode cL_law 2636 = .ok (.iconst 2, 1) := by decide +kernel
theorem dL_law_2637 : decode cL_law 2637 = .ok (.iadd, 1) := by decide +kernel
theorem dL_law_2638 : decode cL_law 2638 = .ok (.iaload, 1) := by decide +kernel
theorem dL_law_2639 : decode cL_law 2639 = .ok (.aload_n 3, 1) := by decide +kernel
theorem dL_law_2640 : decode cL_law 2640 = .ok (.invokestatic 289, 3) := by decide +kernel
theorem dL_law_2643 : decode cL_law 2643 = .ok (.istore 6, 2) := by decide +kernel
theorem dL_law_2645 : decode cL_law 2645 = .ok (.aload_n 2, 1) := by decide +kernel
theorem dL_law_2646 : decode cL_law 2646 = .ok (.aload_n 0, 1) := by decide +kernel
theorem dL_law_2647 : decode cL_law 2647 = .ok (.iload 5, 2) := by decide +kernel
theorem dL_law_2649 : decode cL_law 2649 = .ok (.iconst 1, 1) := by decide +kernel
theorem dL_law_2650 : decode cL_law 2650 = .ok (.iadd, 1) := by decide +kernel
theorem dL_law_2651 : decode cL_law 2651 = .ok (.iaload, 1) := by decide +kernel
theorem dL_law_2652 : decode cL_law 2652 = .ok (.aload_n 0, 1) := by decide +kernel
theorem dL_law_2653 : decode cL_law 2653 = .ok (.iload 5, 2) := by decide +kernel
theorem dL_law_2655 : decode cL_law 2655 = .ok (.iconst 2, 1) := by decide +kernel
theorem dL_law_2656 : decode cL_law 2656 = .ok (.iadd, 1) := by decide +kernel
theorem dL_law_2657 : decode cL_law 2657 = .ok (.iaload, 1) := by decide +kernel
theorem dL_law_2658 : decode cL_law 2658 = .ok (.invokevirtual 291, 3) := by decide +kernel
theorem dL_law_2661 : decode cL_law 2661 = .ok (.istore 7, 2) := by decide +kernel
theorem dL_law_2663 : decode cL_law 2663 = .ok (.aload_n 2, 1) := by decide +kernel
theorem dL_law_2664 : decode cL_law 2664 = .ok (.invokevirtual 170, 3) := by decide +kernel
theorem dL_law_2667 : decode cL_law 2667 = .ok (.iload 6, 2) := by decide +kernel
theorem dL_law_2669 : decode cL_law 2669 = .ok (.if_icmp .eq 5, 3) := by decide +kernel
theorem dL_law_2672 : decode cL_law 2672 = .ok (.iconst 0, 1) := by decide +kernel
