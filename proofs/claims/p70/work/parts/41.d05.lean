theorem dL_law_2084 : decode cL_law 2084 = .ok (.iconst 3, 1) := by decide +kernel
theorem dL_law_2085 : decode cL_law 2085 = .ok (.iadd, 1) := by decide +kernel
theorem dL_law_2086 : decode cL_law 2086 = .ok (.iaload, 1) := by decide +kernel
theorem dL_law_2087 : decode cL_law 2087 = .ok (.invokevirtual 199, 3) := by decide +kernel
theorem dL_law_2090 : decode cL_law 2090 = .ok (.pop, 1) := by decide +kernel
theorem dL_law_2091 : decode cL_law 2091 = .ok (.aload_n 2, 1) := by decide +kernel
theorem dL_law_2092 : decode cL_law 2092 = .ok (.aload_n 0, 1) := by decide +kernel
theorem dL_law_2093 : decode cL_law 2093 = .ok (.iload_n 3, 1) := by decide +kernel
theorem dL_law_2094 : decode cL_law 2094 = .ok (.iconst 1, 1) := by decide +kernel
theorem dL_law_2095 : decode cL_law 2095 = .ok (.iadd, 1) := by decide +kernel
theorem dL_law_2096 : decode cL_law 2096 = .ok (.iaload, 1) := by decide +kernel
theorem dL_law_2097 : decode cL_law 2097 = .ok (.aload_n 0, 1) := by decide +kernel
theorem dL_law_2098 : decode cL_law 2098 = .ok (.iload_n 3, 1) := by decide +kernel
theorem dL_law_2099 : decode cL_law 2099 = .ok (.iconst 2, 1) := by decide +kernel
theorem dL_law_2100 : decode cL_law 2100 = .ok (.iadd, 1) := by decide +kernel
theorem dL_law_2101 : decode cL_law 2101 = .ok (.iaload, 1) := by decide +kernel
theorem dL_law_2102 : decode cL_law 2102 = .ok (.aload_n 0, 1) := by decide +kernel
theorem dL_law_2103 : decode cL_law 2103 = .ok (.iload_n 3, 1) := by decide +kernel
theorem dL_law_2104 : decode cL_law 2104 = .ok (.iconst 3, 1) := by decide +kernel
theorem dL_law_2105 : decode cL_law 2105 = .ok (.iadd, 1) := by decide +kernel
theorem dL_law_2106 : decode cL_law 2106 = .ok (.iaload, 1) := by decide +kernel
theorem dL_law_2107 : decode cL_law 2107 = .ok (.invokevirtual 202, 3) := by decide +kernel
theorem dL_law_2110 : decode cL_law 2110 = .ok (.pop, 1) := by decide +kernel
theorem dL_law_2111 : decode cL_law 2111 = .ok (.goto 1041, 3) := by decide +kernel
theorem dL_law_2114 : decode cL_law 2114 = .ok (.aload_n 1, 1) := by decide +kernel
theorem dL_law_2115 : decode cL_law 2115 = .ok (.aload_n 0, 1) := by decide +kernel
theorem dL_law_2116 : decode cL_law 2116 = .ok (.iload_n 3, 1) := by decide +kernel
theorem dL_law_2117 : decode cL_law 2117 = .ok (.iconst 1, 1) := by decide +kernel
theorem dL_law_2118 : decode cL_law 2118 = .ok (.iadd, 1) := by decide +kernel
theorem dL_law_2119 : decode cL_law 2119 = .ok (.iaload, 1) := by decide +kernel
theorem dL_law_2120 : decode cL_law 2120 = .ok (.aload_n 0, 1) := by decide +kernel
theorem dL_law_2121 : decode cL_law 2121 = .ok (.iload_n 3, 1) := by decide +kernel
theorem dL_law_2122 : decode cL_law 2122 = .ok (.iconst 2, 1) := by decide +kernel
theorem dL_law_2123 : decode cL_law 2123 = .ok (.iadd, 1) := by decide +kernel
theorem dL_law_2124 : decode cL_law 2124 = .ok (.iaload, 1) := by decide +kernel
theorem dL_law_2125 : decode cL_law 2125 = .ok (.invokevirtual 203, 3) := by decide +kernel
theorem dL_law_2128 : decode cL_law 2128 = .ok (.pop, 1) := by decide +kernel
theorem dL_law_2129 : decode cL_law 2129 = .ok (.aload_n 2, 1) := by decide +kernel
theorem dL_law_2130 : decode cL_law 2130 = .ok (.aload_n 0, 1) := by decide +kernel
theorem dL_law_2131 : decode cL_law 2131 = .ok (.iload_n 3, 1) := by decide +kernel
theorem dL_law_2132 : decode cL_law 2132 = .ok (.iconst 1, 1) := by decide +kernel
theorem dL_law_2133 : decode cL_law 2133 = .ok (.iadd, 1) := by decide +kernel
theorem dL_law_2134 : decode cL_law 2134 = .ok (.iaload, 1) := by decide +kernel
theorem dL_law_2135 : decode cL_law 2135 = .ok (.aload_n 0, 1) := by decide +kernel
theorem dL_law_2136 : decode cL_law 2136 = .ok (.iload_n 3, 1) := by decide +kernel
theorem dL_law_2137 : decode cL_law 2137 = .ok (.iconst 2, 1) := by decide +kernel
theorem dL_law_2138 : decode cL_law 2138 = .ok (.iadd, 1) := by decide +kernel
theorem dL_law_2139 : decode cL_law 2139 = .ok (.iaload, 1) := by decide +kernel
theorem dL_law_2140 : decode cL_law 2140 = .ok (.invokevirtual 206, 3) := by decide +kernel
theorem dL_law_2143 : decode cL_law 2143 = .ok (.pop, 1) := by decide +kernel
theorem dL_law_2144 : decode cL_law 2144 = .ok (.goto 1008, 3) := by decide +kernel
theorem dL_law_2147 : decode cL_law 2147 = .ok (.aload_n 1, 1) := by decide +kernel
theorem dL_law_2148 : decode cL_law 2148 = .ok (.aload_n 0, 1) := by decide +kernel
theorem dL_law_2149 : decode cL_law 2149 = .ok (.iload_n 3, 1) := by decide +kernel
theorem dL_law_2150 : decode cL_law 2150 = .ok (.iconst 1, 1) := by decide +kernel
theorem dL_law_2151 : decode cL_law 2151 = .ok (.iadd, 1) := by decide +kernel
theorem dL_law_2152 : decode cL_law 2152 = .ok (.iaload, 1) := by decide +kernel
theorem dL_law_2153 : decode cL_law 2153 = .ok (.aload_n 0, 1) := by decide +kernel
theorem dL_law_2154 : decode cL_law 2154 = .ok (.iload_n 3, 1) := by decide +kernel
theorem dL_law_2155 : decode cL_law 2155 = .ok (.iconst 2, 1) := by decide +kernel
theorem dL_law_2156 : decode cL_law 2156 = .ok (.iadd, 1) := by decide +kernel
theorem dL_law_2157 : decode cL_law 2157 = .ok (.iaload, 1) := by decide +kernel
theorem dL_law_2158 : decode cL_law 2158 = .ok (.aload_n 0, 1) := by decide +kernel
theorem dL_law_2159 : decode cL_law 2159 = .ok (.iload_n 3, 1) := by decide +kernel
theorem dL_law_2160 : decode cL_law 2160 = .ok (.iconst 3, 1) := by decide +kernel
theorem dL_law_2161 : decode cL_law 2161 = .ok (.iadd, 1) := by decide +kernel
theorem dL_law_2162 : decode cL_law 2162 = .ok (.iaload, 1) := by decide +kernel
theorem dL_law_2163 : decode cL_law 2163 = .ok (.invokevirtual 207, 3) := by decide +kernel
theorem dL_law_2166 : decode cL_law 2166 = .ok (.pop, 1) := by decide +kernel
theorem dL_law_2167 : decode cL_law 2167 = .ok (.aload_n 2, 1) := by decide +kernel
theorem dL_law_2168 : decode cL_law 2168 = .ok (.aload_n 0, 1) := by decide +kernel
theorem dL_law_2169 : decode cL_law 2169 = .ok (.iload_n 3, 1) := by decide +kernel
theorem dL_law_2170 : decode cL_law 2170 = .ok (.iconst 1, 1) := by decide +kernel
theorem dL_law_2171 : decode cL_law 2171 = .ok (.iadd, 1) := by decide +kernel
theorem dL_law_2172 : decode cL_law 2172 = .ok (.iaload, 1) := by decide +kernel
theorem dL_law_2173 : decode cL_law 2173 = .ok (.aload_n 0, 1) := by decide +kernel
theorem dL_law_2174 : decode cL_law 2174 = .ok (.iload_n 3, 1) := by decide +kernel
theorem dL_law_2175 : decode cL_law 2175 = .ok (.iconst 2, 1) := by decide +kernel
theorem dL_law_2176 : decode cL_law 2176 = .ok (.iadd, 1) := by decide +kernel
theorem dL_law_2177 : decode cL_law 2177 = .ok (.iaload, 1) := by decide +kernel
theorem dL_law_2178 : decode cL_law 2178 = .ok (.aload_n 0, 1) := by decide +kernel
theorem dL_law_2179 : decode cL_law 2179 = .ok (.iload_n 3, 1) := by decide +kernel
theorem dL_law_2180 : decode cL_law 2180 = .ok (.iconst 3, 1) := by decide +kernel
theorem dL_law_2181 : decode cL_law 2181 = .ok (.iadd, 1) := by decide +kernel
theorem dL_law_2182 : decode cL_law 2182 = .ok (.iaload, 1) := by decide +kernel
theorem dL_law_2183 : decode cL_law 2183 = .ok (.invokevirtual 210, 3) := by decide +kernel
theorem dL_law_2186 : decode cL_law 2186 = .ok (.pop, 1) := by decide +kernel
theorem dL_law_2187 : decode cL_law 2187 = .ok (.goto 965, 3) := by decide +kernel
theorem dL_law_2190 : decode cL_law 2190 = .ok (.aload_n 1, 1) := by decide +kernel
theorem dL_law_2191 : decode cL_law 2191 = .ok (.aload_n 0, 1) := by decide +kernel
theorem dL_law_2192 : decode cL_law 2192 = .ok (.iload_n 3, 1) := by decide +kernel
theorem dL_law_2193 : decode cL_law 2193 = .ok (.iconst 1, 1) := by decide +kernel
theorem dL_law_2194 : decode cL_law 2194 = .ok (.iadd, 1) := by decide +kernel
theorem dL_law_2195 : decode cL_law 2195 = .ok (.iaload, 1) := by decide +kernel
theorem dL_law_2196 : decode cL_law 2196 = .ok (.aload_n 0, 1) := by decide +kernel
theorem dL_law_2197 : decode cL_law 2197 = .ok (.iload_n 3, 1) := by decide +kernel
theorem dL_law_2198 : decode cL_law 2198 = .ok (.iconst 2, 1) := by decide +kernel
theorem dL_law_2199 : decode cL_law 2199 = .ok (.iadd, 1) := by decide +kernel
theorem dL_law_2200 : decode cL_law 2200 = .ok (.iaload, 1) := by decide +kernel
theorem dL_law_2201 : decode cL_law 2201 = .ok (.invokevirtual 211, 3) := by decide +kernel
theorem dL_law_2204 : decode cL_law 2204 = .ok (.pop, 1) := by decide +kernel
theorem dL_law_2205 : decode cL_law 2205 = .ok (.aload_n 2, 1) := by decide +kernel
theorem dL_law_2206 : decode cL_law 2206 = .ok (.aload_n 0, 1) := by decide +kernel
theorem dL_law_2207 : decode cL_law 2207 = .ok (.iload_n 3, 1) := by decide +kernel
theorem dL_law_2208 : decode cL_law 2208 = .ok (.iconst 1, 1) := by decide +kernel
theorem dL_law_2209 : decode cL_law 2209 = .ok (.iadd, 1) := by decide +kernel
theorem dL_law_2210 : decode cL_law 2210 = .ok (.iaload, 1) := by decide +kernel
theorem dL_law_2211 : decode cL_law 2211 = .ok (.aload_n 0, 1) := by decide +kernel
theorem dL_law_2212 : decode cL_law 2212 = .ok (.iload_n 3, 1) := by decide +kernel
theorem dL_law_2213 : decode cL_law 2213 = .ok (.iconst 2, 1) := by decide +kernel
theorem dL_law_2214 : decode cL_law 2214 = .ok (.iadd, 1) := by decide +kernel
theorem dL_law_2215 : decode cL_law 2215 = .ok (.iaload, 1) := by decide +kernel
theorem dL_law_2216 : decode cL_law 2216 = .ok (.invokevirtual 214, 3) := by decide +kernel
theorem dL_law_2219 : decode cL_law 2219 = .ok (.pop, 1) := by decide +kernel
theorem dL_law_2220 : decode cL_law 2220 = .ok (.goto 932, 3) := by decide +kernel
theorem dL_law_2223 : decode cL_law 2223 = .ok (.aload_n 1, 1) := by decide +kernel
theorem dL_law_2224 : decode cL_law 2224 = .ok (.aload_n 0, 1) := by decide +kernel
theorem dL_law_2225 : decode cL_law 2225 = .ok (.iload_n 3, 1) := by decide +kernel
theorem dL_law_2226 : decode cL_law 2226 = .ok (.iconst 1, 1) := by decide +kernel
theorem dL_law_2227 : decode cL_law 2227 = .ok (.iadd, 1) := by decide +kernel
theorem dL_law_2228 : decode cL_law 2228 = .ok (.iaload, 1) := by decide +kernel
theorem dL_law_2229 : decode cL_law 2229 = .ok (.aload_n 0, 1) := by decide +kernel
theorem dL_law_2230 : decode cL_law 2230 = .ok (.iload_n 3, 1) := by decide +kernel
theorem dL_law_2231 : decode cL_law 2231 = .ok (.iconst 2, 1) := by decide +kernel
theorem dL_law_2232 : decode cL_law 2232 = .ok (.iadd, 1) := by decide +kernel
theorem dL_law_2233 : decode cL_law 2233 = .ok (.iaload, 1) := by decide +kernel
theorem dL_law_2234 : decode cL_law 2234 = .ok (.invokevirtual 215, 3) := by decide +kernel
theorem dL_law_2237 : decode cL_law 2237 = .ok (.pop, 1) := by decide +kernel
theorem dL_law_2238 : decode cL_law 2238 = .ok (.aload_n 2, 1) := by decide +kernel
theorem dL_law_2239 : decode cL_law 2239 = .ok (.aload_n 0, 1) := by decide +kernel
theorem dL_law_2240 : decode cL_law 2240 = .ok (.iload_n 3, 1) := by decide +kernel
theorem dL_law_2241 : decode cL_law 2241 = .ok (.iconst 1, 1) := by decide +kernel
theorem dL_law_2242 : decode cL_law 2242 = .ok (.iadd, 1) := by decide +kernel
theorem dL_law_2243 : decode cL_law 2243 = .ok (.iaload, 1) := by decide +kernel
theorem dL_law_2244 : decode cL_law 2244 = .ok (.aload_n 0, 1) := by decide +kernel
theorem dL_law_2245 : decode cL_law 2245 = .ok (.iload_n 3, 1) := by decide +kernel
theorem dL_law_2246 : decode cL_law 2246 = .ok (.iconst 2, 1) := by decide +kernel
theorem dL_law_2247 : decode cL_law 2247 = .ok (.iadd, 1) := by decide +kernel
theorem dL_law_2248 : decode cL_law 2248 = .ok (.iaload, 1) := by decide +kernel
theorem dL_law_2249 : decode cL_law 2249 = .ok (.invokevirtual 218, 3) := by decide +kernel
theorem dL_law_2252 : decode cL_law 2252 = .ok (.pop, 1) := by decide +kernel
theorem dL_law_2253 : decode cL_law 2253 = .ok (.goto 899, 3) := by decide +kernel
theorem dL_law_2256 : decode cL_law 2256 = .ok (.aload_n 1, 1) := by decide +kernel
theorem dL_law_2257 : decode cL_law 2257 = .ok (.aload_n 0, 1) := by decide +kernel
theorem dL_law_2258 : decode cL_law 2258 = .ok (.iload_n 3, 1) := by decide +kernel
theorem dL_law_2259 : decode cL_law 2259 = .ok (.iconst 1, 1) := by decide +kernel
theorem dL_law_2260 : decode cL_law 2260 = .ok (.iadd, 1) := by decide +kernel
theorem dL_law_2261 : decode cL_law 2261 = .ok (.iaload, 1) := by decide +kernel
theorem dL_law_2262 : decode cL_law 2262 = .ok (.aload_n 0, 1) := by decide +kernel
theorem dL_law_2263 : decode cL_law 2263 = .ok (.iload_n 3, 1) := by decide +kernel
theorem dL_law_2264 : decode cL_law 2264 = .ok (.iconst 2, 1) := by decide +kernel
theorem dL_law_2265 : decode cL_law 2265 = .ok (.iadd, 1) := by decide +kernel
theorem dL_law_2266 : decode cL_law 2266 = .ok (.iaload, 1) := by decide +kernel
theorem dL_law_2267 : decode cL_law 2267 = .ok (.invokevirtual 219, 3) := by decide +kernel
theorem dL_law_2270 : decode cL_law 2270 = .ok (.pop, 1) := by decide +kernel
theorem dL_law_2271 : decode cL_law 2271 = .ok (.aload_n 2, 1) := by decide +kernel
theorem dL_law_2272 : decode cL_law 2272 = .ok (.aload_n 0, 1) := by decide +kernel
theorem dL_law_2273 : decode cL_law 2273 = .ok (.iload_n 3, 1) := by decide +kernel
theorem dL_law_2274 : decode cL_law 2274 = .ok (.iconst 1, 1) := by decide +kernel
theorem dL_law_2275 : decode cL_law 2275 = .ok (.iadd, 1) := by decide +kernel
theorem dL_law_2276 : decode cL_law 2276 = .ok (.iaload, 1) := by decide +kernel
theorem dL_law_2277 : decode cL_law 2277 = .ok (.aload_n 0, 1) := by decide +kernel
theorem dL_law_2278 : decode cL_law 2278 = .ok (.iload_n 3, 1) := by decide +kernel
theorem dL_law_2279 : decode cL_law 2279 = .ok (.iconst 2, 1) := by decide +kernel
theorem dL_law_2280 : decode cL_law 2280 = .ok (.iadd, 1) := by decide +kernel
theorem dL_law_2281 : decode cL_law 2281 = .ok (.iaload, 1) := by decide +kernel
theorem dL_law_2282 : decode cL_law 2282 = .ok (.invokevirtual 222, 3) := by decide +kernel
theorem dL_law_2285 : decode cL_law 2285 = .ok (.pop, 1) := by decide +kernel
theorem dL_law_2286 : decode cL_law 2286 = .ok (.goto 866, 3) := by decide +kernel
theorem dL_law_2289 : decode cL_law 2289 = .ok (.aload_n 1, 1) := by decide +kernel
theorem dL_law_2290 : decode cL_law 2290 = .ok (.aload_n 0, 1) := by decide +kernel
theorem dL_law_2291 : decode cL_law 2291 = .ok (.iload_n 3, 1) := by decide +kernel
theorem dL_law_2292 : decode cL_law 2292 = .ok (.iconst 1, 1) := by decide +kernel
theorem dL_law_2293 : decode cL_law 2293 = .ok (.iadd, 1) := by decide +kernel
theorem dL_law_2294 : decode cL_law 2294 = .ok (.iaload, 1) := by decide +kernel
theorem dL_law_2295 : decode cL_law 2295 = .ok (.aload_n 0, 1) := by decide +kernel
theorem dL_law_2296 : decode cL_law 2296 = .ok (.iload_n 3, 1) := by decide +kernel
theorem dL_law_2297 : decode cL_law 2297 = .ok (.iconst 2, 1) := by decide +kernel
theorem dL_law_2298 : decode cL_law 2298 = .ok (.iadd, 1) := by decide +kernel
theorem dL_law_2299 : decode cL_law 2299 = .ok (.iaload, 1) := by decide +kernel
theorem dL_law_2300 : decode cL_law 2300 = .ok (.aload_n 0, 1) := by decide +kernel
theorem dL_law_2301 : decode cL_law 2301 = .ok (.iload_n 3, 1) := by decide +kernel
theorem dL_law_2302 : decode cL_law 2302 = .ok (.iconst 3, 1) := by decide +kernel
theorem dL_law_2303 : decode cL_law 2303 = .ok (.iadd, 1) := by decide +kernel
theorem dL_law_2304 : decode cL_law 2304 = .ok (.iaload, 1) := by decide +kernel
theorem dL_law_2305 : decode cL_law 2305 = .ok (.aload_n 0, 1) := by decide +kernel
theorem dL_law_2306 : decode cL_law 2306 = .ok (.iload_n 3, 1) := by decide +kernel
theorem dL_law_2307 : decode cL_law 2307 = .ok (.iconst 4, 1) := by decide +kernel
theorem dL_law_2308 : decode cL_law 2308 = .ok (.iadd, 1) := by decide +kernel
theorem dL_law_2309 : decode cL_law 2309 = .ok (.iaload, 1) := by decide +kernel
theorem dL_law_2310 : decode cL_law 2310 = .ok (.invokevirtual 223, 3) := by decide +kernel
theorem dL_law_2313 : decode cL_law 2313 = .ok (.pop, 1) := by decide +kernel
theorem dL_law_2314 : decode cL_law 2314 = .ok (.aload_n 2, 1) := by decide +kernel
theorem dL_law_2315 : decode cL_law 2315 = .ok (.aload_n 0, 1) := by decide +kernel
theorem dL_law_2316 : decode cL_law 2316 = .ok (.iload_n 3, 1) := by decide +kernel
theorem dL_law_2317 : decode cL_law 2317 = .ok (.iconst 1, 1) := by decide +kernel
theorem dL_law_2318 : decode cL_law 2318 = .ok (.iadd, 1) := by decide +kernel
theorem dL_law_2319 : decode cL_law 2319 = .ok (.iaload, 1) := by decide +kernel
theorem dL_law_2320 : decode cL_law 2320 = .ok (.aload_n 0, 1) := by decide +kernel
theorem dL_law_2321 : decode cL_law 2321 = .ok (.iload_n 3, 1) := by decide +kernel
theorem dL_law_2322 : decode cL_law 2322 = .ok (.iconst 2, 1) := by decide +kernel
theorem dL_law_2323 : decode cL_law 2323 = .ok (.iadd, 1) := by decide +kernel
theorem dL_law_2324 : decode cL_law 2324 = .ok (.iaload, 1) := by decide +kernel
theorem dL_law_2325 : decode cL_law 2325 = .ok (.aload_n 0, 1) := by decide +kernel
theorem dL_law_2326 : decode cL_law 2326 = .ok (.iload_n 3, 1) := by decide +kernel
theorem dL_law_2327 : decode cL_law 2327 = .ok (.iconst 3, 1) := by decide +kernel
theorem dL_law_2328 : decode cL_law 2328 = .ok (.iadd, 1) := by decide +kernel
theorem dL_law_2329 : decode cL_law 2329 = .ok (.iaload, 1) := by decide +kernel
theorem dL_law_2330 : decode cL_law 2330 = .ok (.aload_n 0, 1) := by decide +kernel
theorem dL_law_2331 : decode cL_law 2331 = .ok (.iload_n 3, 1) := by decide +kernel
theorem dL_law_2332 : decode cL_law 2332 = .ok (.iconst 4, 1) := by decide +kernel
theorem dL_law_2333 : decode cL_law 2333 = .ok (.iadd, 1) := by decide +kernel
theorem dL_law_2334 : decode cL_law 2334 = .ok (.iaload, 1) := by decide +kernel
theorem dL_law_2335 : decode cL_law 2335 = .ok (.invokevirtual 226, 3) := by decide +kernel
theorem dL_law_2338 : decode cL_law 2338 = .ok (.pop, 1) := by decide +kernel
theorem dL_law_2339 : decode cL_law 2339 = .ok (.goto 813, 3) := by decide +kernel
theorem dL_law_2342 : decode cL_law 2342 = .ok (.aload_n 1, 1) := by decide +kernel
theorem dL_law_2343 : decode cL_law 2343 = .ok (.aload_n 0, 1) := by decide +kernel
theorem dL_law_2344 : decode cL_law 2344 = .ok (.iload_n 3, 1) := by decide +kernel
theorem dL_law_2345 : decode cL_law 2345 = .ok (.iconst 1, 1) := by decide +kernel
theorem dL_law_2346 : decode cL_law 2346 = .ok (.iadd, 1) := by decide +kernel
theorem dL_law_2347 : decode cL_law 2347 = .ok (.iaload, 1) := by decide +kernel
theorem dL_law_2348 : decode cL_law 2348 = .ok (.aload_n 0, 1) := by decide +kernel
theorem dL_law_2349 : decode cL_law 2349 = .ok (.iload_n 3, 1) := by decide +kernel
theorem dL_law_2350 : decode cL_law 2350 = .ok (.iconst 2, 1) := by decide +kernel
theorem dL_law_2351 : decode cL_law 2351 = .ok (.iadd, 1) := by decide +kernel
theorem dL_law_2352 : decode cL_law 2352 = .ok (.iaload, 1) := by decide +kernel
theorem dL_law_2353 : decode cL_law 2353 = .ok (.aload_n 0, 1) := by decide +kernel
theorem dL_law_2354 : decode cL_law 2354 = .ok (.iload_n 3, 1) := by decide +kernel
theorem dL_law_2355 : decode cL_law 2355 = .ok (.iconst 3, 1) := by decide +kernel
theorem dL_law_2356 : decode cL_law 2356 = .ok (.iadd, 1) := by decide +kernel
theorem dL_law_2357 : decode cL_law 2357 = .ok (.iaload, 1) := by decide +kernel
theorem dL_law_2358 : decode cL_law 2358 = .ok (.aload_n 0, 1) := by decide +kernel
theorem dL_law_2359 : decode cL_law 2359 = .ok (.iload_n 3, 1) := by decide +kernel
theorem dL_law_2360 : decode cL_law 2360 = .ok (.iconst 4, 1) := by decide +kernel
theorem dL_law_2361 : decode cL_law 2361 = .ok (.iadd, 1) := by decide +kernel
theorem dL_law_2362 : decode cL_law 2362 = .ok (.iaload, 1) := by decide +kernel
theorem dL_law_2363 : decode cL_law 2363 = .ok (.aload_n 0, 1) := by decide +kernel
theorem dL_law_2364 : decode cL_law 2364 = .ok (.iload_n 3, 1) := by decide +kernel
theorem dL_law_2365 : decode cL_law 2365 = .ok (.iconst 5, 1) := by decide +kernel
theorem dL_law_2366 : decode cL_law 2366 = .ok (.iadd, 1) := by decide +kernel
theorem dL_law_2367 : decode cL_law 2367 = .ok (.iaload, 1) := by decide +kernel
theorem dL_law_2368 : decode cL_law 2368 = .ok (.invokevirtual 227, 3) := by decide +kernel
theorem dL_law_2371 : decode cL_law 2371 = .ok (.pop, 1) := by decide +kernel
theorem dL_law_2372 : decode cL_law 2372 = .ok (.aload_n 2, 1) := by decide +kernel
theorem dL_law_2373 : decode cL_law 2373 = .ok (.aload_n 0, 1) := by decide +kernel
theorem dL_law_2374 : decode cL_law 2374 = .ok (.iload_n 3, 1) := by decide +kernel
theorem dL_law_2375 : decode cL_law 2375 = .ok (.iconst 1, 1) := by decide +kernel
theorem dL_law_2376 : decode cL_law 2376 = .ok (.iadd, 1) := by decide +kernel
theorem dL_law_2377 : decode cL_law 2377 = .ok (.iaload, 1) := by decide +kernel
theorem dL_law_2378 : decode cL_law 2378 = .ok (.aload_n 0, 1) := by decide +kernel
theorem dL_law_2379 : decode cL_law 2379 = .ok (.iload_n 3, 1) := by decide +kernel
theorem dL_law_2380 : decode cL_law 2380 = .ok (.iconst 2, 1) := by decide +kernel
theorem dL_law_2381 : decode cL_law 2381 = .ok (.iadd, 1) := by decide +kernel
theorem dL_law_2382 : decode cL_law 2382 = .ok (.iaload, 1) := by decide +kernel
theorem dL_law_2383 : decode cL_law 2383 = .ok (.aload_n 0, 1) := by decide +kernel
theorem dL_law_2384 : decode cL_law 2384 = .ok (.iload_n 3, 1) := by decide +kernel
theorem dL_law_2385 : decode cL_law 2385 = .ok (.iconst 3, 1) := by decide +kernel
theorem dL_law_2386 : decode cL_law 2386 = .ok (.iadd, 1) := by decide +kernel
theorem dL_law_2387 : decode cL_law 2387 = .ok (.iaload, 1) := by decide +kernel
theorem dL_law_2388 : decode cL_law 2388 = .ok (.aload_n 0, 1) := by decide +kernel
theorem dL_law_2389 : decode cL_law 2389 = .ok (.iload_n 3, 1) := by decide +kernel
theorem dL_law_2390 : decode cL_law 2390 = .ok (.iconst 4, 1) := by decide +kernel
theorem dL_law_2391 : decode cL_law 2391 = .ok (.iadd, 1) := by decide +kernel
theorem dL_law_2392 : decode cL_law 2392 = .ok (.iaload, 1) := by decide +kernel
theorem dL_law_2393 : decode cL_law 2393 = .ok (.aload_n 0, 1) := by decide +kernel
theorem dL_law_2394 : decode cL_law 2394 = .ok (.iload_n 3, 1) := by decide +kernel
theorem dL_law_2395 : decode cL_law 2395 = .ok (.iconst 5, 1) := by decide +kernel
theorem dL_law_2396 : decode cL_law 2396 = .ok (.iadd, 1) := by decide +kernel
theorem dL_law_2397 : decode cL_law 2397 = .ok (.iaload, 1) := by decide +kernel
theorem dL_law_2398 : decode cL_law 2398 = .ok (.invokevirtual 230, 3) := by decide +kernel
theorem dL_law_2401 : decode cL_law 2401 = .ok (.pop, 1) := by decide +kernel
theorem dL_law_2402 : decode cL_law 2402 = .ok (.goto 750, 3) := by decide +kernel
theorem dL_law_2405 : decode cL_law 2405 = .ok (.aload_n 1, 1) := by decide +kernel
theorem dL_law_2406 : decode cL_law 2406 = .ok (.aload_n 0, 1) := by decide +kernel
theorem dL_law_2407 : decode cL_law 2407 = .ok (.iload_n 3, 1) := by decide +kernel
theorem dL_law_2408 : decode cL_law 2408 = .ok (.iconst 1, 1) := by decide +kernel
theorem dL_law_2409 : decode cL_law 2409 = .ok (.iadd, 1) := by decide +kernel
theorem dL_law_2410 : decode cL_law 2410 = .ok (.iaload, 1) := by decide +kernel
theorem dL_law_2411 : decode cL_law 2411 = .ok (.aload_n 0, 1) := by decide +kernel
theorem dL_law_2412 : decode cL_law 2412 = .ok (.iload_n 3, 1) := by decide +kernel
theorem dL_law_2413 : decode cL_law 2413 = .ok (.iconst 2, 1) := by decide +kernel
theorem dL_law_2414 : decode cL_law 2414 = .ok (.iadd, 1) := by decide +kernel
theorem dL_law_2415 : decode cL_law 2415 = .ok (.iaload, 1) := by decide +kernel
theorem dL_law_2416 : decode cL_law 2416 = .ok (.aload_n 0, 1) := by decide +kernel
theorem dL_law_2417 : decode cL_law 2417 = .ok (.iload_n 3, 1) := by decide +kernel
theorem dL_law_2418 : decode cL_law 2418 = .ok (.iconst 3, 1) := by decide +kernel
theorem dL_law_2419 : decode cL_law 2419 = .ok (.iadd, 1) := by decide +kernel
theorem dL_law_2420 : decode cL_law 2420 = .ok (.iaload, 1) := by decide +kernel
theorem dL_law_2421 : decode cL_law 2421 = .ok (.aload_n 0, 1) := by decide +kernel
theorem dL_law_2422 : decode cL_law 2422 = .ok (.iload_n 3, 1) := by decide +kernel
theorem dL_law_2423 : decode cL_law 2423 = .ok (.iconst 4, 1) := by decide +kernel
theorem dL_law_2424 : decode cL_law 2424 = .ok (.iadd, 1) := by decide +kernel
theorem dL_law_2425 : decode cL_law 2425 = .ok (.iaload, 1) := by decide +kernel
theorem dL_law_2426 : decode cL_law 2426 = .ok (.invokevirtual 231, 3) := by decide +kernel
theorem dL_law_2429 : decode cL_law 2429 = .ok (.pop, 1) := by decide +kernel
theorem dL_law_2430 : decode cL_law 2430 = .ok (.aload_n 2, 1) := by decide +kernel
theorem dL_law_2431 : decode cL_law 2431 = .ok (.aload_n 0, 1) := by decide +kernel
theorem dL_law_2432 : decode cL_law 2432 = .ok (.iload_n 3, 1) := by decide +kernel
theorem dL_law_2433 : decode cL_law 2433 = .ok (.iconst 1, 1) := by decide +kernel
