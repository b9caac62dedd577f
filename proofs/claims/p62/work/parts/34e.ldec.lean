theorem dk_2016 : decode code 2016 = .ok (.iconst 3, 1) := by decide +kernel
theorem dk_2017 : decode code 2017 = .ok (.iadd, 1) := by decide +kernel
theorem dk_2018 : decode code 2018 = .ok (.iaload, 1) := by decide +kernel
theorem dk_2019 : decode code 2019 = .ok (.invokevirtual 243, 3) := by decide +kernel
theorem dk_2022 : decode code 2022 = .ok (.pop2, 1) := by decide +kernel
theorem dk_2023 : decode code 2023 = .ok (.goto (400), 3) := by decide +kernel
theorem dk_2026 : decode code 2026 = .ok (.aload_n 1, 1) := by decide +kernel
theorem dk_2027 : decode code 2027 = .ok (.aload_n 0, 1) := by decide +kernel
theorem dk_2028 : decode code 2028 = .ok (.iload_n 3, 1) := by decide +kernel
theorem dk_2029 : decode code 2029 = .ok (.iconst 1, 1) := by decide +kernel
theorem dk_2030 : decode code 2030 = .ok (.iadd, 1) := by decide +kernel
theorem dk_2031 : decode code 2031 = .ok (.iaload, 1) := by decide +kernel
theorem dk_2032 : decode code 2032 = .ok (.aload_n 0, 1) := by decide +kernel
theorem dk_2033 : decode code 2033 = .ok (.iload_n 3, 1) := by decide +kernel
theorem dk_2034 : decode code 2034 = .ok (.iconst 2, 1) := by decide +kernel
theorem dk_2035 : decode code 2035 = .ok (.iadd, 1) := by decide +kernel
theorem dk_2036 : decode code 2036 = .ok (.iaload, 1) := by decide +kernel
theorem dk_2037 : decode code 2037 = .ok (.aload_n 0, 1) := by decide +kernel
theorem dk_2038 : decode code 2038 = .ok (.iload_n 3, 1) := by decide +kernel
theorem dk_2039 : decode code 2039 = .ok (.iconst 3, 1) := by decide +kernel
theorem dk_2040 : decode code 2040 = .ok (.iadd, 1) := by decide +kernel
theorem dk_2041 : decode code 2041 = .ok (.iaload, 1) := by decide +kernel
theorem dk_2042 : decode code 2042 = .ok (.invokevirtual 244, 3) := by decide +kernel
theorem dk_2045 : decode code 2045 = .ok (.pop, 1) := by decide +kernel
theorem dk_2046 : decode code 2046 = .ok (.aload_n 2, 1) := by decide +kernel
theorem dk_2047 : decode code 2047 = .ok (.aload_n 0, 1) := by decide +kernel
theorem dk_2048 : decode code 2048 = .ok (.iload_n 3, 1) := by decide +kernel
theorem dk_2049 : decode code 2049 = .ok (.iconst 1, 1) := by decide +kernel
theorem dk_2050 : decode code 2050 = .ok (.iadd, 1) := by decide +kernel
theorem dk_2051 : decode code 2051 = .ok (.iaload, 1) := by decide +kernel
theorem dk_2052 : decode code 2052 = .ok (.aload_n 0, 1) := by decide +kernel
theorem dk_2053 : decode code 2053 = .ok (.iload_n 3, 1) := by decide +kernel
theorem dk_2054 : decode code 2054 = .ok (.iconst 2, 1) := by decide +kernel
theorem dk_2055 : decode code 2055 = .ok (.iadd, 1) := by decide +kernel
theorem dk_2056 : decode code 2056 = .ok (.iaload, 1) := by decide +kernel
theorem dk_2057 : decode code 2057 = .ok (.aload_n 0, 1) := by decide +kernel
theorem dk_2058 : decode code 2058 = .ok (.iload_n 3, 1) := by decide +kernel
theorem dk_2059 : decode code 2059 = .ok (.iconst 3, 1) := by decide +kernel
theorem dk_2060 : decode code 2060 = .ok (.iadd, 1) := by decide +kernel
theorem dk_2061 : decode code 2061 = .ok (.iaload, 1) := by decide +kernel
theorem dk_2062 : decode code 2062 = .ok (.invokevirtual 247, 3) := by decide +kernel
theorem dk_2065 : decode code 2065 = .ok (.pop, 1) := by decide +kernel
theorem dk_2066 : decode code 2066 = .ok (.goto (357), 3) := by decide +kernel
theorem dk_2069 : decode code 2069 = .ok (.aload_n 1, 1) := by decide +kernel
theorem dk_2070 : decode code 2070 = .ok (.aload_n 0, 1) := by decide +kernel
theorem dk_2071 : decode code 2071 = .ok (.iload_n 3, 1) := by decide +kernel
theorem dk_2072 : decode code 2072 = .ok (.iconst 1, 1) := by decide +kernel
theorem dk_2073 : decode code 2073 = .ok (.iadd, 1) := by decide +kernel
theorem dk_2074 : decode code 2074 = .ok (.iaload, 1) := by decide +kernel
theorem dk_2075 : decode code 2075 = .ok (.aload_n 0, 1) := by decide +kernel
theorem dk_2076 : decode code 2076 = .ok (.iload_n 3, 1) := by decide +kernel
theorem dk_2077 : decode code 2077 = .ok (.iconst 2, 1) := by decide +kernel
theorem dk_2078 : decode code 2078 = .ok (.iadd, 1) := by decide +kernel
theorem dk_2079 : decode code 2079 = .ok (.iaload, 1) := by decide +kernel
theorem dk_2080 : decode code 2080 = .ok (.aload_n 0, 1) := by decide +kernel
theorem dk_2081 : decode code 2081 = .ok (.iload_n 3, 1) := by decide +kernel
theorem dk_2082 : decode code 2082 = .ok (.iconst 3, 1) := by decide +kernel
theorem dk_2083 : decode code 2083 = .ok (.iadd, 1) := by decide +kernel
theorem dk_2084 : decode code 2084 = .ok (.iaload, 1) := by decide +kernel
theorem dk_2085 : decode code 2085 = .ok (.aload_n 0, 1) := by decide +kernel
theorem dk_2086 : decode code 2086 = .ok (.iload_n 3, 1) := by decide +kernel
theorem dk_2087 : decode code 2087 = .ok (.iconst 4, 1) := by decide +kernel
theorem dk_2088 : decode code 2088 = .ok (.iadd, 1) := by decide +kernel
theorem dk_2089 : decode code 2089 = .ok (.iaload, 1) := by decide +kernel
theorem dk_2090 : decode code 2090 = .ok (.invokevirtual 248, 3) := by decide +kernel
theorem dk_2093 : decode code 2093 = .ok (.pop, 1) := by decide +kernel
theorem dk_2094 : decode code 2094 = .ok (.aload_n 2, 1) := by decide +kernel
theorem dk_2095 : decode code 2095 = .ok (.aload_n 0, 1) := by decide +kernel
theorem dk_2096 : decode code 2096 = .ok (.iload_n 3, 1) := by decide +kernel
theorem dk_2097 : decode code 2097 = .ok (.iconst 1, 1) := by decide +kernel
theorem dk_2098 : decode code 2098 = .ok (.iadd, 1) := by decide +kernel
theorem dk_2099 : decode code 2099 = .ok (.iaload, 1) := by decide +kernel
theorem dk_2100 : decode code 2100 = .ok (.aload_n 0, 1) := by decide +kernel
theorem dk_2101 : decode code 2101 = .ok (.iload_n 3, 1) := by decide +kernel
theorem dk_2102 : decode code 2102 = .ok (.iconst 2, 1) := by decide +kernel
theorem dk_2103 : decode code 2103 = .ok (.iadd, 1) := by decide +kernel
theorem dk_2104 : decode code 2104 = .ok (.iaload, 1) := by decide +kernel
theorem dk_2105 : decode code 2105 = .ok (.aload_n 0, 1) := by decide +kernel
theorem dk_2106 : decode code 2106 = .ok (.iload_n 3, 1) := by decide +kernel
theorem dk_2107 : decode code 2107 = .ok (.iconst 3, 1) := by decide +kernel
theorem dk_2108 : decode code 2108 = .ok (.iadd, 1) := by decide +kernel
theorem dk_2109 : decode code 2109 = .ok (.iaload, 1) := by decide +kernel
theorem dk_2110 : decode code 2110 = .ok (.aload_n 0, 1) := by decide +kernel
theorem dk_2111 : decode code 2111 = .ok (.iload_n 3, 1) := by decide +kernel
theorem dk_2112 : decode code 2112 = .ok (.iconst 4, 1) := by decide +kernel
theorem dk_2113 : decode code 2113 = .ok (.iadd, 1) := by decide +kernel
theorem dk_2114 : decode code 2114 = .ok (.iaload, 1) := by decide +kernel
theorem dk_2115 : decode code 2115 = .ok (.invokevirtual 251, 3) := by decide +kernel
theorem dk_2118 : decode code 2118 = .ok (.pop, 1) := by decide +kernel
theorem dk_2119 : decode code 2119 = .ok (.goto (304), 3) := by decide +kernel
theorem dk_2122 : decode code 2122 = .ok (.aload_n 1, 1) := by decide +kernel
theorem dk_2123 : decode code 2123 = .ok (.aload_n 0, 1) := by decide +kernel
theorem dk_2124 : decode code 2124 = .ok (.iload_n 3, 1) := by decide +kernel
theorem dk_2125 : decode code 2125 = .ok (.iconst 1, 1) := by decide +kernel
theorem dk_2126 : decode code 2126 = .ok (.iadd, 1) := by decide +kernel
theorem dk_2127 : decode code 2127 = .ok (.iaload, 1) := by decide +kernel
theorem dk_2128 : decode code 2128 = .ok (.aload_n 0, 1) := by decide +kernel
theorem dk_2129 : decode code 2129 = .ok (.iload_n 3, 1) := by decide +kernel
theorem dk_2130 : decode code 2130 = .ok (.iconst 2, 1) := by decide +kernel
theorem dk_2131 : decode code 2131 = .ok (.iadd, 1) := by decide +kernel
theorem dk_2132 : decode code 2132 = .ok (.iaload, 1) := by decide +kernel
theorem dk_2133 : decode code 2133 = .ok (.aload_n 0, 1) := by decide +kernel
theorem dk_2134 : decode code 2134 = .ok (.iload_n 3, 1) := by decide +kernel
theorem dk_2135 : decode code 2135 = .ok (.iconst 3, 1) := by decide +kernel
theorem dk_2136 : decode code 2136 = .ok (.iadd, 1) := by decide +kernel
theorem dk_2137 : decode code 2137 = .ok (.iaload, 1) := by decide +kernel
theorem dk_2138 : decode code 2138 = .ok (.aload_n 0, 1) := by decide +kernel
theorem dk_2139 : decode code 2139 = .ok (.iload_n 3, 1) := by decide +kernel
theorem dk_2140 : decode code 2140 = .ok (.iconst 4, 1) := by decide +kernel
theorem dk_2141 : decode code 2141 = .ok (.iadd, 1) := by decide +kernel
theorem dk_2142 : decode code 2142 = .ok (.iaload, 1) := by decide +kernel
theorem dk_2143 : decode code 2143 = .ok (.invokevirtual 252, 3) := by decide +kernel
theorem dk_2146 : decode code 2146 = .ok (.pop, 1) := by decide +kernel
theorem dk_2147 : decode code 2147 = .ok (.aload_n 2, 1) := by decide +kernel
theorem dk_2148 : decode code 2148 = .ok (.aload_n 0, 1) := by decide +kernel
theorem dk_2149 : decode code 2149 = .ok (.iload_n 3, 1) := by decide +kernel
theorem dk_2150 : decode code 2150 = .ok (.iconst 1, 1) := by decide +kernel
theorem dk_2151 : decode code 2151 = .ok (.iadd, 1) := by decide +kernel
theorem dk_2152 : decode code 2152 = .ok (.iaload, 1) := by decide +kernel
theorem dk_2153 : decode code 2153 = .ok (.aload_n 0, 1) := by decide +kernel
theorem dk_2154 : decode code 2154 = .ok (.iload_n 3, 1) := by decide +kernel
theorem dk_2155 : decode code 2155 = .ok (.iconst 2, 1) := by decide +kernel
theorem dk_2156 : decode code 2156 = .ok (.iadd, 1) := by decide +kernel
theorem dk_2157 : decode code 2157 = .ok (.iaload, 1) := by decide +kernel
theorem dk_2158 : decode code 2158 = .ok (.aload_n 0, 1) := by decide +kernel
theorem dk_2159 : decode code 2159 = .ok (.iload_n 3, 1) := by decide +kernel
theorem dk_2160 : decode code 2160 = .ok (.iconst 3, 1) := by decide +kernel
theorem dk_2161 : decode code 2161 = .ok (.iadd, 1) := by decide +kernel
theorem dk_2162 : decode code 2162 = .ok (.iaload, 1) := by decide +kernel
theorem dk_2163 : decode code 2163 = .ok (.aload_n 0, 1) := by decide +kernel
theorem dk_2164 : decode code 2164 = .ok (.iload_n 3, 1) := by decide +kernel
theorem dk_2165 : decode code 2165 = .ok (.iconst 4, 1) := by decide +kernel
theorem dk_2166 : decode code 2166 = .ok (.iadd, 1) := by decide +kernel
theorem dk_2167 : decode code 2167 = .ok (.iaload, 1) := by decide +kernel
theorem dk_2168 : decode code 2168 = .ok (.invokevirtual 255, 3) := by decide +kernel
theorem dk_2171 : decode code 2171 = .ok (.pop, 1) := by decide +kernel
theorem dk_2172 : decode code 2172 = .ok (.goto (251), 3) := by decide +kernel
theorem dk_2175 : decode code 2175 = .ok (.aload_n 1, 1) := by decide +kernel
theorem dk_2176 : decode code 2176 = .ok (.aload_n 0, 1) := by decide +kernel
theorem dk_2177 : decode code 2177 = .ok (.iload_n 3, 1) := by decide +kernel
theorem dk_2178 : decode code 2178 = .ok (.iconst 1, 1) := by decide +kernel
theorem dk_2179 : decode code 2179 = .ok (.iadd, 1) := by decide +kernel
theorem dk_2180 : decode code 2180 = .ok (.iaload, 1) := by decide +kernel
theorem dk_2181 : decode code 2181 = .ok (.invokevirtual 256, 3) := by decide +kernel
theorem dk_2184 : decode code 2184 = .ok (.pop, 1) := by decide +kernel
theorem dk_2185 : decode code 2185 = .ok (.aload_n 2, 1) := by decide +kernel
theorem dk_2186 : decode code 2186 = .ok (.aload_n 0, 1) := by decide +kernel
theorem dk_2187 : decode code 2187 = .ok (.iload_n 3, 1) := by decide +kernel
theorem dk_2188 : decode code 2188 = .ok (.iconst 1, 1) := by decide +kernel
theorem dk_2189 : decode code 2189 = .ok (.iadd, 1) := by decide +kernel
theorem dk_2190 : decode code 2190 = .ok (.iaload, 1) := by decide +kernel
theorem dk_2191 : decode code 2191 = .ok (.invokevirtual 259, 3) := by decide +kernel
theorem dk_2194 : decode code 2194 = .ok (.pop, 1) := by decide +kernel
theorem dk_2195 : decode code 2195 = .ok (.goto (228), 3) := by decide +kernel
theorem dk_2198 : decode code 2198 = .ok (.aload_n 1, 1) := by decide +kernel
theorem dk_2199 : decode code 2199 = .ok (.aload_n 0, 1) := by decide +kernel
theorem dk_2200 : decode code 2200 = .ok (.iload_n 3, 1) := by decide +kernel
theorem dk_2201 : decode code 2201 = .ok (.iconst 1, 1) := by decide +kernel
theorem dk_2202 : decode code 2202 = .ok (.iadd, 1) := by decide +kernel
theorem dk_2203 : decode code 2203 = .ok (.iaload, 1) := by decide +kernel
theorem dk_2204 : decode code 2204 = .ok (.invokevirtual 260, 3) := by decide +kernel
theorem dk_2207 : decode code 2207 = .ok (.aload_n 2, 1) := by decide +kernel
theorem dk_2208 : decode code 2208 = .ok (.aload_n 0, 1) := by decide +kernel
theorem dk_2209 : decode code 2209 = .ok (.iload_n 3, 1) := by decide +kernel
theorem dk_2210 : decode code 2210 = .ok (.iconst 1, 1) := by decide +kernel
theorem dk_2211 : decode code 2211 = .ok (.iadd, 1) := by decide +kernel
theorem dk_2212 : decode code 2212 = .ok (.iaload, 1) := by decide +kernel
theorem dk_2213 : decode code 2213 = .ok (.invokevirtual 263, 3) := by decide +kernel
theorem dk_2216 : decode code 2216 = .ok (.if_icmp .eq 207, 3) := by decide +kernel
theorem dk_2221 : decode code 2221 = .ok (.aload_n 1, 1) := by decide +kernel
theorem dk_2222 : decode code 2222 = .ok (.aload_n 0, 1) := by decide +kernel
theorem dk_2223 : decode code 2223 = .ok (.iload_n 3, 1) := by decide +kernel
theorem dk_2224 : decode code 2224 = .ok (.iconst 1, 1) := by decide +kernel
theorem dk_2225 : decode code 2225 = .ok (.iadd, 1) := by decide +kernel
theorem dk_2226 : decode code 2226 = .ok (.iaload, 1) := by decide +kernel
theorem dk_2227 : decode code 2227 = .ok (.invokevirtual 264, 3) := by decide +kernel
theorem dk_2230 : decode code 2230 = .ok (.pop, 1) := by decide +kernel
theorem dk_2231 : decode code 2231 = .ok (.aload_n 2, 1) := by decide +kernel
theorem dk_2232 : decode code 2232 = .ok (.aload_n 0, 1) := by decide +kernel
theorem dk_2233 : decode code 2233 = .ok (.iload_n 3, 1) := by decide +kernel
theorem dk_2234 : decode code 2234 = .ok (.iconst 1, 1) := by decide +kernel
theorem dk_2235 : decode code 2235 = .ok (.iadd, 1) := by decide +kernel
theorem dk_2236 : decode code 2236 = .ok (.iaload, 1) := by decide +kernel
theorem dk_2237 : decode code 2237 = .ok (.invokevirtual 267, 3) := by decide +kernel
theorem dk_2240 : decode code 2240 = .ok (.pop, 1) := by decide +kernel
theorem dk_2241 : decode code 2241 = .ok (.goto (182), 3) := by decide +kernel
theorem dk_2244 : decode code 2244 = .ok (.aload_n 1, 1) := by decide +kernel
theorem dk_2245 : decode code 2245 = .ok (.aload_n 0, 1) := by decide +kernel
theorem dk_2246 : decode code 2246 = .ok (.iload_n 3, 1) := by decide +kernel
theorem dk_2247 : decode code 2247 = .ok (.iconst 1, 1) := by decide +kernel
theorem dk_2248 : decode code 2248 = .ok (.iadd, 1) := by decide +kernel
theorem dk_2249 : decode code 2249 = .ok (.iaload, 1) := by decide +kernel
theorem dk_2250 : decode code 2250 = .ok (.aload_n 0, 1) := by decide +kernel
theorem dk_2251 : decode code 2251 = .ok (.iload_n 3, 1) := by decide +kernel
theorem dk_2252 : decode code 2252 = .ok (.iconst 2, 1) := by decide +kernel
theorem dk_2253 : decode code 2253 = .ok (.iadd, 1) := by decide +kernel
theorem dk_2254 : decode code 2254 = .ok (.iaload, 1) := by decide +kernel
theorem dk_2255 : decode code 2255 = .ok (.aload_n 0, 1) := by decide +kernel
theorem dk_2256 : decode code 2256 = .ok (.iload_n 3, 1) := by decide +kernel
theorem dk_2257 : decode code 2257 = .ok (.iconst 3, 1) := by decide +kernel
theorem dk_2258 : decode code 2258 = .ok (.iadd, 1) := by decide +kernel
theorem dk_2259 : decode code 2259 = .ok (.iaload, 1) := by decide +kernel
theorem dk_2260 : decode code 2260 = .ok (.invokevirtual 268, 3) := by decide +kernel
theorem dk_2263 : decode code 2263 = .ok (.pop, 1) := by decide +kernel
theorem dk_2264 : decode code 2264 = .ok (.aload_n 2, 1) := by decide +kernel
theorem dk_2265 : decode code 2265 = .ok (.aload_n 0, 1) := by decide +kernel
theorem dk_2266 : decode code 2266 = .ok (.iload_n 3, 1) := by decide +kernel
theorem dk_2267 : decode code 2267 = .ok (.iconst 1, 1) := by decide +kernel
theorem dk_2268 : decode code 2268 = .ok (.iadd, 1) := by decide +kernel
theorem dk_2269 : decode code 2269 = .ok (.iaload, 1) := by decide +kernel
theorem dk_2270 : decode code 2270 = .ok (.aload_n 0, 1) := by decide +kernel
theorem dk_2271 : decode code 2271 = .ok (.iload_n 3, 1) := by decide +kernel
theorem dk_2272 : decode code 2272 = .ok (.iconst 2, 1) := by decide +kernel
theorem dk_2273 : decode code 2273 = .ok (.iadd, 1) := by decide +kernel
theorem dk_2274 : decode code 2274 = .ok (.iaload, 1) := by decide +kernel
theorem dk_2275 : decode code 2275 = .ok (.aload_n 0, 1) := by decide +kernel
theorem dk_2276 : decode code 2276 = .ok (.iload_n 3, 1) := by decide +kernel
theorem dk_2277 : decode code 2277 = .ok (.iconst 3, 1) := by decide +kernel
theorem dk_2278 : decode code 2278 = .ok (.iadd, 1) := by decide +kernel
theorem dk_2279 : decode code 2279 = .ok (.iaload, 1) := by decide +kernel
theorem dk_2280 : decode code 2280 = .ok (.invokevirtual 271, 3) := by decide +kernel
theorem dk_2283 : decode code 2283 = .ok (.pop, 1) := by decide +kernel
theorem dk_2284 : decode code 2284 = .ok (.goto (139), 3) := by decide +kernel
theorem dk_2287 : decode code 2287 = .ok (.aload_n 1, 1) := by decide +kernel
theorem dk_2288 : decode code 2288 = .ok (.aload_n 0, 1) := by decide +kernel
theorem dk_2289 : decode code 2289 = .ok (.iload_n 3, 1) := by decide +kernel
theorem dk_2290 : decode code 2290 = .ok (.iconst 1, 1) := by decide +kernel
theorem dk_2291 : decode code 2291 = .ok (.iadd, 1) := by decide +kernel
theorem dk_2292 : decode code 2292 = .ok (.iaload, 1) := by decide +kernel
theorem dk_2293 : decode code 2293 = .ok (.aload_n 0, 1) := by decide +kernel
theorem dk_2294 : decode code 2294 = .ok (.iload_n 3, 1) := by decide +kernel
theorem dk_2295 : decode code 2295 = .ok (.iconst 2, 1) := by decide +kernel
theorem dk_2296 : decode code 2296 = .ok (.iadd, 1) := by decide +kernel
theorem dk_2297 : decode code 2297 = .ok (.iaload, 1) := by decide +kernel
theorem dk_2298 : decode code 2298 = .ok (.aload_n 0, 1) := by decide +kernel
theorem dk_2299 : decode code 2299 = .ok (.iload_n 3, 1) := by decide +kernel
theorem dk_2300 : decode code 2300 = .ok (.iconst 3, 1) := by decide +kernel
theorem dk_2301 : decode code 2301 = .ok (.iadd, 1) := by decide +kernel
theorem dk_2302 : decode code 2302 = .ok (.iaload, 1) := by decide +kernel
theorem dk_2303 : decode code 2303 = .ok (.i2l, 1) := by decide +kernel
theorem dk_2304 : decode code 2304 = .ok (.bipush 32, 2) := by decide +kernel
theorem dk_2306 : decode code 2306 = .ok (.lshl, 1) := by decide +kernel
theorem dk_2307 : decode code 2307 = .ok (.aload_n 0, 1) := by decide +kernel
theorem dk_2308 : decode code 2308 = .ok (.iload_n 3, 1) := by decide +kernel
theorem dk_2309 : decode code 2309 = .ok (.iconst 4, 1) := by decide +kernel
theorem dk_2310 : decode code 2310 = .ok (.iadd, 1) := by decide +kernel
theorem dk_2311 : decode code 2311 = .ok (.iaload, 1) := by decide +kernel
theorem dk_2312 : decode code 2312 = .ok (.i2l, 1) := by decide +kernel
theorem dk_2313 : decode code 2313 = .ok (.ldc2_w 272, 3) := by decide +kernel
theorem dk_2316 : decode code 2316 = .ok (.land, 1) := by decide +kernel
theorem dk_2317 : decode code 2317 = .ok (.lor, 1) := by decide +kernel
theorem dk_2318 : decode code 2318 = .ok (.invokevirtual 274, 3) := by decide +kernel
theorem dk_2321 : decode code 2321 = .ok (.pop, 1) := by decide +kernel
theorem dk_2322 : decode code 2322 = .ok (.aload_n 2, 1) := by decide +kernel
theorem dk_2323 : decode code 2323 = .ok (.aload_n 0, 1) := by decide +kernel
theorem dk_2324 : decode code 2324 = .ok (.iload_n 3, 1) := by decide +kernel
theorem dk_2325 : decode code 2325 = .ok (.iconst 1, 1) := by decide +kernel
theorem dk_2326 : decode code 2326 = .ok (.iadd, 1) := by decide +kernel
theorem dk_2327 : decode code 2327 = .ok (.iaload, 1) := by decide +kernel
theorem dk_2328 : decode code 2328 = .ok (.aload_n 0, 1) := by decide +kernel
theorem dk_2329 : decode code 2329 = .ok (.iload_n 3, 1) := by decide +kernel
theorem dk_2330 : decode code 2330 = .ok (.iconst 2, 1) := by decide +kernel
theorem dk_2331 : decode code 2331 = .ok (.iadd, 1) := by decide +kernel
theorem dk_2332 : decode code 2332 = .ok (.iaload, 1) := by decide +kernel
theorem dk_2333 : decode code 2333 = .ok (.aload_n 0, 1) := by decide +kernel
theorem dk_2334 : decode code 2334 = .ok (.iload_n 3, 1) := by decide +kernel
theorem dk_2335 : decode code 2335 = .ok (.iconst 3, 1) := by decide +kernel
theorem dk_2336 : decode code 2336 = .ok (.iadd, 1) := by decide +kernel
theorem dk_2337 : decode code 2337 = .ok (.iaload, 1) := by decide +kernel
theorem dk_2338 : decode code 2338 = .ok (.i2l, 1) := by decide +kernel
theorem dk_2339 : decode code 2339 = .ok (.bipush 32, 2) := by decide +kernel
theorem dk_2341 : decode code 2341 = .ok (.lshl, 1) := by decide +kernel
theorem dk_2342 : decode code 2342 = .ok (.aload_n 0, 1) := by decide +kernel
theorem dk_2343 : decode code 2343 = .ok (.iload_n 3, 1) := by decide +kernel
theorem dk_2344 : decode code 2344 = .ok (.iconst 4, 1) := by decide +kernel
theorem dk_2345 : decode code 2345 = .ok (.iadd, 1) := by decide +kernel
theorem dk_2346 : decode code 2346 = .ok (.iaload, 1) := by decide +kernel
theorem dk_2347 : decode code 2347 = .ok (.i2l, 1) := by decide +kernel
theorem dk_2348 : decode code 2348 = .ok (.ldc2_w 272, 3) := by decide +kernel
theorem dk_2351 : decode code 2351 = .ok (.land, 1) := by decide +kernel
theorem dk_2352 : decode code 2352 = .ok (.lor, 1) := by decide +kernel
theorem dk_2353 : decode code 2353 = .ok (.invokevirtual 278, 3) := by decide +kernel
theorem dk_2356 : decode code 2356 = .ok (.pop, 1) := by decide +kernel
theorem dk_2357 : decode code 2357 = .ok (.goto (66), 3) := by decide +kernel
theorem dk_2360 : decode code 2360 = .ok (.aload_n 1, 1) := by decide +kernel
theorem dk_2361 : decode code 2361 = .ok (.aload_n 0, 1) := by decide +kernel
theorem dk_2362 : decode code 2362 = .ok (.iload_n 3, 1) := by decide +kernel
theorem dk_2363 : decode code 2363 = .ok (.iconst 1, 1) := by decide +kernel
theorem dk_2364 : decode code 2364 = .ok (.iadd, 1) := by decide +kernel
theorem dk_2365 : decode code 2365 = .ok (.iaload, 1) := by decide +kernel
theorem dk_2366 : decode code 2366 = .ok (.aload_n 0, 1) := by decide +kernel
theorem dk_2367 : decode code 2367 = .ok (.iload_n 3, 1) := by decide +kernel
theorem dk_2368 : decode code 2368 = .ok (.iconst 2, 1) := by decide +kernel
theorem dk_2369 : decode code 2369 = .ok (.iadd, 1) := by decide +kernel
theorem dk_2370 : decode code 2370 = .ok (.iaload, 1) := by decide +kernel
theorem dk_2371 : decode code 2371 = .ok (.aload_n 0, 1) := by decide +kernel
theorem dk_2372 : decode code 2372 = .ok (.iload_n 3, 1) := by decide +kernel
theorem dk_2373 : decode code 2373 = .ok (.iconst 3, 1) := by decide +kernel
theorem dk_2374 : decode code 2374 = .ok (.iadd, 1) := by decide +kernel
theorem dk_2375 : decode code 2375 = .ok (.iaload, 1) := by decide +kernel
theorem dk_2376 : decode code 2376 = .ok (.aload_n 0, 1) := by decide +kernel
theorem dk_2377 : decode code 2377 = .ok (.iload_n 3, 1) := by decide +kernel
theorem dk_2378 : decode code 2378 = .ok (.iconst 4, 1) := by decide +kernel
theorem dk_2379 : decode code 2379 = .ok (.iadd, 1) := by decide +kernel
theorem dk_2380 : decode code 2380 = .ok (.iaload, 1) := by decide +kernel
theorem dk_2381 : decode code 2381 = .ok (.aload_n 0, 1) := by decide +kernel
theorem dk_2382 : decode code 2382 = .ok (.iload_n 3, 1) := by decide +kernel
theorem dk_2383 : decode code 2383 = .ok (.iconst 5, 1) := by decide +kernel
theorem dk_2384 : decode code 2384 = .ok (.iadd, 1) := by decide +kernel
theorem dk_2385 : decode code 2385 = .ok (.iaload, 1) := by decide +kernel
theorem dk_2386 : decode code 2386 = .ok (.invokevirtual 279, 3) := by decide +kernel
theorem dk_2389 : decode code 2389 = .ok (.pop, 1) := by decide +kernel
theorem dk_2390 : decode code 2390 = .ok (.aload_n 2, 1) := by decide +kernel
theorem dk_2391 : decode code 2391 = .ok (.aload_n 0, 1) := by decide +kernel
theorem dk_2392 : decode code 2392 = .ok (.iload_n 3, 1) := by decide +kernel
theorem dk_2393 : decode code 2393 = .ok (.iconst 1, 1) := by decide +kernel
theorem dk_2394 : decode code 2394 = .ok (.iadd, 1) := by decide +kernel
theorem dk_2395 : decode code 2395 = .ok (.iaload, 1) := by decide +kernel
theorem dk_2396 : decode code 2396 = .ok (.aload_n 0, 1) := by decide +kernel
theorem dk_2397 : decode code 2397 = .ok (.iload_n 3, 1) := by decide +kernel
theorem dk_2398 : decode code 2398 = .ok (.iconst 2, 1) := by decide +kernel
theorem dk_2399 : decode code 2399 = .ok (.iadd, 1) := by decide +kernel
theorem dk_2400 : decode code 2400 = .ok (.iaload, 1) := by decide +kernel
theorem dk_2401 : decode code 2401 = .ok (.aload_n 0, 1) := by decide +kernel
theorem dk_2402 : decode code 2402 = .ok (.iload_n 3, 1) := by decide +kernel
theorem dk_2403 : decode code 2403 = .ok (.iconst 3, 1) := by decide +kernel
theorem dk_2404 : decode code 2404 = .ok (.iadd, 1) := by decide +kernel
theorem dk_2405 : decode code 2405 = .ok (.iaload, 1) := by decide +kernel
theorem dk_2406 : decode code 2406 = .ok (.aload_n 0, 1) := by decide +kernel
theorem dk_2407 : decode code 2407 = .ok (.iload_n 3, 1) := by decide +kernel
theorem dk_2408 : decode code 2408 = .ok (.iconst 4, 1) := by decide +kernel
theorem dk_2409 : decode code 2409 = .ok (.iadd, 1) := by decide +kernel
theorem dk_2410 : decode code 2410 = .ok (.iaload, 1) := by decide +kernel
theorem dk_2411 : decode code 2411 = .ok (.aload_n 0, 1) := by decide +kernel
theorem dk_2412 : decode code 2412 = .ok (.iload_n 3, 1) := by decide +kernel
theorem dk_2413 : decode code 2413 = .ok (.iconst 5, 1) := by decide +kernel
theorem dk_2414 : decode code 2414 = .ok (.iadd, 1) := by decide +kernel
theorem dk_2415 : decode code 2415 = .ok (.iaload, 1) := by decide +kernel
theorem dk_2416 : decode code 2416 = .ok (.invokevirtual 282, 3) := by decide +kernel
theorem dk_2419 : decode code 2419 = .ok (.pop, 1) := by decide +kernel
theorem dk_2420 : decode code 2420 = .ok (.goto (3), 3) := by decide +kernel
