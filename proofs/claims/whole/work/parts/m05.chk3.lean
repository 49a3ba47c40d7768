def wp_290 : Nat → Nat := fun i => [0, 0, 0, 0, 1894, 0, 0, 0, 0, 1784, 0, 1784, 0, 0, 0, 0, 0, 0, 1785, 0, 0, 0, 0, 1894, 0, 0, 0, 0, 2163, 0, 0, 0].getD i 0
theorem ok_290 : okS 290 cd_290 wp_290 0 32 = true := by decide +kernel
theorem mo_290 : mOK 290 2197 2195 2196 144 = true := by decide +kernel
def wp_291 : Nat → Nat := fun i => [0, 0, 0, 2065, 0, 0, 0, 2042, 0, 0, 0, 0, 0, 0, 1894, 0, 0, 0, 0, 1894, 0, 0, 0, 0, 1784, 0, 1784, 0, 0, 0, 0, 2077, 0, 0, 0, 2084, 0, 0, 0, 2046, 0, 0, 2088, 0, 0, 0, 0, 0].getD i 0
theorem ok_291 : okS 291 cd_291 wp_291 0 48 = true := by decide +kernel
theorem mo_291 : mOK 291 2201 2199 2200 144 = true := by decide +kernel
def wp_292 : Nat → Nat := fun i => [0, 0, 0, 2065, 0, 0, 0, 2042, 0, 0, 0, 0, 1784, 0, 1784, 0, 0, 0, 0, 0, 0, 0, 0, 0, 0, 0, 0, 0, 0, 0, 0, 0, 0, 0, 2077, 0, 0, 0, 2084, 0, 0, 0, 2046, 0, 0, 2088, 0, 0, 0, 0, 0, 0, 0, 0, 0, 0, 0, 0].getD i 0
theorem ok_292 : okS 292 cd_292 wp_292 0 64 = true := by decide +kernel
theorem mo_292 : mOK 292 2205 2203 2204 144 = true := by decide +kernel
def wp_293 : Nat → Nat := fun i => [0, 0, 0, 2042, 0, 0, 0, 0, 0, 0, 1894, 0, 0, 0, 0, 1784, 0, 1784, 0, 0, 0, 0, 0, 0, 0, 2081, 0, 0, 0, 0, 0, 0, 0, 0, 0, 0, 0, 2046, 0, 0, 2088, 0, 0, 0, 0, 0, 0, 0].getD i 0
theorem ok_293 : okS 293 cd_293 wp_293 0 48 = true := by decide +kernel
theorem mo_293 : mOK 293 2209 2207 2208 144 = true := by decide +kernel
def wp_294 : Nat → Nat := fun i => [0, 0, 0, 2065, 0, 0, 0, 0, 0, 0, 1894, 0, 0, 0, 0, 1894, 0, 0, 0, 0, 1894, 0, 0, 0, 0, 1784, 0, 1784, 0, 0, 0, 0, 0, 0, 0, 0, 2135, 0].getD i 0
theorem ok_294 : okS 294 cd_294 wp_294 0 38 = true := by decide +kernel
theorem mo_294 : mOK 294 2213 2211 2212 144 = true := by decide +kernel
def wp_295 : Nat → Nat := fun i => (([[0, 0, 0, 0, 0, 0, 0, 2107, 0, 0, 0, 0, 0, 0, 0, 2042, 0, 0, 0, 0, 0, 0, 0, 0, 0, 2107, 1784, 0, 1784, 0, 0, 0], [0, 0, 0, 0, 0, 0, 0, 2114, 0, 0, 2218, 0, 0, 0, 0, 0, 0, 0, 1785, 0, 0, 0, 0, 0, 0, 0, 0, 0, 0, 0, 1805, 0], [0, 0, 0, 0, 0, 0, 0, 0, 0]] : List (List Nat)).getD (i / 32) []).getD (i % 32) 0
theorem ok_295 : okS 295 cd_295 wp_295 0 96 = true := by decide +kernel
theorem mo_295 : mOK 295 2217 2215 2216 144 = true := by decide +kernel
def wp_296 : Nat → Nat := fun i => [0, 0, 0, 0, 0, 0, 0, 2114, 0, 0, 2218, 0, 0, 0, 0, 0, 0, 0, 1785, 0, 0, 0, 0, 0, 0, 0, 2046, 0, 1805, 0, 0, 0, 0, 0, 0, 0, 0, 0, 0, 0, 0, 0].getD i 0
theorem ok_296 : okS 296 cd_296 wp_296 0 42 = true := by decide +kernel
theorem mo_296 : mOK 296 2229 2228 118 144 = true := by decide +kernel
def wp_297 : Nat → Nat := fun i => [0, 0, 0, 0, 0, 0, 0, 2107, 1784, 0, 1784, 0, 0, 0, 0, 0, 0, 0, 0, 0, 0, 2226, 0].getD i 0
theorem ok_297 : okS 297 cd_297 wp_297 0 23 = true := by decide +kernel
theorem mo_297 : mOK 297 2225 2223 2224 144 = true := by decide +kernel
def wp_298 : Nat → Nat := fun i => (([[0, 0, 0, 0, 0, 0, 1808, 0, 0, 0, 0, 1809, 0, 0, 0, 0, 1810, 0, 0, 0, 0, 0, 0, 0, 0, 0, 0, 0, 0, 0, 0, 0], [0, 0, 0, 0, 0, 0, 0, 2114, 0, 0, 2218, 0, 0, 0, 0, 0, 1785, 0, 0, 0, 0, 0, 1805, 0, 0, 0, 0, 0, 0, 1808, 0, 0], [0, 0, 0, 1808, 0, 0, 0, 1805, 0, 0, 0, 0, 0, 0, 0, 1809, 0, 0, 0, 0, 1810, 0, 0, 0, 0, 0, 0, 0, 0, 0, 0]] : List (List Nat)).getD (i / 32) []).getD (i % 32) 0
theorem ok_298 : okS 298 cd_298 wp_298 0 96 = true := by decide +kernel
theorem mo_298 : mOK 298 2237 2236 119 144 = true := by decide +kernel
def wp_299 : Nat → Nat := fun i => [0, 0, 0, 2095, 0, 0, 0, 2065, 0, 0, 0, 2042, 0, 0, 0, 0, 0, 0, 1894, 0, 0, 0, 0, 0, 0, 1894, 0, 0, 0, 0, 1784, 0, 1784, 0, 0, 0, 0, 0, 0, 0, 2234, 0, 0, 0, 1808, 0, 0, 0, 0, 0, 0, 0, 1809, 0, 0, 0, 0, 1810, 0, 0, 0].getD i 0
theorem ok_299 : okS 299 cd_299 wp_299 0 64 = true := by decide +kernel
theorem mo_299 : mOK 299 2233 2231 2232 144 = true := by decide +kernel
def wp_300 : Nat → Nat := fun i => [0, 0, 0, 2095, 0, 0, 0, 2065, 0, 0, 0, 2042, 0, 0, 0, 0, 1784, 0, 1784, 0, 0, 0, 0, 0, 0, 0, 0, 0, 0, 0, 0, 0, 0, 0, 0, 2234, 0, 1808, 0, 0, 0, 0, 0, 0, 1808, 0, 0, 0, 0, 0, 0, 0, 0, 0].getD i 0
theorem ok_300 : okS 300 cd_300 wp_300 0 64 = true := by decide +kernel
theorem mo_300 : mOK 300 2241 2239 2240 144 = true := by decide +kernel
def wp_301 : Nat → Nat := fun i => [0, 0, 0, 0, 0, 0, 0, 0, 0, 0, 0, 0, 0, 0, 0, 0, 0, 0, 0, 2114, 0, 0, 2218, 0, 0, 0, 0, 0, 1785, 0, 0, 0, 0, 0, 1805, 0, 0, 0, 0, 0, 0, 0, 0, 0, 0, 0, 0, 0, 0, 0, 0, 0, 0].getD i 0
theorem ok_301 : okS 301 cd_301 wp_301 0 64 = true := by decide +kernel
theorem mo_301 : mOK 301 2249 2248 120 144 = true := by decide +kernel
def wp_302 : Nat → Nat := fun i => [0, 0, 0, 2095, 0, 0, 0, 2065, 0, 0, 0, 0, 0, 0, 1894, 0, 0, 0, 0, 1784, 0, 1784, 0, 0, 0, 0, 0, 0, 0, 2246, 0].getD i 0
theorem ok_302 : okS 302 cd_302 wp_302 0 31 = true := by decide +kernel
theorem mo_302 : mOK 302 2245 2243 2244 144 = true := by decide +kernel
def wp_303 : Nat → Nat := fun i => [0, 0, 0, 0, 0, 0, 0, 0, 0, 0, 0, 0, 0, 0, 0, 0, 0, 0, 0, 0, 1811, 0, 0, 0, 0, 0, 0, 0, 1812, 0, 0, 0, 0, 0, 0, 1811, 0, 0, 0, 0, 0, 0, 0, 0, 0, 0, 0, 0, 2254, 0, 0, 0, 0, 0, 0, 0].getD i 0
theorem ok_303 : okS 303 cd_303 wp_303 0 64 = true := by decide +kernel
theorem mo_303 : mOK 303 2257 2256 121 144 = true := by decide +kernel
def wp_304 : Nat → Nat := fun i => (([[0, 0, 0, 2095, 0, 0, 0, 2065, 0, 0, 0, 0, 1784, 0, 1784, 0, 0, 0, 0, 0, 0, 0, 0, 0, 0, 0, 1811, 0, 0, 0, 0, 0], [2246, 0, 0, 0, 1811, 0, 0, 0, 0, 0, 0, 0, 0, 0, 0, 0, 0, 0, 0, 0, 0, 2254, 0, 0, 0, 0, 0, 0, 0, 0, 0, 0], [0, 0, 1894, 0, 0, 1812, 0, 0, 0, 0, 0, 0, 0, 0, 0]] : List (List Nat)).getD (i / 32) []).getD (i % 32) 0
theorem ok_304 : okS 304 cd_304 wp_304 0 96 = true := by decide +kernel
theorem mo_304 : mOK 304 2253 2251 2252 144 = true := by decide +kernel
def wp_305 : Nat → Nat := fun i => [0, 0, 0, 2095, 0, 0, 0, 2065, 0, 0, 0, 0, 0, 0, 1894, 0, 0, 0, 0, 1784, 0, 1784, 0, 0, 0, 0, 0, 0, 0, 0, 0, 0, 0, 0, 0, 0, 0, 0, 0, 0, 0, 0, 0, 0, 0, 2226, 2081, 0, 0, 0, 0, 0, 0, 0, 1785, 0, 0, 0, 0, 0, 0, 0, 0].getD i 0
theorem ok_305 : okS 305 cd_305 wp_305 0 64 = true := by decide +kernel
theorem mo_305 : mOK 305 2261 2259 2260 144 = true := by decide +kernel
def wp_306 : Nat → Nat := fun i => (([[0, 0, 0, 2095, 0, 0, 0, 2065, 0, 0, 0, 2042, 0, 0, 0, 0, 0, 0, 1894, 0, 0, 0, 0, 1784, 0, 1784, 0, 0, 0, 0, 0, 0], [2046, 0, 0, 0, 0, 0, 0, 0, 0, 0, 0, 0, 0, 1785, 0, 0, 0, 0, 0, 0, 0, 0, 0, 0, 0, 0, 0, 2234, 0, 0, 1808, 0], [0, 0, 0, 0, 0, 2046, 0, 0, 0, 1785, 0, 0, 0, 0, 0, 0, 0, 0, 0, 1785, 0, 0, 0, 0, 0, 0, 0, 0, 0, 0, 0]] : List (List Nat)).getD (i / 32) []).getD (i % 32) 0
theorem ok_306 : okS 306 cd_306 wp_306 0 96 = true := by decide +kernel
theorem mo_306 : mOK 306 2265 2263 2264 144 = true := by decide +kernel
def wp_307 : Nat → Nat := fun i => [0, 0, 0, 0, 0, 0, 0, 0, 0, 0, 0].getD i 0
theorem ok_307 : okS 307 cd_307 wp_307 0 11 = true := by decide +kernel
theorem mo_307 : mOK 307 2281 2280 0 144 = true := by decide +kernel
def wp_308 : Nat → Nat := fun i => [0, 0, 0, 0, 0, 0].getD i 0
theorem ok_308 : okS 308 cd_308 wp_308 0 6 = true := by decide +kernel
theorem mo_308 : mOK 308 2277 2276 123 144 = true := by decide +kernel
def wp_309 : Nat → Nat := fun i => (([[0, 0, 0, 0, 0, 0, 0, 0, 1813, 0, 0, 0, 2274, 0, 0, 0, 0, 0, 0, 0, 0, 0, 0, 0, 0, 0, 0, 0, 0, 0, 2278, 0], [0, 0, 0, 0, 0, 0, 0, 2279, 0, 0, 1813, 0, 0, 0, 0, 0, 0, 0, 0, 0, 0, 0, 2274, 0, 2278, 0, 0, 0, 0, 1808, 0, 0], [0, 0, 0, 2046, 0, 0, 1813, 0, 0, 0, 0, 0, 0, 0, 0, 0, 0, 0, 2274, 0, 0, 2010, 0, 0, 0, 0, 1813, 0, 0, 0, 2274, 0], [0, 0, 0, 0, 0, 0]] : List (List Nat)).getD (i / 32) []).getD (i % 32) 0
theorem ok_309 : okS 309 cd_309 wp_309 0 128 = true := by decide +kernel
theorem mo_309 : mOK 309 2273 2272 122 144 = true := by decide +kernel
def wp_310 : Nat → Nat := fun i => (([[0, 0, 0, 2095, 0, 0, 0, 2065, 0, 0, 0, 0, 0, 0, 2042, 0, 0, 0, 0, 0, 0, 1894, 0, 0, 0, 0, 1784, 0, 1784, 0, 0, 0], [0, 0, 0, 0, 2234, 0, 1785, 0, 0, 0, 0, 0, 2270, 0, 0, 0, 0, 0, 0, 0, 0, 0, 0, 1813, 0, 0, 0, 2274, 0, 0, 0, 0], [0, 0, 0, 0, 0, 0, 0, 2279, 0, 0, 1808, 0, 0, 0, 0, 0, 2046, 0, 0, 1813, 0, 0, 0, 0, 0, 0, 0, 0, 0, 0, 0, 2274], [0, 0, 0, 1813, 0, 0, 0, 2274, 0, 0, 0, 0, 0, 0, 0, 0, 0, 0, 0, 0, 0, 0, 0, 0, 0, 0, 0, 0, 0]] : List (List Nat)).getD (i / 32) []).getD (i % 32) 0
theorem ok_310 : okS 310 cd_310 wp_310 0 128 = true := by decide +kernel
theorem mo_310 : mOK 310 2269 2267 2268 144 = true := by decide +kernel
def wp_311 : Nat → Nat := fun i => (([[0, 0, 0, 0, 0, 0, 0, 2107, 0, 0, 0, 0, 2042, 0, 0, 0, 0, 0, 0, 0, 0, 0, 2107, 1784, 0, 1784, 0, 0, 0, 0, 0, 0], [0, 0, 0, 0, 0, 0, 0, 0, 0, 0, 0, 0, 0, 2114, 0, 0, 2218, 0, 0, 0, 0, 1805, 0, 0, 0, 0, 0, 0, 0, 0, 0, 0], [0, 0, 0, 0, 0, 0]] : List (List Nat)).getD (i / 32) []).getD (i % 32) 0
theorem ok_311 : okS 311 cd_311 wp_311 0 96 = true := by decide +kernel
theorem mo_311 : mOK 311 2285 2283 2284 144 = true := by decide +kernel
def wp_312 : Nat → Nat := fun i => (([[0, 0, 0, 0, 0, 0, 0, 2107, 1784, 0, 1784, 0, 0, 0, 0, 0, 0, 0, 0, 0, 0, 0, 0, 0, 0, 0, 0, 0, 0, 0, 0, 0], [0, 0, 0, 2226, 0, 0, 0, 0, 0, 1785, 0, 0, 0, 0, 0, 0, 0, 0, 0, 0, 0, 0, 0, 0, 0, 0, 0, 0, 0, 0, 0, 0], [0, 0, 0, 0, 0]] : List (List Nat)).getD (i / 32) []).getD (i % 32) 0
theorem ok_312 : okS 312 cd_312 wp_312 0 96 = true := by decide +kernel
theorem mo_312 : mOK 312 2289 2287 2288 144 = true := by decide +kernel
def wp_313 : Nat → Nat := fun i => [0, 0, 0, 0, 1785, 0, 0, 0, 0, 0, 2279, 0, 0, 0, 0, 0, 0, 2234, 0, 0, 0, 0, 1785, 0, 0, 0, 0, 1814, 0, 0, 0, 0, 0, 0, 1808, 0, 0, 0, 0, 0, 2046, 0, 0, 0, 0, 0, 0, 0].getD i 0
theorem ok_313 : okS 313 cd_313 wp_313 0 48 = true := by decide +kernel
theorem mo_313 : mOK 313 2297 2296 124 144 = true := by decide +kernel
def wp_314 : Nat → Nat := fun i => [0, 0, 0, 0, 1785, 0, 0, 0, 0, 1814, 0, 0, 0, 0, 0, 0, 0, 1814, 0, 0, 0, 0, 0, 0, 0, 0, 0, 0, 0, 0, 0, 0, 0, 1785, 0, 0, 0, 0, 0, 2279, 0, 0, 1814, 0, 0, 0, 0, 0, 0, 0, 1814, 0, 0, 0, 0, 0, 0, 0, 0, 0, 0, 0, 0, 0].getD i 0
theorem ok_314 : okS 314 cd_314 wp_314 0 64 = true := by decide +kernel
theorem mo_314 : mOK 314 2309 2308 127 144 = true := by decide +kernel
def wp_315 : Nat → Nat := fun i => [0, 0, 0, 0, 0, 0, 1785, 0, 0, 0, 0, 0, 2279, 0, 0, 0, 0, 0, 1814, 0, 0, 0, 0, 0, 0, 0, 0, 0, 1814, 0, 0, 0, 0, 0, 0, 2010, 0, 0, 0, 0, 0].getD i 0
theorem ok_315 : okS 315 cd_315 wp_315 0 41 = true := by decide +kernel
theorem mo_315 : mOK 315 2301 2300 125 144 = true := by decide +kernel
def wp_316 : Nat → Nat := fun i => [0, 0, 0, 0, 0, 0, 1785, 0, 0, 0, 0, 0, 1814, 0, 0, 0, 0, 0, 0, 2081, 0, 0, 0, 0, 0].getD i 0
theorem ok_316 : okS 316 cd_316 wp_316 0 25 = true := by decide +kernel
theorem mo_316 : mOK 316 2305 2304 126 144 = true := by decide +kernel
def wp_317 : Nat → Nat := fun i => (([[0, 0, 0, 1785, 0, 0, 0, 0, 0, 0, 0, 0, 0, 0, 2095, 0, 0, 0, 0, 0, 0, 1894, 0, 0, 0, 0, 0, 0, 1785, 0, 0, 0], [0, 0, 0, 0, 0, 1894, 0, 0, 0, 0, 1784, 0, 1784, 0, 0, 0, 0, 0, 0, 0, 2294, 0, 0, 0, 0, 0, 0, 0, 0, 0, 0, 1785], [0, 0, 0, 0, 0, 0, 0, 2298, 2081, 0, 0, 0, 0, 0, 0, 0, 1785, 0, 0, 0, 0, 0, 2279, 0, 0, 0, 0, 0, 0, 0, 2302, 0], [0, 0, 0, 2302, 2010, 0, 0, 0, 0, 0, 1785, 0, 0, 0, 0, 0, 0, 0, 0, 2306, 0, 0, 0, 0, 0, 0, 0, 0, 0, 0, 0, 0], [0, 0, 0, 0, 0, 0, 0, 0, 0]] : List (List Nat)).getD (i / 32) []).getD (i % 32) 0
theorem ok_317 : okS 317 cd_317 wp_317 0 160 = true := by decide +kernel
theorem mo_317 : mOK 317 2293 2291 2292 144 = true := by decide +kernel
def wp_318 : Nat → Nat := fun i => [0, 0, 0, 0, 0, 0, 0, 0, 0, 0, 1791, 0, 0, 0, 0, 2088, 0, 1791, 0, 0, 0, 0, 0, 0, 0, 0, 0, 0, 0, 0, 0, 0, 0, 0].getD i 0
theorem ok_318 : okS 318 cd_318 wp_318 0 34 = true := by decide +kernel
theorem mo_318 : mOK 318 2317 2316 128 144 = true := by decide +kernel
def wp_319 : Nat → Nat := fun i => (([[0, 1792, 0, 0, 0, 1792, 0, 0, 0, 0, 0, 0, 0, 0, 0, 0, 0, 0, 0, 0, 0, 0, 0, 0, 0, 0, 1791, 0, 0, 0, 0, 1894], [0, 0, 1791, 0, 0, 0, 0, 0, 0, 0, 0, 0, 0, 0, 0, 0, 0, 0, 0, 1784, 0, 1784, 0, 0, 0, 0, 0, 0, 0, 0, 0, 0], [0, 1815, 0, 0, 0, 0, 0, 0, 0, 0, 0, 0, 0, 0, 0, 0, 0, 0, 0, 0, 0, 0, 0, 2314, 0, 0, 0, 0, 0, 0, 0, 1815], [0, 0, 0, 0, 0, 0, 0, 0, 0, 0, 0, 0, 0, 0, 0, 0, 0, 0, 0, 0, 0, 0, 0, 0, 0, 0, 0, 0, 0, 0, 0, 0], [0, 0, 0, 1815, 0, 0, 0, 0, 0, 0, 0, 0, 0, 0, 0, 0, 0, 0, 0, 0, 2088, 0, 0, 0, 0, 0, 0, 0, 0, 0, 0, 0], [0, 0, 0, 0, 2081, 0, 0, 0, 0, 0, 0, 0, 2081, 0, 0, 0, 0, 0, 0, 0]] : List (List Nat)).getD (i / 32) []).getD (i % 32) 0
theorem ok_319 : okS 319 cd_319 wp_319 0 192 = true := by decide +kernel
theorem mo_319 : mOK 319 2313 2311 2312 144 = true := by decide +kernel
def wp_320 : Nat → Nat := fun i => [0, 0, 1784, 0, 0, 0, 0, 0, 0, 1785, 0, 0, 0, 0, 0, 0, 2050, 0, 0, 0, 0, 0, 0, 0, 0, 0, 0, 0, 0].getD i 0
theorem ok_320 : okS 320 cd_320 wp_320 0 29 = true := by decide +kernel
theorem mo_320 : mOK 320 2321 2319 2320 144 = true := by decide +kernel
def wp_321 : Nat → Nat := fun i => (([[0, 0, 0, 0, 1894, 0, 0, 0, 0, 1894, 0, 0, 0, 0, 1894, 0, 0, 0, 0, 1784, 0, 1784, 0, 0, 0, 0, 0, 0, 0, 0, 0, 1785], [0, 0, 0, 0, 0, 0, 0, 2046, 0, 0, 2058, 0, 0, 0, 0, 0, 2046, 0, 0, 2058, 0, 0, 0, 0, 0, 0, 0, 0, 0, 0, 0, 0], [0]] : List (List Nat)).getD (i / 32) []).getD (i % 32) 0
theorem ok_321 : okS 321 cd_321 wp_321 0 96 = true := by decide +kernel
theorem mo_321 : mOK 321 2325 2323 2324 144 = true := by decide +kernel
def wp_322 : Nat → Nat := fun i => [0, 0, 0, 2042, 0, 0, 0, 2042, 0, 0, 0, 0, 0, 0, 0, 0, 0, 1784, 0, 1784, 0, 0, 0, 0, 0, 0, 0, 2046, 0, 0, 0, 2046, 0, 0, 0, 2046, 0, 2190, 0].getD i 0
theorem ok_322 : okS 322 cd_322 wp_322 0 39 = true := by decide +kernel
theorem mo_322 : mOK 322 2329 2327 2328 144 = true := by decide +kernel
def wp_323 : Nat → Nat := fun i => [0, 0, 0, 0, 0, 0, 0, 0, 0, 0, 0, 0, 0, 0, 2126, 0, 0, 0, 0, 0, 0, 0, 0, 1785, 0, 0, 0, 0, 0, 0, 0, 0, 0, 0, 0, 2026, 0, 0].getD i 0
theorem ok_323 : okS 323 cd_323 wp_323 0 38 = true := by decide +kernel
theorem mo_323 : mOK 323 2337 2336 129 144 = true := by decide +kernel
def wp_324 : Nat → Nat := fun i => [0, 0, 0, 0, 0, 0, 0, 2107, 0, 0, 0, 0, 0, 0, 0, 2107, 0, 0, 0, 0, 1894, 0, 0, 0, 0, 1784, 0, 1784, 0, 0, 0, 0, 1901, 0, 0, 0, 0, 0, 0, 2334, 0].getD i 0
theorem ok_324 : okS 324 cd_324 wp_324 0 41 = true := by decide +kernel
theorem mo_324 : mOK 324 2333 2331 2332 144 = true := by decide +kernel
def wp_325 : Nat → Nat := fun i => (([[0, 0, 0, 0, 0, 0, 0, 2107, 0, 0, 0, 0, 0, 0, 0, 2107, 0, 0, 0, 0, 1894, 0, 0, 0, 0, 1784, 0, 1784, 0, 0, 0, 0], [1901, 0, 0, 0, 0, 0, 0, 0, 0, 1785, 0, 0, 0, 0, 0, 0, 0, 0, 0, 2334, 0, 0, 0, 0, 0, 0, 0, 0, 0, 0, 2081, 0], [0, 0, 2010, 0, 0, 0, 0, 0]] : List (List Nat)).getD (i / 32) []).getD (i % 32) 0
theorem ok_325 : okS 325 cd_325 wp_325 0 96 = true := by decide +kernel
theorem mo_325 : mOK 325 2341 2339 2340 144 = true := by decide +kernel
def wp_326 : Nat → Nat := fun i => [0, 1785, 0, 0, 0, 0, 0, 0, 0, 0, 0].getD i 0
theorem ok_326 : okS 326 cd_326 wp_326 0 11 = true := by decide +kernel
theorem mo_326 : mOK 326 2349 2348 130 144 = true := by decide +kernel
def wp_327 : Nat → Nat := fun i => (([[0, 0, 0, 0, 0, 0, 2095, 0, 0, 0, 0, 1784, 0, 1784, 0, 0, 0, 0, 0, 0, 0, 0, 0, 1785, 0, 0, 0, 0, 0, 0, 0, 0], [0, 2346, 0, 0, 0, 0, 0, 2346, 0, 0, 0, 0, 0, 0, 0, 2346, 0, 0, 0, 2346, 0, 0, 0, 2346, 0, 2135, 0, 0, 0, 0, 0, 0], [0, 0, 0, 0]] : List (List Nat)).getD (i / 32) []).getD (i % 32) 0
theorem ok_327 : okS 327 cd_327 wp_327 0 96 = true := by decide +kernel
theorem mo_327 : mOK 327 2345 2343 2344 144 = true := by decide +kernel
def wp_328 : Nat → Nat := fun i => [0, 0, 0, 2042, 0, 0, 0, 0, 1784, 0, 1784, 0, 0, 0, 0, 0, 0, 0, 0, 1785, 0, 0, 0, 0, 0, 0, 0, 0, 0, 0, 2346, 0, 0, 0, 0, 0, 2346, 0, 0, 0, 0, 0, 0, 0, 0, 0, 0, 0, 0, 0, 0].getD i 0
theorem ok_328 : okS 328 cd_328 wp_328 0 64 = true := by decide +kernel
theorem mo_328 : mOK 328 2353 2351 2352 144 = true := by decide +kernel
def wp_329 : Nat → Nat := fun i => [0, 0, 0, 0, 1894, 0, 0, 0, 0, 1784, 0, 1784, 0, 0, 0, 0, 0, 0, 1785, 0, 0, 0, 0, 1894, 0, 0, 0, 0, 2346, 0, 0, 0].getD i 0
theorem ok_329 : okS 329 cd_329 wp_329 0 32 = true := by decide +kernel
theorem mo_329 : mOK 329 2357 2355 2356 144 = true := by decide +kernel
def wp_330 : Nat → Nat := fun i => [0, 0, 1784, 0, 1785, 0, 0, 0, 0, 1785, 0, 0, 0, 0, 0].getD i 0
theorem ok_330 : okS 330 cd_330 wp_330 0 15 = true := by decide +kernel
theorem mo_330 : mOK 330 2361 2359 2360 144 = true := by decide +kernel
def wp_331 : Nat → Nat := fun i => [0, 0, 1784, 0, 1790, 0, 0, 0, 0, 0, 1790, 0, 0, 1790, 0, 0, 0, 0, 0, 0, 1785, 0, 0, 1789, 0, 0, 1790, 0, 0, 0, 0, 0, 0, 0, 0, 0].getD i 0
theorem ok_331 : okS 331 cd_331 wp_331 0 36 = true := by decide +kernel
theorem mo_331 : mOK 331 2365 2363 2364 144 = true := by decide +kernel
def wp_332 : Nat → Nat := fun i => [0, 0, 1784, 0, 0, 0, 0, 0, 0, 1786, 0, 0, 1785, 0, 0, 0, 0, 0, 0, 0, 1787, 0].getD i 0
theorem ok_332 : okS 332 cd_332 wp_332 0 22 = true := by decide +kernel
theorem mo_332 : mOK 332 2369 2367 2368 144 = true := by decide +kernel
def wp_333 : Nat → Nat := fun i => [0, 0, 1784, 0, 1787, 0, 0, 0, 0, 0, 0, 0, 0, 0, 1785, 0, 0, 1786, 0, 0, 0, 0, 0, 0, 0, 1790, 0, 0].getD i 0
theorem ok_333 : okS 333 cd_333 wp_333 0 28 = true := by decide +kernel
theorem mo_333 : mOK 333 2373 2371 2372 144 = true := by decide +kernel
def wp_334 : Nat → Nat := fun i => (([[0, 0, 1784, 0, 0, 0, 1785, 0, 0, 0, 0, 0, 0, 0, 1785, 0, 0, 0, 0, 0, 0, 0, 1785, 0, 0, 0, 0, 0, 0, 0, 1785, 0], [0, 0, 0, 0, 0, 0, 1785, 0, 0, 0, 0, 0, 0, 0, 1785, 0, 0, 0, 0, 0, 0, 0, 1785, 0, 0, 0, 0, 0, 0, 0, 1785, 0], [0, 0, 0, 0, 0, 0, 1785, 0, 0, 0, 0, 0, 0, 1894, 0, 0, 1785, 0, 0, 0, 0, 0, 0, 0, 0, 0, 0, 0, 1785, 0, 0, 0], [0, 0, 0, 0, 1790, 0, 0, 0]] : List (List Nat)).getD (i / 32) []).getD (i % 32) 0
theorem ok_334 : okS 334 cd_334 wp_334 0 128 = true := by decide +kernel
theorem mo_334 : mOK 334 2377 2375 2376 144 = true := by decide +kernel
def wp_335 : Nat → Nat := fun i => [0, 0, 0, 0, 1575, 0, 0, 0, 0, 1576, 0, 0, 0, 0, 1576, 0, 0, 0, 0, 0, 0, 0, 0, 1577, 0, 0, 0, 0, 0, 0, 0, 0, 0, 0, 0, 0, 0, 0, 0, 0, 0, 0].getD i 0
theorem ok_335 : okS 335 cd_335 wp_335 0 42 = true := by decide +kernel
theorem mo_335 : mOK 335 1574 1573 0 159 = true := by decide +kernel
def wp_336 : Nat → Nat := fun i => [0, 0, 0, 0, 0, 0, 0, 0, 0].getD i 0
theorem ok_336 : okS 336 cd_336 wp_336 0 9 = true := by decide +kernel
theorem mo_336 : mOK 336 1275 1274 0 159 = true := by decide +kernel
def wp_337 : Nat → Nat := fun i => [0, 0, 0, 0, 0, 0, 0, 0, 0, 0, 0, 0, 0, 0, 0].getD i 0
theorem ok_337 : okS 337 cd_337 wp_337 0 15 = true := by decide +kernel
theorem mo_337 : mOK 337 1154 1153 0 156 = true := by decide +kernel
def wp_338 : Nat → Nat := fun i => [0, 0, 0, 0, 0, 999, 1005, 0, 0, 0, 0, 0, 0, 0, 0, 0, 0, 0, 1006, 1007, 0, 0].getD i 0
theorem ok_338 : okS 338 cd_338 wp_338 0 22 = true := by decide +kernel
theorem mo_338 : mOK 338 998 997 0 156 = true := by decide +kernel
def wp_339 : Nat → Nat := fun i => [0, 0, 0, 648, 0, 0, 0, 646, 0, 0, 647, 0, 0, 0, 0].getD i 0
theorem ok_339 : okS 339 cd_339 wp_339 0 15 = true := by decide +kernel
theorem mo_339 : mOK 339 645 644 0 131 = true := by decide +kernel
def wp_340 : Nat → Nat := fun i => [0, 0, 0, 921, 0, 0, 0, 646, 0, 0, 0, 0].getD i 0
theorem ok_340 : okS 340 cd_340 wp_340 0 12 = true := by decide +kernel
theorem mo_340 : mOK 340 920 919 0 131 = true := by decide +kernel
def wp_341 : Nat → Nat := fun i => [0, 0, 0, 0, 0, 1014, 0, 0, 0, 1012, 0, 0, 1013, 0, 0, 0, 0].getD i 0
theorem ok_341 : okS 341 cd_341 wp_341 0 17 = true := by decide +kernel
theorem mo_341 : mOK 341 1011 1010 0 131 = true := by decide +kernel
def wp_342 : Nat → Nat := fun i => [0, 0, 0, 0, 0, 1063, 0, 0, 0, 1012, 0, 0, 1013, 0, 0, 0, 0].getD i 0
theorem ok_342 : okS 342 cd_342 wp_342 0 17 = true := by decide +kernel
theorem mo_342 : mOK 342 1062 1061 0 131 = true := by decide +kernel
def wp_343 : Nat → Nat := fun i => [0, 0, 0, 0, 0, 1092, 0, 0, 0, 1012, 0, 0, 1013, 0, 0, 0, 0].getD i 0
theorem ok_343 : okS 343 cd_343 wp_343 0 17 = true := by decide +kernel
theorem mo_343 : mOK 343 1091 1090 0 131 = true := by decide +kernel
def wp_344 : Nat → Nat := fun i => [0, 0, 0, 0, 0, 0, 0, 0, 0, 1105, 0, 0, 0, 1012, 0, 0, 646, 0, 0, 0, 0].getD i 0
theorem ok_344 : okS 344 cd_344 wp_344 0 21 = true := by decide +kernel
theorem mo_344 : mOK 344 1104 1103 0 131 = true := by decide +kernel
def wp_345 : Nat → Nat := fun i => [0, 0, 0, 0, 0, 0, 0, 0, 1212, 0, 0, 0, 1012, 0, 0, 646, 0, 0, 0, 0].getD i 0
theorem ok_345 : okS 345 cd_345 wp_345 0 20 = true := by decide +kernel
theorem mo_345 : mOK 345 1211 1210 0 131 = true := by decide +kernel
def wp_346 : Nat → Nat := fun i => [0, 0, 0, 0, 0, 1288, 0, 0, 0, 0, 0, 0, 1012, 0, 0, 0, 0].getD i 0
theorem ok_346 : okS 346 cd_346 wp_346 0 17 = true := by decide +kernel
theorem mo_346 : mOK 346 1287 1286 0 131 = true := by decide +kernel
def wp_347 : Nat → Nat := fun i => [0, 0, 0, 0, 0, 1296, 0, 0, 0, 1012, 0, 0, 646, 0, 0, 0, 0].getD i 0
theorem ok_347 : okS 347 cd_347 wp_347 0 17 = true := by decide +kernel
theorem mo_347 : mOK 347 1295 1294 0 131 = true := by decide +kernel
def wp_348 : Nat → Nat := fun i => [0, 0, 0, 0, 0, 0, 1304, 0, 0, 0, 1012, 0, 0, 646, 0, 0, 1303, 0, 0, 0, 0].getD i 0
theorem ok_348 : okS 348 cd_348 wp_348 0 21 = true := by decide +kernel
theorem mo_348 : mOK 348 1302 1301 0 131 = true := by decide +kernel
def wp_349 : Nat → Nat := fun i => [0, 0, 0, 0, 0, 1341, 0, 0, 0, 1013, 0, 0, 0, 0].getD i 0
theorem ok_349 : okS 349 cd_349 wp_349 0 14 = true := by decide +kernel
theorem mo_349 : mOK 349 1340 1339 0 131 = true := by decide +kernel
def wp_350 : Nat → Nat := fun i => [0, 0, 0, 0, 0, 0, 0, 1349, 0, 0, 0, 0, 0, 0, 1012, 0, 0, 646, 0, 0, 0, 0].getD i 0
theorem ok_350 : okS 350 cd_350 wp_350 0 22 = true := by decide +kernel
theorem mo_350 : mOK 350 1348 1347 0 131 = true := by decide +kernel
def wp_351 : Nat → Nat := fun i => [0, 0, 0, 0, 0, 1359, 0, 0, 0, 1012, 0, 0, 0, 0].getD i 0
theorem ok_351 : okS 351 cd_351 wp_351 0 14 = true := by decide +kernel
theorem mo_351 : mOK 351 1358 1357 0 131 = true := by decide +kernel
def wp_352 : Nat → Nat := fun i => [0, 0, 0, 0, 0, 1370, 0, 0, 0, 1012, 0, 0, 646, 0, 0, 0, 0].getD i 0
theorem ok_352 : okS 352 cd_352 wp_352 0 17 = true := by decide +kernel
theorem mo_352 : mOK 352 1369 1368 0 131 = true := by decide +kernel
def wp_353 : Nat → Nat := fun i => [0, 0, 0, 0, 0, 0, 0, 1381, 0, 0, 0, 1012, 0, 0, 646, 0, 0, 0, 0].getD i 0
theorem ok_353 : okS 353 cd_353 wp_353 0 19 = true := by decide +kernel
theorem mo_353 : mOK 353 1380 1379 0 131 = true := by decide +kernel
def wp_354 : Nat → Nat := fun i => [0, 0, 0, 0, 0, 0, 0, 0, 0, 1389, 0, 0, 0, 1012, 0, 0, 646, 0, 0, 0, 0].getD i 0
theorem ok_354 : okS 354 cd_354 wp_354 0 21 = true := by decide +kernel
theorem mo_354 : mOK 354 1388 1387 0 131 = true := by decide +kernel
def wp_355 : Nat → Nat := fun i => [0, 0, 0, 0, 0, 0, 0, 0, 1421, 0, 0, 0, 1012, 0, 0, 646, 0, 0, 0, 0].getD i 0
theorem ok_355 : okS 355 cd_355 wp_355 0 20 = true := by decide +kernel
theorem mo_355 : mOK 355 1420 1419 0 131 = true := by decide +kernel
def wp_356 : Nat → Nat := fun i => [0, 0, 0, 0, 0, 0, 0, 0, 1435, 0, 0, 0, 1012, 0, 0, 646, 0, 0, 1013, 0, 0, 0, 0].getD i 0
theorem ok_356 : okS 356 cd_356 wp_356 0 23 = true := by decide +kernel
theorem mo_356 : mOK 356 1434 1433 0 131 = true := by decide +kernel
def wp_357 : Nat → Nat := fun i => [0, 0, 0, 0, 0, 0, 1471, 0, 0, 0, 1012, 0, 0, 0, 0].getD i 0
theorem ok_357 : okS 357 cd_357 wp_357 0 15 = true := by decide +kernel
theorem mo_357 : mOK 357 1470 1469 0 131 = true := by decide +kernel
def wp_358 : Nat → Nat := fun i => [0, 0, 0, 0, 0, 0, 1485, 0, 0, 0, 1012, 0, 0, 646, 0, 0, 0, 0].getD i 0
theorem ok_358 : okS 358 cd_358 wp_358 0 18 = true := by decide +kernel
theorem mo_358 : mOK 358 1484 1483 0 131 = true := by decide +kernel
def wp_359 : Nat → Nat := fun i => [0, 0, 0, 0, 0, 0, 1496, 0, 0, 0, 1012, 0, 0, 0, 0].getD i 0
theorem ok_359 : okS 359 cd_359 wp_359 0 15 = true := by decide +kernel
theorem mo_359 : mOK 359 1495 1494 0 131 = true := by decide +kernel
def wp_360 : Nat → Nat := fun i => [0, 0, 0, 0, 0, 0, 1530, 0, 0, 0, 1012, 0, 0, 646, 0, 0, 0, 0].getD i 0
theorem ok_360 : okS 360 cd_360 wp_360 0 18 = true := by decide +kernel
theorem mo_360 : mOK 360 1529 1528 0 131 = true := by decide +kernel
def wp_361 : Nat → Nat := fun i => [0, 0, 0, 0, 0, 0, 0, 1541, 0, 0, 0, 1012, 0, 0, 646, 0, 0, 0, 0].getD i 0
theorem ok_361 : okS 361 cd_361 wp_361 0 19 = true := by decide +kernel
theorem mo_361 : mOK 361 1540 1539 0 131 = true := by decide +kernel
def wp_362 : Nat → Nat := fun i => [0, 0, 0, 0, 0, 0, 0, 1555, 0, 0, 0, 1012, 0, 0, 646, 0, 0, 0, 0].getD i 0
theorem ok_362 : okS 362 cd_362 wp_362 0 19 = true := by decide +kernel
theorem mo_362 : mOK 362 1554 1553 0 131 = true := by decide +kernel
def wp_363 : Nat → Nat := fun i => [0, 0, 0, 0, 0, 0, 0, 0, 0, 1589, 0, 0, 0, 1012, 0, 0, 646, 0, 0, 0, 0].getD i 0
theorem ok_363 : okS 363 cd_363 wp_363 0 21 = true := by decide +kernel
theorem mo_363 : mOK 363 1588 1587 0 131 = true := by decide +kernel
def wp_364 : Nat → Nat := fun i => [0, 0, 0, 0, 0, 0, 0, 0, 0, 1606, 0, 0, 0, 1012, 0, 0, 646, 0, 0, 0, 0].getD i 0
theorem ok_364 : okS 364 cd_364 wp_364 0 21 = true := by decide +kernel
theorem mo_364 : mOK 364 1605 1604 0 131 = true := by decide +kernel
def wp_365 : Nat → Nat := fun i => [0, 0, 0, 0, 0, 0, 0, 1618, 0, 0, 0, 1012, 0, 0, 646, 0, 0, 1303, 0, 0, 1013, 0, 0, 0, 0].getD i 0
theorem ok_365 : okS 365 cd_365 wp_365 0 25 = true := by decide +kernel
theorem mo_365 : mOK 365 1617 1616 0 131 = true := by decide +kernel
def wp_366 : Nat → Nat := fun i => [0, 0, 0, 0, 1665, 0, 0, 0, 646, 0, 0, 0, 0].getD i 0
theorem ok_366 : okS 366 cd_366 wp_366 0 13 = true := by decide +kernel
theorem mo_366 : mOK 366 1664 1663 0 131 = true := by decide +kernel
def wp_367 : Nat → Nat := fun i => [0, 0, 0, 0, 0, 0, 1696, 0, 0, 0, 646, 0, 0, 0, 0].getD i 0
theorem ok_367 : okS 367 cd_367 wp_367 0 15 = true := by decide +kernel
theorem mo_367 : mOK 367 1695 1694 0 131 = true := by decide +kernel
def wp_368 : Nat → Nat := fun i => [0, 0, 0, 0, 0, 1707, 0, 0, 0, 1012, 0, 0, 646, 0, 0, 0, 0].getD i 0
theorem ok_368 : okS 368 cd_368 wp_368 0 17 = true := by decide +kernel
theorem mo_368 : mOK 368 1706 1705 0 131 = true := by decide +kernel
def wp_369 : Nat → Nat := fun i => [0, 0, 0, 0, 0, 0, 0, 0, 1716, 0, 0, 0, 1012, 0, 0, 646, 0, 0, 0, 0].getD i 0
theorem ok_369 : okS 369 cd_369 wp_369 0 20 = true := by decide +kernel
theorem mo_369 : mOK 369 1715 1714 0 131 = true := by decide +kernel
def wp_370 : Nat → Nat := fun i => [0, 0, 0, 0, 0, 0, 0, 0, 0, 1735, 0, 0, 0, 1012, 0, 0, 646, 0, 0, 0, 0].getD i 0
theorem ok_370 : okS 370 cd_370 wp_370 0 21 = true := by decide +kernel
theorem mo_370 : mOK 370 1734 1733 0 131 = true := by decide +kernel
def wp_371 : Nat → Nat := fun i => [0, 0, 0, 0, 1743, 0, 0, 0, 1012, 0, 0, 0, 0].getD i 0
theorem ok_371 : okS 371 cd_371 wp_371 0 13 = true := by decide +kernel
theorem mo_371 : mOK 371 1742 1741 0 131 = true := by decide +kernel
def wp_372 : Nat → Nat := fun i => [0, 0, 0, 0, 0, 1754, 0, 0, 0, 1012, 0, 0, 0, 0].getD i 0
theorem ok_372 : okS 372 cd_372 wp_372 0 14 = true := by decide +kernel
theorem mo_372 : mOK 372 1753 1752 0 131 = true := by decide +kernel
def wp_373 : Nat → Nat := fun i => [0, 0, 0, 0, 0, 1773, 0, 0, 0, 1013, 0, 0, 0, 0].getD i 0
theorem ok_373 : okS 373 cd_373 wp_373 0 14 = true := by decide +kernel
theorem mo_373 : mOK 373 1772 1771 0 131 = true := by decide +kernel
