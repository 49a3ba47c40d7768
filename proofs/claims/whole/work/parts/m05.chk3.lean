def wp_290 : Nat → Nat := fun i => [0, 0, 0, 2055, 0, 0, 0, 2032, 0, 0, 0, 0, 1774, 0, 1774, 0, 0, 0, 0, 0, 0, 0, 0, 0, 0, 0, 0, 0, 0, 0, 0, 0, 0, 0, 2067, 0, 0, 0, 2074, 0, 0, 0, 2036, 0, 0, 2078, 0, 0, 0, 0, 0, 0, 0, 0, 0, 0, 0, 0].getD i 0
theorem ok_290 : okS 290 cd_290 wp_290 0 64 = true := by decide +kernel
theorem mo_290 : mOK 290 2195 2193 2194 142 = true := by decide +kernel
def wp_291 : Nat → Nat := fun i => [0, 0, 0, 2032, 0, 0, 0, 0, 0, 0, 1884, 0, 0, 0, 0, 1774, 0, 1774, 0, 0, 0, 0, 0, 0, 0, 2071, 0, 0, 0, 0, 0, 0, 0, 0, 0, 0, 0, 2036, 0, 0, 2078, 0, 0, 0, 0, 0, 0, 0].getD i 0
theorem ok_291 : okS 291 cd_291 wp_291 0 48 = true := by decide +kernel
theorem mo_291 : mOK 291 2199 2197 2198 142 = true := by decide +kernel
def wp_292 : Nat → Nat := fun i => [0, 0, 0, 2055, 0, 0, 0, 0, 0, 0, 1884, 0, 0, 0, 0, 1884, 0, 0, 0, 0, 1884, 0, 0, 0, 0, 1774, 0, 1774, 0, 0, 0, 0, 0, 0, 0, 0, 2125, 0].getD i 0
theorem ok_292 : okS 292 cd_292 wp_292 0 38 = true := by decide +kernel
theorem mo_292 : mOK 292 2203 2201 2202 142 = true := by decide +kernel
def wp_293 : Nat → Nat := fun i => (([[0, 0, 0, 0, 0, 0, 0, 2097, 0, 0, 0, 0, 0, 0, 0, 2032, 0, 0, 0, 0, 0, 0, 0, 0, 0, 2097, 1774, 0, 1774, 0, 0, 0], [0, 0, 0, 0, 0, 0, 0, 2104, 0, 0, 2208, 0, 0, 0, 0, 0, 0, 0, 1775, 0, 0, 0, 0, 0, 0, 0, 0, 0, 0, 0, 1795, 0], [0, 0, 0, 0, 0, 0, 0, 0, 0]] : List (List Nat)).getD (i / 32) []).getD (i % 32) 0
theorem ok_293 : okS 293 cd_293 wp_293 0 96 = true := by decide +kernel
theorem mo_293 : mOK 293 2207 2205 2206 142 = true := by decide +kernel
def wp_294 : Nat → Nat := fun i => [0, 0, 0, 0, 0, 0, 0, 2104, 0, 0, 2208, 0, 0, 0, 0, 0, 0, 0, 1775, 0, 0, 0, 0, 0, 0, 0, 2036, 0, 1795, 0, 0, 0, 0, 0, 0, 0, 0, 0, 0, 0, 0, 0].getD i 0
theorem ok_294 : okS 294 cd_294 wp_294 0 42 = true := by decide +kernel
theorem mo_294 : mOK 294 2219 2218 116 142 = true := by decide +kernel
def wp_295 : Nat → Nat := fun i => [0, 0, 0, 0, 0, 0, 0, 2097, 1774, 0, 1774, 0, 0, 0, 0, 0, 0, 0, 0, 0, 0, 2216, 0].getD i 0
theorem ok_295 : okS 295 cd_295 wp_295 0 23 = true := by decide +kernel
theorem mo_295 : mOK 295 2215 2213 2214 142 = true := by decide +kernel
def wp_296 : Nat → Nat := fun i => (([[0, 0, 0, 0, 0, 0, 1798, 0, 0, 0, 0, 1799, 0, 0, 0, 0, 1800, 0, 0, 0, 0, 0, 0, 0, 0, 0, 0, 0, 0, 0, 0, 0], [0, 0, 0, 0, 0, 0, 0, 2104, 0, 0, 2208, 0, 0, 0, 0, 0, 1775, 0, 0, 0, 0, 0, 1795, 0, 0, 0, 0, 0, 0, 1798, 0, 0], [0, 0, 0, 1798, 0, 0, 0, 1795, 0, 0, 0, 0, 0, 0, 0, 1799, 0, 0, 0, 0, 1800, 0, 0, 0, 0, 0, 0, 0, 0, 0, 0]] : List (List Nat)).getD (i / 32) []).getD (i % 32) 0
theorem ok_296 : okS 296 cd_296 wp_296 0 96 = true := by decide +kernel
theorem mo_296 : mOK 296 2227 2226 117 142 = true := by decide +kernel
def wp_297 : Nat → Nat := fun i => [0, 0, 0, 2085, 0, 0, 0, 2055, 0, 0, 0, 2032, 0, 0, 0, 0, 0, 0, 1884, 0, 0, 0, 0, 0, 0, 1884, 0, 0, 0, 0, 1774, 0, 1774, 0, 0, 0, 0, 0, 0, 0, 2224, 0, 0, 0, 1798, 0, 0, 0, 0, 0, 0, 0, 1799, 0, 0, 0, 0, 1800, 0, 0, 0].getD i 0
theorem ok_297 : okS 297 cd_297 wp_297 0 64 = true := by decide +kernel
theorem mo_297 : mOK 297 2223 2221 2222 142 = true := by decide +kernel
def wp_298 : Nat → Nat := fun i => [0, 0, 0, 2085, 0, 0, 0, 2055, 0, 0, 0, 2032, 0, 0, 0, 0, 1774, 0, 1774, 0, 0, 0, 0, 0, 0, 0, 0, 0, 0, 0, 0, 0, 0, 0, 0, 2224, 0, 1798, 0, 0, 0, 0, 0, 0, 1798, 0, 0, 0, 0, 0, 0, 0, 0, 0].getD i 0
theorem ok_298 : okS 298 cd_298 wp_298 0 64 = true := by decide +kernel
theorem mo_298 : mOK 298 2231 2229 2230 142 = true := by decide +kernel
def wp_299 : Nat → Nat := fun i => [0, 0, 0, 0, 0, 0, 0, 0, 0, 0, 0, 0, 0, 0, 0, 0, 0, 0, 0, 2104, 0, 0, 2208, 0, 0, 0, 0, 0, 1775, 0, 0, 0, 0, 0, 1795, 0, 0, 0, 0, 0, 0, 0, 0, 0, 0, 0, 0, 0, 0, 0, 0, 0, 0].getD i 0
theorem ok_299 : okS 299 cd_299 wp_299 0 64 = true := by decide +kernel
theorem mo_299 : mOK 299 2239 2238 118 142 = true := by decide +kernel
def wp_300 : Nat → Nat := fun i => [0, 0, 0, 2085, 0, 0, 0, 2055, 0, 0, 0, 0, 0, 0, 1884, 0, 0, 0, 0, 1774, 0, 1774, 0, 0, 0, 0, 0, 0, 0, 2236, 0].getD i 0
theorem ok_300 : okS 300 cd_300 wp_300 0 31 = true := by decide +kernel
theorem mo_300 : mOK 300 2235 2233 2234 142 = true := by decide +kernel
def wp_301 : Nat → Nat := fun i => [0, 0, 0, 0, 0, 0, 0, 0, 0, 0, 0, 0, 0, 0, 0, 0, 0, 0, 0, 0, 1801, 0, 0, 0, 0, 0, 0, 0, 1802, 0, 0, 0, 0, 0, 0, 1801, 0, 0, 0, 0, 0, 0, 0, 0, 0, 0, 0, 0, 2244, 0, 0, 0, 0, 0, 0, 0].getD i 0
theorem ok_301 : okS 301 cd_301 wp_301 0 64 = true := by decide +kernel
theorem mo_301 : mOK 301 2247 2246 119 142 = true := by decide +kernel
def wp_302 : Nat → Nat := fun i => (([[0, 0, 0, 2085, 0, 0, 0, 2055, 0, 0, 0, 0, 1774, 0, 1774, 0, 0, 0, 0, 0, 0, 0, 0, 0, 0, 0, 1801, 0, 0, 0, 0, 0], [2236, 0, 0, 0, 1801, 0, 0, 0, 0, 0, 0, 0, 0, 0, 0, 0, 0, 0, 0, 0, 0, 2244, 0, 0, 0, 0, 0, 0, 0, 0, 0, 0], [0, 0, 1884, 0, 0, 1802, 0, 0, 0, 0, 0, 0, 0, 0, 0]] : List (List Nat)).getD (i / 32) []).getD (i % 32) 0
theorem ok_302 : okS 302 cd_302 wp_302 0 96 = true := by decide +kernel
theorem mo_302 : mOK 302 2243 2241 2242 142 = true := by decide +kernel
def wp_303 : Nat → Nat := fun i => [0, 0, 0, 2085, 0, 0, 0, 2055, 0, 0, 0, 0, 0, 0, 1884, 0, 0, 0, 0, 1774, 0, 1774, 0, 0, 0, 0, 0, 0, 0, 0, 0, 0, 0, 0, 0, 0, 0, 0, 0, 0, 0, 0, 0, 0, 0, 2216, 2071, 0, 0, 0, 0, 0, 0, 0, 1775, 0, 0, 0, 0, 0, 0, 0, 0].getD i 0
theorem ok_303 : okS 303 cd_303 wp_303 0 64 = true := by decide +kernel
theorem mo_303 : mOK 303 2251 2249 2250 142 = true := by decide +kernel
def wp_304 : Nat → Nat := fun i => (([[0, 0, 0, 2085, 0, 0, 0, 2055, 0, 0, 0, 2032, 0, 0, 0, 0, 0, 0, 1884, 0, 0, 0, 0, 1774, 0, 1774, 0, 0, 0, 0, 0, 0], [2036, 0, 0, 0, 0, 0, 0, 0, 0, 0, 0, 0, 0, 1775, 0, 0, 0, 0, 0, 0, 0, 0, 0, 0, 0, 0, 0, 2224, 0, 0, 1798, 0], [0, 0, 0, 0, 0, 2036, 0, 0, 0, 1775, 0, 0, 0, 0, 0, 0, 0, 0, 0, 1775, 0, 0, 0, 0, 0, 0, 0, 0, 0, 0, 0]] : List (List Nat)).getD (i / 32) []).getD (i % 32) 0
theorem ok_304 : okS 304 cd_304 wp_304 0 96 = true := by decide +kernel
theorem mo_304 : mOK 304 2255 2253 2254 142 = true := by decide +kernel
def wp_305 : Nat → Nat := fun i => [0, 0, 0, 0, 0, 0, 0, 0, 0, 0, 0].getD i 0
theorem ok_305 : okS 305 cd_305 wp_305 0 11 = true := by decide +kernel
theorem mo_305 : mOK 305 2271 2270 0 142 = true := by decide +kernel
def wp_306 : Nat → Nat := fun i => [0, 0, 0, 0, 0, 0].getD i 0
theorem ok_306 : okS 306 cd_306 wp_306 0 6 = true := by decide +kernel
theorem mo_306 : mOK 306 2267 2266 121 142 = true := by decide +kernel
def wp_307 : Nat → Nat := fun i => (([[0, 0, 0, 0, 0, 0, 0, 0, 1803, 0, 0, 0, 2264, 0, 0, 0, 0, 0, 0, 0, 0, 0, 0, 0, 0, 0, 0, 0, 0, 0, 2268, 0], [0, 0, 0, 0, 0, 0, 0, 2269, 0, 0, 1803, 0, 0, 0, 0, 0, 0, 0, 0, 0, 0, 0, 2264, 0, 2268, 0, 0, 0, 0, 1798, 0, 0], [0, 0, 0, 2036, 0, 0, 1803, 0, 0, 0, 0, 0, 0, 0, 0, 0, 0, 0, 2264, 0, 0, 2000, 0, 0, 0, 0, 1803, 0, 0, 0, 2264, 0], [0, 0, 0, 0, 0, 0]] : List (List Nat)).getD (i / 32) []).getD (i % 32) 0
theorem ok_307 : okS 307 cd_307 wp_307 0 128 = true := by decide +kernel
theorem mo_307 : mOK 307 2263 2262 120 142 = true := by decide +kernel
def wp_308 : Nat → Nat := fun i => (([[0, 0, 0, 2085, 0, 0, 0, 2055, 0, 0, 0, 0, 0, 0, 2032, 0, 0, 0, 0, 0, 0, 1884, 0, 0, 0, 0, 1774, 0, 1774, 0, 0, 0], [0, 0, 0, 0, 2224, 0, 1775, 0, 0, 0, 0, 0, 2260, 0, 0, 0, 0, 0, 0, 0, 0, 0, 0, 1803, 0, 0, 0, 2264, 0, 0, 0, 0], [0, 0, 0, 0, 0, 0, 0, 2269, 0, 0, 1798, 0, 0, 0, 0, 0, 2036, 0, 0, 1803, 0, 0, 0, 0, 0, 0, 0, 0, 0, 0, 0, 2264], [0, 0, 0, 1803, 0, 0, 0, 2264, 0, 0, 0, 0, 0, 0, 0, 0, 0, 0, 0, 0, 0, 0, 0, 0, 0, 0, 0, 0, 0]] : List (List Nat)).getD (i / 32) []).getD (i % 32) 0
theorem ok_308 : okS 308 cd_308 wp_308 0 128 = true := by decide +kernel
theorem mo_308 : mOK 308 2259 2257 2258 142 = true := by decide +kernel
def wp_309 : Nat → Nat := fun i => (([[0, 0, 0, 0, 0, 0, 0, 2097, 0, 0, 0, 0, 2032, 0, 0, 0, 0, 0, 0, 0, 0, 0, 2097, 1774, 0, 1774, 0, 0, 0, 0, 0, 0], [0, 0, 0, 0, 0, 0, 0, 0, 0, 0, 0, 0, 0, 2104, 0, 0, 2208, 0, 0, 0, 0, 1795, 0, 0, 0, 0, 0, 0, 0, 0, 0, 0], [0, 0, 0, 0, 0, 0]] : List (List Nat)).getD (i / 32) []).getD (i % 32) 0
theorem ok_309 : okS 309 cd_309 wp_309 0 96 = true := by decide +kernel
theorem mo_309 : mOK 309 2275 2273 2274 142 = true := by decide +kernel
def wp_310 : Nat → Nat := fun i => (([[0, 0, 0, 0, 0, 0, 0, 2097, 1774, 0, 1774, 0, 0, 0, 0, 0, 0, 0, 0, 0, 0, 0, 0, 0, 0, 0, 0, 0, 0, 0, 0, 0], [0, 0, 0, 2216, 0, 0, 0, 0, 0, 1775, 0, 0, 0, 0, 0, 0, 0, 0, 0, 0, 0, 0, 0, 0, 0, 0, 0, 0, 0, 0, 0, 0], [0, 0, 0, 0, 0]] : List (List Nat)).getD (i / 32) []).getD (i % 32) 0
theorem ok_310 : okS 310 cd_310 wp_310 0 96 = true := by decide +kernel
theorem mo_310 : mOK 310 2279 2277 2278 142 = true := by decide +kernel
def wp_311 : Nat → Nat := fun i => [0, 0, 0, 0, 1775, 0, 0, 0, 0, 0, 2269, 0, 0, 0, 0, 0, 0, 2224, 0, 0, 0, 0, 1775, 0, 0, 0, 0, 1804, 0, 0, 0, 0, 0, 0, 1798, 0, 0, 0, 0, 0, 2036, 0, 0, 0, 0, 0, 0, 0].getD i 0
theorem ok_311 : okS 311 cd_311 wp_311 0 48 = true := by decide +kernel
theorem mo_311 : mOK 311 2287 2286 122 142 = true := by decide +kernel
def wp_312 : Nat → Nat := fun i => [0, 0, 0, 0, 1775, 0, 0, 0, 0, 1804, 0, 0, 0, 0, 0, 0, 0, 1804, 0, 0, 0, 0, 0, 0, 0, 0, 0, 0, 0, 0, 0, 0, 0, 1775, 0, 0, 0, 0, 0, 2269, 0, 0, 1804, 0, 0, 0, 0, 0, 0, 0, 1804, 0, 0, 0, 0, 0, 0, 0, 0, 0, 0, 0, 0, 0].getD i 0
theorem ok_312 : okS 312 cd_312 wp_312 0 64 = true := by decide +kernel
theorem mo_312 : mOK 312 2299 2298 125 142 = true := by decide +kernel
def wp_313 : Nat → Nat := fun i => [0, 0, 0, 0, 0, 0, 1775, 0, 0, 0, 0, 0, 2269, 0, 0, 0, 0, 0, 1804, 0, 0, 0, 0, 0, 0, 0, 0, 0, 1804, 0, 0, 0, 0, 0, 0, 2000, 0, 0, 0, 0, 0].getD i 0
theorem ok_313 : okS 313 cd_313 wp_313 0 41 = true := by decide +kernel
theorem mo_313 : mOK 313 2291 2290 123 142 = true := by decide +kernel
def wp_314 : Nat → Nat := fun i => [0, 0, 0, 0, 0, 0, 1775, 0, 0, 0, 0, 0, 1804, 0, 0, 0, 0, 0, 0, 2071, 0, 0, 0, 0, 0].getD i 0
theorem ok_314 : okS 314 cd_314 wp_314 0 25 = true := by decide +kernel
theorem mo_314 : mOK 314 2295 2294 124 142 = true := by decide +kernel
def wp_315 : Nat → Nat := fun i => (([[0, 0, 0, 1775, 0, 0, 0, 0, 0, 0, 0, 0, 0, 0, 2085, 0, 0, 0, 0, 0, 0, 1884, 0, 0, 0, 0, 0, 0, 1775, 0, 0, 0], [0, 0, 0, 0, 0, 1884, 0, 0, 0, 0, 1774, 0, 1774, 0, 0, 0, 0, 0, 0, 0, 2284, 0, 0, 0, 0, 0, 0, 0, 0, 0, 0, 1775], [0, 0, 0, 0, 0, 0, 0, 2288, 2071, 0, 0, 0, 0, 0, 0, 0, 1775, 0, 0, 0, 0, 0, 2269, 0, 0, 0, 0, 0, 0, 0, 2292, 0], [0, 0, 0, 2292, 2000, 0, 0, 0, 0, 0, 1775, 0, 0, 0, 0, 0, 0, 0, 0, 2296, 0, 0, 0, 0, 0, 0, 0, 0, 0, 0, 0, 0], [0, 0, 0, 0, 0, 0, 0, 0, 0]] : List (List Nat)).getD (i / 32) []).getD (i % 32) 0
theorem ok_315 : okS 315 cd_315 wp_315 0 160 = true := by decide +kernel
theorem mo_315 : mOK 315 2283 2281 2282 142 = true := by decide +kernel
def wp_316 : Nat → Nat := fun i => [0, 0, 0, 0, 0, 0, 0, 0, 0, 0, 1781, 0, 0, 0, 0, 2078, 0, 1781, 0, 0, 0, 0, 0, 0, 0, 0, 0, 0, 0, 0, 0, 0, 0, 0].getD i 0
theorem ok_316 : okS 316 cd_316 wp_316 0 34 = true := by decide +kernel
theorem mo_316 : mOK 316 2307 2306 126 142 = true := by decide +kernel
def wp_317 : Nat → Nat := fun i => (([[0, 1782, 0, 0, 0, 1782, 0, 0, 0, 0, 0, 0, 0, 0, 0, 0, 0, 0, 0, 0, 0, 0, 0, 0, 0, 0, 1781, 0, 0, 0, 0, 1884], [0, 0, 1781, 0, 0, 0, 0, 0, 0, 0, 0, 0, 0, 0, 0, 0, 0, 0, 0, 1774, 0, 1774, 0, 0, 0, 0, 0, 0, 0, 0, 0, 0], [0, 1805, 0, 0, 0, 0, 0, 0, 0, 0, 0, 0, 0, 0, 0, 0, 0, 0, 0, 0, 0, 0, 0, 2304, 0, 0, 0, 0, 0, 0, 0, 1805], [0, 0, 0, 0, 0, 0, 0, 0, 0, 0, 0, 0, 0, 0, 0, 0, 0, 0, 0, 0, 0, 0, 0, 0, 0, 0, 0, 0, 0, 0, 0, 0], [0, 0, 0, 1805, 0, 0, 0, 0, 0, 0, 0, 0, 0, 0, 0, 0, 0, 0, 0, 0, 2078, 0, 0, 0, 0, 0, 0, 0, 0, 0, 0, 0], [0, 0, 0, 0, 2071, 0, 0, 0, 0, 0, 0, 0, 2071, 0, 0, 0, 0, 0, 0, 0]] : List (List Nat)).getD (i / 32) []).getD (i % 32) 0
theorem ok_317 : okS 317 cd_317 wp_317 0 192 = true := by decide +kernel
theorem mo_317 : mOK 317 2303 2301 2302 142 = true := by decide +kernel
def wp_318 : Nat → Nat := fun i => [0, 0, 1774, 0, 0, 0, 0, 0, 0, 1775, 0, 0, 0, 0, 0, 0, 2040, 0, 0, 0, 0, 0, 0, 0, 0, 0, 0, 0, 0].getD i 0
theorem ok_318 : okS 318 cd_318 wp_318 0 29 = true := by decide +kernel
theorem mo_318 : mOK 318 2311 2309 2310 142 = true := by decide +kernel
def wp_319 : Nat → Nat := fun i => (([[0, 0, 0, 0, 1884, 0, 0, 0, 0, 1884, 0, 0, 0, 0, 1884, 0, 0, 0, 0, 1774, 0, 1774, 0, 0, 0, 0, 0, 0, 0, 0, 0, 1775], [0, 0, 0, 0, 0, 0, 0, 2036, 0, 0, 2048, 0, 0, 0, 0, 0, 2036, 0, 0, 2048, 0, 0, 0, 0, 0, 0, 0, 0, 0, 0, 0, 0], [0]] : List (List Nat)).getD (i / 32) []).getD (i % 32) 0
theorem ok_319 : okS 319 cd_319 wp_319 0 96 = true := by decide +kernel
theorem mo_319 : mOK 319 2315 2313 2314 142 = true := by decide +kernel
def wp_320 : Nat → Nat := fun i => [0, 0, 0, 2032, 0, 0, 0, 2032, 0, 0, 0, 0, 0, 0, 0, 0, 0, 1774, 0, 1774, 0, 0, 0, 0, 0, 0, 0, 2036, 0, 0, 0, 2036, 0, 0, 0, 2036, 0, 2180, 0].getD i 0
theorem ok_320 : okS 320 cd_320 wp_320 0 39 = true := by decide +kernel
theorem mo_320 : mOK 320 2319 2317 2318 142 = true := by decide +kernel
def wp_321 : Nat → Nat := fun i => [0, 0, 0, 0, 0, 0, 0, 0, 0, 0, 0, 0, 0, 0, 2116, 0, 0, 0, 0, 0, 0, 0, 0, 1775, 0, 0, 0, 0, 0, 0, 0, 0, 0, 0, 0, 2016, 0, 0].getD i 0
theorem ok_321 : okS 321 cd_321 wp_321 0 38 = true := by decide +kernel
theorem mo_321 : mOK 321 2327 2326 127 142 = true := by decide +kernel
def wp_322 : Nat → Nat := fun i => [0, 0, 0, 0, 0, 0, 0, 2097, 0, 0, 0, 0, 0, 0, 0, 2097, 0, 0, 0, 0, 1884, 0, 0, 0, 0, 1774, 0, 1774, 0, 0, 0, 0, 1891, 0, 0, 0, 0, 0, 0, 2324, 0].getD i 0
theorem ok_322 : okS 322 cd_322 wp_322 0 41 = true := by decide +kernel
theorem mo_322 : mOK 322 2323 2321 2322 142 = true := by decide +kernel
def wp_323 : Nat → Nat := fun i => (([[0, 0, 0, 0, 0, 0, 0, 2097, 0, 0, 0, 0, 0, 0, 0, 2097, 0, 0, 0, 0, 1884, 0, 0, 0, 0, 1774, 0, 1774, 0, 0, 0, 0], [1891, 0, 0, 0, 0, 0, 0, 0, 0, 1775, 0, 0, 0, 0, 0, 0, 0, 0, 0, 2324, 0, 0, 0, 0, 0, 0, 0, 0, 0, 0, 2071, 0], [0, 0, 2000, 0, 0, 0, 0, 0]] : List (List Nat)).getD (i / 32) []).getD (i % 32) 0
theorem ok_323 : okS 323 cd_323 wp_323 0 96 = true := by decide +kernel
theorem mo_323 : mOK 323 2331 2329 2330 142 = true := by decide +kernel
def wp_324 : Nat → Nat := fun i => [0, 1775, 0, 0, 0, 0, 0, 0, 0, 0, 0].getD i 0
theorem ok_324 : okS 324 cd_324 wp_324 0 11 = true := by decide +kernel
theorem mo_324 : mOK 324 2339 2338 128 142 = true := by decide +kernel
def wp_325 : Nat → Nat := fun i => (([[0, 0, 0, 0, 0, 0, 2085, 0, 0, 0, 0, 1774, 0, 1774, 0, 0, 0, 0, 0, 0, 0, 0, 0, 1775, 0, 0, 0, 0, 0, 0, 0, 0], [0, 2336, 0, 0, 0, 0, 0, 2336, 0, 0, 0, 0, 0, 0, 0, 2336, 0, 0, 0, 2336, 0, 0, 0, 2336, 0, 2125, 0, 0, 0, 0, 0, 0], [0, 0, 0, 0]] : List (List Nat)).getD (i / 32) []).getD (i % 32) 0
theorem ok_325 : okS 325 cd_325 wp_325 0 96 = true := by decide +kernel
theorem mo_325 : mOK 325 2335 2333 2334 142 = true := by decide +kernel
def wp_326 : Nat → Nat := fun i => [0, 0, 0, 2032, 0, 0, 0, 0, 1774, 0, 1774, 0, 0, 0, 0, 0, 0, 0, 0, 1775, 0, 0, 0, 0, 0, 0, 0, 0, 0, 0, 2336, 0, 0, 0, 0, 0, 2336, 0, 0, 0, 0, 0, 0, 0, 0, 0, 0, 0, 0, 0, 0].getD i 0
theorem ok_326 : okS 326 cd_326 wp_326 0 64 = true := by decide +kernel
theorem mo_326 : mOK 326 2343 2341 2342 142 = true := by decide +kernel
def wp_327 : Nat → Nat := fun i => [0, 0, 0, 0, 1884, 0, 0, 0, 0, 1774, 0, 1774, 0, 0, 0, 0, 0, 0, 1775, 0, 0, 0, 0, 1884, 0, 0, 0, 0, 2336, 0, 0, 0].getD i 0
theorem ok_327 : okS 327 cd_327 wp_327 0 32 = true := by decide +kernel
theorem mo_327 : mOK 327 2347 2345 2346 142 = true := by decide +kernel
def wp_328 : Nat → Nat := fun i => [0, 0, 1774, 0, 1775, 0, 0, 0, 0, 1775, 0, 0, 0, 0, 0].getD i 0
theorem ok_328 : okS 328 cd_328 wp_328 0 15 = true := by decide +kernel
theorem mo_328 : mOK 328 2351 2349 2350 142 = true := by decide +kernel
def wp_329 : Nat → Nat := fun i => [0, 0, 1774, 0, 1780, 0, 0, 0, 0, 0, 1780, 0, 0, 1780, 0, 0, 0, 0, 0, 0, 1775, 0, 0, 1779, 0, 0, 1780, 0, 0, 0, 0, 0, 0, 0, 0, 0].getD i 0
theorem ok_329 : okS 329 cd_329 wp_329 0 36 = true := by decide +kernel
theorem mo_329 : mOK 329 2355 2353 2354 142 = true := by decide +kernel
def wp_330 : Nat → Nat := fun i => [0, 0, 1774, 0, 0, 0, 0, 0, 0, 1776, 0, 0, 1775, 0, 0, 0, 0, 0, 0, 0, 1777, 0].getD i 0
theorem ok_330 : okS 330 cd_330 wp_330 0 22 = true := by decide +kernel
theorem mo_330 : mOK 330 2359 2357 2358 142 = true := by decide +kernel
def wp_331 : Nat → Nat := fun i => [0, 0, 1774, 0, 1777, 0, 0, 0, 0, 0, 0, 0, 0, 0, 1775, 0, 0, 1776, 0, 0, 0, 0, 0, 0, 0, 1780, 0, 0].getD i 0
theorem ok_331 : okS 331 cd_331 wp_331 0 28 = true := by decide +kernel
theorem mo_331 : mOK 331 2363 2361 2362 142 = true := by decide +kernel
def wp_332 : Nat → Nat := fun i => (([[0, 0, 1774, 0, 0, 0, 1775, 0, 0, 0, 0, 0, 0, 0, 1775, 0, 0, 0, 0, 0, 0, 0, 1775, 0, 0, 0, 0, 0, 0, 0, 1775, 0], [0, 0, 0, 0, 0, 0, 1775, 0, 0, 0, 0, 0, 0, 0, 1775, 0, 0, 0, 0, 0, 0, 0, 1775, 0, 0, 0, 0, 0, 0, 0, 1775, 0], [0, 0, 0, 0, 0, 0, 1775, 0, 0, 0, 0, 0, 0, 1884, 0, 0, 1775, 0, 0, 0, 0, 0, 0, 0, 0, 0, 0, 0, 1775, 0, 0, 0], [0, 0, 0, 0, 1780, 0, 0, 0]] : List (List Nat)).getD (i / 32) []).getD (i % 32) 0
theorem ok_332 : okS 332 cd_332 wp_332 0 128 = true := by decide +kernel
theorem mo_332 : mOK 332 2367 2365 2366 142 = true := by decide +kernel
def wp_333 : Nat → Nat := fun i => [0, 0, 0, 0, 1565, 0, 0, 0, 0, 1566, 0, 0, 0, 0, 1566, 0, 0, 0, 0, 0, 0, 0, 0, 1567, 0, 0, 0, 0, 0, 0, 0, 0, 0, 0, 0, 0, 0, 0, 0, 0, 0, 0].getD i 0
theorem ok_333 : okS 333 cd_333 wp_333 0 42 = true := by decide +kernel
theorem mo_333 : mOK 333 1564 1563 0 157 = true := by decide +kernel
def wp_334 : Nat → Nat := fun i => [0, 0, 0, 0, 0, 0, 0, 0, 0].getD i 0
theorem ok_334 : okS 334 cd_334 wp_334 0 9 = true := by decide +kernel
theorem mo_334 : mOK 334 1265 1264 0 157 = true := by decide +kernel
def wp_335 : Nat → Nat := fun i => [0, 0, 0, 0, 0, 0, 0, 0, 0, 0, 0, 0, 0, 0, 0].getD i 0
theorem ok_335 : okS 335 cd_335 wp_335 0 15 = true := by decide +kernel
theorem mo_335 : mOK 335 1144 1143 0 154 = true := by decide +kernel
def wp_336 : Nat → Nat := fun i => [0, 0, 0, 0, 0, 989, 995, 0, 0, 0, 0, 0, 0, 0, 0, 0, 0, 0, 996, 997, 0, 0].getD i 0
theorem ok_336 : okS 336 cd_336 wp_336 0 22 = true := by decide +kernel
theorem mo_336 : mOK 336 988 987 0 154 = true := by decide +kernel
def wp_337 : Nat → Nat := fun i => [0, 0, 0, 646, 0, 0, 0, 644, 0, 0, 645, 0, 0, 0, 0].getD i 0
theorem ok_337 : okS 337 cd_337 wp_337 0 15 = true := by decide +kernel
theorem mo_337 : mOK 337 643 642 0 129 = true := by decide +kernel
def wp_338 : Nat → Nat := fun i => [0, 0, 0, 911, 0, 0, 0, 644, 0, 0, 0, 0].getD i 0
theorem ok_338 : okS 338 cd_338 wp_338 0 12 = true := by decide +kernel
theorem mo_338 : mOK 338 910 909 0 129 = true := by decide +kernel
def wp_339 : Nat → Nat := fun i => [0, 0, 0, 0, 0, 1004, 0, 0, 0, 1002, 0, 0, 1003, 0, 0, 0, 0].getD i 0
theorem ok_339 : okS 339 cd_339 wp_339 0 17 = true := by decide +kernel
theorem mo_339 : mOK 339 1001 1000 0 129 = true := by decide +kernel
def wp_340 : Nat → Nat := fun i => [0, 0, 0, 0, 0, 1053, 0, 0, 0, 1002, 0, 0, 1003, 0, 0, 0, 0].getD i 0
theorem ok_340 : okS 340 cd_340 wp_340 0 17 = true := by decide +kernel
theorem mo_340 : mOK 340 1052 1051 0 129 = true := by decide +kernel
def wp_341 : Nat → Nat := fun i => [0, 0, 0, 0, 0, 1082, 0, 0, 0, 1002, 0, 0, 1003, 0, 0, 0, 0].getD i 0
theorem ok_341 : okS 341 cd_341 wp_341 0 17 = true := by decide +kernel
theorem mo_341 : mOK 341 1081 1080 0 129 = true := by decide +kernel
def wp_342 : Nat → Nat := fun i => [0, 0, 0, 0, 0, 0, 0, 0, 0, 1095, 0, 0, 0, 1002, 0, 0, 644, 0, 0, 0, 0].getD i 0
theorem ok_342 : okS 342 cd_342 wp_342 0 21 = true := by decide +kernel
theorem mo_342 : mOK 342 1094 1093 0 129 = true := by decide +kernel
def wp_343 : Nat → Nat := fun i => [0, 0, 0, 0, 0, 0, 0, 0, 1202, 0, 0, 0, 1002, 0, 0, 644, 0, 0, 0, 0].getD i 0
theorem ok_343 : okS 343 cd_343 wp_343 0 20 = true := by decide +kernel
theorem mo_343 : mOK 343 1201 1200 0 129 = true := by decide +kernel
def wp_344 : Nat → Nat := fun i => [0, 0, 0, 0, 0, 1278, 0, 0, 0, 0, 0, 0, 1002, 0, 0, 0, 0].getD i 0
theorem ok_344 : okS 344 cd_344 wp_344 0 17 = true := by decide +kernel
theorem mo_344 : mOK 344 1277 1276 0 129 = true := by decide +kernel
def wp_345 : Nat → Nat := fun i => [0, 0, 0, 0, 0, 1286, 0, 0, 0, 1002, 0, 0, 644, 0, 0, 0, 0].getD i 0
theorem ok_345 : okS 345 cd_345 wp_345 0 17 = true := by decide +kernel
theorem mo_345 : mOK 345 1285 1284 0 129 = true := by decide +kernel
def wp_346 : Nat → Nat := fun i => [0, 0, 0, 0, 0, 0, 1294, 0, 0, 0, 1002, 0, 0, 644, 0, 0, 1293, 0, 0, 0, 0].getD i 0
theorem ok_346 : okS 346 cd_346 wp_346 0 21 = true := by decide +kernel
theorem mo_346 : mOK 346 1292 1291 0 129 = true := by decide +kernel
def wp_347 : Nat → Nat := fun i => [0, 0, 0, 0, 0, 1331, 0, 0, 0, 1003, 0, 0, 0, 0].getD i 0
theorem ok_347 : okS 347 cd_347 wp_347 0 14 = true := by decide +kernel
theorem mo_347 : mOK 347 1330 1329 0 129 = true := by decide +kernel
def wp_348 : Nat → Nat := fun i => [0, 0, 0, 0, 0, 0, 0, 1339, 0, 0, 0, 0, 0, 0, 1002, 0, 0, 644, 0, 0, 0, 0].getD i 0
theorem ok_348 : okS 348 cd_348 wp_348 0 22 = true := by decide +kernel
theorem mo_348 : mOK 348 1338 1337 0 129 = true := by decide +kernel
def wp_349 : Nat → Nat := fun i => [0, 0, 0, 0, 0, 1349, 0, 0, 0, 1002, 0, 0, 0, 0].getD i 0
theorem ok_349 : okS 349 cd_349 wp_349 0 14 = true := by decide +kernel
theorem mo_349 : mOK 349 1348 1347 0 129 = true := by decide +kernel
def wp_350 : Nat → Nat := fun i => [0, 0, 0, 0, 0, 1360, 0, 0, 0, 1002, 0, 0, 644, 0, 0, 0, 0].getD i 0
theorem ok_350 : okS 350 cd_350 wp_350 0 17 = true := by decide +kernel
theorem mo_350 : mOK 350 1359 1358 0 129 = true := by decide +kernel
def wp_351 : Nat → Nat := fun i => [0, 0, 0, 0, 0, 0, 0, 1371, 0, 0, 0, 1002, 0, 0, 644, 0, 0, 0, 0].getD i 0
theorem ok_351 : okS 351 cd_351 wp_351 0 19 = true := by decide +kernel
theorem mo_351 : mOK 351 1370 1369 0 129 = true := by decide +kernel
def wp_352 : Nat → Nat := fun i => [0, 0, 0, 0, 0, 0, 0, 0, 0, 1379, 0, 0, 0, 1002, 0, 0, 644, 0, 0, 0, 0].getD i 0
theorem ok_352 : okS 352 cd_352 wp_352 0 21 = true := by decide +kernel
theorem mo_352 : mOK 352 1378 1377 0 129 = true := by decide +kernel
def wp_353 : Nat → Nat := fun i => [0, 0, 0, 0, 0, 0, 0, 0, 1411, 0, 0, 0, 1002, 0, 0, 644, 0, 0, 0, 0].getD i 0
theorem ok_353 : okS 353 cd_353 wp_353 0 20 = true := by decide +kernel
theorem mo_353 : mOK 353 1410 1409 0 129 = true := by decide +kernel
def wp_354 : Nat → Nat := fun i => [0, 0, 0, 0, 0, 0, 0, 0, 1425, 0, 0, 0, 1002, 0, 0, 644, 0, 0, 1003, 0, 0, 0, 0].getD i 0
theorem ok_354 : okS 354 cd_354 wp_354 0 23 = true := by decide +kernel
theorem mo_354 : mOK 354 1424 1423 0 129 = true := by decide +kernel
def wp_355 : Nat → Nat := fun i => [0, 0, 0, 0, 0, 0, 1461, 0, 0, 0, 1002, 0, 0, 0, 0].getD i 0
theorem ok_355 : okS 355 cd_355 wp_355 0 15 = true := by decide +kernel
theorem mo_355 : mOK 355 1460 1459 0 129 = true := by decide +kernel
def wp_356 : Nat → Nat := fun i => [0, 0, 0, 0, 0, 0, 1475, 0, 0, 0, 1002, 0, 0, 644, 0, 0, 0, 0].getD i 0
theorem ok_356 : okS 356 cd_356 wp_356 0 18 = true := by decide +kernel
theorem mo_356 : mOK 356 1474 1473 0 129 = true := by decide +kernel
def wp_357 : Nat → Nat := fun i => [0, 0, 0, 0, 0, 0, 1486, 0, 0, 0, 1002, 0, 0, 0, 0].getD i 0
theorem ok_357 : okS 357 cd_357 wp_357 0 15 = true := by decide +kernel
theorem mo_357 : mOK 357 1485 1484 0 129 = true := by decide +kernel
def wp_358 : Nat → Nat := fun i => [0, 0, 0, 0, 0, 0, 1520, 0, 0, 0, 1002, 0, 0, 644, 0, 0, 0, 0].getD i 0
theorem ok_358 : okS 358 cd_358 wp_358 0 18 = true := by decide +kernel
theorem mo_358 : mOK 358 1519 1518 0 129 = true := by decide +kernel
def wp_359 : Nat → Nat := fun i => [0, 0, 0, 0, 0, 0, 0, 1531, 0, 0, 0, 1002, 0, 0, 644, 0, 0, 0, 0].getD i 0
theorem ok_359 : okS 359 cd_359 wp_359 0 19 = true := by decide +kernel
theorem mo_359 : mOK 359 1530 1529 0 129 = true := by decide +kernel
def wp_360 : Nat → Nat := fun i => [0, 0, 0, 0, 0, 0, 0, 1545, 0, 0, 0, 1002, 0, 0, 644, 0, 0, 0, 0].getD i 0
theorem ok_360 : okS 360 cd_360 wp_360 0 19 = true := by decide +kernel
theorem mo_360 : mOK 360 1544 1543 0 129 = true := by decide +kernel
def wp_361 : Nat → Nat := fun i => [0, 0, 0, 0, 0, 0, 0, 0, 0, 1579, 0, 0, 0, 1002, 0, 0, 644, 0, 0, 0, 0].getD i 0
theorem ok_361 : okS 361 cd_361 wp_361 0 21 = true := by decide +kernel
theorem mo_361 : mOK 361 1578 1577 0 129 = true := by decide +kernel
def wp_362 : Nat → Nat := fun i => [0, 0, 0, 0, 0, 0, 0, 0, 0, 1596, 0, 0, 0, 1002, 0, 0, 644, 0, 0, 0, 0].getD i 0
theorem ok_362 : okS 362 cd_362 wp_362 0 21 = true := by decide +kernel
theorem mo_362 : mOK 362 1595 1594 0 129 = true := by decide +kernel
def wp_363 : Nat → Nat := fun i => [0, 0, 0, 0, 0, 0, 0, 1608, 0, 0, 0, 1002, 0, 0, 644, 0, 0, 1293, 0, 0, 1003, 0, 0, 0, 0].getD i 0
theorem ok_363 : okS 363 cd_363 wp_363 0 25 = true := by decide +kernel
theorem mo_363 : mOK 363 1607 1606 0 129 = true := by decide +kernel
def wp_364 : Nat → Nat := fun i => [0, 0, 0, 0, 1655, 0, 0, 0, 644, 0, 0, 0, 0].getD i 0
theorem ok_364 : okS 364 cd_364 wp_364 0 13 = true := by decide +kernel
theorem mo_364 : mOK 364 1654 1653 0 129 = true := by decide +kernel
def wp_365 : Nat → Nat := fun i => [0, 0, 0, 0, 0, 0, 1686, 0, 0, 0, 644, 0, 0, 0, 0].getD i 0
theorem ok_365 : okS 365 cd_365 wp_365 0 15 = true := by decide +kernel
theorem mo_365 : mOK 365 1685 1684 0 129 = true := by decide +kernel
def wp_366 : Nat → Nat := fun i => [0, 0, 0, 0, 0, 1697, 0, 0, 0, 1002, 0, 0, 644, 0, 0, 0, 0].getD i 0
theorem ok_366 : okS 366 cd_366 wp_366 0 17 = true := by decide +kernel
theorem mo_366 : mOK 366 1696 1695 0 129 = true := by decide +kernel
def wp_367 : Nat → Nat := fun i => [0, 0, 0, 0, 0, 0, 0, 0, 1706, 0, 0, 0, 1002, 0, 0, 644, 0, 0, 0, 0].getD i 0
theorem ok_367 : okS 367 cd_367 wp_367 0 20 = true := by decide +kernel
theorem mo_367 : mOK 367 1705 1704 0 129 = true := by decide +kernel
def wp_368 : Nat → Nat := fun i => [0, 0, 0, 0, 0, 0, 0, 0, 0, 1725, 0, 0, 0, 1002, 0, 0, 644, 0, 0, 0, 0].getD i 0
theorem ok_368 : okS 368 cd_368 wp_368 0 21 = true := by decide +kernel
theorem mo_368 : mOK 368 1724 1723 0 129 = true := by decide +kernel
def wp_369 : Nat → Nat := fun i => [0, 0, 0, 0, 1733, 0, 0, 0, 1002, 0, 0, 0, 0].getD i 0
theorem ok_369 : okS 369 cd_369 wp_369 0 13 = true := by decide +kernel
theorem mo_369 : mOK 369 1732 1731 0 129 = true := by decide +kernel
def wp_370 : Nat → Nat := fun i => [0, 0, 0, 0, 0, 1744, 0, 0, 0, 1002, 0, 0, 0, 0].getD i 0
theorem ok_370 : okS 370 cd_370 wp_370 0 14 = true := by decide +kernel
theorem mo_370 : mOK 370 1743 1742 0 129 = true := by decide +kernel
def wp_371 : Nat → Nat := fun i => [0, 0, 0, 0, 0, 1763, 0, 0, 0, 1003, 0, 0, 0, 0].getD i 0
theorem ok_371 : okS 371 cd_371 wp_371 0 14 = true := by decide +kernel
theorem mo_371 : mOK 371 1762 1761 0 129 = true := by decide +kernel
