/-! the queries as steps -/
section STP
variable {S : Nat → Int32} {ls : Nat}
theorem st_355 {d : Nat} {N : Int} {s : HS} (z : INV S ls N s) (hN : 0 ≤ N ∧ N ≤ 1000) (a0 a1 a2 a3 a4 : Int32) : StW S ls N s (ev PR (d + 40) 355 [.ref 79, .int a0, .int a1, .int a2, .int a3, .int a4, .ref 304]) (ev PR (d + 40) 297 [.ref 287, .int a0, .int a1, .int a2, .int a3, .int a4]) := by
  obtain ⟨vn, vc, vw, K, L, R, I, J, g, mk, nx, rfl, xg, xc, xm, xs⟩ := z
  have hmk : mk + 6000 < 100000000 := by have := xc.2.1; omega
  rw [← w_of a0, ← w_of a1, ← w_of a2, ← w_of a3, ← w_of a4]
  refine St_q xg xc xm xs ?_ (XW_y xc.2.2.2.2.2.2.2.1.2 (w_355 (d := d + 31) xc.2.2.2.2.2.2.2.2.2.2 xc.1 hmk (⟨i_rng a0, i_rng a1, i_rng a2, i_rng a3, i_rng a4⟩))) (fun vc vw R I J q => m_297 (d := d + 4) q (⟨i_rng a0, i_rng a1, i_rng a2, i_rng a3, i_rng a4⟩))
  unfold cBad
  (repeat' split) <;> decide
theorem st_344 {d : Nat} {N : Int} {s : HS} (z : INV S ls N s) (hN : 0 ≤ N ∧ N ≤ 1000) (a0 a1 a2 a3 a4 a5 : Int32) : StW S ls N s (ev PR (d + 40) 344 [.ref 79, .int a0, .int a1, .int a2, .int a3, .int a4, .int a5, .ref 304]) (ev PR (d + 40) 276 [.ref 287, .int a0, .int a1, .int a2, .int a3, .int a4, .int a5]) := by
  obtain ⟨vn, vc, vw, K, L, R, I, J, g, mk, nx, rfl, xg, xc, xm, xs⟩ := z
  have hmk : mk + 6000 < 100000000 := by have := xc.2.1; omega
  rw [← w_of a0, ← w_of a1, ← w_of a2, ← w_of a3, ← w_of a4, ← w_of a5]
  refine St_q xg xc xm xs ?_ (XW_y xc.2.2.2.2.2.2.2.1.2 (w_344 (d := d + 32) xc.2.2.2.2.2.2.2.2.2.2 xc.1 hmk (⟨i_rng a0, i_rng a1, i_rng a2, i_rng a3, i_rng a4, i_rng a5⟩))) (fun vc vw R I J q => m_276 (d := d + 5) q (⟨i_rng a0, i_rng a1, i_rng a2, i_rng a3, i_rng a4, i_rng a5⟩))
  unfold cAims
  (repeat' split) <;> decide
theorem st_354 {d : Nat} {N : Int} {s : HS} (z : INV S ls N s) (hN : 0 ≤ N ∧ N ≤ 1000) (a0 a1 a2 a3 a4 a5 : Int32) : StW S ls N s (ev PR (d + 40) 354 [.ref 79, .int a0, .int a1, .int a2, .int a3, .int a4, .int a5, .ref 304]) (ev PR (d + 40) 295 [.ref 287, .int a0, .int a1, .int a2, .int a3, .int a4, .int a5]) := by
  obtain ⟨vn, vc, vw, K, L, R, I, J, g, mk, nx, rfl, xg, xc, xm, xs⟩ := z
  have hmk : mk + 6000 < 100000000 := by have := xc.2.1; omega
  rw [← w_of a0, ← w_of a1, ← w_of a2, ← w_of a3, ← w_of a4, ← w_of a5]
  refine St_q xg xc xm xs ?_ (XW_y xc.2.2.2.2.2.2.2.1.2 (w_354 (d := d + 31) xc.2.2.2.2.2.2.2.2.2.2 xc.1 hmk (⟨i_rng a0, i_rng a1, i_rng a2, i_rng a3, i_rng a4, i_rng a5⟩))) (fun vc vw R I J q => m_295 (d := d + 5) q (⟨i_rng a0, i_rng a1, i_rng a2, i_rng a3, i_rng a4, i_rng a5⟩))
  unfold cWays
  (repeat' split) <;> decide
theorem st_356 {d : Nat} {N : Int} {s : HS} (z : INV S ls N s) (hN : 0 ≤ N ∧ N ≤ 1000) (a0 a1 a2 a3 a4 : Int32) : StW S ls N s (ev PR (d + 40) 356 [.ref 79, .int a0, .int a1, .int a2, .int a3, .int a4, .ref 304]) (ev PR (d + 40) 299 [.ref 287, .int a0, .int a1, .int a2, .int a3, .int a4]) := by
  obtain ⟨vn, vc, vw, K, L, R, I, J, g, mk, nx, rfl, xg, xc, xm, xs⟩ := z
  have hmk : mk + 6000 < 100000000 := by have := xc.2.1; omega
  rw [← w_of a0, ← w_of a1, ← w_of a2, ← w_of a3, ← w_of a4]
  refine St_q xg xc xm xs ?_ (XW_y xc.2.2.2.2.2.2.2.1.2 (w_356 (d := d + 29) xc.2.2.2.2.2.2.2.2.2.2 xc.1 hmk (⟨i_rng a0, i_rng a1, i_rng a2, i_rng a3, i_rng a4⟩))) (fun vc vw R I J q => m_299 (d := d + 3) q (⟨i_rng a0, i_rng a1, i_rng a2, i_rng a3, i_rng a4⟩))
  unfold cHow
  (repeat' split) <;> decide
theorem st_358 {d : Nat} {N : Int} {s : HS} (z : INV S ls N s) (hN : 0 ≤ N ∧ N ≤ 1000) (a0 a1 a2 : Int32) : StW S ls N s (ev PR (d + 40) 358 [.ref 79, .int a0, .int a1, .int a2, .ref 304]) (ev PR (d + 40) 302 [.ref 287, .int a0, .int a1, .int a2]) := by
  obtain ⟨vn, vc, vw, K, L, R, I, J, g, mk, nx, rfl, xg, xc, xm, xs⟩ := z
  have hmk : mk + 6000 < 100000000 := by have := xc.2.1; omega
  rw [← w_of a0, ← w_of a1, ← w_of a2]
  refine St_q xg xc xm xs ?_ (XW_y xc.2.2.2.2.2.2.2.1.2 (w_358 (d := d + 29) xc.2.2.2.2.2.2.2.2.2.2 xc.1 hmk (⟨i_rng a0, i_rng a1, i_rng a2⟩))) (fun vc vw R I J q => m_302 (d := d + 3) q (⟨i_rng a0, i_rng a1, i_rng a2⟩))
  unfold cRch
  (repeat' split) <;> decide
theorem st_360 {d : Nat} {N : Int} {s : HS} (z : INV S ls N s) (hN : 0 ≤ N ∧ N ≤ 1000) (a0 a1 a2 : Int32) : StW S ls N s (ev PR (d + 40) 360 [.ref 79, .int a0, .int a1, .int a2, .ref 304]) (ev PR (d + 40) 305 [.ref 287, .int a0, .int a1, .int a2]) := by
  obtain ⟨vn, vc, vw, K, L, R, I, J, g, mk, nx, rfl, xg, xc, xm, xs⟩ := z
  have hmk : mk + 6000 < 100000000 := by have := xc.2.1; omega
  rw [← w_of a0, ← w_of a1, ← w_of a2]
  refine St_q xg xc xm xs ?_ (XW_y xc.2.2.2.2.2.2.2.1.2 (w_360 (d := d + 29) xc.2.2.2.2.2.2.2.2.2.2 xc.1 hmk (⟨i_rng a0, i_rng a1, i_rng a2⟩))) (fun vc vw R I J q => m_305 (d := d + 3) q (⟨i_rng a0, i_rng a1, i_rng a2⟩))
  unfold cRch
  (repeat' split) <;> decide
theorem st_357 {d : Nat} {N : Int} {s : HS} (z : INV S ls N s) (hN : 0 ≤ N ∧ N ≤ 1000) (a0 a1 a2 : Int32) : StW S ls N s (ev PR (d + 40) 357 [.ref 79, .int a0, .int a1, .int a2, .ref 304]) (ev PR (d + 40) 300 [.ref 287, .int a0, .int a1, .int a2]) := by
  obtain ⟨vn, vc, vw, K, L, R, I, J, g, mk, nx, rfl, xg, xc, xm, xs⟩ := z
  have hmk : mk + 6000 < 100000000 := by have := xc.2.1; omega
  rw [← w_of a0, ← w_of a1, ← w_of a2]
  refine St_q xg xc xm xs ?_ (XW_y xc.2.2.2.2.2.2.2.1.2 (w_357 (d := d + 29) xc.2.2.2.2.2.2.2.2.2.2 xc.1 hmk (⟨i_rng a0, i_rng a1, i_rng a2⟩))) (fun vc vw R I J q => m_300 (d := d + 3) q (⟨i_rng a0, i_rng a1, i_rng a2⟩))
  unfold cWh
  (repeat' split) <;> decide
theorem st_363 {d : Nat} {N : Int} {s : HS} (z : INV S ls N s) (hN : 0 ≤ N ∧ N ≤ 1000) (a0 a1 a2 a3 a4 a5 : Int32) : StW S ls N s (ev PR (d + 40) 363 [.ref 79, .int a0, .int a1, .int a2, .int a3, .int a4, .int a5, .ref 304]) (ev PR (d + 40) 311 [.ref 287, .int a0, .int a1, .int a2, .int a3, .int a4, .int a5]) := by
  obtain ⟨vn, vc, vw, K, L, R, I, J, g, mk, nx, rfl, xg, xc, xm, xs⟩ := z
  have hmk : mk + 6000 < 100000000 := by have := xc.2.1; omega
  rw [← w_of a0, ← w_of a1, ← w_of a2, ← w_of a3, ← w_of a4, ← w_of a5]
  refine St_q xg xc xm xs ?_ (XW_y xc.2.2.2.2.2.2.2.1.2 (w_363 (d := d + 30) xc.2.2.2.2.2.2.2.2.2.2 xc.1 hmk (⟨i_rng a0, i_rng a1, i_rng a2, i_rng a3, i_rng a4, i_rng a5⟩))) (fun vc vw R I J q => m_311 (d := d + 5) q (⟨i_rng a0, i_rng a1, i_rng a2, i_rng a3, i_rng a4, i_rng a5⟩))
  unfold cTill
  (repeat' split) <;> decide
theorem st_364 {d : Nat} {N : Int} {s : HS} (z : INV S ls N s) (hN : 0 ≤ N ∧ N ≤ 1000) (a0 a1 a2 a3 a4 a5 : Int32) : StW S ls N s (ev PR (d + 40) 364 [.ref 79, .int a0, .int a1, .int a2, .int a3, .int a4, .int a5, .ref 304]) (ev PR (d + 40) 312 [.ref 287, .int a0, .int a1, .int a2, .int a3, .int a4, .int a5]) := by
  obtain ⟨vn, vc, vw, K, L, R, I, J, g, mk, nx, rfl, xg, xc, xm, xs⟩ := z
  have hmk : mk + 6000 < 100000000 := by have := xc.2.1; omega
  rw [← w_of a0, ← w_of a1, ← w_of a2, ← w_of a3, ← w_of a4, ← w_of a5]
  refine St_q xg xc xm xs ?_ (XW_y xc.2.2.2.2.2.2.2.1.2 (w_364 (d := d + 30) xc.2.2.2.2.2.2.2.2.2.2 xc.1 hmk (⟨i_rng a0, i_rng a1, i_rng a2, i_rng a3, i_rng a4, i_rng a5⟩))) (fun vc vw R I J q => m_312 (d := d + 4) q (⟨i_rng a0, i_rng a1, i_rng a2, i_rng a3, i_rng a4, i_rng a5⟩))
  unfold cBad
  (repeat' split) <;> decide
theorem st_361 {d : Nat} {N : Int} {s : HS} (z : INV S ls N s) (hN : 0 ≤ N ∧ N ≤ 1000) (a0 a1 a2 a3 : Int32) : StW S ls N s (ev PR (d + 40) 361 [.ref 79, .int a0, .int a1, .int a2, .int a3, .ref 304]) (ev PR (d + 40) 306 [.ref 287, .int a0, .int a1, .int a2, .int a3]) := by
  obtain ⟨vn, vc, vw, K, L, R, I, J, g, mk, nx, rfl, xg, xc, xm, xs⟩ := z
  have hmk : mk + 6000 < 100000000 := by have := xc.2.1; omega
  rw [← w_of a0, ← w_of a1, ← w_of a2, ← w_of a3]
  refine St_q xg xc xm xs ?_ (w_361 (d := d + 29) xc.2.2.2.2.2.2.2.2.2.2 xc.1 xc.2.2.2.2.2.2.2.1.1 xc.2.2.2.2.2.2.2.1.2 hmk (⟨i_rng a0, i_rng a1, i_rng a2, i_rng a3⟩)) (fun vc vw R I J q => m_306 (d := d + 3) q (⟨i_rng a0, i_rng a1, i_rng a2, i_rng a3⟩))
  unfold cLrg
  (repeat' split) <;> decide
theorem st_362 {d : Nat} {N : Int} {s : HS} (z : INV S ls N s) (hN : 0 ≤ N ∧ N ≤ 1000) (a0 a1 a2 a3 : Int32) : StW S ls N s (ev PR (d + 40) 362 [.ref 79, .int a0, .int a1, .int a2, .int a3, .ref 304]) (ev PR (d + 40) 310 [.ref 287, .int a0, .int a1, .int a2, .int a3]) := by
  obtain ⟨vn, vc, vw, K, L, R, I, J, g, mk, nx, rfl, xg, xc, xm, xs⟩ := z
  have hmk : mk + 6000 < 100000000 := by have := xc.2.1; omega
  rw [← w_of a0, ← w_of a1, ← w_of a2, ← w_of a3]
  refine St_q xg xc xm xs ?_ (XW_y xc.2.2.2.2.2.2.2.1.2 (w_362 (d := d + 29) xc.2.2.2.2.2.2.2.2.2.2 xc.1 hmk (⟨i_rng a0, i_rng a1, i_rng a2, i_rng a3⟩))) (fun vc vw R I J q => m_310 (d := d + 3) q (⟨i_rng a0, i_rng a1, i_rng a2, i_rng a3⟩))
  unfold cArr
  (repeat' split) <;> decide
theorem st_359 {d : Nat} {N : Int} {s : HS} (z : INV S ls N s) (hN : 0 ≤ N ∧ N ≤ 1000) (a0 a1 a2 : Int32) : StW S ls N s (ev PR (d + 40) 359 [.ref 79, .int a0, .int a1, .int a2, .ref 304]) (ev PR (d + 40) 304 [.ref 287, .int a0, .int a1, .int a2]) := by
  obtain ⟨vn, vc, vw, K, L, R, I, J, g, mk, nx, rfl, xg, xc, xm, xs⟩ := z
  have hmk : mk + 6000 < 100000000 := by have := xc.2.1; omega
  rw [← w_of a0, ← w_of a1, ← w_of a2]
  refine St_q xg xc xm xs ?_ (XW_y xc.2.2.2.2.2.2.2.1.2 (w_359 (d := d + 29) xc.2.2.2.2.2.2.2.2.2.2 xc.1 hmk (⟨i_rng a0, i_rng a1, i_rng a2⟩))) (fun vc vw R I J q => m_304 (d := d + 3) q (⟨i_rng a0, i_rng a1, i_rng a2⟩))
  unfold cPlc
  (repeat' split) <;> decide
theorem st_353 {d : Nat} {N : Int} {s : HS} (z : INV S ls N s) (hN : 0 ≤ N ∧ N ≤ 1000) (a0 a1 a2 a3 : Int32) : StW S ls N s (ev PR (d + 40) 353 [.ref 79, .int a0, .int a1, .int a2, .int a3, .ref 304]) (ev PR (d + 40) 294 [.ref 287, .int a0, .int a1, .int a2, .int a3]) := by
  obtain ⟨vn, vc, vw, K, L, R, I, J, g, mk, nx, rfl, xg, xc, xm, xs⟩ := z
  have hmk : mk + 6000 < 100000000 := by have := xc.2.1; omega
  rw [← w_of a0, ← w_of a1, ← w_of a2, ← w_of a3]
  refine St_q xg xc xm xs ?_ (XW_y xc.2.2.2.2.2.2.2.1.2 (w_353 (d := d + 34) xc.2.2.2.2.2.2.2.2.2.2 xc.1 (⟨i_rng a0, i_rng a1, i_rng a2, i_rng a3⟩))) (fun vc vw R I J q => m_294 (d := d + 33) q (⟨i_rng a0, i_rng a1, i_rng a2, i_rng a3⟩))
  unfold cCom
  (repeat' split) <;> decide
theorem st_371 {d : Nat} {N : Int} {s : HS} (z : INV S ls N s) (hN : 0 ≤ N ∧ N ≤ 1000) (a0 : Int32) : StW S ls N s (ev PR (d + 40) 371 [.ref 79, .int a0, .ref 304]) (ev PR (d + 40) 327 [.ref 287, .int a0]) := by
  obtain ⟨vn, vc, vw, K, L, R, I, J, g, mk, nx, rfl, xg, xc, xm, xs⟩ := z
  have hmk : mk + 6000 < 100000000 := by have := xc.2.1; omega
  rw [← w_of a0]
  refine St_q xg xc xm xs ?_ (XW_y xc.2.2.2.2.2.2.2.1.2 (w_371 (d := d + 32) xc.2.2.2.2.2.2.2.2.2.2 xc.1 xg.1.2.2.1 (i_rng a0))) (fun vc vw R I J q => m_327 (d := d + 32) q xg.1.2.2.1 (i_rng a0))
  unfold cRob
  (repeat' split) <;> decide
theorem st_372 {d : Nat} {N : Int} {s : HS} (z : INV S ls N s) (hN : 0 ≤ N ∧ N ≤ 1000) (a0 a1 : Int32) : StW S ls N s (ev PR (d + 40) 372 [.ref 79, .int a0, .int a1, .ref 304]) (ev PR (d + 40) 328 [.ref 287, .int a0, .int a1]) := by
  obtain ⟨vn, vc, vw, K, L, R, I, J, g, mk, nx, rfl, xg, xc, xm, xs⟩ := z
  have hmk : mk + 6000 < 100000000 := by have := xc.2.1; omega
  rw [← w_of a0, ← w_of a1]
  refine St_q xg xc xm xs ?_ (XW_y xc.2.2.2.2.2.2.2.1.2 (w_372 (d := d + 34) xc.2.2.2.2.2.2.2.2.2.2 xc.1 xg.1.2.2.1 (⟨i_rng a0, i_rng a1⟩))) (fun vc vw R I J q => m_328 (d := d + 36) q xg.1.2.2.1 (⟨i_rng a0, i_rng a1⟩))
  unfold cLed
  (repeat' split) <;> decide
theorem st_341 {d : Nat} {N : Int} {s : HS} (z : INV S ls N s) (hN : 0 ≤ N ∧ N ≤ 1000) (a0 a1 : Int32) : StW S ls N s (ev PR (d + 40) 341 [.ref 79, .int a0, .int a1, .ref 304]) (ev PR (d + 40) 270 [.ref 287, .int a0, .int a1]) := by
  obtain ⟨vn, vc, vw, K, L, R, I, J, g, mk, nx, rfl, xg, xc, xm, xs⟩ := z
  have hmk : mk + 6000 < 100000000 := by have := xc.2.1; omega
  rw [← w_of a0, ← w_of a1]
  refine St_q xg xc xm xs ?_ (XW_y xc.2.2.2.2.2.2.2.1.2 (w_341 (d := d + 35) xc.2.2.2.2.2.2.2.2.2.2 xc.1 (⟨i_rng a0, i_rng a1⟩))) (fun vc vw R I J q => w_341m (d := d + 35) q (⟨i_rng a0, i_rng a1⟩))
  unfold cc_341
  (repeat' split) <;> decide
theorem st_342 {d : Nat} {N : Int} {s : HS} (z : INV S ls N s) (hN : 0 ≤ N ∧ N ≤ 1000) (a0 a1 : Int32) : StW S ls N s (ev PR (d + 40) 342 [.ref 79, .int a0, .int a1, .ref 304]) (ev PR (d + 40) 272 [.ref 287, .int a0, .int a1]) := by
  obtain ⟨vn, vc, vw, K, L, R, I, J, g, mk, nx, rfl, xg, xc, xm, xs⟩ := z
  have hmk : mk + 6000 < 100000000 := by have := xc.2.1; omega
  rw [← w_of a0, ← w_of a1]
  refine St_q xg xc xm xs ?_ (XW_y xc.2.2.2.2.2.2.2.1.2 (w_342 (d := d + 35) xc.2.2.2.2.2.2.2.2.2.2 xc.1 (⟨i_rng a0, i_rng a1⟩))) (fun vc vw R I J q => w_342m (d := d + 35) q (⟨i_rng a0, i_rng a1⟩))
  unfold cc_342
  (repeat' split) <;> decide
theorem st_343 {d : Nat} {N : Int} {s : HS} (z : INV S ls N s) (hN : 0 ≤ N ∧ N ≤ 1000) (a0 a1 : Int32) : StW S ls N s (ev PR (d + 40) 343 [.ref 79, .int a0, .int a1, .ref 304]) (ev PR (d + 40) 273 [.ref 287, .int a0, .int a1]) := by
  obtain ⟨vn, vc, vw, K, L, R, I, J, g, mk, nx, rfl, xg, xc, xm, xs⟩ := z
  have hmk : mk + 6000 < 100000000 := by have := xc.2.1; omega
  rw [← w_of a0, ← w_of a1]
  refine St_q xg xc xm xs ?_ (XW_y xc.2.2.2.2.2.2.2.1.2 (w_343 (d := d + 35) xc.2.2.2.2.2.2.2.2.2.2 xc.1 (⟨i_rng a0, i_rng a1⟩))) (fun vc vw R I J q => w_343m (d := d + 36) q (⟨i_rng a0, i_rng a1⟩))
  unfold cc_343
  (repeat' split) <;> decide
theorem st_349 {d : Nat} {N : Int} {s : HS} (z : INV S ls N s) (hN : 0 ≤ N ∧ N ≤ 1000) (a0 a1 : Int32) : StW S ls N s (ev PR (d + 40) 349 [.ref 79, .int a0, .int a1, .ref 304]) (ev PR (d + 40) 290 [.ref 287, .int a0, .int a1]) := by
  obtain ⟨vn, vc, vw, K, L, R, I, J, g, mk, nx, rfl, xg, xc, xm, xs⟩ := z
  have hmk : mk + 6000 < 100000000 := by have := xc.2.1; omega
  rw [← w_of a0, ← w_of a1]
  refine St_q xg xc xm xs ?_ (XW_y xc.2.2.2.2.2.2.2.1.2 (w_349 (d := d + 35) xc.2.2.2.2.2.2.2.2.2.2 xc.1 (⟨i_rng a0, i_rng a1⟩))) (fun vc vw R I J q => w_349m (d := d + 36) q (⟨i_rng a0, i_rng a1⟩))
  unfold cc_349
  (repeat' split) <;> decide
theorem st_373 {d : Nat} {N : Int} {s : HS} (z : INV S ls N s) (hN : 0 ≤ N ∧ N ≤ 1000) (a0 a1 : Int32) : StW S ls N s (ev PR (d + 40) 373 [.ref 79, .int a0, .int a1, .ref 304]) (ev PR (d + 40) 329 [.ref 287, .int a0, .int a1]) := by
  obtain ⟨vn, vc, vw, K, L, R, I, J, g, mk, nx, rfl, xg, xc, xm, xs⟩ := z
  have hmk : mk + 6000 < 100000000 := by have := xc.2.1; omega
  rw [← w_of a0, ← w_of a1]
  refine St_q xg xc xm xs ?_ (XW_y xc.2.2.2.2.2.2.2.1.2 (w_373 (d := d + 35) xc.2.2.2.2.2.2.2.2.2.2 xc.1 (⟨i_rng a0, i_rng a1⟩))) (fun vc vw R I J q => w_373m (d := d + 36) q (⟨i_rng a0, i_rng a1⟩))
  unfold cc_373
  (repeat' split) <;> decide
theorem st_350 {d : Nat} {N : Int} {s : HS} (z : INV S ls N s) (hN : 0 ≤ N ∧ N ≤ 1000) (a0 a1 a2 a3 : Int32) : StW S ls N s (ev PR (d + 40) 350 [.ref 79, .int a0, .int a1, .int a2, .int a3, .ref 304]) (ev PR (d + 40) 291 [.ref 287, .int a0, .int a1, .int a2, .int a3]) := by
  obtain ⟨vn, vc, vw, K, L, R, I, J, g, mk, nx, rfl, xg, xc, xm, xs⟩ := z
  have hmk : mk + 6000 < 100000000 := by have := xc.2.1; omega
  rw [← w_of a0, ← w_of a1, ← w_of a2, ← w_of a3]
  refine St_q xg xc xm xs ?_ (XW_y xc.2.2.2.2.2.2.2.1.2 (w_350 (d := d + 34) xc.2.2.2.2.2.2.2.2.2.2 xc.1 (⟨i_rng a0, i_rng a1, i_rng a2, i_rng a3⟩))) (fun vc vw R I J q => w_350m (d := d + 35) q (⟨i_rng a0, i_rng a1, i_rng a2, i_rng a3⟩))
  unfold cc_350
  (repeat' split) <;> decide
theorem st_351 {d : Nat} {N : Int} {s : HS} (z : INV S ls N s) (hN : 0 ≤ N ∧ N ≤ 1000) (a0 a1 : Int32) : StW S ls N s (ev PR (d + 40) 351 [.ref 79, .int a0, .int a1, .ref 304]) (ev PR (d + 40) 292 [.ref 287, .int a0, .int a1]) := by
  obtain ⟨vn, vc, vw, K, L, R, I, J, g, mk, nx, rfl, xg, xc, xm, xs⟩ := z
  have hmk : mk + 6000 < 100000000 := by have := xc.2.1; omega
  rw [← w_of a0, ← w_of a1]
  refine St_q xg xc xm xs ?_ (XW_y xc.2.2.2.2.2.2.2.1.2 (w_351 (d := d + 34) xc.2.2.2.2.2.2.2.2.2.2 xc.1 (⟨i_rng a0, i_rng a1⟩))) (fun vc vw R I J q => w_351m (d := d + 35) q (⟨i_rng a0, i_rng a1⟩))
  unfold cc_351
  (repeat' split) <;> decide
theorem st_352 {d : Nat} {N : Int} {s : HS} (z : INV S ls N s) (hN : 0 ≤ N ∧ N ≤ 1000) (a0 a1 : Int32) : StW S ls N s (ev PR (d + 40) 352 [.ref 79, .int a0, .int a1, .ref 304]) (ev PR (d + 40) 293 [.ref 287, .int a0, .int a1]) := by
  obtain ⟨vn, vc, vw, K, L, R, I, J, g, mk, nx, rfl, xg, xc, xm, xs⟩ := z
  have hmk : mk + 6000 < 100000000 := by have := xc.2.1; omega
  rw [← w_of a0, ← w_of a1]
  refine St_q xg xc xm xs ?_ (XW_y xc.2.2.2.2.2.2.2.1.2 (w_352 (d := d + 34) xc.2.2.2.2.2.2.2.2.2.2 xc.1 (⟨i_rng a0, i_rng a1⟩))) (fun vc vw R I J q => w_352m (d := d + 35) q (⟨i_rng a0, i_rng a1⟩))
  unfold cc_352
  (repeat' split) <;> decide
theorem st_367 {d : Nat} {N : Int} {s : HS} (z : INV S ls N s) (hN : 0 ≤ N ∧ N ≤ 1000) (a0 a1 a2 : Int32) : StW S ls N s (ev PR (d + 40) 367 [.ref 79, .int a0, .int a1, .int a2, .ref 304]) (ev PR (d + 40) 321 [.ref 287, .int a0, .int a1, .int a2]) := by
  obtain ⟨vn, vc, vw, K, L, R, I, J, g, mk, nx, rfl, xg, xc, xm, xs⟩ := z
  have hmk : mk + 6000 < 100000000 := by have := xc.2.1; omega
  rw [← w_of a0, ← w_of a1, ← w_of a2]
  refine St_q xg xc xm xs ?_ (XW_y xc.2.2.2.2.2.2.2.1.2 (w_367 (d := d + 34) xc.2.2.2.2.2.2.2.2.2.2 xc.1 (⟨i_rng a0, i_rng a1, i_rng a2⟩))) (fun vc vw R I J q => w_367m (d := d + 35) q (⟨i_rng a0, i_rng a1, i_rng a2⟩))
  unfold cc_367
  (repeat' split) <;> decide
theorem st_368 {d : Nat} {N : Int} {s : HS} (z : INV S ls N s) (hN : 0 ≤ N ∧ N ≤ 1000) (a0 a1 : Int32) : StW S ls N s (ev PR (d + 40) 368 [.ref 79, .int a0, .int a1, .ref 304]) (ev PR (d + 40) 322 [.ref 287, .int a0, .int a1]) := by
  obtain ⟨vn, vc, vw, K, L, R, I, J, g, mk, nx, rfl, xg, xc, xm, xs⟩ := z
  have hmk : mk + 6000 < 100000000 := by have := xc.2.1; omega
  rw [← w_of a0, ← w_of a1]
  refine St_q xg xc xm xs ?_ (XW_y xc.2.2.2.2.2.2.2.1.2 (w_368 (d := d + 34) xc.2.2.2.2.2.2.2.2.2.2 xc.1 (⟨i_rng a0, i_rng a1⟩))) (fun vc vw R I J q => w_368m (d := d + 35) q (⟨i_rng a0, i_rng a1⟩))
  unfold cc_368
  (repeat' split) <;> decide
theorem st_365 {d : Nat} {N : Int} {s : HS} (z : INV S ls N s) (hN : 0 ≤ N ∧ N ≤ 1000) (a0 a1 a2 a3 : Int32) : StW S ls N s (ev PR (d + 40) 365 [.ref 79, .int a0, .int a1, .int a2, .int a3, .ref 304]) (ev PR (d + 40) 317 [.ref 287, .int a0, .int a1, .int a2, .int a3]) := by
  obtain ⟨vn, vc, vw, K, L, R, I, J, g, mk, nx, rfl, xg, xc, xm, xs⟩ := z
  have hmk : mk + 6000 < 100000000 := by have := xc.2.1; omega
  rw [← w_of a0, ← w_of a1, ← w_of a3]
  refine St_q xg xc xm xs ?_ (XW_y xc.2.2.2.2.2.2.2.1.2 (w_365 (d := d + 29) xc.2.2.2.2.2.2.2.2.2.2 xc.1 hmk (⟨i_rng a0, i_rng a1, i_rng a3⟩))) (fun vc vw R I J q => m_317 (d := d + 1) q (⟨i_rng a0, i_rng a1, i_rng a3⟩))
  unfold cGame
  (repeat' split) <;> decide
end STP
