/-! THE CLASS: rows changed, on the whole view -/
theorem setm_s (m : Int → Int) (z v : Int) : setm m z v z = v := if_pos rfl
theorem setm_o (m : Int → Int) {z v y : Int} (h : y ≠ z) : setm m z v y = m y := if_neg h
/-- fields of the stall itself -/
theorem vS_fld {f : Nat → Nat → Int32} {q : Nat} {k : Nat} {z : Int} {v : Int32} (h : (k = 11 ∧ z = 0) ∨ (12 ≤ k ∧ k ≤ 17 ∧ z = (k : Int) - 6) ∨ (k = 18 ∧ z = 15)) : vS (u2 f q k v) q = setm (vS f q) z v.toInt := by
  have e : ∀ a b, q < a → u2 f q k v a b = f a b := fun a b hab => u2_o _ _ _ _ (by omega)
  funext y
  unfold setm
  by_cases c : y = z
  · rw [if_pos c]
    subst c
    rw [vS_o (by omega) (by omega) (by omega) (by omega) (by omega) (by omega) (by omega) (by omega) (by omega) (by omega)]
    rcases h with ⟨rfl, rfl⟩ | ⟨h1, h2, rfl⟩ | ⟨rfl, rfl⟩
    · rw [if_pos rfl, u2_s]
    · rw [if_neg (by omega), if_pos (by omega), show ix ((k : Int) - 6 + 6) = k by unfold ix; omega, u2_s]
    · rw [if_neg (by omega), if_neg (by omega), if_pos rfl, u2_s]
  · rw [if_neg c]
    unfold vS
    rw [e (q + 1) 2 (by omega), e (q + 3) 2 (by omega), e (q + 5) 2 (by omega), e (q + 7) 2 (by omega), e (q + 9) 2 (by omega), e (q + 2) _ (by omega), e (q + 4) _ (by omega), e (q + 6) _ (by omega), e (q + 8) _ (by omega), e (q + 10) _ (by omega)]
    by_cases c0 : y = 0
    · rw [if_pos c0, if_pos c0, u2_k _ _ _ _ (by omega)]
    · by_cases c6 : 6 ≤ y ∧ y ≤ 11
      · rw [if_neg c0, if_neg c0, if_neg (by omega), if_neg (by omega), if_neg (by omega), if_pos c6, if_neg (by omega), if_neg (by omega), if_neg (by omega), if_pos c6, u2_k _ _ _ _ (by unfold ix; omega)]
      · simp only [if_neg c0, if_neg c6]
        by_cases c15 : y = 15
        · simp only [c15, if_true, if_false]
          rw [u2_k _ _ _ _ (by omega)]
        · simp only [if_neg c15]
theorem Wd_fld {f : Nat → Nat → Int32} {q k : Nat} {v : Int32} (hW : Wd f q) : Wd (u2 f q k v) q := by
  obtain ⟨h1, h2, h3, h4, h5⟩ := hW
  exact ⟨(u2_o _ _ _ _ (by omega)).trans h1, (u2_o _ _ _ _ (by omega)).trans h2, (u2_o _ _ _ _ (by omega)).trans h3, (u2_o _ _ _ _ (by omega)).trans h4, (u2_o _ _ _ _ (by omega)).trans h5⟩
theorem Wd_cell {f : Nat → Nat → Int32} {q r k : Nat} {v : Int32} (hr : r = 2 ∨ r = 4 ∨ r = 6 ∨ r = 8 ∨ r = 10) (hW : Wd f q) : Wd (u2 f (q + r) k v) q := by
  obtain ⟨h1, h2, h3, h4, h5⟩ := hW
  exact ⟨(u2_o _ _ _ _ (by omega)).trans h1, (u2_o _ _ _ _ (by omega)).trans h2, (u2_o _ _ _ _ (by omega)).trans h3, (u2_o _ _ _ _ (by omega)).trans h4, (u2_o _ _ _ _ (by omega)).trans h5⟩

theorem put_b {f : Nat → Nat → Int32} {q : Nat} {b j v : Int} (h : (0 ≤ b ∧ b < vS f q 3 ∧ vS f q 3 ≤ 10) ∧ (0 ≤ j ∧ j < 5) ∧ -2147483648 ≤ v ∧ v < 2147483648) : vS (u2 f (q + 2) (ix (b * 5 + j)) (w v)) q = setm (vS f q) (20 + 5 * b + j) v := by
  have hn : vS (u2 f (q + 2) (ix (b * 5 + j)) (w v)) q 3 = vS f q 3 := by rw [← rN_3t, ← rN_3t, u2_o _ _ _ _ (by omega)]
  funext z
  unfold setm
  by_cases c : 20 ≤ z ∧ z < 70
  · rw [vS_b c, vS_b c, hn]
    by_cases e : z = 20 + 5 * b + j
    · rw [if_pos e, if_pos (by omega), show ix (z - 20) = ix (b * 5 + j) by unfold ix; omega, u2_s, w_toInt (by omega)]
    · rw [if_neg e]
      by_cases c2 : z < 20 + 5 * vS f q 3
      · rw [if_pos c2, if_pos c2, u2_k _ _ _ _ (by unfold ix; omega)]
      · rw [if_neg c2, if_neg c2]
  · rw [if_neg (by omega)]
    by_cases e : z = 3
    · rw [e]; exact hn
    · exact vS_but (r := 1) (by omega) (fun a k h1 h2 => u2_o _ _ _ _ h2) (by omega)
theorem put_h {f : Nat → Nat → Int32} {q : Nat} {b j v : Int} (h : (0 ≤ b ∧ b < vS f q 4 ∧ vS f q 4 ≤ 8) ∧ (0 ≤ j ∧ j < 3) ∧ -2147483648 ≤ v ∧ v < 2147483648) : vS (u2 f (q + 4) (ix (b * 3 + j)) (w v)) q = setm (vS f q) (70 + 3 * b + j) v := by
  have hn : vS (u2 f (q + 4) (ix (b * 3 + j)) (w v)) q 4 = vS f q 4 := by rw [← rN_4t, ← rN_4t, u2_o _ _ _ _ (by omega)]
  funext z
  unfold setm
  by_cases c : 70 ≤ z ∧ z < 94
  · rw [vS_h c, vS_h c, hn]
    by_cases e : z = 70 + 3 * b + j
    · rw [if_pos e, if_pos (by omega), show ix (z - 70) = ix (b * 3 + j) by unfold ix; omega, u2_s, w_toInt (by omega)]
    · rw [if_neg e]
      by_cases c2 : z < 70 + 3 * vS f q 4
      · rw [if_pos c2, if_pos c2, u2_k _ _ _ _ (by unfold ix; omega)]
      · rw [if_neg c2, if_neg c2]
  · rw [if_neg (by omega)]
    by_cases e : z = 4
    · rw [e]; exact hn
    · exact vS_but (r := 3) (by omega) (fun a k h1 h2 => u2_o _ _ _ _ h2) (by omega)
theorem put_p {f : Nat → Nat → Int32} {q : Nat} {b j v : Int} (h : (0 ≤ b ∧ b < vS f q 5 ∧ vS f q 5 ≤ 6) ∧ (0 ≤ j ∧ j < 3) ∧ -2147483648 ≤ v ∧ v < 2147483648) : vS (u2 f (q + 6) (ix (b * 3 + j)) (w v)) q = setm (vS f q) (94 + 3 * b + j) v := by
  have hn : vS (u2 f (q + 6) (ix (b * 3 + j)) (w v)) q 5 = vS f q 5 := by rw [← rN_5t, ← rN_5t, u2_o _ _ _ _ (by omega)]
  funext z
  unfold setm
  by_cases c : 94 ≤ z ∧ z < 112
  · rw [vS_p c, vS_p c, hn]
    by_cases e : z = 94 + 3 * b + j
    · rw [if_pos e, if_pos (by omega), show ix (z - 94) = ix (b * 3 + j) by unfold ix; omega, u2_s, w_toInt (by omega)]
    · rw [if_neg e]
      by_cases c2 : z < 94 + 3 * vS f q 5
      · rw [if_pos c2, if_pos c2, u2_k _ _ _ _ (by unfold ix; omega)]
      · rw [if_neg c2, if_neg c2]
  · rw [if_neg (by omega)]
    by_cases e : z = 5
    · rw [e]; exact hn
    · exact vS_but (r := 5) (by omega) (fun a k h1 h2 => u2_o _ _ _ _ h2) (by omega)
theorem put_l {f : Nat → Nat → Int32} {q : Nat} {b j v : Int} (h : (0 ≤ b ∧ b < vS f q 13 ∧ vS f q 13 ≤ 30) ∧ (0 ≤ j ∧ j < 4) ∧ -2147483648 ≤ v ∧ v < 2147483648) : vS (u2 f (q + 8) (ix (b * 4 + j)) (w v)) q = setm (vS f q) (112 + 4 * b + j) v := by
  have hn : vS (u2 f (q + 8) (ix (b * 4 + j)) (w v)) q 13 = vS f q 13 := by rw [← rN_13t, ← rN_13t, u2_o _ _ _ _ (by omega)]
  funext z
  unfold setm
  by_cases c : 112 ≤ z ∧ z < 232
  · rw [vS_l c, vS_l c, hn]
    by_cases e : z = 112 + 4 * b + j
    · rw [if_pos e, if_pos (by omega), show ix (z - 112) = ix (b * 4 + j) by unfold ix; omega, u2_s, w_toInt (by omega)]
    · rw [if_neg e]
      by_cases c2 : z < 112 + 4 * vS f q 13
      · rw [if_pos c2, if_pos c2, u2_k _ _ _ _ (by unfold ix; omega)]
      · rw [if_neg c2, if_neg c2]
  · rw [if_neg (by omega)]
    by_cases e : z = 13
    · rw [e]; exact hn
    · exact vS_but (r := 7) (by omega) (fun a k h1 h2 => u2_o _ _ _ _ h2) (by omega)
theorem put_t {f : Nat → Nat → Int32} {q : Nat} {b j v : Int} (h : (0 ≤ b ∧ b < vS f q 14 ∧ vS f q 14 ≤ 60) ∧ (0 ≤ j ∧ j < 6) ∧ -2147483648 ≤ v ∧ v < 2147483648) : vS (u2 f (q + 10) (ix (b * 6 + j)) (w v)) q = setm (vS f q) (232 + 6 * (vS f q 14 - 1 - b) + j) v := by
  have hn : vS (u2 f (q + 10) (ix (b * 6 + j)) (w v)) q 14 = vS f q 14 := by rw [← rN_14t, ← rN_14t, u2_o _ _ _ _ (by omega)]
  funext z
  unfold setm
  by_cases c : 232 ≤ z ∧ z < 592
  · rw [vS_t c, vS_t c, hn]
    by_cases e : z = 232 + 6 * (vS f q 14 - 1 - b) + j
    · rw [if_pos e, if_pos (by omega), show ix (6 * (vS f q 14 - 1 - (z - 232) / 6) + (z - 232) % 6) = ix (b * 6 + j) by unfold ix; omega, u2_s, w_toInt (by omega)]
    · rw [if_neg e]
      by_cases c2 : z < 232 + 6 * vS f q 14
      · rw [if_pos c2, if_pos c2, u2_k _ _ _ _ (by unfold ix; omega)]
      · rw [if_neg c2, if_neg c2]
  · rw [if_neg (by omega)]
    by_cases e : z = 14
    · rw [e]; exact hn
    · exact vS_but (r := 9) (by omega) (fun a k h1 h2 => u2_o _ _ _ _ h2) (by omega)
section MUT2
variable {vn vc vw : Nat} {K L : Nat → Nat} {R : Nat → Nat → Nat} {I : Nat → Nat → Int32} {J : Nat → Nat → Int64}
/-- only these two objects change -/
def F2 (a b : Nat) (I I' : Nat → Nat → Int32) : Prop := ∀ x k, x ≠ a → x ≠ b → I' x k = I x k
theorem F2_f {a b : Nat} {I I' : Nat → Nat → Int32} (h : F2 a b I I') {x : Nat} (k : Nat) (h1 : x ≠ a) (h2 : x ≠ b) : I' x k = I x k := h x k h1 h2
theorem sp_100l {d q : Nat} {k : Int} (hS : SHq K L R q) (hWd : Wd I q) (h : (0 ≤ k ∧ k < vS I q 13) ∧ vS I q 13 ≤ 30) : ∃ I', ev PR (d + 2) 100 [.ref (q + 7), .int (w k)] (((vn, vc, vw, K, L, R), I, J) : HS) = some (.inl none, (((vn, vc, vw, K, L, R), I', J) : HS)) ∧ vS I' q = takeL (vS I q) k ∧ Wd I' q ∧ F2 (q + 7) (q + 8) I I' := by
  obtain ⟨k1, k2, k3, k4⟩ := (SHq_e hS).2.2.2.2.2.2.2.2.2.2.1
  obtain ⟨I', e, g1, g2, g3⟩ := sp_100 (d := d) (J := J) (vn := vn) (vc := vc) (vw := vw) (I := I) (r := q + 7) (c := q + 8) (cap := 120) (wd := 4) (sz := vS I q 13) (row := k) (P := 4 * vS I q 13) (Q := 4 * k) k1 k2 k3 k4 (by omega) hWd.2.2.2.1 (w_of _).symm (by omega) (by omega) (by omega)
  have F : F2 (q + 7) (q + 8) I I' := fun a b h1 h2 => g3 a b h2 (by omega)
  have hn : vS I' q 13 = vS I q 13 - 1 := by rw [← rN_13t, g1, w_toInt (by omega)]
  refine ⟨I', e, ?_, ?_, F⟩
  · funext z
    unfold takeL
    by_cases c13 : z = 13
    · rw [if_pos c13, c13]; exact hn
    · rw [if_neg c13]
      by_cases c : 112 ≤ z ∧ z < 232
      · rw [if_pos c, vS_l c, hn]
        by_cases c2 : z < 112 + 4 * (vS I q 13 - 1)
        · rw [if_pos c2, if_pos c2, g2]
          by_cases c3 : z < 112 + 4 * k
          · rw [if_pos c3, if_neg (by unfold ix; omega), vS_l c, if_pos (by omega)]
          · rw [if_neg c3, if_pos (by unfold ix; omega), vS_l (z := z + 4) (by omega), if_pos (by omega), show ix (z - 112) + ix 4 = ix (z + 4 - 112) by unfold ix; omega]
        · rw [if_neg c2, if_neg c2]
      · rw [if_neg c]
        exact vS_but (r := 7) (by omega) F (by omega)
  · obtain ⟨h1, h2, h3, h4, h5⟩ := hWd
    exact ⟨(g3 _ _ (by omega) (by omega)).trans h1, (g3 _ _ (by omega) (by omega)).trans h2, (g3 _ _ (by omega) (by omega)).trans h3, (g3 _ _ (by omega) (by omega)).trans h4, (g3 _ _ (by omega) (by omega)).trans h5⟩
theorem sp_99l {d q : Nat} (hS : SHq K L R q) (hWd : Wd I q) (h : 0 ≤ vS I q 13 ∧ vS I q 13 < 30) : ∃ I', ev PR (d + 2) 99 [.ref (q + 7)] (((vn, vc, vw, K, L, R), I, J) : HS) = some (.inl (some (.int (w (vS I q 13)))), (((vn, vc, vw, K, L, R), I', J) : HS)) ∧ vS I' q = setm (vS I q) 13 (vS I q 13 + 1) ∧ Wd I' q ∧ F2 (q + 7) (q + 8) I I' := by
  obtain ⟨k1, k2, k3, k4⟩ := (SHq_e hS).2.2.2.2.2.2.2.2.2.2.1
  obtain ⟨I', e, g1, g2, g3⟩ := sp_99 (d := d) (J := J) (vn := vn) (vc := vc) (vw := vw) (I := I) (r := q + 7) (c := q + 8) (cap := 120) (wd := 4) (sz := vS I q 13) (P := 4 * vS I q 13) k1 k2 k3 k4 (by omega) hWd.2.2.2.1 (w_of _).symm (by omega) (by omega) (by omega)
  have F : F2 (q + 7) (q + 8) I I' := fun a b h1 h2 => g3 a b h2 (by omega)
  have hn : vS I' q 13 = vS I q 13 + 1 := by rw [← rN_13t, g1, w_toInt (by omega)]
  refine ⟨I', e, ?_, ?_, F⟩
  · funext z
    unfold setm
    by_cases c13 : z = 13
    · rw [if_pos c13, c13]; exact hn
    · rw [if_neg c13]
      by_cases c : 112 ≤ z ∧ z < 232
      · rw [vS_l c, vS_l c, hn, g2]
        by_cases c2 : z < 112 + 4 * vS I q 13
        · rw [if_pos (by omega), if_neg (by unfold ix; omega), if_pos c2]
        · rw [if_neg c2]
          by_cases c3 : z < 112 + 4 * (vS I q 13 + 1)
          · rw [if_pos c3, if_pos (by unfold ix; omega)]; rfl
          · rw [if_neg c3]
      · exact vS_but (r := 7) (by omega) F (by omega)
  · obtain ⟨h1, h2, h3, h4, h5⟩ := hWd
    exact ⟨(g3 _ _ (by omega) (by omega)).trans h1, (g3 _ _ (by omega) (by omega)).trans h2, (g3 _ _ (by omega) (by omega)).trans h3, (g3 _ _ (by omega) (by omega)).trans h4, (g3 _ _ (by omega) (by omega)).trans h5⟩
theorem sp_100t {d q : Nat} (hS : SHq K L R q) (hWd : Wd I q) (h : 1 ≤ vS I q 14 ∧ vS I q 14 ≤ 60) : ∃ I', ev PR (d + 2) 100 [.ref (q + 9), .int (w 0)] (((vn, vc, vw, K, L, R), I, J) : HS) = some (.inl none, (((vn, vc, vw, K, L, R), I', J) : HS)) ∧ vS I' q = dropT (vS I q) ∧ Wd I' q ∧ F2 (q + 9) (q + 10) I I' := by
  obtain ⟨k1, k2, k3, k4⟩ := (SHq_e hS).2.2.2.2.2.2.2.2.2.2.2.1
  obtain ⟨I', e, g1, g2, g3⟩ := sp_100 (d := d) (J := J) (vn := vn) (vc := vc) (vw := vw) (I := I) (r := q + 9) (c := q + 10) (cap := 360) (wd := 6) (sz := vS I q 14) (row := 0) (P := 6 * vS I q 14) (Q := 0) k1 k2 k3 k4 (by omega) hWd.2.2.2.2 (w_of _).symm (by omega) (by omega) (by omega)
  have F : F2 (q + 9) (q + 10) I I' := fun a b h1 h2 => g3 a b h2 (by omega)
  have hn : vS I' q 14 = vS I q 14 - 1 := by rw [← rN_14t, g1, w_toInt (by omega)]
  refine ⟨I', e, ?_, ?_, F⟩
  · funext z
    unfold dropT
    by_cases c13 : z = 14
    · rw [if_pos c13, c13]; exact hn
    · rw [if_neg c13]
      by_cases c : 232 ≤ z ∧ z < 592
      · rw [if_pos c, vS_t c, hn]
        by_cases c2 : z < 232 + 6 * (vS I q 14 - 1)
        · rw [if_pos c2, if_pos c2, g2, if_pos (by unfold ix; omega), vS_t c, if_pos (by omega), show ix (6 * (vS I q 14 - 1 - 1 - (z - 232) / 6) + (z - 232) % 6) + ix 6 = ix (6 * (vS I q 14 - 1 - (z - 232) / 6) + (z - 232) % 6) by unfold ix; omega]
        · rw [if_neg c2, if_neg c2]
      · rw [if_neg c]
        exact vS_but (r := 9) (by omega) F (by omega)
  · obtain ⟨h1, h2, h3, h4, h5⟩ := hWd
    exact ⟨(g3 _ _ (by omega) (by omega)).trans h1, (g3 _ _ (by omega) (by omega)).trans h2, (g3 _ _ (by omega) (by omega)).trans h3, (g3 _ _ (by omega) (by omega)).trans h4, (g3 _ _ (by omega) (by omega)).trans h5⟩
theorem sp_99t {d q : Nat} (hS : SHq K L R q) (hWd : Wd I q) (h : 0 ≤ vS I q 14 ∧ vS I q 14 < 60) : ∃ I', ev PR (d + 2) 99 [.ref (q + 9)] (((vn, vc, vw, K, L, R), I, J) : HS) = some (.inl (some (.int (w (vS I q 14)))), (((vn, vc, vw, K, L, R), I', J) : HS)) ∧ vS I' q = openT (vS I q) ∧ Wd I' q ∧ F2 (q + 9) (q + 10) I I' := by
  obtain ⟨k1, k2, k3, k4⟩ := (SHq_e hS).2.2.2.2.2.2.2.2.2.2.2.1
  obtain ⟨I', e, g1, g2, g3⟩ := sp_99 (d := d) (J := J) (vn := vn) (vc := vc) (vw := vw) (I := I) (r := q + 9) (c := q + 10) (cap := 360) (wd := 6) (sz := vS I q 14) (P := 6 * vS I q 14) k1 k2 k3 k4 (by omega) hWd.2.2.2.2 (w_of _).symm (by omega) (by omega) (by omega)
  have F : F2 (q + 9) (q + 10) I I' := fun a b h1 h2 => g3 a b h2 (by omega)
  have hn : vS I' q 14 = vS I q 14 + 1 := by rw [← rN_14t, g1, w_toInt (by omega)]
  refine ⟨I', e, ?_, ?_, F⟩
  · funext z
    unfold openT
    by_cases c13 : z = 14
    · rw [if_pos c13, c13]; exact hn
    · rw [if_neg c13]
      by_cases c : 232 ≤ z ∧ z < 592
      · rw [if_pos c, vS_t c, hn, g2]
        by_cases c2 : z < 238
        · rw [if_pos (by omega), if_pos c2, if_pos (by unfold ix; omega)]; rfl
        · rw [if_neg c2, vS_t (z := z - 6) (by omega)]
          by_cases c3 : z < 232 + 6 * (vS I q 14 + 1)
          · rw [if_pos c3, if_neg (by unfold ix; omega), if_pos (by omega), show ix (6 * (vS I q 14 + 1 - 1 - (z - 232) / 6) + (z - 232) % 6) = ix (6 * (vS I q 14 - 1 - (z - 6 - 232) / 6) + (z - 6 - 232) % 6) by unfold ix; omega]
          · rw [if_neg c3, if_neg (by omega)]
      · rw [if_neg c]
        exact vS_but (r := 9) (by omega) F (by omega)
  · obtain ⟨h1, h2, h3, h4, h5⟩ := hWd
    exact ⟨(g3 _ _ (by omega) (by omega)).trans h1, (g3 _ _ (by omega) (by omega)).trans h2, (g3 _ _ (by omega) (by omega)).trans h3, (g3 _ _ (by omega) (by omega)).trans h4, (g3 _ _ (by omega) (by omega)).trans h5⟩
end MUT2
