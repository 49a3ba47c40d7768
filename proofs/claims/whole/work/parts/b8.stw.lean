/-! steps through a wrapper that change the fair -/
section STV
variable {vn vc vw : Nat} {K L : Nat → Nat} {R : Nat → Nat → Nat} {I : Nat → Nat → Int32} {J : Nat → Nat → Int64}
variable {S : Nat → Int32} {ls : Nat}
theorem StW_e {N : Int} {g : Gho} {mk nx c : Int} {v' : Int32} {a b : HS → Option Res} (xg : IVg N g) (xc : IVc K L R I N g mk nx) (xm : IVm K L R I g) (xs : IVs vn vc vw K L I N S ls) (hc : 0 < c ∧ c ≤ 9) (e1 : a (((vn, vc, vw, K, L, R), I, J) : HS) = some (.inl (some (.int (w c))), (((vn, vc + 1, vw + 6, K, L, R), I, J) : HS))) (e2 : b (((vn, vc + 1, vw + 6, K, L, R), I, J) : HS) = some (.inl (some (.int v')), (((vn, vc + 1, vw + 6, K, L, R), u2 I 287 0 (w c), J) : HS))) : StW S ls N (((vn, vc, vw, K, L, R), I, J) : HS) a b := by
  have hw : ¬w c = w 0 := by rw [w_eq (by omega)]; omega
  exact ⟨w c, v', _, _, e1, Mid_i xc xm xs.2, e2, (by show u2 I 287 0 (w c) 287 0 = _; exact u2_s _ _ _ _), fun q => absurd q hw, ⟨vn, vc + 1, vw + 6, K, L, R, _, J, g, mk, nx, rfl, IVg_mono (by omega) xg, IVc_mono (by omega) (IVc_f f_u0.1 xc), IVm_f f_u0.2 (by rw [u2_r, if_neg (by omega)]; exact xm.1.2.2.2.2.2) xm, IVs_mono xs ⟨rfl, by omega, by omega⟩ (fun k => f_u0.1 _ _ (by omega))⟩⟩
theorem StW_i {N : Int} {g : Gho} {mk nx : Int} {v : Int32} {R1 : Nat → Nat → Nat} {I1 I2 : Nat → Nat → Int32} {a b : HS → Option Res} (xs : IVs vn vc vw K L I N S ls) (e1 : a (((vn, vc, vw, K, L, R), I, J) : HS) = some (.inl (some (.int (w 0))), (((vn, vc, vw, K, L, R1), I1, u2 J 304 0 v.toInt64) : HS))) (e2 : b (((vn, vc, vw, K, L, R1), I1, u2 J 304 0 v.toInt64) : HS) = some (.inl (some (.int v)), (((vn, vc, vw, K, L, R1), I2, u2 J 304 0 v.toInt64) : HS)))
    (h0 : I2 287 0 = w 0) (c1 : IVc K L R1 I1 (N + 1) g mk nx) (m1 : MSH K L R1) (h78 : ∀ k, I1 78 k = I 78 k) (h2 : ∀ a k, a < 287 ∨ 305 ≤ a → I2 a k = I1 a k) (xm : IVm K L R1 I2 g) (xg : IVg (N + 1) g) : StW S ls N (((vn, vc, vw, K, L, R), I, J) : HS) a b := by
  refine ⟨w 0, v, _, _, e1, ?_, e2, h0, fun _ => (by show u2 J 304 0 v.toInt64 304 0 = _; exact u2_s _ _ _ _), ⟨vn, vc, vw, K, L, R1, I2, _, g, mk, nx, rfl, xg, IVc_f h2 c1, xm, IVs_mono xs ⟨rfl, by omega, by omega⟩ (fun k => by rw [h2 _ _ (by omega), h78])⟩⟩
  exact ⟨xs.2.1, xs.2.2.1, fun k => by show I1 78 k = S k; rw [h78]; exact xs.2.2.2 k, (XSH_e c1.1.1).1, (MSH_e m1).1, c1.2.2.2.2.2.2.2.2.2.2⟩
/-- skill -/
theorem st_345 {d : Nat} {N : Int} {s : HS} (z : INV S ls N s) (a0 a1 : Int32) : StW S ls N s (ev PR (d + 45) 345 [.ref 79, .int a0, .int a1, .ref 304]) (ev PR (d + 45) 284 [.ref 287, .int a0, .int a1]) := by
  obtain ⟨vn, vc, vw, K, L, R, I, J, g, mk, nx, rfl, xg, xc, xm, xs⟩ := z
  obtain ⟨p, hp⟩ : ∃ p, p = a0.toInt := ⟨_, rfl⟩
  obtain ⟨v, hv⟩ : ∃ v, v = a1.toInt := ⟨_, rfl⟩
  have rp := i_rng a0
  have rv := i_rng a1
  rw [← w_of a0, ← w_of a1, ← hp, ← hv]
  rw [← hp] at rp
  rw [← hv] at rv
  obtain ⟨z1', z2', z3, z4, z5, z6, z7, z8⟩ := id xc.1
  have hX := z1'
  have hS := z2'
  have hM := xm.1.1
  have hB : BD (gm g) := z5
  have h5 := hB.2.2.1
  have v4 : vM I = gm g := xm.1.2.2.2.1
  have gj := xc.2.2.2.2.2.2.2.2.2.2
  obtain ⟨k1, k2⟩ := gj
  by_cases c1 : 0 ≤ p ∧ p < gm g 5
  · have s208 := x_208t (d := d + 41) (b := p) (vn := vn) (vc := vc) (vw := vw) (J := J) hX hS (by rw [z4]; omega)
    have s227 := fun I' (h : vM I' = gm g) => m_227t (d := d + 40) (b := p) (I := I') (vn := vn) (vc := vc) (vw := vw) (J := u2 J 304 0 (w (pe (gm g) p 0)).toInt64) hM (by rw [h]; omega)
    by_cases c2 : 0 ≤ v ∧ v ≤ 99
    · sorry
    · sorry
  · sorry
end STV
