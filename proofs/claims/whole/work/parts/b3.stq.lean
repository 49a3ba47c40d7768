/-! a step of a query -/
section STQ
variable {vn vc vw : Nat} {K L : Nat → Nat} {R : Nat → Nat → Nat} {I : Nat → Nat → Int32} {J : Nat → Nat → Int64}
theorem XW_y {m : Int → Int} {ss : List Int} {ln mk c : Int} {v : Int32} {res : Option Res} (h115 : Wd I 115) (h : XW vn vc vw K L R I J m ss ln mk res c v) : XY vn vc vw K L R I J m ss ln mk res c v := by
  refine ⟨h.1, fun q => ?_⟩
  obtain ⟨I', R', mk', x1, x2, x3, x4, x5⟩ := h.2 q
  exact ⟨I', R', mk', x1, x2, x3, FX_y x4, RA_y x5, Wd_f' (fun a q => x4 _ _ (by omega) (by omega) (by omega)) h115⟩
theorem Mid_i {S : Nat → Int32} {ls : Nat} {K L : Nat → Nat} {R : Nat → Nat → Nat} {I : Nat → Nat → Int32} {N : Int} {g : Gho} {mk nx : Int} (x : IVc K L R I N g mk nx) (xm : IVm K L R I g) (xs : K 78 = 25 ∧ L 78 = ls ∧ ∀ k, I 78 k = S k) : Mid S ls (((vn, vc, vw, K, L, R), I, J) : HS) := by
  have hX := x.1.1
  have hM := xm.1.1
  have j := x.2.2.2.2.2.2.2.2.2.2
  exact ⟨xs.1, xs.2.1, xs.2.2, (XSH_e hX).1, (MSH_e hM).1, j.1, j.2⟩
theorem St_q {S : Nat → Int32} {ls : Nat} {N : Int} {g : Gho} {mk nx c : Int} {v : Int32} {a b : HS → Option Res} (xg : IVg N g) (xc : IVc K L R I N g mk nx) (xm : IVm K L R I g) (xs : IVs vn vc vw K L I N S ls)
    (h9 : 0 ≤ c ∧ c ≤ 9) (hA : XY vn vc vw K L R I J (gm g) (gss g) (gln g) mk (a (((vn, vc, vw, K, L, R), I, J) : HS)) c v) (hB : ∀ vc vw R I J, QR K L R I (gm g) (gss g) (gln g) → XM vn vc vw K L R I J (gm g) (gss g) (gln g) (b (((vn, vc, vw, K, L, R), I, J) : HS)) c v) : StW S ls N (((vn, vc, vw, K, L, R), I, J) : HS) a b := by
  by_cases hc : c = 0
  · obtain ⟨I', R', mk', y1, y2, y3, y4, y5, y6⟩ := hA.2 hc
    have c1 := IVc_x y2 y3.2 y4 y5 y6 xc
    have m1 : IVm K L R' I' g := IVm_r (fun a k q => y5 a k (by omega) (by omega)) (IVm_f (fun a k q => y4 a k (by omega) (by omega) (by omega) (by omega)) (by rw [y4 _ _ (by omega) (by omega) (by omega) (by omega)]; exact xm.1.2.2.2.2.2) xm)
    have s78 : ∀ k, I' 78 k = I 78 k := fun k => y4 _ _ (by omega) (by omega) (by omega) (by omega)
    obtain ⟨I2, z1', z2', z3⟩ := (hB vc vw R' I' (u2 J 304 0 v.toInt64) m1.1).2 hc
    have f2 : ∀ a k, a < 287 ∨ 305 ≤ a → I2 a k = I' a k := fun a k q => by rw [z2' a k (by omega), u2_r, if_neg (by omega)]
    refine ⟨w 0, v, _, _, y1, Mid_i c1 m1 ⟨xs.2.1, xs.2.2.1, fun k => by rw [s78]; exact xs.2.2.2 k⟩, z1', ?_, fun _ => (by show u2 J 304 0 v.toInt64 304 0 = _; exact u2_s _ _ _ _), ⟨vn, vc, vw, K, L, R', I2, _, g, mk', nx, rfl, IVg_mono (by omega) xg, IVc_f f2 c1, ?_, ?_⟩⟩
    · show I2 287 0 = w 0
      rw [z2' _ _ (by omega), u2_s]
    · exact IVm_f (fun a k q => by rw [z2' a k (by omega), u2_r, if_neg (by omega)]) z3.2.2.2.2.2 m1
    · exact IVs_mono xs ⟨rfl, by omega, by omega⟩ (fun k => by rw [f2 _ _ (by omega), s78])
  · have e := hA.1 hc
    have m0 := xm.1
    obtain ⟨v', z1'⟩ := (hB (vc + 1) (vw + 6) R I J m0).1 hc
    have f2 : ∀ a k, a < 287 ∨ 305 ≤ a → u2 I 287 0 (w c) a k = I a k := fun a k q => by rw [u2_r, if_neg (by omega)]
    have hw : ¬w c = w 0 := by rw [w_eq (by omega)]; exact hc
    refine ⟨w c, v', _, _, e, Mid_i xc xm xs.2, z1', (by show u2 I 287 0 (w c) 287 0 = _; exact u2_s _ _ _ _), fun q => absurd q hw, ⟨vn, vc + 1, vw + 6, K, L, R, _, J, g, mk, nx, rfl, IVg_mono (by omega) xg, IVc_mono (by omega) (IVc_f f2 xc), ?_, ?_⟩⟩
    · exact IVm_f (fun a k q => by rw [u2_r, if_neg (by omega)]) (by rw [u2_r, if_neg (by omega)]; exact xm.1.2.2.2.2.2) xm
    · exact IVs_mono xs ⟨rfl, by omega, by omega⟩ (fun k => f2 _ _ (by omega))
end STQ
