/-! the class's law reader: steps, words -/
section LWA
variable {vn vc vw : Nat} {K L : Nat → Nat} {R : Nat → Nat → Nat} {I : Nat → Nat → Int32} {J : Nat → Nat → Int64}
theorem sp_v1 {d : Nat} {T : Int → Int} {e n i : Int} {tb : Int → Int} (hX : XSH K L R) (hT : Tp I T e) (hG : TkI I T e n tb) (hA : SWA K L I) (hi : 0 ≤ i ∧ i ≤ n) : ev PR (d + 1) 153 [.ref 82, .ref 1] (((vn, vc, vw, K, L, R), nx I i, J) : HS) = some (.inl (some (.int (bv (hasB T e (tb i) W_block)))), (((vn, vc, vw, K, L, R), nx I (cond (hasB T e (tb i) W_block) (i + 1) i), J) : HS)) := sp_153 hX hT hG hi (hA 1 (by decide)) (by decide) (by decide) (by decide) (by decide)
theorem sp_v2 {d : Nat} {T : Int → Int} {e n i : Int} {tb : Int → Int} (hX : XSH K L R) (hT : Tp I T e) (hG : TkI I T e n tb) (hA : SWA K L I) (hi : 0 ≤ i ∧ i ≤ n) : ev PR (d + 1) 153 [.ref 82, .ref 2] (((vn, vc, vw, K, L, R), nx I i, J) : HS) = some (.inl (some (.int (bv (hasB T e (tb i) W_side)))), (((vn, vc, vw, K, L, R), nx I (cond (hasB T e (tb i) W_side) (i + 1) i), J) : HS)) := sp_153 hX hT hG hi (hA 2 (by decide)) (by decide) (by decide) (by decide) (by decide)
theorem sp_v3 {d : Nat} {T : Int → Int} {e n i : Int} {tb : Int → Int} (hX : XSH K L R) (hT : Tp I T e) (hG : TkI I T e n tb) (hA : SWA K L I) (hi : 0 ≤ i ∧ i ≤ n) : ev PR (d + 1) 153 [.ref 82, .ref 3] (((vn, vc, vw, K, L, R), nx I i, J) : HS) = some (.inl (some (.int (bv (hasB T e (tb i) W_prize)))), (((vn, vc, vw, K, L, R), nx I (cond (hasB T e (tb i) W_prize) (i + 1) i), J) : HS)) := sp_153 hX hT hG hi (hA 3 (by decide)) (by decide) (by decide) (by decide) (by decide)
theorem sp_v4 {d : Nat} {T : Int → Int} {e n i : Int} {tb : Int → Int} (hX : XSH K L R) (hT : Tp I T e) (hG : TkI I T e n tb) (hA : SWA K L I) (hi : 0 ≤ i ∧ i ≤ n) : ev PR (d + 1) 153 [.ref 82, .ref 4] (((vn, vc, vw, K, L, R), nx I i, J) : HS) = some (.inl (some (.int (bv (hasB T e (tb i) W_velvet)))), (((vn, vc, vw, K, L, R), nx I (cond (hasB T e (tb i) W_velvet) (i + 1) i), J) : HS)) := sp_153 hX hT hG hi (hA 4 (by decide)) (by decide) (by decide) (by decide) (by decide)
theorem sp_v5 {d : Nat} {T : Int → Int} {e n i : Int} {tb : Int → Int} (hX : XSH K L R) (hT : Tp I T e) (hG : TkI I T e n tb) (hA : SWA K L I) (hi : 0 ≤ i ∧ i ≤ n) : ev PR (d + 1) 153 [.ref 82, .ref 5] (((vn, vc, vw, K, L, R), nx I i, J) : HS) = some (.inl (some (.int (bv (hasB T e (tb i) W_hoop)))), (((vn, vc, vw, K, L, R), nx I (cond (hasB T e (tb i) W_hoop) (i + 1) i), J) : HS)) := sp_153 hX hT hG hi (hA 5 (by decide)) (by decide) (by decide) (by decide) (by decide)
theorem sp_v6 {d : Nat} {T : Int → Int} {e n i : Int} {tb : Int → Int} (hX : XSH K L R) (hT : Tp I T e) (hG : TkI I T e n tb) (hA : SWA K L I) (hi : 0 ≤ i ∧ i ≤ n) : ev PR (d + 1) 153 [.ref 82, .ref 6] (((vn, vc, vw, K, L, R), nx I i, J) : HS) = some (.inl (some (.int (bv (hasB T e (tb i) W_oval)))), (((vn, vc, vw, K, L, R), nx I (cond (hasB T e (tb i) W_oval) (i + 1) i), J) : HS)) := sp_153 hX hT hG hi (hA 6 (by decide)) (by decide) (by decide) (by decide) (by decide)
theorem sp_v7 {d : Nat} {T : Int → Int} {e n i : Int} {tb : Int → Int} (hX : XSH K L R) (hT : Tp I T e) (hG : TkI I T e n tb) (hA : SWA K L I) (hi : 0 ≤ i ∧ i ≤ n) : ev PR (d + 1) 153 [.ref 82, .ref 7] (((vn, vc, vw, K, L, R), nx I i, J) : HS) = some (.inl (some (.int (bv (hasB T e (tb i) W_wet)))), (((vn, vc, vw, K, L, R), nx I (cond (hasB T e (tb i) W_wet) (i + 1) i), J) : HS)) := sp_153 hX hT hG hi (hA 7 (by decide)) (by decide) (by decide) (by decide) (by decide)
theorem sp_v8 {d : Nat} {T : Int → Int} {e n i : Int} {tb : Int → Int} (hX : XSH K L R) (hT : Tp I T e) (hG : TkI I T e n tb) (hA : SWA K L I) (hi : 0 ≤ i ∧ i ≤ n) : ev PR (d + 1) 153 [.ref 82, .ref 8] (((vn, vc, vw, K, L, R), nx I i, J) : HS) = some (.inl (some (.int (bv (hasB T e (tb i) W_person)))), (((vn, vc, vw, K, L, R), nx I (cond (hasB T e (tb i) W_person) (i + 1) i), J) : HS)) := sp_153 hX hT hG hi (hA 8 (by decide)) (by decide) (by decide) (by decide) (by decide)
theorem sp_v9 {d : Nat} {T : Int → Int} {e n i : Int} {tb : Int → Int} (hX : XSH K L R) (hT : Tp I T e) (hG : TkI I T e n tb) (hA : SWA K L I) (hi : 0 ≤ i ∧ i ≤ n) : ev PR (d + 1) 153 [.ref 82, .ref 9] (((vn, vc, vw, K, L, R), nx I i, J) : HS) = some (.inl (some (.int (bv (hasB T e (tb i) W_price)))), (((vn, vc, vw, K, L, R), nx I (cond (hasB T e (tb i) W_price) (i + 1) i), J) : HS)) := sp_153 hX hT hG hi (hA 9 (by decide)) (by decide) (by decide) (by decide) (by decide)
theorem sp_v10 {d : Nat} {T : Int → Int} {e n i : Int} {tb : Int → Int} (hX : XSH K L R) (hT : Tp I T e) (hG : TkI I T e n tb) (hA : SWA K L I) (hi : 0 ≤ i ∧ i ≤ n) : ev PR (d + 1) 153 [.ref 82, .ref 10] (((vn, vc, vw, K, L, R), nx I i, J) : HS) = some (.inl (some (.int (bv (hasB T e (tb i) W_bounce)))), (((vn, vc, vw, K, L, R), nx I (cond (hasB T e (tb i) W_bounce) (i + 1) i), J) : HS)) := sp_153 hX hT hG hi (hA 10 (by decide)) (by decide) (by decide) (by decide) (by decide)
theorem sp_v11 {d : Nat} {T : Int → Int} {e n i : Int} {tb : Int → Int} (hX : XSH K L R) (hT : Tp I T e) (hG : TkI I T e n tb) (hA : SWA K L I) (hi : 0 ≤ i ∧ i ≤ n) : ev PR (d + 1) 153 [.ref 82, .ref 11] (((vn, vc, vw, K, L, R), nx I i, J) : HS) = some (.inl (some (.int (bv (hasB T e (tb i) W_knock)))), (((vn, vc, vw, K, L, R), nx I (cond (hasB T e (tb i) W_knock) (i + 1) i), J) : HS)) := sp_153 hX hT hG hi (hA 11 (by decide)) (by decide) (by decide) (by decide) (by decide)
theorem sp_v12 {d : Nat} {T : Int → Int} {e n i : Int} {tb : Int → Int} (hX : XSH K L R) (hT : Tp I T e) (hG : TkI I T e n tb) (hA : SWA K L I) (hi : 0 ≤ i ∧ i ≤ n) : ev PR (d + 1) 153 [.ref 82, .ref 12] (((vn, vc, vw, K, L, R), nx I i, J) : HS) = some (.inl (some (.int (bv (hasB T e (tb i) W_counts)))), (((vn, vc, vw, K, L, R), nx I (cond (hasB T e (tb i) W_counts) (i + 1) i), J) : HS)) := sp_153 hX hT hG hi (hA 12 (by decide)) (by decide) (by decide) (by decide) (by decide)
theorem sp_v15 {d : Nat} {T : Int → Int} {e n i : Int} {tb : Int → Int} (hX : XSH K L R) (hT : Tp I T e) (hG : TkI I T e n tb) (hA : SWA K L I) (hi : 0 ≤ i ∧ i ≤ n) : ev PR (d + 1) 153 [.ref 82, .ref 15] (((vn, vc, vw, K, L, R), nx I i, J) : HS) = some (.inl (some (.int (bv (hasB T e (tb i) W_far)))), (((vn, vc, vw, K, L, R), nx I (cond (hasB T e (tb i) W_far) (i + 1) i), J) : HS)) := sp_153 hX hT hG hi (hA 15 (by decide)) (by decide) (by decide) (by decide) (by decide)
theorem sp_v16 {d : Nat} {T : Int → Int} {e n i : Int} {tb : Int → Int} (hX : XSH K L R) (hT : Tp I T e) (hG : TkI I T e n tb) (hA : SWA K L I) (hi : 0 ≤ i ∧ i ≤ n) : ev PR (d + 1) 153 [.ref 82, .ref 16] (((vn, vc, vw, K, L, R), nx I i, J) : HS) = some (.inl (some (.int (bv (hasB T e (tb i) W_short)))), (((vn, vc, vw, K, L, R), nx I (cond (hasB T e (tb i) W_short) (i + 1) i), J) : HS)) := sp_153 hX hT hG hi (hA 16 (by decide)) (by decide) (by decide) (by decide) (by decide)
theorem sp_v17 {d : Nat} {T : Int → Int} {e n i : Int} {tb : Int → Int} (hX : XSH K L R) (hT : Tp I T e) (hG : TkI I T e n tb) (hA : SWA K L I) (hi : 0 ≤ i ∧ i ≤ n) : ev PR (d + 1) 153 [.ref 82, .ref 17] (((vn, vc, vw, K, L, R), nx I i, J) : HS) = some (.inl (some (.int (bv (hasB T e (tb i) W_right)))), (((vn, vc, vw, K, L, R), nx I (cond (hasB T e (tb i) W_right) (i + 1) i), J) : HS)) := sp_153 hX hT hG hi (hA 17 (by decide)) (by decide) (by decide) (by decide) (by decide)
theorem sp_v18 {d : Nat} {T : Int → Int} {e n i : Int} {tb : Int → Int} (hX : XSH K L R) (hT : Tp I T e) (hG : TkI I T e n tb) (hA : SWA K L I) (hi : 0 ≤ i ∧ i ≤ n) : ev PR (d + 1) 153 [.ref 82, .ref 18] (((vn, vc, vw, K, L, R), nx I i, J) : HS) = some (.inl (some (.int (bv (hasB T e (tb i) W_left)))), (((vn, vc, vw, K, L, R), nx I (cond (hasB T e (tb i) W_left) (i + 1) i), J) : HS)) := sp_153 hX hT hG hi (hA 18 (by decide)) (by decide) (by decide) (by decide) (by decide)
theorem sp_v19 {d : Nat} {T : Int → Int} {e n i : Int} {tb : Int → Int} (hX : XSH K L R) (hT : Tp I T e) (hG : TkI I T e n tb) (hA : SWA K L I) (hi : 0 ≤ i ∧ i ≤ n) : ev PR (d + 1) 153 [.ref 82, .ref 19] (((vn, vc, vw, K, L, R), nx I i, J) : HS) = some (.inl (some (.int (bv (hasB T e (tb i) W_spread)))), (((vn, vc, vw, K, L, R), nx I (cond (hasB T e (tb i) W_spread) (i + 1) i), J) : HS)) := sp_153 hX hT hG hi (hA 19 (by decide)) (by decide) (by decide) (by decide) (by decide)
theorem sp_v20 {d : Nat} {T : Int → Int} {e n i : Int} {tb : Int → Int} (hX : XSH K L R) (hT : Tp I T e) (hG : TkI I T e n tb) (hA : SWA K L I) (hi : 0 ≤ i ∧ i ≤ n) : ev PR (d + 1) 153 [.ref 82, .ref 20] (((vn, vc, vw, K, L, R), nx I i, J) : HS) = some (.inl (some (.int (bv (hasB T e (tb i) W_strict)))), (((vn, vc, vw, K, L, R), nx I (cond (hasB T e (tb i) W_strict) (i + 1) i), J) : HS)) := sp_153 hX hT hG hi (hA 20 (by decide)) (by decide) (by decide) (by decide) (by decide)
theorem sp_v21 {d : Nat} {T : Int → Int} {e n i : Int} {tb : Int → Int} (hX : XSH K L R) (hT : Tp I T e) (hG : TkI I T e n tb) (hA : SWA K L I) (hi : 0 ≤ i ∧ i ≤ n) : ev PR (d + 1) 153 [.ref 82, .ref 21] (((vn, vc, vw, K, L, R), nx I i, J) : HS) = some (.inl (some (.int (bv (hasB T e (tb i) W_if)))), (((vn, vc, vw, K, L, R), nx I (cond (hasB T e (tb i) W_if) (i + 1) i), J) : HS)) := sp_153 hX hT hG hi (hA 21 (by decide)) (by decide) (by decide) (by decide) (by decide)
theorem sp_v22 {d : Nat} {T : Int → Int} {e n i : Int} {tb : Int → Int} (hX : XSH K L R) (hT : Tp I T e) (hG : TkI I T e n tb) (hA : SWA K L I) (hi : 0 ≤ i ∧ i ≤ n) : ev PR (d + 1) 153 [.ref 82, .ref 22] (((vn, vc, vw, K, L, R), nx I i, J) : HS) = some (.inl (some (.int (bv (hasB T e (tb i) W_and)))), (((vn, vc, vw, K, L, R), nx I (cond (hasB T e (tb i) W_and) (i + 1) i), J) : HS)) := sp_153 hX hT hG hi (hA 22 (by decide)) (by decide) (by decide) (by decide) (by decide)
theorem sp_v23 {d : Nat} {T : Int → Int} {e n i : Int} {tb : Int → Int} (hX : XSH K L R) (hT : Tp I T e) (hG : TkI I T e n tb) (hA : SWA K L I) (hi : 0 ≤ i ∧ i ≤ n) : ev PR (d + 1) 153 [.ref 82, .ref 23] (((vn, vc, vw, K, L, R), nx I i, J) : HS) = some (.inl (some (.int (bv (hasB T e (tb i) W_not)))), (((vn, vc, vw, K, L, R), nx I (cond (hasB T e (tb i) W_not) (i + 1) i), J) : HS)) := sp_153 hX hT hG hi (hA 23 (by decide)) (by decide) (by decide) (by decide) (by decide)
theorem sp_v24 {d : Nat} {T : Int → Int} {e n i : Int} {tb : Int → Int} (hX : XSH K L R) (hT : Tp I T e) (hG : TkI I T e n tb) (hA : SWA K L I) (hi : 0 ≤ i ∧ i ≤ n) : ev PR (d + 1) 153 [.ref 82, .ref 24] (((vn, vc, vw, K, L, R), nx I i, J) : HS) = some (.inl (some (.int (bv (hasB T e (tb i) W_wet)))), (((vn, vc, vw, K, L, R), nx I (cond (hasB T e (tb i) W_wet) (i + 1) i), J) : HS)) := sp_153 hX hT hG hi (hA 24 (by decide)) (by decide) (by decide) (by decide) (by decide)
theorem sp_v25 {d : Nat} {T : Int → Int} {e n i : Int} {tb : Int → Int} (hX : XSH K L R) (hT : Tp I T e) (hG : TkI I T e n tb) (hA : SWA K L I) (hi : 0 ≤ i ∧ i ≤ n) : ev PR (d + 1) 153 [.ref 82, .ref 25] (((vn, vc, vw, K, L, R), nx I i, J) : HS) = some (.inl (some (.int (bv (hasB T e (tb i) W_who)))), (((vn, vc, vw, K, L, R), nx I (cond (hasB T e (tb i) W_who) (i + 1) i), J) : HS)) := sp_153 hX hT hG hi (hA 25 (by decide)) (by decide) (by decide) (by decide) (by decide)
theorem sp_v26 {d : Nat} {T : Int → Int} {e n i : Int} {tb : Int → Int} (hX : XSH K L R) (hT : Tp I T e) (hG : TkI I T e n tb) (hA : SWA K L I) (hi : 0 ≤ i ∧ i ≤ n) : ev PR (d + 1) 153 [.ref 82, .ref 26] (((vn, vc, vw, K, L, R), nx I i, J) : HS) = some (.inl (some (.int (bv (hasB T e (tb i) W_hoop)))), (((vn, vc, vw, K, L, R), nx I (cond (hasB T e (tb i) W_hoop) (i + 1) i), J) : HS)) := sp_153 hX hT hG hi (hA 26 (by decide)) (by decide) (by decide) (by decide) (by decide)
theorem sp_v27 {d : Nat} {T : Int → Int} {e n i : Int} {tb : Int → Int} (hX : XSH K L R) (hT : Tp I T e) (hG : TkI I T e n tb) (hA : SWA K L I) (hi : 0 ≤ i ∧ i ≤ n) : ev PR (d + 1) 153 [.ref 82, .ref 27] (((vn, vc, vw, K, L, R), nx I i, J) : HS) = some (.inl (some (.int (bv (hasB T e (tb i) W_from)))), (((vn, vc, vw, K, L, R), nx I (cond (hasB T e (tb i) W_from) (i + 1) i), J) : HS)) := sp_153 hX hT hG hi (hA 27 (by decide)) (by decide) (by decide) (by decide) (by decide)
theorem sp_v28 {d : Nat} {T : Int → Int} {e n i : Int} {tb : Int → Int} (hX : XSH K L R) (hT : Tp I T e) (hG : TkI I T e n tb) (hA : SWA K L I) (hi : 0 ≤ i ∧ i ≤ n) : ev PR (d + 1) 153 [.ref 82, .ref 28] (((vn, vc, vw, K, L, R), nx I i, J) : HS) = some (.inl (some (.int (bv (hasB T e (tb i) W_height)))), (((vn, vc, vw, K, L, R), nx I (cond (hasB T e (tb i) W_height) (i + 1) i), J) : HS)) := sp_153 hX hT hG hi (hA 28 (by decide)) (by decide) (by decide) (by decide) (by decide)
theorem sp_v29 {d : Nat} {T : Int → Int} {e n i : Int} {tb : Int → Int} (hX : XSH K L R) (hT : Tp I T e) (hG : TkI I T e n tb) (hA : SWA K L I) (hi : 0 ≤ i ∧ i ≤ n) : ev PR (d + 1) 153 [.ref 82, .ref 29] (((vn, vc, vw, K, L, R), nx I i, J) : HS) = some (.inl (some (.int (bv (hasB T e (tb i) W_pace)))), (((vn, vc, vw, K, L, R), nx I (cond (hasB T e (tb i) W_pace) (i + 1) i), J) : HS)) := sp_153 hX hT hG hi (hA 29 (by decide)) (by decide) (by decide) (by decide) (by decide)
theorem sp_v30 {d : Nat} {T : Int → Int} {e n i : Int} {tb : Int → Int} (hX : XSH K L R) (hT : Tp I T e) (hG : TkI I T e n tb) (hA : SWA K L I) (hi : 0 ≤ i ∧ i ≤ n) : ev PR (d + 1) 153 [.ref 82, .ref 30] (((vn, vc, vw, K, L, R), nx I i, J) : HS) = some (.inl (some (.int (bv (hasB T e (tb i) W_skill)))), (((vn, vc, vw, K, L, R), nx I (cond (hasB T e (tb i) W_skill) (i + 1) i), J) : HS)) := sp_153 hX hT hG hi (hA 30 (by decide)) (by decide) (by decide) (by decide) (by decide)
theorem sp_v31 {d : Nat} {T : Int → Int} {e n i : Int} {tb : Int → Int} (hX : XSH K L R) (hT : Tp I T e) (hG : TkI I T e n tb) (hA : SWA K L I) (hi : 0 ≤ i ∧ i ≤ n) : ev PR (d + 1) 153 [.ref 82, .ref 31] (((vn, vc, vw, K, L, R), nx I i, J) : HS) = some (.inl (some (.int (bv (hasB T e (tb i) W_throws)))), (((vn, vc, vw, K, L, R), nx I (cond (hasB T e (tb i) W_throws) (i + 1) i), J) : HS)) := sp_153 hX hT hG hi (hA 31 (by decide)) (by decide) (by decide) (by decide) (by decide)
theorem sp_v32 {d : Nat} {T : Int → Int} {e n i : Int} {tb : Int → Int} (hX : XSH K L R) (hT : Tp I T e) (hG : TkI I T e n tb) (hA : SWA K L I) (hi : 0 ≤ i ∧ i ≤ n) : ev PR (d + 1) 153 [.ref 82, .ref 32] (((vn, vc, vw, K, L, R), nx I i, J) : HS) = some (.inl (some (.int (bv (hasB T e (tb i) W_or)))), (((vn, vc, vw, K, L, R), nx I (cond (hasB T e (tb i) W_or) (i + 1) i), J) : HS)) := sp_153 hX hT hG hi (hA 32 (by decide)) (by decide) (by decide) (by decide) (by decide)
/-- the steps so far -/
def StpR (I : Nat → Nat → Int32) (S : List Int) : Prop := I 88 2 = w S.length ∧ (∀ k : Nat, k < S.length → I 89 k = w (S.getD k 0)) ∧ ∀ s ∈ S, s / 1024 = 1 → s % 1024 < 8 ∧ ((I 88 4 >>> (w (s % 1024) &&& w 31)) &&& w 1) = w 1
def FLw (I I' : Nat → Nat → Int32) : Prop := ∀ a k, a ≠ 89 → (a = 82 → k ≠ 6) → (a = 88 → k ≠ 2 ∧ k ≠ 4) → I' a k = I a k
theorem FLw_rf {I : Nat → Nat → Int32} : FLw I I := fun _ _ _ _ _ => rfl
theorem FLw_tr {I I' I'' : Nat → Nat → Int32} (h : FLw I I') (h2 : FLw I' I'') : FLw I I'' := fun a k x y z => (h2 a k x y z).trans (h a k x y z)
theorem FLw_nx {I : Nat → Nat → Int32} {i : Int} : FLw I (nx I i) := fun a k x y z => nx_o _ _ (by omega)
theorem StpR_f {I I' : Nat → Nat → Int32} {S : List Int} (h : ∀ a k, a = 89 ∨ a = 88 → I' a k = I a k) (g : StpR I S) : StpR I' S := by
  obtain ⟨g1, g2, g3⟩ := g
  exact ⟨by rw [h _ _ (by omega)]; exact g1, fun k a => by rw [h _ _ (by omega)]; exact g2 k a, fun s a b => by rw [h _ _ (by omega)]; exact g3 s a b⟩
theorem StpR_nx {I : Nat → Nat → Int32} {S : List Int} {i : Int} (g : StpR I S) : StpR (nx I i) S := StpR_f (fun a k h => nx_o _ _ (by omega)) g
def emI (I : Nat → Nat → Int32) (S : List Int) (s : Int) : Nat → Nat → Int32 := u2 (u2 I 89 S.length (w s)) 88 2 (w (S.length + 1))
theorem emI_o (I : Nat → Nat → Int32) (S : List Int) (s : Int) {a k : Nat} (h : a ≠ 89 ∧ (a = 88 → k ≠ 2)) : emI I S s a k = I a k := by
  unfold emI
  rw [u2_r, if_neg (by omega), u2_r, if_neg (by omega)]
theorem FLw_em {I : Nat → Nat → Int32} {S : List Int} {s : Int} : FLw I (emI I S s) := fun a k x y z => emI_o _ _ _ (by omega)
theorem getD_ap {S : List Int} {s : Int} {k : Nat} (h : k < S.length + 1) : (S ++ [s]).getD k 0 = if k = S.length then s else S.getD k 0 := by
  by_cases c : k = S.length
  · rw [if_pos c, c, List.getD_eq_getElem?_getD, List.getElem?_append_right (Nat.le_refl _)]
    simp
  · rw [if_neg c, List.getD_eq_getElem?_getD, List.getElem?_append_left (by omega), ← List.getD_eq_getElem?_getD]
theorem StpR_em {I : Nat → Nat → Int32} {S : List Int} {s : Int} (g : StpR I S) (hb : s / 1024 = 1 → s % 1024 < 8 ∧ ((I 88 4 >>> (w (s % 1024) &&& w 31)) &&& w 1) = w 1) : StpR (emI I S s) (S ++ [s]) := by
  obtain ⟨g1, g2, g3⟩ := g
  refine ⟨?_, ?_, ?_⟩
  · unfold emI
    rw [u2_s, List.length_append]
    rfl
  · intro k hk
    rw [List.length_append, List.length_singleton] at hk
    rw [getD_ap hk]
    unfold emI
    rw [u2_r, if_neg (by omega), u2_r]
    by_cases c : k = S.length
    · rw [if_pos ⟨rfl, c⟩, if_pos c]
    · rw [if_neg (by omega), if_neg c]
      exact g2 k (by omega)
  · intro x hx hx1
    rw [emI_o _ _ _ (by omega)]
    rcases List.mem_append.mp hx with h | h
    · exact g3 x h hx1
    · rw [List.mem_singleton.mp h] at hx1 ⊢
      exact hb hx1
theorem sp_42 {d : Nat} {S : List Int} {op v : Int} (hX : XSH K L R) (g : StpR I S) (hl : S.length < 400) : ev PR (d + 1) 42 [.ref 88, .int (w op), .int (w v)] (((vn, vc, vw, K, L, R), I, J) : HS) = some (.inl none, (((vn, vc, vw, K, L, R), emI I S (op * 1024 + v), J) : HS)) := by
  have g1 := g.1
  have e1 : ix (S.length : Int) = S.length := by unfold ix; omega
  rw [eq_42]
  unfold emI
  simp (disch := first | assumption | omega | (simp (disch := omega) only [vM_u, vS_u]; first | assumption | omega)) only [hK, hL, hR, hI, hN, sI, hSp, hC, hW, li, lr, ↓cnd_a, ↓cnd_o, ↓cnd_n, ↓cnd_d, ↓z0, ↓z1, ↓z2, y0n, y1i, y2r, y0e, y1e, y2e, wl_0, wl_1, wl_2, wl_3, wl_4, wl_5, wl_6, wl_7, wl_8, wl_9, wl_10, wl_11, wl_12, wl_13, wl_14, wl_15, wl_16, wl_17, wl_18, wl_19, wl_20, wl_21, wl_22, wl_23, wl_24, wl_25, wl_26, wl_27, wl_28, wl_29, wl_30, wl_31, wl_32, wl_33, wl_34, wl_35, wl_36, wl_37, wl_38, wl_39, wl_40, wl_41, wl_42, wl_43, wl_44, wl_45, wl_46, wl_47, wl_48, wl_49, wl_50, wl_51, wl_52, wl_53, wl_54, wl_55, wl_56, wl_57, wl_58, wl_59, wl_60, wl_61, wl_62, wl_63, wl_64, wl_65, wl_66, wl_67, wl_68, wl_69, wl_70, wl_71, wl_72, wl_73, wl_74, wl_75, wl_76, wl_77, wl_78, wl_79, wl_80, wl_81, wl_82, wl_83, wl_84, wl_85, wl_86, wl_87, wl_88, wl_89, wl_90, wl_91, wl_92, wl_93, wl_94, wl_95, wl_96, wl_97, wl_98, wl_99, wl_100, wl_101, wl_102, wl_103, wl_104, wl_105, wl_106, wl_107, wl_108, wl_109, wl_110, wl_111, wl_112, wl_113, wl_114, wl_115, wl_116, wl_117, wl_118, wl_119, wl_120, wl_121, wl_122, wl_123, wl_124, wl_125, wl_126, wl_127, wl_128, wl_129, wl_130, wl_159, wl_160, wl_200, wl_232, wl_255, wl_256, wl_300, wl_359, wl_360, wl_400, wl_592, wl_992, wl_999, wl_1000, wl_1024, wl_3456, wl_6512, wl_7104, wl_10000, wl_11264, wl_12345, wl_32767, wl_1000000000, wl_1103515245, wl_2000000000, w_add, w_sub, w_mul, w_neg, w_lt, w_le, w_eq, w_cl, w_in, w_nat, w_max2, w_min2, w_abs2, iltT, iltF, ileT, ileF, ieqT, ieqF, bv_01, bft, bv_0, bv_1, bv_t, bv_f, cond_true, cond_false, Bool.not_true, Bool.not_false, if_true, if_false, true_or, or_true, true_and, and_true, ↓reduceIte, decide_true, decide_false, reduceCtorEq, u2_s, u2_o, u2_k, u2_u2, Bool.true_or, Bool.or_true, Bool.false_or, Bool.or_false, Bool.and_true, Bool.true_and, Bool.and_false, Bool.false_and, eq_self, not_true_eq_false, not_false_eq_true, and_self, and_true, true_and, false_and, and_false, w_dv, dvm, XSH_e hX, g1, e1]
theorem bv_and1 (x : BitVec 32) : (x &&& 1#32 = 1#32) ↔ x.getLsbD 0 = true := by
  constructor
  · intro h
    have := congrArg (fun y => BitVec.getLsbD y 0) h
    simpa using this
  · intro h
    apply BitVec.eq_of_getLsbD_eq
    intro i hi
    cases i with
    | zero => simpa using h
    | succ n => simp
theorem bitJ (j : Nat) (hj : j < 8) (f : Int32) : (((f >>> (w j &&& w 31)) &&& w 1) = w 1) ↔ f.toBitVec.getLsbD j = true := by
  rw [← Int32.toBitVec_inj, Int32.toBitVec_and, Int32.toBitVec_shiftRight]
  have e : (w (1 : Int)).toBitVec = 1#32 := rfl
  rw [e, bv_and1]
  have e2 : ((w (j : Int) &&& w 31).toBitVec.smod 32) = BitVec.ofNat 32 j := by
    rcases (by omega : j = 0 ∨ j = 1 ∨ j = 2 ∨ j = 3 ∨ j = 4 ∨ j = 5 ∨ j = 6 ∨ j = 7) with rfl | rfl | rfl | rfl | rfl | rfl | rfl | rfl <;> decide
  rw [e2]
  rcases (by omega : j = 0 ∨ j = 1 ∨ j = 2 ∨ j = 3 ∨ j = 4 ∨ j = 5 ∨ j = 6 ∨ j = 7) with rfl | rfl | rfl | rfl | rfl | rfl | rfl | rfl <;> simp [BitVec.getLsbD_sshiftRight, BitVec.getElem_sshiftRight]
theorem bit_or (k : Nat) (f : Int32) (hk : k < 8) : (∀ j : Nat, j < 8 → ((f >>> (w j &&& w 31)) &&& w 1) = w 1 → (((f ||| (w 1 <<< (w k &&& w 31))) >>> (w j &&& w 31)) &&& w 1) = w 1) ∧ (((f ||| (w 1 <<< (w k &&& w 31))) >>> (w k &&& w 31)) &&& w 1) = w 1 := by
  constructor
  · intro j hj h
    rw [bitJ j hj] at h ⊢
    rw [Int32.toBitVec_or, BitVec.getLsbD_or, h, Bool.true_or]
  · rw [bitJ k hk, Int32.toBitVec_or, BitVec.getLsbD_or]
    have : (w 1 <<< (w (k : Int) &&& w 31)).toBitVec.getLsbD k = true := by
      rcases (by omega : k = 0 ∨ k = 1 ∨ k = 2 ∨ k = 3 ∨ k = 4 ∨ k = 5 ∨ k = 6 ∨ k = 7) with rfl | rfl | rfl | rfl | rfl | rfl | rfl | rfl <;> decide
    rw [this, Bool.or_true]
end LWA
