/-! WHAT HOLDS AT A METHOD'S START beside its own world, and how it comes to a callee's start -/
def ngw (w : Cond) : Bool := match w with
  | .fieldLinkNest .. => true
  | .methodLinkNest .. => true
  | .castable .. => true
  | .declares .. => true
  | _ => false
def txT (k : Nat) : List Int32 := match strT[k - 1]? with
  | some q => q.2.2.toList.map fun c => Int32.ofNat c.toNat
  | none => []
def Enm (e : Nat) : String := match e with
  | 1 => "java/lang/IndexOutOfBoundsException"
  | 2 => "java/lang/IllegalArgumentException"
  | 3 => "java/lang/IllegalStateException"
  | 4 => "java/util/NoSuchElementException"
  | _ => "java/lang/UnsupportedOperationException"
abbrev gD (G : GP) : va_G := G.1
abbrev gAx (G : GP) : Nat → Prop := G.2.2.1
abbrev gS (G : GP) : Nat → Nat := G.2.2.2.1
abbrev gL (G : GP) : Nat := G.2.2.2.2.1
abbrev gX (G : GP) : Nat → Int32 := G.2.2.2.2.2
abbrev gTx (G : GP) : List (ClassId × FieldType) := [(G.2.1.1, .int), (G.2.1.2.1, .long), (G.2.1.2.2.1, .boolean), (G.2.1.2.2.2, .object RX9)]
/-- the text k: a String of one byte a sign -/
def StrAt (G : GP) (k : Nat) (U : State) (H : Heap) : Prop := ∃ v : Nat, va_O "java/lang/String" (gS G k) (gAx G) U H ∧ va_OF "java/lang/String" "coder" "B" (.int 0) (gS G k) (gAx G) U H ∧ va_OF "java/lang/String" "value" "[B" (.ref v) (gS G k) (gAx G) U H ∧ va_T .byte v (txT k).length (fun j => .int ((txT k).getD j 0)) (gAx G) U H
def EnvOK (G : GP) (U : State) : Prop :=
  va_K (gD G) vwCl (gTx G) U ∧ (∀ w ∈ lw_tbl, ngw w = true → w.before #[] U = true) ∧ va_AO RX9 U ∧ (∀ (k : Nat) (q : String × Nat × String), strT[k]? = some q → vk_R q.1 q.2.1 q.2.2 (gS G (k + 1)) U) ∧
  (∀ a b : Nat, 1 ≤ a → a ≤ 5 → 1 ≤ b → b ≤ 5 → a ≠ b → va_Nc (Enm a) (Enm b) U) ∧ vx_Zq Bundle.tN "UNASSIGNED_STACK" Bundle.steD (gAx G) U U.heap ∧ vx_Zq Bundle.tN "SUPPRESSED_SENTINEL" Bundle.listD (gAx G) U U.heap ∧
  ((∀ k, 1 ≤ k → k ≤ 77 → StrAt G k U U.heap) ∧ va_Z "java/lang/String" "COMPACT_STRINGS" "Z" (.int 1) (gAx G) U U.heap ∧ va_Zq "jdk/internal/util/Preconditions" "SIOOBE_FORMATTER" "Ljava/util/function/BiFunction;" (gAx G) U U.heap) ∧ va_X (gS G 78) (gL G) (gX G) U U.heap ∧ gS G 78 < U.heap.size ∧ ¬ gAx G (gS G 78) ∧ ∀ q, U.heap.size ≤ q → gAx G q
theorem ngw_warm {w : Cond} {s U : State} (hg : ngw w = true) (hW : s.WarmedH U.vm) (h : w.before #[] s = true) : w.before #[] U = true := by
  cases w <;> first
    | cases hg; done
    | exact va_Nw.warmF hW h
    | exact va_Nw.warmM hW h
    | exact va_Nw.warmC hW h
    | exact va_Nw.warmD hW h
theorem EnvOK.mv {G : GP} {s U : State} {locs : List Loc} (h : EnvOK G s) (hW : s.WarmedH U.vm) (hS : va_S (gAx G) s.heap U.heap locs) : EnvOK G U := by
  obtain ⟨h1, h2, h3, h4, h5, h6, h7, h8, h9, h10, h11, h12⟩ := h
  have hv := hW.alike
  refine ⟨h1.moved hv, fun w hw hg => ngw_warm hg hW (h2 w hw hg), va_AO.moved hv h3, fun k q hq => vk_R.warm hW (h4 k q hq), fun a b a1 a2 b1 b2 ab => (h5 a b a1 a2 b1 b2 ab).moved hv, (h6.kept hS.2.1).moved hv, (h7.kept hS.2.1).moved hv, ⟨fun k k1 k2 => ?_, va_Z.moved hv (h8.2.1.kept hS.2.1), va_Zq.moved hv (h8.2.2.kept hS.2.1)⟩, (h9.kept (hS.2.1 _ h10 h11)).moved hv, Nat.lt_of_lt_of_le h10 hS.1, h11, fun q hq => h12 q (Nat.le_trans hS.1 hq)⟩
  obtain ⟨v, g1, g2, g3, g4⟩ := h8.1 k k1 k2
  exact ⟨v, va_O.moved hv (g1.kept hS.2.1), va_OF.moved hv (g2.kept hS.2.1), va_OF.moved hv (g3.kept hS.2.1), va_T.moved hv (g4.kept hS.2.1)⟩
/-! inversions -/
theorem li_inv {v : Value} {f : Int32 → Option Res} {q : Res} (h : li v f = some q) : ∃ x, v = .int x ∧ f x = some q := by
  cases v <;> first | exact ⟨_, rfl, h⟩ | cases h
theorem ll_inv {v : Value} {f : Int64 → Option Res} {q : Res} (h : ll v f = some q) : ∃ x, v = .long x ∧ f x = some q := by
  cases v <;> first | exact ⟨_, rfl, h⟩ | cases h
theorem lr_inv {v : Value} {f : Nat → Option Res} {q : Res} (h : lr v f = some q) : ∃ x : Nat, v = .ref x ∧ f x = some q := by
  cases v <;> first | exact ⟨_, rfl, h⟩ | cases h
theorem s1_inv {st : List Value} {f : Value → List Value → Option Res} {q : Res} (h : s1 st f = some q) : ∃ v r, st = v :: r ∧ f v r = some q := by
  cases st <;> first | exact ⟨_, _, rfl, h⟩ | cases h
theorem s1i_inv {st : List Value} {f : Int32 → List Value → Option Res} {q : Res} (h : s1i st f = some q) : ∃ x r, st = .int x :: r ∧ f x r = some q := by
  obtain ⟨v, r, rfl, h⟩ := s1_inv h
  obtain ⟨x, rfl, h⟩ := li_inv h
  exact ⟨x, r, rfl, h⟩
theorem s1l_inv {st : List Value} {f : Int64 → List Value → Option Res} {q : Res} (h : s1l st f = some q) : ∃ x r, st = .long x :: r ∧ f x r = some q := by
  obtain ⟨v, r, rfl, h⟩ := s1_inv h
  obtain ⟨x, rfl, h⟩ := ll_inv h
  exact ⟨x, r, rfl, h⟩
theorem s1r_inv {st : List Value} {f : Nat → List Value → Option Res} {q : Res} (h : s1r st f = some q) : ∃ (x : Nat) (r : List Value), st = .ref x :: r ∧ f x r = some q := by
  obtain ⟨v, r, rfl, h⟩ := s1_inv h
  obtain ⟨x, rfl, h⟩ := lr_inv h
  exact ⟨x, r, rfl, h⟩
theorem s2i_inv {st : List Value} {f : Int32 → Int32 → List Value → Option Res} {q : Res} (h : s2i st f = some q) : ∃ x y r, st = .int y :: .int x :: r ∧ f x y r = some q := by
  obtain ⟨y, r1, h1, h2⟩ := s1i_inv h
  obtain ⟨x, r, h3, h4⟩ := s1i_inv h2
  subst h1; subst h3
  exact ⟨x, y, r, rfl, h4⟩
theorem s2l_inv {st : List Value} {f : Int64 → Int64 → List Value → Option Res} {q : Res} (h : s2l st f = some q) : ∃ x y r, st = .long y :: .long x :: r ∧ f x y r = some q := by
  obtain ⟨y, r1, h1, h2⟩ := s1l_inv h
  obtain ⟨x, r, h3, h4⟩ := s1l_inv h2
  subst h1; subst h3
  exact ⟨x, y, r, rfl, h4⟩
theorem s2r_inv {st : List Value} {f : Nat → Nat → List Value → Option Res} {q : Res} (h : s2r st f = some q) : ∃ (x y : Nat) (r : List Value), st = .ref y :: .ref x :: r ∧ f x y r = some q := by
  obtain ⟨y, r1, h1, h2⟩ := s1r_inv h
  obtain ⟨x, r, h3, h4⟩ := s1r_inv h2
  subst h1; subst h3
  exact ⟨x, y, r, rfl, h4⟩
theorem s0_inv {st : List Value} {x : Option Res} {q : Res} (h : s0 st x = some q) : st = [] ∧ x = some q := by
  cases st <;> first | exact ⟨rfl, h⟩ | cases h
theorem cond_inv {b : Bool} {x : Option Res} {q : Res} (h : cond b x none = some q) : b = true ∧ x = some q := by
  cases b <;> first | exact ⟨rfl, h⟩ | cases h
theorem pcnd_inv {ps : List Nat} {f : Nat → List Nat → Option Res} {q : Res} (h : pcnd ps f = some q) : ∃ a r, ps = a :: r ∧ f a r = some q := by
  cases ps <;> first | exact ⟨_, _, rfl, h⟩ | cases h
theorem p4_inv {ps : List Nat} {f : Nat → Nat → Nat → Nat → List Nat → Option Res} {q : Res} (h : p4 ps f = some q) : ∃ a b c d r, ps = a :: b :: c :: d :: r ∧ f a b c d r = some q := by
  rcases ps with _ | ⟨a, _ | ⟨b, _ | ⟨c, _ | ⟨d, r⟩⟩⟩⟩ <;> first | exact ⟨_, _, _, _, _, rfl, h⟩ | cases h
/-! a run never gives room back -/
def sLe (σ σ' : HS) : Prop := hN σ ≤ hN σ' ∧ hC σ ≤ hC σ' ∧ hW σ ≤ hW σ'
theorem sLe.rf {σ : HS} : sLe σ σ := ⟨Nat.le_refl _, Nat.le_refl _, Nat.le_refl _⟩
theorem sLe.tr {a b c : HS} (h : sLe a b) (k : sLe b c) : sLe a c := ⟨Nat.le_trans h.1 k.1, Nat.le_trans h.2.1 k.2.1, Nat.le_trans h.2.2 k.2.2⟩
def oGe (σ : HS) (x : Option Res) : Prop := ∀ o σ', x = some (o, σ') → sLe σ σ'
theorem oGe.none {σ : HS} : oGe σ none := fun _ _ h => by cases h
theorem oGe.cond {σ : HS} {b : Bool} {x y : Option Res} (h : oGe σ x) (k : oGe σ y) : oGe σ (cond b x y) := by cases b <;> assumption
theorem oGe.li {σ : HS} {v : Value} {f : Int32 → Option Res} (h : ∀ x, oGe σ (f x)) : oGe σ (li v f) := by cases v <;> first | exact h _ | exact oGe.none
theorem oGe.ll {σ : HS} {v : Value} {f : Int64 → Option Res} (h : ∀ x, oGe σ (f x)) : oGe σ (ll v f) := by cases v <;> first | exact h _ | exact oGe.none
theorem oGe.lr {σ : HS} {v : Value} {f : Nat → Option Res} (h : ∀ x, oGe σ (f x)) : oGe σ (lr v f) := by cases v <;> first | exact h _ | exact oGe.none
theorem oGe.s1 {σ : HS} {st : List Value} {f : Value → List Value → Option Res} (h : ∀ x r, oGe σ (f x r)) : oGe σ (s1 st f) := by cases st <;> first | exact h _ _ | exact oGe.none
theorem oGe.s1i {σ : HS} {st : List Value} {f : Int32 → List Value → Option Res} (h : ∀ x r, oGe σ (f x r)) : oGe σ (s1i st f) := oGe.s1 fun _ _ => oGe.li fun _ => h _ _
theorem oGe.s1l {σ : HS} {st : List Value} {f : Int64 → List Value → Option Res} (h : ∀ x r, oGe σ (f x r)) : oGe σ (s1l st f) := oGe.s1 fun _ _ => oGe.ll fun _ => h _ _
theorem oGe.s1r {σ : HS} {st : List Value} {f : Nat → List Value → Option Res} (h : ∀ x r, oGe σ (f x r)) : oGe σ (s1r st f) := oGe.s1 fun _ _ => oGe.lr fun _ => h _ _
theorem oGe.s2i {σ : HS} {st : List Value} {f : Int32 → Int32 → List Value → Option Res} (h : ∀ x y r, oGe σ (f x y r)) : oGe σ (s2i st f) := oGe.s1i fun _ _ => oGe.s1i fun _ _ => h _ _ _
theorem oGe.s2l {σ : HS} {st : List Value} {f : Int64 → Int64 → List Value → Option Res} (h : ∀ x y r, oGe σ (f x y r)) : oGe σ (s2l st f) := oGe.s1l fun _ _ => oGe.s1l fun _ _ => h _ _ _
theorem oGe.s2r {σ : HS} {st : List Value} {f : Nat → Nat → List Value → Option Res} (h : ∀ x y r, oGe σ (f x y r)) : oGe σ (s2r st f) := oGe.s1r fun _ _ => oGe.s1r fun _ _ => h _ _ _
theorem oGe.s0 {σ : HS} {st : List Value} {x : Option Res} (h : oGe σ x) : oGe σ (s0 st x) := by cases st <;> first | exact h | exact oGe.none
theorem oGe.pcnd {σ : HS} {ps : List Nat} {f : Nat → List Nat → Option Res} (h : ∀ x r, oGe σ (f x r)) : oGe σ (pcnd ps f) := by cases ps <;> first | exact h _ _ | exact oGe.none
theorem oGe.p4 {σ : HS} {ps : List Nat} {f : Nat → Nat → Nat → Nat → List Nat → Option Res} (h : ∀ a b c d r, oGe σ (f a b c d r)) : oGe σ (p4 ps f) := by
  rcases ps with _ | ⟨a, _ | ⟨b, _ | ⟨c, _ | ⟨d, r⟩⟩⟩⟩ <;> first | exact h _ _ _ _ _ | exact oGe.none
theorem oGe.tsw {σ : HS} {x : Int32} {d : Nat} {f : Nat → Option Res} (h : ∀ t, oGe σ (f t)) : ∀ (ts : List Nat) (v : Int32), oGe σ (tsw ts v x d f)
  | [], _ => h _
  | _ :: ts, v => oGe.cond (h _) (oGe.tsw h ts (v + 1))
theorem oGe.lsw {σ : HS} {x : Int32} {d : Nat} {f : Nat → Option Res} (h : ∀ t, oGe σ (f t)) : ∀ (ts : List Nat), oGe σ (lsw ts x d f)
  | [] => h _
  | [_] => h _
  | _ :: _ :: ts => oGe.cond (h _) (oGe.lsw h ts)
theorem oGe.done {σ σ' : HS} {o : Option Value ⊕ Nat} (h : sLe σ σ') : oGe σ (some (o, σ')) := fun _ _ q => by cases q; exact h
theorem oGe.up {σ σ1 : HS} {x : Option Res} (h : sLe σ σ1) (k : oGe σ1 x) : oGe σ x := fun o σ' q => h.tr (k o σ' q)
theorem oGe.hnd {σ : HS} {E : Nat} {k : KK} {ls : List Value} (hk : ∀ i ls st σ, oGe σ (k i ls st σ)) : ∀ (hs : List Nat), oGe σ (hnd hs E σ k ls)
  | [] => oGe.done sLe.rf
  | [_] => oGe.done sLe.rf
  | [_, _] => oGe.done sLe.rf
  | _ :: _ :: _ :: hs => oGe.cond (oGe.cond (hk _ _ _ _) oGe.none) (oGe.hnd hk hs)
theorem oGe.callG {cl : CL} {k : KK} (hc : ∀ y a σ, oGe σ (cl y a σ)) (hk : ∀ i ls st σ, oGe σ (k i ls st σ)) {y n rk : Nat} {hs : List Nat} {i : Nat} {ls st : List Value} {σ : HS} : oGe σ (callG cl k y n rk hs i ls st σ) := by
  refine oGe.cond ?_ oGe.none
  have h0 := hc y (st.take n).reverse σ
  split <;> (generalize cl y (st.take n).reverse σ = z at h0; rcases z with _ | ⟨⟨_ | v⟩ | E, σ1⟩)
  all_goals first
    | exact oGe.none
    | exact (hk _ _ _ _).up (h0 _ _ rfl)
    | exact (oGe.hnd hk _).up (h0 _ _ rfl)
    | exact (oGe.li fun _ => hk _ _ _ _).up (h0 _ _ rfl)
    | exact (oGe.lr fun _ => hk _ _ _ _).up (h0 _ _ rfl)
set_option maxHeartbeats 4000000 in
theorem oGe.step {cl : CL} {k : KK} (hc : ∀ y a σ, oGe σ (cl y a σ)) (hk : ∀ i ls st σ, oGe σ (k i ls st σ)) (di : DI) (i : Nat) (ls st : List Value) (σ : HS) : oGe σ (stepG cl k di i ls st σ) := by
  have up : ∀ {i ls st} {σ1 : HS}, sLe σ σ1 → oGe σ (k i ls st σ1) := fun h => (hk _ _ _ _).up h
  have mk : ∀ kd len sl, sLe σ (hMk σ kd len sl) := fun kd len sl => ⟨Nat.le_succ _, Nat.le_succ _, Nat.le_add_right _ _⟩
  have cp : ∀ a, sLe σ (hCl σ a) := fun a => ⟨Nat.le_succ _, Nat.le_succ _, Nat.le_add_right _ _⟩
  obtain ⟨pc, ins, ps, c0⟩ := di
  cases ins <;> first
    | exact oGe.none
    | exact hk _ _ _ _
    | exact oGe.li fun _ => hk _ _ _ _
    | exact oGe.ll fun _ => hk _ _ _ _
    | exact oGe.lr fun _ => hk _ _ _ _
    | exact oGe.s2i fun _ _ _ => hk _ _ _ _
    | exact oGe.s2l fun _ _ _ => hk _ _ _ _
    | exact oGe.s1i fun _ _ => hk _ _ _ _
    | exact oGe.li fun _ => oGe.cond (hk _ _ _ _) oGe.none
    | exact oGe.s1r fun _ _ => oGe.cond (hk _ _ _ _) oGe.none
    | exact oGe.s1i fun _ _ => oGe.cond (hk _ _ _ _) oGe.none
    | exact oGe.s1l fun _ _ => oGe.cond (hk _ _ _ _) oGe.none
    | exact oGe.s2i fun _ _ _ => oGe.cond (hk _ _ _ _) oGe.none
    | exact oGe.s1 fun _ _ => oGe.cond (hk _ _ _ _) oGe.none
    | exact oGe.s1 fun _ _ => oGe.s1 fun _ _ => oGe.cond (hk _ _ _ _) oGe.none
    | exact oGe.pcnd fun _ _ => hk _ _ _ _
    | exact oGe.pcnd fun _ _ => oGe.s1i fun _ _ => oGe.cond (hk _ _ _ _) (hk _ _ _ _)
    | exact oGe.pcnd fun _ _ => oGe.s2i fun _ _ _ => oGe.cond (hk _ _ _ _) (hk _ _ _ _)
    | exact oGe.pcnd fun _ _ => oGe.s1r fun _ _ => oGe.cond (hk _ _ _ _) (hk _ _ _ _)
    | exact oGe.pcnd fun _ _ => oGe.s1r fun _ _ => oGe.cond (hk _ _ _ _) oGe.none
    | exact oGe.pcnd fun _ _ => oGe.s1i fun _ _ => oGe.cond (up (mk _ _ _)) oGe.none
    | exact oGe.s1i fun _ _ => oGe.cond (up (mk _ _ _)) oGe.none
    | exact oGe.pcnd fun _ _ => oGe.s1i fun _ _ => oGe.s1r fun _ _ => oGe.cond (hk _ _ _ _) oGe.none
    | exact oGe.s1i fun _ _ => oGe.s1r fun _ _ => oGe.cond (hk _ _ _ _) oGe.none
    | exact oGe.s1i fun _ _ => oGe.s1i fun _ _ => oGe.s1r fun _ _ => oGe.cond (up sLe.rf) oGe.none
    | exact oGe.s1l fun _ _ => oGe.s1i fun _ _ => oGe.s1r fun _ _ => oGe.cond (up sLe.rf) oGe.none
    | exact oGe.s1r fun _ _ => oGe.s1i fun _ _ => oGe.s1r fun _ _ => oGe.cond (up sLe.rf) oGe.none
    | exact oGe.s1r fun _ _ => oGe.s0 (oGe.done sLe.rf)
    | exact oGe.s0 (oGe.done sLe.rf)
    | exact oGe.pcnd fun _ _ => oGe.s1i fun _ _ => oGe.tsw (fun _ => hk _ _ _ _) _ _
    | exact oGe.pcnd fun _ _ => oGe.s1i fun _ _ => oGe.lsw (fun _ => hk _ _ _ _) _
    | exact oGe.p4 fun _ _ _ _ _ => oGe.s1r fun _ _ => oGe.cond (hk _ _ _ _) oGe.none
    | skip
  case ldc => cases ps <;> exact hk _ _ _ _
  case ireturn => exact oGe.s1i fun _ _ => oGe.s0 (by cases ps <;> first | exact oGe.done sLe.rf | exact oGe.cond (oGe.done sLe.rf) oGe.none)
  case if_acmp c o => exact oGe.pcnd fun _ _ => oGe.s2r fun _ _ _ => oGe.cond (by cases c <;> exact oGe.cond (hk _ _ _ _) (hk _ _ _ _)) oGe.none
  case new =>
    refine oGe.pcnd fun _ ps => ?_
    rcases ps with _ | ⟨a, _ | ⟨b, r⟩⟩
    · exact oGe.cond (oGe.done ⟨Nat.le_refl _, Nat.le_add_right _ _, Nat.le_add_right _ _⟩) oGe.none
    · exact up (mk _ _ _)
    · exact oGe.cond (oGe.done ⟨Nat.le_refl _, Nat.le_add_right _ _, Nat.le_add_right _ _⟩) oGe.none
  case putfield =>
    refine oGe.p4 fun _ _ t _ _ => ?_
    rcases t with _ | _ | _ | t
    · exact oGe.s1i fun _ _ => oGe.s1r fun _ _ => oGe.cond (up sLe.rf) oGe.none
    · exact oGe.s1i fun _ _ => oGe.s1r fun _ _ => oGe.cond (up sLe.rf) oGe.none
    · exact oGe.s1r fun _ _ => oGe.s1r fun _ _ => oGe.cond (up sLe.rf) oGe.none
    · exact oGe.s1i fun _ _ => oGe.s1r fun _ _ => oGe.cond (up sLe.rf) oGe.none
  case invokevirtual =>
    refine oGe.p4 fun y n rk c hs => ?_
    split
    · exact oGe.s1r fun _ _ => oGe.cond (hk _ _ _ _) oGe.none
    · exact oGe.s1i fun _ _ => oGe.s1r fun _ _ => oGe.cond (hk _ _ _ _) oGe.none
    · exact oGe.s1r fun _ _ => oGe.cond (up (cp _)) oGe.none
    · exact oGe.lr fun _ => oGe.cond (oGe.callG hc hk) oGe.none
  case invokespecial =>
    refine oGe.p4 fun y n rk c hs => ?_
    split
    · exact oGe.s1r fun _ _ => oGe.cond (hk _ _ _ _) oGe.none
    · exact oGe.lr fun _ => oGe.cond (oGe.callG hc hk) oGe.none
  case invokestatic =>
    refine oGe.p4 fun y n rk c hs => ?_
    split
    · exact oGe.s2i fun _ _ _ => oGe.cond (hk _ _ _ _) oGe.none
    · exact oGe.s2i fun _ _ _ => oGe.cond (hk _ _ _ _) oGe.none
    · exact oGe.s1i fun _ _ => oGe.cond (hk _ _ _ _) oGe.none
    · exact oGe.s2i fun _ _ _ => oGe.s1r fun _ _ => oGe.s1i fun _ _ => oGe.s1r fun _ _ => oGe.cond (up sLe.rf) oGe.none
    · exact oGe.callG hc hk
theorem oGe.exec {cl : CL} (hc : ∀ y a σ, oGe σ (cl y a σ)) (M : Nat → DI) : ∀ N i ls st σ, oGe σ (exec cl M N i ls st σ)
  | 0, _, _, _, _ => oGe.none
  | N + 1, i, ls, st, σ => oGe.step hc (fun i ls st σ => oGe.exec hc M N i ls st σ) (M i) i ls st σ
theorem oGe.run (P : PG) (N : Nat) : ∀ d y a σ, oGe σ (run P N d y a σ)
  | 0, _, _, _ => oGe.none
  | d + 1, _, _, _ => oGe.exec (oGe.run P N d) _ _ _ _ _ _
