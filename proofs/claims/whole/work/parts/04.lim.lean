/-! LIMITS OF FUEL: what a run gives with enough of it; a step is continuous -/
def oLe (a b : Option Res) : Prop := ∀ r, a = some r → b = some r
theorem oLe.rf {a : Option Res} : oLe a a := fun _ h => h
theorem oLe.tr {a b c : Option Res} (h : oLe a b) (k : oLe b c) : oLe a c := fun r q => k r (h r q)
def oMon (F : Nat → Option Res) : Prop := ∀ a b, a ≤ b → oLe (F a) (F b)

noncomputable def oLim (F : Nat → Option Res) : Option Res := @dite _ (∃ N, (F N).isSome = true) (Classical.propDecidable _) (fun h => F (Classical.choose h)) (fun _ => none)
theorem oLim_some {F : Nat → Option Res} (hm : oMon F) {r : Res} : oLim F = some r ↔ ∃ N, F N = some r := by
  unfold oLim
  constructor
  · intro h
    split at h
    · exact ⟨_, h⟩
    · cases h
  · intro ⟨N, h⟩
    have hx : ∃ N, (F N).isSome = true := ⟨N, by rw [h]; rfl⟩
    rw [dif_pos hx]
    have h2 := Classical.choose_spec hx
    obtain ⟨r2, h3⟩ := Option.isSome_iff_exists.mp h2
    have h4 := hm _ _ (Nat.le_max_left N (Classical.choose hx)) r h
    have h5 := hm _ _ (Nat.le_max_right N (Classical.choose hx)) r2 h3
    rw [h4] at h5
    cases h5
    exact h3
theorem oLim_eq {F : Nat → Option Res} (hm : oMon F) {x : Option Res} (h1 : ∀ r, x = some r → ∃ N, F N = some r) (h2 : ∀ N r, F N = some r → x = some r) : oLim F = x := by
  cases hx : x with
  | some r => exact (oLim_some hm).mpr (h1 r hx)
  | none =>
    cases hl : oLim F with
    | none => rfl
    | some r =>
      obtain ⟨N, h⟩ := (oLim_some hm).mp hl
      have := h2 N r h
      rw [hx] at this
      cases this
def clMon (cl : Nat → CL) : Prop := ∀ y a σ, oMon (fun N => cl N y a σ)
def kMon (k : Nat → KK) : Prop := ∀ i ls st σ, oMon (fun N => k N i ls st σ)
noncomputable def clLim (cl : Nat → CL) : CL := fun y a σ => oLim (fun N => cl N y a σ)
noncomputable def kLim (k : Nat → KK) : KK := fun i ls st σ => oLim (fun N => k N i ls st σ)
def clLe (a b : CL) : Prop := ∀ y v σ, oLe (a y v σ) (b y v σ)
def kLe (a b : KK) : Prop := ∀ i ls st σ, oLe (a i ls st σ) (b i ls st σ)
/-- monotone, and every answer at the limits is one at some stage -/
def Ctn (F : CL → KK → Option Res) : Prop := (∀ a b c d, clLe a b → kLe c d → oLe (F a c) (F b d)) ∧ ∀ (cl : Nat → CL) (k : Nat → KK), clMon cl → kMon k → ∀ r, F (clLim cl) (kLim k) = some r → ∃ N, F (cl N) (k N) = some r
theorem ctn_c {x : Option Res} : Ctn (fun _ _ => x) := ⟨fun _ _ _ _ _ _ => oLe.rf, fun _ _ _ _ _ h => ⟨0, h⟩⟩
theorem ctn_k {i : Nat} {ls st : List Value} {σ : HS} : Ctn (fun _ k => k i ls st σ) := ⟨fun _ _ _ _ _ h => h _ _ _ _, fun _ _ _ hk _ h => (oLim_some (hk _ _ _ _)).mp h⟩
theorem ctn_cl {y : Nat} {a : List Value} {σ : HS} : Ctn (fun cl _ => cl y a σ) := ⟨fun _ _ _ _ h _ => h _ _ _, fun _ _ hc _ _ h => (oLim_some (hc _ _ _)).mp h⟩
theorem ctn_cond {b : Bool} {F G : CL → KK → Option Res} (hF : Ctn F) (hG : Ctn G) : Ctn (fun cl k => cond b (F cl k) (G cl k)) := by cases b <;> assumption
theorem ctn_li {v : Value} {F : Int32 → CL → KK → Option Res} (h : ∀ x, Ctn (F x)) : Ctn (fun cl k => li v fun x => F x cl k) := by cases v <;> first | exact h _ | exact ctn_c
theorem ctn_ll {v : Value} {F : Int64 → CL → KK → Option Res} (h : ∀ x, Ctn (F x)) : Ctn (fun cl k => ll v fun x => F x cl k) := by cases v <;> first | exact h _ | exact ctn_c
theorem ctn_lr {v : Value} {F : Nat → CL → KK → Option Res} (h : ∀ x, Ctn (F x)) : Ctn (fun cl k => lr v fun x => F x cl k) := by cases v <;> first | exact h _ | exact ctn_c
theorem ctn_s1 {st : List Value} {F : Value → List Value → CL → KK → Option Res} (h : ∀ x r, Ctn (F x r)) : Ctn (fun cl k => s1 st fun x r => F x r cl k) := by cases st <;> first | exact h _ _ | exact ctn_c
theorem ctn_s1i {st : List Value} {F : Int32 → List Value → CL → KK → Option Res} (h : ∀ x r, Ctn (F x r)) : Ctn (fun cl k => s1i st fun x r => F x r cl k) := ctn_s1 fun _ _ => ctn_li fun _ => h _ _
theorem ctn_s1l {st : List Value} {F : Int64 → List Value → CL → KK → Option Res} (h : ∀ x r, Ctn (F x r)) : Ctn (fun cl k => s1l st fun x r => F x r cl k) := ctn_s1 fun _ _ => ctn_ll fun _ => h _ _
theorem ctn_s1r {st : List Value} {F : Nat → List Value → CL → KK → Option Res} (h : ∀ x r, Ctn (F x r)) : Ctn (fun cl k => s1r st fun x r => F x r cl k) := ctn_s1 fun _ _ => ctn_lr fun _ => h _ _
theorem ctn_s2i {st : List Value} {F : Int32 → Int32 → List Value → CL → KK → Option Res} (h : ∀ x y r, Ctn (F x y r)) : Ctn (fun cl k => s2i st fun x y r => F x y r cl k) := ctn_s1i fun _ _ => ctn_s1i fun _ _ => h _ _ _
theorem ctn_s2l {st : List Value} {F : Int64 → Int64 → List Value → CL → KK → Option Res} (h : ∀ x y r, Ctn (F x y r)) : Ctn (fun cl k => s2l st fun x y r => F x y r cl k) := ctn_s1l fun _ _ => ctn_s1l fun _ _ => h _ _ _
theorem ctn_s2r {st : List Value} {F : Nat → Nat → List Value → CL → KK → Option Res} (h : ∀ x y r, Ctn (F x y r)) : Ctn (fun cl k => s2r st fun x y r => F x y r cl k) := ctn_s1r fun _ _ => ctn_s1r fun _ _ => h _ _ _
theorem ctn_s0 {st : List Value} {F : CL → KK → Option Res} (h : Ctn F) : Ctn (fun cl k => s0 st (F cl k)) := by cases st <;> first | exact h | exact ctn_c
theorem ctn_pcnd {ps : List Nat} {F : Nat → List Nat → CL → KK → Option Res} (h : ∀ x r, Ctn (F x r)) : Ctn (fun cl k => pcnd ps fun x r => F x r cl k) := by cases ps <;> first | exact h _ _ | exact ctn_c
theorem ctn_p4 {ps : List Nat} {F : Nat → Nat → Nat → Nat → List Nat → CL → KK → Option Res} (h : ∀ a b c d r, Ctn (F a b c d r)) : Ctn (fun cl k => p4 ps fun a b c d r => F a b c d r cl k) := by
  rcases ps with _ | ⟨a, _ | ⟨b, _ | ⟨c, _ | ⟨d, r⟩⟩⟩⟩ <;> first | exact h _ _ _ _ _ | exact ctn_c
theorem ctn_tsw {x : Int32} {d : Nat} {F : Nat → CL → KK → Option Res} (h : ∀ t, Ctn (F t)) : ∀ (ts : List Nat) (v : Int32), Ctn (fun cl k => tsw ts v x d fun t => F t cl k)
  | [], _ => h _
  | _ :: ts, v => ctn_cond (h _) (ctn_tsw h ts (v + 1))
theorem ctn_lsw {x : Int32} {d : Nat} {F : Nat → CL → KK → Option Res} (h : ∀ t, Ctn (F t)) : ∀ (ts : List Nat), Ctn (fun cl k => lsw ts x d fun t => F t cl k)
  | [] => h _
  | [_] => h _
  | _ :: _ :: ts => ctn_cond (h _) (ctn_lsw h ts)
theorem ctn_hnd {E : Nat} {σ : HS} {ls : List Value} : ∀ (hs : List Nat), Ctn (fun _ k => hnd hs E σ k ls)
  | [] => ctn_c
  | [_] => ctn_c
  | [_, _] => ctn_c
  | _ :: _ :: _ :: hs => ctn_cond (ctn_cond ctn_k ctn_c) (ctn_hnd hs)
theorem ctn_seq {B : Option Res → CL → KK → Option Res} {X : CL → KK → Option Res} (hn : ∀ cl k, B none cl k = none) (key : ∀ x, Ctn (B x)) (hX : Ctn X) : Ctn (fun cl k => B (X cl k) cl k) := by
  constructor
  · intro a b c d hab hcd r h
    dsimp only at h ⊢
    cases hx : X a c with
    | none =>
      rw [hx, hn] at h
      cases h
    | some q =>
      rw [hX.1 a b c d hab hcd q hx]
      rw [hx] at h
      exact (key (some q)).1 a b c d hab hcd r h
  · intro cl k hc hk r h
    dsimp only at h ⊢
    cases hx : X (clLim cl) (kLim k) with
    | none =>
      rw [hx, hn] at h
      cases h
    | some q =>
      rw [hx] at h
      obtain ⟨N1, h1⟩ := hX.2 cl k hc hk q hx
      obtain ⟨N2, h2⟩ := (key (some q)).2 cl k hc hk r h
      have c1 : ∀ N, N ≤ max N1 N2 → clLe (cl N) (cl (max N1 N2)) := fun N hN y a σ => hc y a σ _ _ hN
      have k1 : ∀ N, N ≤ max N1 N2 → kLe (k N) (k (max N1 N2)) := fun N hN i ls st σ => hk i ls st σ _ _ hN
      refine ⟨max N1 N2, ?_⟩
      rw [hX.1 _ _ _ _ (c1 N1 (Nat.le_max_left _ _)) (k1 N1 (Nat.le_max_left _ _)) q h1]
      exact (key (some q)).1 _ _ _ _ (c1 N2 (Nat.le_max_right _ _)) (k1 N2 (Nat.le_max_right _ _)) r h2
theorem ctn_bnd0 {X : CL → KK → Option Res} {F : HS → CL → KK → Option Res} {H : Nat → HS → CL → KK → Option Res} (hX : Ctn X) (hF : ∀ σ, Ctn (F σ)) (hH : ∀ E σ, Ctn (H E σ)) : Ctn (fun cl k => bnd0 (X cl k) (fun σ => F σ cl k) (fun E σ => H E σ cl k)) := by
  refine ctn_seq (B := fun x cl k => bnd0 x (fun σ => F σ cl k) (fun E σ => H E σ cl k)) (fun _ _ => rfl) (fun x => ?_) hX
  rcases x with _ | ⟨⟨_ | v⟩ | E, σ⟩
  · exact ctn_c
  · exact hF _
  · exact ctn_c
  · exact hH _ _
theorem ctn_bnd1 {X : CL → KK → Option Res} {F : Int32 → HS → CL → KK → Option Res} {H : Nat → HS → CL → KK → Option Res} (hX : Ctn X) (hF : ∀ x σ, Ctn (F x σ)) (hH : ∀ E σ, Ctn (H E σ)) : Ctn (fun cl k => bnd1 (X cl k) (fun x σ => F x σ cl k) (fun E σ => H E σ cl k)) := by
  refine ctn_seq (B := fun x cl k => bnd1 x (fun x σ => F x σ cl k) (fun E σ => H E σ cl k)) (fun _ _ => rfl) (fun x => ?_) hX
  rcases x with _ | ⟨⟨_ | v⟩ | E, σ⟩
  · exact ctn_c
  · exact ctn_c
  · exact ctn_li fun _ => hF _ _
  · exact hH _ _
theorem ctn_bnd2 {X : CL → KK → Option Res} {F : Nat → HS → CL → KK → Option Res} {H : Nat → HS → CL → KK → Option Res} (hX : Ctn X) (hF : ∀ x σ, Ctn (F x σ)) (hH : ∀ E σ, Ctn (H E σ)) : Ctn (fun cl k => bnd2 (X cl k) (fun x σ => F x σ cl k) (fun E σ => H E σ cl k)) := by
  refine ctn_seq (B := fun x cl k => bnd2 x (fun x σ => F x σ cl k) (fun E σ => H E σ cl k)) (fun _ _ => rfl) (fun x => ?_) hX
  rcases x with _ | ⟨⟨_ | v⟩ | E, σ⟩
  · exact ctn_c
  · exact ctn_c
  · exact ctn_lr fun _ => hF _ _
  · exact hH _ _
theorem ctn_callG {y n rk : Nat} {hs : List Nat} {i : Nat} {ls st : List Value} {σ : HS} : Ctn (fun cl k => callG cl k y n rk hs i ls st σ) := by
  refine ctn_cond ?_ ctn_c
  split
  · exact ctn_bnd0 ctn_cl (fun _ => ctn_k) (fun _ _ => ctn_hnd _)
  · exact ctn_bnd1 ctn_cl (fun _ _ => ctn_k) (fun _ _ => ctn_hnd _)
  · exact ctn_bnd2 ctn_cl (fun _ _ => ctn_k) (fun _ _ => ctn_hnd _)
set_option maxHeartbeats 4000000 in
theorem ctn_step (di : DI) (i : Nat) (ls st : List Value) (σ : HS) : Ctn (fun cl k => stepG cl k di i ls st σ) := by
  obtain ⟨pc, ins, ps, c0⟩ := di
  cases ins <;> first
    | exact ctn_c
    | exact ctn_k
    | exact ctn_li fun _ => ctn_k
    | exact ctn_ll fun _ => ctn_k
    | exact ctn_lr fun _ => ctn_k
    | exact ctn_s2i fun _ _ _ => ctn_k
    | exact ctn_s2l fun _ _ _ => ctn_k
    | exact ctn_s1i fun _ _ => ctn_k
    | exact ctn_li fun _ => ctn_cond ctn_k ctn_c
    | exact ctn_s1r fun _ _ => ctn_cond ctn_k ctn_c
    | exact ctn_s1i fun _ _ => ctn_cond ctn_k ctn_c
    | exact ctn_s1l fun _ _ => ctn_cond ctn_k ctn_c
    | exact ctn_s2i fun _ _ _ => ctn_cond ctn_k ctn_c
    | exact ctn_s1 fun _ _ => ctn_cond ctn_k ctn_c
    | exact ctn_s1 fun _ _ => ctn_s1 fun _ _ => ctn_cond ctn_k ctn_c
    | exact ctn_pcnd fun _ _ => ctn_k
    | exact ctn_pcnd fun _ _ => ctn_s1i fun _ _ => ctn_cond ctn_k ctn_k
    | exact ctn_pcnd fun _ _ => ctn_s2i fun _ _ _ => ctn_cond ctn_k ctn_k
    | exact ctn_pcnd fun _ _ => ctn_s1r fun _ _ => ctn_cond ctn_k ctn_k
    | exact ctn_pcnd fun _ _ => ctn_s1r fun _ _ => ctn_cond ctn_k ctn_c
    | exact ctn_pcnd fun _ _ => ctn_s1i fun _ _ => ctn_cond ctn_k ctn_c
    | exact ctn_pcnd fun _ _ => ctn_s1i fun _ _ => ctn_s1r fun _ _ => ctn_cond ctn_k ctn_c
    | exact ctn_s1i fun _ _ => ctn_s1r fun _ _ => ctn_cond ctn_k ctn_c
    | exact ctn_s1i fun _ _ => ctn_s1i fun _ _ => ctn_s1r fun _ _ => ctn_cond ctn_k ctn_c
    | exact ctn_s1l fun _ _ => ctn_s1i fun _ _ => ctn_s1r fun _ _ => ctn_cond ctn_k ctn_c
    | exact ctn_s1r fun _ _ => ctn_s1i fun _ _ => ctn_s1r fun _ _ => ctn_cond ctn_k ctn_c
    | exact ctn_s1r fun _ _ => ctn_s0 ctn_c
    | exact ctn_s1i fun _ _ => ctn_s0 ctn_c
    | exact ctn_s0 ctn_c
    | exact ctn_pcnd fun _ _ => ctn_s1i fun _ _ => ctn_tsw (fun _ => ctn_k) _ _
    | exact ctn_pcnd fun _ _ => ctn_s1i fun _ _ => ctn_lsw (fun _ => ctn_k) _
    | exact ctn_p4 fun _ _ _ _ _ => ctn_s1r fun _ _ => ctn_cond ctn_k ctn_c
    | skip
  case ldc => cases ps <;> exact ctn_k
  case if_acmp c o => exact ctn_pcnd fun _ _ => ctn_s2r fun _ _ _ => ctn_cond (by cases c <;> exact ctn_cond ctn_k ctn_k) ctn_c
  case new => exact ctn_pcnd fun _ ps => by rcases ps with _ | ⟨a, _ | ⟨b, r⟩⟩ <;> first | exact ctn_k | exact ctn_c
  case putfield =>
    refine ctn_p4 fun _ _ t _ _ => ?_
    rcases t with _ | _ | _ | t
    · exact ctn_s1i fun _ _ => ctn_s1r fun _ _ => ctn_cond ctn_k ctn_c
    · exact ctn_s1i fun _ _ => ctn_s1r fun _ _ => ctn_cond ctn_k ctn_c
    · exact ctn_s1r fun _ _ => ctn_s1r fun _ _ => ctn_cond ctn_k ctn_c
    · exact ctn_s1i fun _ _ => ctn_s1r fun _ _ => ctn_cond ctn_k ctn_c
  case invokevirtual =>
    refine ctn_p4 fun y n rk c hs => ?_
    split
    · exact ctn_s1r fun _ _ => ctn_cond ctn_k ctn_c
    · exact ctn_s1i fun _ _ => ctn_s1r fun _ _ => ctn_cond ctn_k ctn_c
    · exact ctn_s1r fun _ _ => ctn_cond ctn_k ctn_c
    · exact ctn_lr fun _ => ctn_cond ctn_callG ctn_c
  case invokespecial =>
    refine ctn_p4 fun y n rk c hs => ?_
    split
    · exact ctn_s1r fun _ _ => ctn_cond ctn_k ctn_c
    · exact ctn_lr fun _ => ctn_cond ctn_callG ctn_c
  case invokestatic =>
    refine ctn_p4 fun y n rk c hs => ?_
    split
    · exact ctn_s2i fun _ _ _ => ctn_cond ctn_k ctn_c
    · exact ctn_s2i fun _ _ _ => ctn_cond ctn_k ctn_c
    · exact ctn_s1i fun _ _ => ctn_cond ctn_k ctn_c
    · exact ctn_s2i fun _ _ _ => ctn_s1r fun _ _ => ctn_s1i fun _ _ => ctn_s1r fun _ _ => ctn_cond ctn_k ctn_c
    · exact ctn_callG
theorem exec_mon {M : Nat → DI} : ∀ (N N' : Nat) (a b : CL), N ≤ N' → clLe a b → kLe (exec a M N) (exec b M N')
  | 0, _, _, _, _, _ => fun _ _ _ _ _ h => by cases h
  | N + 1, 0, _, _, h, _ => by omega
  | N + 1, N' + 1, a, b, h, hab => fun i ls st σ => (ctn_step (M i) i ls st σ).1 _ _ _ _ hab (exec_mon N N' a b (by omega) hab)
theorem run_mon {P : PG} {N N' : Nat} (h : N ≤ N') : ∀ d, clLe (run P N d) (run P N' d)
  | 0 => fun _ _ _ _ h => by cases h
  | d + 1 => fun _ _ _ => exec_mon N N' _ _ h (run_mon h d) _ _ _ _
/-- what a call of y gives at depth d -/
noncomputable def ev (P : PG) (d : Nat) : CL := clLim (fun N => run P N d)
/-- what the code M gives from the place i on, its callees at depth d -/
noncomputable def atv (P : PG) (d : Nat) (M : Nat → DI) : KK := kLim (fun N => exec (run P N d) M N)
theorem run_fam (P : PG) (d : Nat) : clMon (fun N => run P N d) := fun y a σ _ _ h => run_mon h d y a σ
theorem exec_fam (P : PG) (d : Nat) (M : Nat → DI) : kMon (fun N => exec (run P N d) M N) := fun i ls st σ _ _ h => exec_mon _ _ _ _ h (run_mon h d) i ls st σ
theorem ev_iff {P : PG} {d y : Nat} {a : List Value} {σ : HS} {r : Res} : ev P d y a σ = some r ↔ ∃ N, run P N d y a σ = some r := oLim_some (run_fam P d y a σ)
theorem ev_succ (P : PG) (d y : Nat) (a : List Value) (σ : HS) : ev P (d + 1) y a σ = atv P d (P y).1 0 (a ++ List.replicate ((P y).2 - a.length) (.retAddr 0)) [] σ := rfl
theorem atv_step (P : PG) (d : Nat) (M : Nat → DI) (i : Nat) (ls st : List Value) (σ : HS) : atv P d M i ls st σ = stepG (ev P d) (atv P d M) (M i) i ls st σ := by
  refine oLim_eq (exec_fam P d M i ls st σ) (fun r h => ?_) (fun N r h => ?_)
  · obtain ⟨N, h1⟩ := (ctn_step (M i) i ls st σ).2 _ _ (run_fam P d) (exec_fam P d M) r h
    refine ⟨N + 1, ?_⟩
    exact (ctn_step (M i) i ls st σ).1 _ _ _ _ (run_mon (Nat.le_succ N) d) (exec_mon N N _ _ (Nat.le_refl N) (run_mon (Nat.le_succ N) d)) r h1
  · have hl : clLe (run P N d) (ev P d) := fun y a σ r h => ev_iff.mpr ⟨N, h⟩
    cases N with
    | zero => cases h
    | succ N => exact (ctn_step (M i) i ls st σ).1 _ _ _ _ hl (fun i ls st σ r h => (oLim_some (exec_fam P d M i ls st σ)).mpr ⟨N + 1, exec_mon N (N + 1) _ _ (Nat.le_succ N) (fun _ _ _ => oLe.rf) i ls st σ r h⟩) r h
def isIn (cs : List Nat) (i : Nat) : Bool := match cs with
  | [] => false
  | c :: cs => cond (Nat.beq c i) true (isIn cs i)
/-- up to n steps, stopping at the places cs -/
def xs (cl : CL) (kt : KK) (M : Nat → DI) (cs : List Nat) : Nat → KK
  | 0 => kt
  | n + 1 => fun i ls st σ => cond (isIn cs i) (kt i ls st σ) (stepG cl (xs cl kt M cs n) (M i) i ls st σ)
theorem xs_eq (P : PG) (d : Nat) (M : Nat → DI) (cs : List Nat) : ∀ n, xs (ev P d) (atv P d M) M cs n = atv P d M
  | 0 => rfl
  | n + 1 => by
    funext i ls st σ
    show cond (isIn cs i) _ (stepG _ (xs _ _ M cs n) _ _ _ _ _) = _
    rw [xs_eq P d M cs n]
    cases isIn cs i
    · exact (atv_step P d M i ls st σ).symm
    · rfl
theorem atv_xs (P : PG) (d : Nat) (M : Nat → DI) (cs : List Nat) (n : Nat) (i : Nat) (ls st : List Value) (σ : HS) : atv P d M i ls st σ = stepG (ev P d) (xs (ev P d) (atv P d M) M cs n) (M i) i ls st σ := by
  rw [xs_eq]
  exact atv_step P d M i ls st σ
