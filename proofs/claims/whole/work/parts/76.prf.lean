/-! THE LAW'S TEXT, purely: by places -/
abbrev PRes := Except Int (Int × List Int)
def FW : List (List Int) := [W_who, W_hoop, W_from, W_height, W_pace, W_skill, W_throws]
def SW : List (List Int) := [W_far, W_short, W_right, W_left, W_spread, W_strict]
def kwI (T : Int → Int) (e q : Int) : List (List Int) → Int → Int
  | [], _ => -1
  | l :: ls, i => if hasB T e q l then i else kwI T e q ls (i + 1)
def pFig (T : Int → Int) (e lo hi p : Int) : Except Int (Int × Int) :=
  let q := sk T e p
  let r := dg T e q
  if r.1 = q ∨ 3 < r.1 - q ∨ r.2 < lo ∨ hi < r.2 then .error q else .ok r
def isD (T : Int → Int) (e q : Int) : Bool := decide (q < e) && (decide (48 ≤ T q) && decide (T q ≤ 57))
def pPart (T : Int → Int) (e p : Int) : PRes :=
  let q := sk T e p
  if isD T e q then (match pFig T e 0 999 q with | .ok r => .ok (r.1, [r.2]) | .error f => .error f)
  else if kwI T e q FW 0 = -1 then .error q else .ok (lw T e q, [1024 + kwI T e q FW 0])
def sumN (T : Int → Int) (e : Int) : Nat → Int → List Int → PRes
  | 0, p, ss => .ok (sk T e p, ss)
  | n + 1, p, ss => if sgB T e (sk T e p) 43 then (match pPart T e (sk T e p + 1) with | .ok r => sumN T e n r.1 (ss ++ (r.2 ++ [2048])) | .error f => .error f) else .ok (sk T e p, ss)
def pSum (T : Int → Int) (e p : Int) : PRes := match pPart T e p with | .ok r => sumN T e (e - r.1).toNat r.1 r.2 | .error f => .error f
def pPlain (T : Int → Int) (e p : Int) : PRes :=
  let q := sk T e p
  if hasB T e q W_wet then .ok (lw T e q, [1024 + 7])
  else match pSum T e q with
    | .error f => .error f
    | .ok r =>
      let g := sk T e r.1
      if sgB T e g 60 then (match pSum T e (g + 1) with | .ok t => .ok (t.1, r.2 ++ (t.2 ++ [3072])) | .error f => .error f)
      else if sgB T e g 62 then (match pSum T e (g + 1) with | .ok t => .ok (t.1, r.2 ++ (t.2 ++ [4096])) | .error f => .error f)
      else .error g
def everyN (A : Int → PRes) (T : Int → Int) (e : Int) : Nat → Int → List Int → PRes
  | 0, p, ss => .ok (sk T e p, ss)
  | n + 1, p, ss => if hasB T e (sk T e p) W_and then (match A (lw T e (sk T e p)) with | .ok r => everyN A T e n r.1 (ss ++ (r.2 ++ [6144])) | .error f => .error f) else .ok (sk T e p, ss)
def pEvery (A : Int → PRes) (T : Int → Int) (e p : Int) : PRes := match A p with | .ok r => everyN A T e (e - r.1).toNat r.1 r.2 | .error f => .error f
def someN (A : Int → PRes) (T : Int → Int) (e : Int) : Nat → Int → List Int → PRes
  | 0, p, ss => .ok (sk T e p, ss)
  | n + 1, p, ss => if hasB T e (sk T e p) W_or then (match pEvery A T e (lw T e (sk T e p)) with | .ok r => someN A T e n r.1 (ss ++ (r.2 ++ [7168])) | .error f => .error f) else .ok (sk T e p, ss)
def pSome (A : Int → PRes) (T : Int → Int) (e p : Int) : PRes := match pEvery A T e p with | .ok r => someN A T e (e - r.1).toNat r.1 r.2 | .error f => .error f
def pAtom (T : Int → Int) (e : Int) : Nat → Int → PRes
  | 0, p => let q := sk T e p; if hasB T e q W_not || sgB T e q 40 then .error q else pPlain T e q
  | b + 1, p =>
    let q := sk T e p
    if hasB T e q W_not then (match pAtom T e b (lw T e q) with | .ok r => .ok (r.1, r.2 ++ [5120]) | .error f => .error f)
    else if sgB T e q 40 then (match pSome (pAtom T e b) T e (q + 1) with
      | .ok r => if sgB T e (sk T e r.1) 41 then .ok (sk T e r.1 + 1, r.2) else .error (sk T e r.1)
      | .error f => .error f)
    else pPlain T e q
def pIf (T : Int → Int) (e p : Int) : PRes :=
  let q := sk T e p
  if hasB T e q W_if then pSome (pAtom T e 6) T e (lw T e q) else .ok (q, [1])
def pLine (T : Int → Int) (e p : Int) : PRes :=
  let q := sk T e p
  let k := kwI T e q SW 0
  if k = -1 then .error q
  else match pFig T e 0 (if k < 4 then 60 else 9) (lw T e q) with
    | .error f => .error f
    | .ok r => match pIf T e r.1 with
      | .error f => .error f
      | .ok t => .ok (t.1, t.2 ++ [8192 + 64 * k + r.2])
def linesN (T : Int → Int) (e : Int) : Nat → Int → Int → List Int → Except Int (Int × List Int)
  | 0, _, p, _ => .error (sk T e p)
  | n + 1, c, p, ss => match pLine T e p with
    | .error f => .error f
    | .ok r => let g := sk T e r.1; if g = e then .ok (c + 1, ss ++ r.2) else if T g = 59 then linesN T e n (c + 1) (g + 1) (ss ++ r.2) else .error g
def pLaw (T : Int → Int) (e : Int) : Except Int (Int × List Int) := if sk T e 0 = e then .ok (0, []) else linesN T e 12 0 0 []
theorem skN_0 (T : Int → Int) : ∀ (n m : Nat) (p : Int), (∀ k, p ≤ k → k < skN T p n → T k = 32) ∧ (skN T p n < p + n → T (skN T p n) ≠ 32) 
  | 0, m, p => ⟨fun k h1 h2 => by unfold skN at h2; omega, fun h => by unfold skN at h; omega⟩
  | n + 1, m, p => by
    unfold skN
    by_cases c : T p = 32
    · simp only [c, if_true]
      have h := skN_0 T n m (p + 1)
      refine ⟨fun k h1 h2 => ?_, fun h1 => h.2 (by omega)⟩
      by_cases c2 : k = p
      · rw [c2]; exact c
      · exact h.1 k (by omega) h2
    · rw [if_neg c]
      exact ⟨fun k h1 h2 => by omega, fun _ => c⟩
theorem sk_sk (T : Int → Int) (e p : Int) : sk T e (sk T e p) = sk T e p := by
  have h := skN_0 T (e - p).toNat 0 p
  have hr := skN_r T (e - p).toNat p
  have e1 : sk T e p = skN T p (e - p).toNat := rfl
  by_cases c : sk T e p < e
  · have h2 := h.2 (by omega)
    rw [← e1] at h2
    have h3 : (e - sk T e p).toNat = ((e - sk T e p).toNat - 1) + 1 := by omega
    show skN T (sk T e p) (e - sk T e p).toNat = sk T e p
    rw [h3]
    unfold skN
    rw [if_neg h2]
  · show skN T (sk T e p) (e - sk T e p).toNat = sk T e p
    have h3 : (e - sk T e p).toNat = 0 := by omega
    rw [h3]
    rfl
theorem sk_id (T : Int → Int) {e p : Int} (h : e ≤ p) : sk T e p = p := by
  have h3 : (e - p).toNat = 0 := by omega
  show skN T p (e - p).toNat = p
  rw [h3]
  rfl
theorem has_lt {T : Int → Int} {e p : Int} {ws : List Int} (h : hasB T e p ws = true) (hw : ws ≠ []) : p < e ∧ p < lw T e p ∧ lw T e p ≤ e ∧ lw T e p = p + ws.length := by
  unfold hasB at h
  rw [Bool.and_eq_true] at h
  have h1 : lw T e p - p = ws.length := of_decide_eq_true h.1
  have hl := lw_r T e p
  have h2 : 0 < ws.length := List.length_pos_iff.mpr hw
  have : p < e := by
    refine Int.not_le.mp fun c => ?_
    have h3 : (e - p).toNat = 0 := by omega
    have h4 : lw T e p = p := by show lwN T p (e - p).toNat = p; rw [h3]; rfl
    omega
  omega
theorem dg_lt {T : Int → Int} {e p lo hi : Int} {r : Int × Int} (h : pFig T e lo hi p = .ok r) : sk T e p < r.1 ∧ (sk T e p ≤ e → r.1 ≤ e) ∧ lo ≤ r.2 ∧ r.2 ≤ hi ∧ sk T e p < e := by
  unfold pFig at h
  dsimp only at h
  have hv := dg_v T e (sk T e p)
  split at h
  · exact nomatch h
  · injection h with h
    subst h
    refine ⟨by omega, hv.2.1, by omega, by omega, ?_⟩
    refine Int.not_le.mp fun c => ?_
    have h3 : (e - sk T e p).toNat = 0 := by omega
    have h4 : (dg T e (sk T e p)).1 = sk T e p := by show (dgN T _ _ 0 (e - sk T e p).toNat).1 = _; rw [h3]; rfl
    omega
def flt {α : Type} : Except Int α → Int
  | .ok _ => -1
  | .error f => f
theorem flt_o {α : Type} {x : α} : flt (.ok x) = -1 := rfl
theorem flt_e {α : Type} {f : Int} : flt (.error f : Except Int α) = f := rfl
theorem pFig_e {T : Int → Int} {e lo hi p f : Int} (h : pFig T e lo hi p = .error f) : f = sk T e p := by
  unfold pFig at h
  dsimp only at h
  split at h
  · injection h with h; exact h.symm
  · exact nomatch h
theorem pFig_o {T : Int → Int} {e lo hi p : Int} {r : Int × Int} (h : pFig T e lo hi p = .ok r) : dg T e (sk T e p) = r := by
  unfold pFig at h
  dsimp only at h
  split at h
  · exact nomatch h
  · injection h
/-- the facts as the reference keeps them -/
def FctR (I : Nat → Nat → Int32) (F : Int → Int32) : Prop := (∀ k, 0 ≤ k → k < 7 → I 293 (ix k) = F k) ∧ I 287 15 = F 7 ∧ (F 7 = w 0 ∨ F 7 = w 1)
def EvV (F : Int → Int32) (ss : List Int) (v : Int32) : Prop := ∀ x, exL F ss x = (v :: x.1, x.2)
theorem EvV_1 {F : Int → Int32} {n : Int} (h : 0 ≤ n ∧ n < 1024) : EvV F [n] (w n) := fun x => by
  show ex1 F x n = _
  unfold ex1
  rw [if_pos (by omega), show n % 1024 = n by omega]
theorem EvV_F {F : Int → Int32} {n : Int} (h : 0 ≤ n ∧ n < 1024) : EvV F [1024 + n] (F n) := fun x => by
  show ex1 F x (1024 + n) = _
  unfold ex1
  rw [if_neg (by omega), if_pos (by omega), show (1024 + n) % 1024 = n by omega]
theorem EvV_2 {F : Int → Int32} {ss tt : List Int} {a b : Int32} {op : Int} (h : EvV F ss a) (h2 : EvV F tt b) (ho : op = 2 ∨ op = 3 ∨ op = 4 ∨ op = 6 ∨ op = 7) : EvV F (ss ++ (tt ++ [1024 * op])) (jn op a b) := fun x => by
  have e : exL F (ss ++ (tt ++ [1024 * op])) x = ex1 F (exL F tt (exL F ss x)) (1024 * op) := by
    unfold exL
    rw [List.foldl_append, List.foldl_append]
    rfl
  rw [e, h, h2]
  unfold ex1
  rw [if_neg (by omega), if_neg (by omega), if_neg (by omega), if_neg (by omega), show 1024 * op / 1024 = op by omega]
  rfl
theorem EvV_n {F : Int → Int32} {ss : List Int} {a : Int32} (h : EvV F ss a) : EvV F (ss ++ [5120]) (w 1 - a) := fun x => by
  have e : exL F (ss ++ [5120]) x = ex1 F (exL F ss x) 5120 := by
    unfold exL
    rw [List.foldl_append]
    rfl
  rw [e, h]
  rfl
/-- what a reading gives: the value at the new place, or the fault -/
def GoV (F : Int → Int32) (σ : Int → Int → Int → HS) (dp : Int) (res : Option Res) (r : PRes) (B : Int32 → Prop) : Prop :=
  match r with
  | .ok t => ∃ v, res = some (.inl (some (.int v)), σ t.1 (-1) dp) ∧ EvV F t.2 v ∧ B v
  | .error f => ∃ v a b, res = some (.inl (some (.int v)), σ a f b) ∧ ((0 ≤ f ∧ f ≤ 400) ∧ 0 ≤ a ∧ a ≤ 407 - dp) ∧ B v
