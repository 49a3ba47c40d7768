/-! THE ABSTRACT MACHINE: a heap of numbered objects (0 is null), typed slots; one step of bytecode over it as a function; its run with fuel; its limit -/
abbrev HS : Type := (Nat × Nat × Nat × (Nat → Nat) × (Nat → Nat) × (Nat → Nat → Nat)) × (Nat → Nat → Int32) × (Nat → Nat → Int64)
/-- next number, cells made, slots made, kinds, lengths, references, ints, longs -/
abbrev hN (σ : HS) : Nat := σ.1.1
abbrev hC (σ : HS) : Nat := σ.1.2.1
abbrev hW (σ : HS) : Nat := σ.1.2.2.1
abbrev hK (σ : HS) : Nat → Nat := σ.1.2.2.2.1
abbrev hL (σ : HS) : Nat → Nat := σ.1.2.2.2.2.1
abbrev hR (σ : HS) : Nat → Nat → Nat := σ.1.2.2.2.2.2
abbrev hI (σ : HS) : Nat → Nat → Int32 := σ.2.1
abbrev hJ (σ : HS) : Nat → Nat → Int64 := σ.2.2
def u2 {α : Type} (f : Nat → Nat → α) (o k : Nat) (v : α) : Nat → Nat → α := fun a b => if a = o ∧ b = k then v else f a b
def u1 {α : Type} (f : Nat → α) (o : Nat) (v : α) : Nat → α := fun a => if a = o then v else f a
abbrev sI (σ : HS) (o k : Nat) (v : Int32) : HS := (σ.1, u2 (hI σ) o k v, σ.2.2)
abbrev sJ (σ : HS) (o k : Nat) (v : Int64) : HS := (σ.1, σ.2.1, u2 (hJ σ) o k v)
abbrev sR (σ : HS) (o k : Nat) (v : Nat) : HS := ((hN σ, hC σ, hW σ, hK σ, hL σ, u2 (hR σ) o k v), σ.2)
/-- a new object: its kind, its length (of an array), its slots -/
abbrev hMk (σ : HS) (kind len sl : Nat) : HS := ((hN σ + 1, hC σ + 1, hW σ + sl, u1 (hK σ) (hN σ) kind, u1 (hL σ) (hN σ) len, u1 (hR σ) (hN σ) (fun _ => 0)), u1 (hI σ) (hN σ) (fun _ => 0), u1 (hJ σ) (hN σ) (fun _ => 0))
/-- a copy of an int array -/
abbrev hCl (σ : HS) (a : Nat) : HS := ((hN σ + 1, hC σ + 1, hW σ + hL σ a, u1 (hK σ) (hN σ) 20, u1 (hL σ) (hN σ) (hL σ a), u1 (hR σ) (hN σ) (fun _ => 0)), u1 (hI σ) (hN σ) (hI σ a), u1 (hJ σ) (hN σ) (fun _ => 0))
/-- room spent, nothing kept -/
abbrev hSp (σ : HS) (c w : Nat) : HS := ((hN σ, hC σ + c, hW σ + w, hK σ, hL σ, hR σ), σ.2)
abbrev Res : Type := (Option Value ⊕ Nat) × HS
abbrev DI : Type := Nat × Instr × List Nat × Int32
abbrev KK : Type := Nat → List Value → List Value → HS → Option Res
abbrev CL : Type := Nat → List Value → HS → Option Res
def lget (ls : List Value) (i : Nat) : Value := ls.getD i (.retAddr 0)
def lset (ls : List Value) (i : Nat) (v : Value) : List Value := ls.set i v
def notLong (v : Value) : Bool := match v with
  | .long _ => false
  | _ => true
def okst (ls : List Value) (i : Nat) : Bool := decide (i < ls.length) && (match i with
  | 0 => true
  | j + 1 => notLong (lget ls j))
def catS (st : List Value) : Nat := match st with
  | [] => 0
  | .long _ :: r => 2 + catS r
  | _ :: r => 1 + catS r
def allNL (st : List Value) : Bool := match st with
  | [] => true
  | v :: r => notLong v && allNL r
def inb (i : Int32) (n : Nat) : Bool := decide (0 ≤ i) && decide (i.toNatClampNeg < n)
def li (v : Value) (f : Int32 → Option Res) : Option Res := match v with
  | .int x => f x
  | _ => none
def ll (v : Value) (f : Int64 → Option Res) : Option Res := match v with
  | .long x => f x
  | _ => none
def lr (v : Value) (f : Nat → Option Res) : Option Res := match v with
  | .ref x => f x
  | _ => none
def s1 (st : List Value) (f : Value → List Value → Option Res) : Option Res := match st with
  | v :: r => f v r
  | _ => none
def s1i (st : List Value) (f : Int32 → List Value → Option Res) : Option Res := s1 st fun v r => li v fun x => f x r
def s1l (st : List Value) (f : Int64 → List Value → Option Res) : Option Res := s1 st fun v r => ll v fun x => f x r
def s1r (st : List Value) (f : Nat → List Value → Option Res) : Option Res := s1 st fun v r => lr v fun x => f x r
/-- of two, the lower one first -/
def s2i (st : List Value) (f : Int32 → Int32 → List Value → Option Res) : Option Res := s1i st fun y r => s1i r fun x r => f x y r
def s2l (st : List Value) (f : Int64 → Int64 → List Value → Option Res) : Option Res := s1l st fun y r => s1l r fun x r => f x y r
def s2r (st : List Value) (f : Nat → Nat → List Value → Option Res) : Option Res := s1r st fun y r => s1r r fun x r => f x y r
def s0 (st : List Value) (x : Option Res) : Option Res := match st with
  | [] => x
  | _ => none
def v1 (v : Value) : Bool := match v with
  | .int _ => true
  | .ref _ => true
  | _ => false
def lcmpv (x y : Int64) : Int32 := if x < y then -1 else if x = y then 0 else 1
def pcnd (ps : List Nat) (f : Nat → List Nat → Option Res) : Option Res := match ps with
  | p :: q => f p q
  | _ => none
def cnd0 (c : ClassFile.Cond) (x : Int32) : Bool := match c with
  | .eq => decide (x = 0)
  | .ne => !decide (x = 0)
  | .lt => decide (x < 0)
  | .ge => decide (0 ≤ x)
  | .gt => decide (0 < x)
  | .le => decide (x ≤ 0)
def cnd2 (c : ClassFile.Cond) (x y : Int32) : Bool := match c with
  | .eq => decide (x = y)
  | .ne => !decide (x = y)
  | .lt => decide (x < y)
  | .ge => decide (y ≤ x)
  | .gt => decide (y < x)
  | .le => decide (x ≤ y)
def tsw (ts : List Nat) (v x : Int32) (d : Nat) (f : Nat → Option Res) : Option Res := match ts with
  | [] => f d
  | t :: ts => cond (decide (x = v)) (f t) (tsw ts (v + 1) x d f)
/-- keys and targets in turn -/
def lsw (ts : List Nat) (x : Int32) (d : Nat) (f : Nat → Option Res) : Option Res := match ts with
  | v :: t :: ts => cond (decide (x = Int32.ofNat v)) (f t) (lsw ts x d f)
  | _ => f d
def hnd (hs : List Nat) (E : Nat) (σ : HS) (k : KK) (ls : List Value) : Option Res := match hs with
  | e :: h :: c :: hs => cond (decide (E = e)) (cond (okst ls c) (k (h + 1) (lset ls c (.retAddr 0)) [] σ) none) (hnd hs E σ k ls)
  | _ => some (.inr E, σ)
/-- what a call gave: nothing, an int, a reference; or it threw -/
def bnd0 (r : Option Res) (f : HS → Option Res) (h : Nat → HS → Option Res) : Option Res := match r with
  | some (.inr E, σ) => h E σ
  | some (.inl none, σ) => f σ
  | _ => none
def bnd1 (r : Option Res) (f : Int32 → HS → Option Res) (h : Nat → HS → Option Res) : Option Res := match r with
  | some (.inr E, σ) => h E σ
  | some (.inl (some v), σ) => li v fun x => f x σ
  | _ => none
def bnd2 (r : Option Res) (f : Nat → HS → Option Res) (h : Nat → HS → Option Res) : Option Res := match r with
  | some (.inr E, σ) => h E σ
  | some (.inl (some v), σ) => lr v fun x => f x σ
  | _ => none
abbrev thr : Nat → HS → Option Res := fun E σ => some (.inr E, σ)
def p4 (ps : List Nat) (f : Nat → Nat → Nat → Nat → List Nat → Option Res) : Option Res := match ps with
  | a :: b :: c :: d :: r => f a b c d r
  | _ => none
def callG (cl : CL) (k : KK) (y n rk : Nat) (hs : List Nat) (i : Nat) (ls st : List Value) (σ : HS) : Option Res :=
  cond (decide (catS (st.drop n) ≤ 8) && decide (n ≤ st.length) && allNL (st.take n)) (match rk with
    | 0 => bnd0 (cl y (st.take n).reverse σ) (fun σ' => k (i + 1) ls (st.drop n) σ') (fun E σ' => hnd hs E σ' k ls)
    | 1 => bnd1 (cl y (st.take n).reverse σ) (fun x σ' => k (i + 1) ls (.int x :: st.drop n) σ') (fun E σ' => hnd hs E σ' k ls)
    | _ => bnd2 (cl y (st.take n).reverse σ) (fun x σ' => k (i + 1) ls (.ref x :: st.drop n) σ') (fun E σ' => hnd hs E σ' k ls)) none
def acpy (f : Nat → Nat → Int32) (so sp d dp n : Nat) : Nat → Nat → Int32 := fun a b => if a = d ∧ dp ≤ b ∧ b < dp + n then f so (sp + (b - dp)) else f a b
/-- one step of the instruction di (its place in the file, the instruction, numbers that belong to it, a constant) at place i -/
def stepG (cl : CL) (k : KK) (di : DI) (i : Nat) (ls st : List Value) (σ : HS) : Option Res :=
  match di.2.1 with
  | .aload n => lr (lget ls n) fun a => k (i + 1) ls (.ref a :: st) σ
  | .aload_n n => lr (lget ls n.val) fun a => k (i + 1) ls (.ref a :: st) σ
  | .iload n => li (lget ls n) fun a => k (i + 1) ls (.int a :: st) σ
  | .iload_n n => li (lget ls n.val) fun a => k (i + 1) ls (.int a :: st) σ
  | .lload n => ll (lget ls n) fun a => k (i + 1) ls (.long a :: st) σ
  | .lload_n n => ll (lget ls n.val) fun a => k (i + 1) ls (.long a :: st) σ
  | .astore n => s1r st fun x r => cond (okst ls n) (k (i + 1) (lset ls n (.ref x)) r σ) none
  | .astore_n n => s1r st fun x r => cond (okst ls n.val) (k (i + 1) (lset ls n.val (.ref x)) r σ) none
  | .istore n => s1i st fun x r => cond (okst ls n) (k (i + 1) (lset ls n (.int x)) r σ) none
  | .istore_n n => s1i st fun x r => cond (okst ls n.val) (k (i + 1) (lset ls n.val (.int x)) r σ) none
  | .lstore n => s1l st fun x r => cond (okst ls n && decide (n + 1 < ls.length)) (k (i + 1) (lset (lset ls n (.long x)) (n + 1) (.retAddr 0)) r σ) none
  | .iinc n _ => li (lget ls n) fun x => cond (okst ls n) (k (i + 1) (lset ls n (.int (x + di.2.2.2))) st σ) none
  | .iconst _ => k (i + 1) ls (.int di.2.2.2 :: st) σ
  | .bipush _ => k (i + 1) ls (.int di.2.2.2 :: st) σ
  | .sipush _ => k (i + 1) ls (.int di.2.2.2 :: st) σ
  | .ldc _ => match di.2.2.1 with
    | [] => k (i + 1) ls (.int di.2.2.2 :: st) σ
    | a :: _ => k (i + 1) ls (.ref a :: st) σ
  | .ldc_w _ => k (i + 1) ls (.int di.2.2.2 :: st) σ
  | .lconst n => k (i + 1) ls (.long (Int64.ofNat n.val) :: st) σ
  | .iadd => s2i st fun x y r => k (i + 1) ls (.int (x + y) :: r) σ
  | .isub => s2i st fun x y r => k (i + 1) ls (.int (x - y) :: r) σ
  | .imul => s2i st fun x y r => k (i + 1) ls (.int (x * y) :: r) σ
  | .iand => s2i st fun x y r => k (i + 1) ls (.int (x &&& y) :: r) σ
  | .ior => s2i st fun x y r => k (i + 1) ls (.int (x ||| y) :: r) σ
  | .ixor => s2i st fun x y r => k (i + 1) ls (.int (x ^^^ y) :: r) σ
  | .idiv => s2i st fun x y r => cond (!decide (y = 0)) (k (i + 1) ls (.int (x / y) :: r) σ) none
  | .irem => s2i st fun x y r => cond (!decide (y = 0)) (k (i + 1) ls (.int (x - x / y * y) :: r) σ) none
  | .ineg => s1i st fun x r => k (i + 1) ls (.int (-x) :: r) σ
  | .ishl => s2i st fun x y r => k (i + 1) ls (.int (x <<< (y &&& 31)) :: r) σ
  | .ishr => s2i st fun x y r => k (i + 1) ls (.int (x >>> (y &&& 31)) :: r) σ
  | .iushr => s2i st fun x y r => k (i + 1) ls (.int (x.toUInt32 >>> (y.toUInt32 &&& Int32.toUInt32 31)).toInt32 :: r) σ
  | .i2l => s1i st fun x r => k (i + 1) ls (.long x.toInt64 :: r) σ
  | .ladd => s2l st fun x y r => k (i + 1) ls (.long (x + y) :: r) σ
  | .lmul => s2l st fun x y r => k (i + 1) ls (.long (x * y) :: r) σ
  | .lcmp => s2l st fun x y r => k (i + 1) ls (.int (lg_cmp x y) :: r) σ
  | .dup => s1 st fun v r => cond (v1 v) (k (i + 1) ls (v :: v :: r) σ) none
  | .dup2 => s1 st fun v r => s1 r fun w r => cond (v1 v && v1 w) (k (i + 1) ls (v :: w :: v :: w :: r) σ) none
  | .pop => s1 st fun v r => cond (v1 v) (k (i + 1) ls r σ) none
  | .goto _ => pcnd di.2.2.1 fun t _ => k t ls st σ
  | .ifCond c _ => pcnd di.2.2.1 fun t _ => s1i st fun x r => cond (cnd0 c x) (k t ls r σ) (k (i + 1) ls r σ)
  | .if_icmp c _ => pcnd di.2.2.1 fun t _ => s2i st fun x y r => cond (cnd2 c x y) (k t ls r σ) (k (i + 1) ls r σ)
  | .ifnull _ => pcnd di.2.2.1 fun t _ => s1r st fun x r => cond (decide (x = 0)) (k t ls r σ) (k (i + 1) ls r σ)
  | .ifnonnull _ => pcnd di.2.2.1 fun t _ => s1r st fun x r => cond (decide (x = 0)) (k (i + 1) ls r σ) (k t ls r σ)
  | .if_acmp c _ => pcnd di.2.2.1 fun t _ => s2r st fun x y r => cond (decide (hK σ x = 3) && decide (hK σ y = 3)) (match c with
    | .eq => cond (decide (x = y)) (k t ls r σ) (k (i + 1) ls r σ)
    | .ne => cond (decide (x = y)) (k (i + 1) ls r σ) (k t ls r σ)) none
  | .tableswitch .. => pcnd di.2.2.1 fun d ts => s1i st fun x r => tsw ts di.2.2.2 x d fun t => k t ls r σ
  | .lookupswitch .. => pcnd di.2.2.1 fun d ts => s1i st fun x r => lsw ts x d fun t => k t ls r σ
  | .ireturn => s1i st fun x r => s0 r (match di.2.2.1 with
    | [] => some (.inl (some (.int x)), σ)
    | _ => cond (decide (x = 0) || decide (x = 1)) (some (.inl (some (.int x)), σ)) none)
  | .areturn => s1r st fun x r => s0 r (some (.inl (some (.ref x)), σ))
  | .return_ => s0 st (some (.inl none, σ))
  | .new _ => pcnd di.2.2.1 fun a ps => match ps with
    | [n] => k (i + 1) ls (.ref (hN σ) :: st) (hMk σ a 0 n)
    | _ => cond (decide (catS st ≤ 8)) (some (.inr a, hSp σ 1 6)) none
  | .newarray _ => pcnd di.2.2.1 fun a _ => s1i st fun x r => cond (decide (0 ≤ x) && decide (x.toNatClampNeg ≤ 100000)) (k (i + 1) ls (.ref (hN σ) :: r) (hMk σ a x.toNatClampNeg x.toNatClampNeg)) none
  | .anewarray _ => s1i st fun x r => cond (decide (0 ≤ x) && decide (x.toNatClampNeg ≤ 100000)) (k (i + 1) ls (.ref (hN σ) :: r) (hMk σ 23 x.toNatClampNeg x.toNatClampNeg)) none
  | .arraylength => pcnd di.2.2.1 fun c _ => s1r st fun a r => cond (decide (hK σ a = c)) (k (i + 1) ls (.int (Int32.ofNat (hL σ a)) :: r) σ) none
  | .iaload => pcnd di.2.2.1 fun c _ => s1i st fun j r => s1r r fun a r => cond (decide (hK σ a = c) && inb j (hL σ a)) (k (i + 1) ls (.int (hI σ a j.toNatClampNeg) :: r) σ) none
  | .baload => s1i st fun j r => s1r r fun a r => cond (decide (hK σ a = 22) && inb j (hL σ a)) (k (i + 1) ls (.int (hI σ a j.toNatClampNeg) :: r) σ) none
  | .laload => s1i st fun j r => s1r r fun a r => cond (decide (hK σ a = 21) && inb j (hL σ a)) (k (i + 1) ls (.long (hJ σ a j.toNatClampNeg) :: r) σ) none
  | .aaload => s1i st fun j r => s1r r fun a r => cond (decide (hK σ a = 23) && inb j (hL σ a)) (k (i + 1) ls (.ref (hR σ a j.toNatClampNeg) :: r) σ) none
  | .iastore => s1i st fun x r => s1i r fun j r => s1r r fun a r => cond (decide (hK σ a = 20) && inb j (hL σ a)) (k (i + 1) ls r (sI σ a j.toNatClampNeg x)) none
  | .bastore => s1i st fun x r => s1i r fun j r => s1r r fun a r => cond (decide (hK σ a = 22) && inb j (hL σ a) && (decide (x = 0) || decide (x = 1))) (k (i + 1) ls r (sI σ a j.toNatClampNeg x)) none
  | .lastore => s1l st fun x r => s1i r fun j r => s1r r fun a r => cond (decide (hK σ a = 21) && inb j (hL σ a)) (k (i + 1) ls r (sJ σ a j.toNatClampNeg x)) none
  | .aastore => s1r st fun x r => s1i r fun j r => s1r r fun a r => cond (decide (hK σ a = 23) && inb j (hL σ a) && decide (hK σ x = 9)) (k (i + 1) ls r (sR σ a j.toNatClampNeg x)) none
  | .getfield _ => p4 di.2.2.1 fun c f t _ _ => s1r st fun a r => cond (decide (hK σ a = c)) (k (i + 1) ls ((match t with
    | 2 => .ref (hR σ a f)
    | _ => .int (hI σ a f)) :: r) σ) none
  | .putfield _ => p4 di.2.2.1 fun c f t _ _ => match t with
    | 2 => s1r st fun x r => s1r r fun a r => cond (decide (hK σ a = c)) (k (i + 1) ls r (sR σ a f x)) none
    | 1 => s1i st fun x r => s1r r fun a r => cond (decide (hK σ a = c) && (decide (x = 0) || decide (x = 1))) (k (i + 1) ls r (sI σ a f x)) none
    | _ => s1i st fun x r => s1r r fun a r => cond (decide (hK σ a = c)) (k (i + 1) ls r (sI σ a f x)) none
  | .checkcast _ => s1r st fun a r => cond (decide (hK σ a = 20)) (k (i + 1) ls (.ref a :: r) σ) none
  | .invokevirtual _ => p4 di.2.2.1 fun y n rk c hs => match rk with
    | 8 => s1r st fun a r => cond (decide (hK σ a = 30) && decide (catS r ≤ 8)) (k (i + 1) ls (.int (Int32.ofNat (hL σ a)) :: r) σ) none
    | 9 => s1i st fun j r => s1r r fun a r => cond (decide (hK σ a = 30) && inb j (hL σ a) && decide (catS r ≤ 8)) (k (i + 1) ls (.int (hI σ a j.toNatClampNeg) :: r) σ) none
    | 10 => s1r st fun a r => cond (decide (hK σ a = 20) && decide (catS r ≤ 8)) (k (i + 1) ls (.ref (hN σ) :: r) (hCl σ a)) none
    | _ => lr ((st.drop (n - 1)).headD .null) fun a => cond (decide (hK σ a = c)) (callG cl k y n rk hs i ls st σ) none
  | .invokespecial _ => p4 di.2.2.1 fun y n rk c hs => match rk with
    | 8 => s1r st fun a r => cond (!decide (hK σ a = 98) && decide (catS r ≤ 8)) (k (i + 1) ls r σ) none
    | _ => lr ((st.drop (n - 1)).headD .null) fun a => cond (decide (hK σ a = c)) (callG cl k y n rk hs i ls st σ) none
  | .invokestatic _ => p4 di.2.2.1 fun y n rk c hs => match rk with
    | 8 => s2i st fun x y r => cond (decide (catS r ≤ 8)) (k (i + 1) ls (.int (if x < y then y else x) :: r) σ) none
    | 9 => s2i st fun x y r => cond (decide (catS r ≤ 8)) (k (i + 1) ls (.int (if y < x then y else x) :: r) σ) none
    | 10 => s1i st fun x r => cond (decide (catS r ≤ 8)) (k (i + 1) ls (.int (if 0 ≤ x then x else 0 - x) :: r) σ) none
    | 11 => s2i st fun dp m r => s1r r fun d r => s1i r fun sp r => s1r r fun so r =>
      cond (decide (hK σ so = 20) && decide (hK σ d = 20) && !decide (so = d) && decide (0 ≤ sp) && decide (0 ≤ dp) && decide (0 ≤ m) && decide (sp.toNatClampNeg + m.toNatClampNeg ≤ hL σ so) && decide (dp.toNatClampNeg + m.toNatClampNeg ≤ hL σ d) && decide (catS r ≤ 8))
        (k (i + 1) ls r (σ.1, acpy (hI σ) so sp.toNatClampNeg d dp.toNatClampNeg m.toNatClampNeg, σ.2.2)) none
    | _ => callG cl k y n rk hs i ls st σ
  | _ => none
/-- a method's code by places; a program: the code of a method, and how many locals -/
def exec (cl : CL) (M : Nat → DI) : Nat → KK
  | 0 => fun _ _ _ _ => none
  | N + 1 => fun i ls st σ => stepG cl (exec cl M N) (M i) i ls st σ
abbrev PG : Type := Nat → (Nat → DI) × Nat
def run (P : PG) (N : Nat) : Nat → CL
  | 0 => fun _ _ _ => none
  | d + 1 => fun y a σ => exec (run P N d) (P y).1 N 0 (a ++ List.replicate ((P y).2 - a.length) (.retAddr 0)) [] σ
