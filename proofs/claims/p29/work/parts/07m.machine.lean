/-! THE PURE MACHINE: values, instructions as numbers, memory as cells by number. -/
abbrev m_V : Type := Int ⊕ (Int ⊕ (UInt32 ⊕ (Option Nat ⊕ Bool)))
abbrev m_I (z : Int) : m_V := Sum.inl z
abbrev m_J (z : Int) : m_V := Sum.inr (Sum.inl z)
abbrev m_F (z : UInt32) : m_V := Sum.inr (Sum.inr (Sum.inl z))
abbrev m_O (o : Option Nat) : m_V := Sum.inr (Sum.inr (Sum.inr (Sum.inl o)))
abbrev m_R (k : Nat) : m_V := m_O (some k)
abbrev m_N : m_V := m_O none
abbrev m_S : m_V := Sum.inr (Sum.inr (Sum.inr (Sum.inr true)))
abbrev m_U : m_V := Sum.inr (Sum.inr (Sum.inr (Sum.inr false)))
/-- a cell's kind (0 an object, 1 ints, 2 longs, 3 bytes, 4 references), its sort or length, the references that it holds -/
abbrev m_G : Type := (Nat × Nat) × List (Option Nat)
abbrev m_M : Type := List m_G × (Nat → Nat → Int)
def m_w (z : Int) : Int := (z + 2147483648) % 4294967296 - 2147483648
def m_x (z : Int) : Int := (z + 9223372036854775808) % 18446744073709551616 - 9223372036854775808
def m_b (z : Int) : Int := (z + 128) % 256 - 128
def m_and (x y : Int) : Int := (Int32.ofInt x &&& Int32.ofInt y).toInt
def m_xor (x y : Int) : Int := (Int32.ofInt x ^^^ Int32.ofInt y).toInt
def m_shl (x y : Int) : Int := (Int32.ofInt x <<< (Int32.ofInt y &&& 31)).toInt
def m_shr (x y : Int) : Int := (Int32.ofInt x >>> (Int32.ofInt y &&& 31)).toInt
def m_ush (x y : Int) : Int := ((Int32.ofInt x).toUInt32 >>> ((Int32.ofInt y).toUInt32 &&& Int32.toUInt32 31)).toInt32.toInt
def m_cmp (x y : Int) : Int := if y < x then 1 else if x = y then 0 else -1
def m_fg (x y : UInt32) (o : CmpOp) : Int := (Op.cmpValue (FP.fcmp x y) o).toInt
/-- locals -/
def m_ld : List m_V → Nat → m_V
  | [], _ => m_U
  | v :: _, 0 => v
  | _ :: r, n + 1 => m_ld r n
def m_st : List m_V → Nat → m_V → List m_V
  | [], _, _ => []
  | _ :: r, 0, v => v :: r
  | a :: r, n + 1, v => a :: m_st r n v
def m_kl (ls : List m_V) (i : Nat) : List m_V := match m_ld ls (i - 1) with
  | .inr (.inl _) => m_st ls (i - 1) m_U
  | _ => ls
def m_s1 (ls : List m_V) (i : Nat) (v : m_V) : List m_V := m_st (m_kl ls i) i v
def m_s2 (ls : List m_V) (i : Nat) (v : m_V) : List m_V := m_st (m_st (m_kl ls i) i v) (i + 1) m_U
/-- the locals with which a method begins -/
def m_en : Nat → List m_V → List m_V
  | n, [] => List.replicate n m_U
  | 0, _ :: _ => []
  | n + 1, .inr (.inl z) :: r => m_J z :: m_U :: m_en (n - 1) r
  | n + 1, v :: r => v :: m_en n r
/-- memory -/
def m_up (σ : Nat → Nat → Int) (c k : Nat) (z : Int) : Nat → Nat → Int := fun c' k' => if c' = c ∧ k' = k then z else σ c' k'
def m_zr (σ : Nat → Nat → Int) (c : Nat) : Nat → Nat → Int := fun c' k' => if c' = c then 0 else σ c' k'
def m_cp (σ : Nat → Nat → Int) (cs cd sp dp n : Nat) : Nat → Nat → Int := fun c k => if c = cd ∧ dp ≤ k ∧ k < dp + n then σ cs (sp + (k - dp)) else σ c k
def m_g (μ : m_M) (c : Nat) : m_G := μ.1.getD c ((9, 0), [])
def m_gk (μ : m_M) (c : Nat) : Nat × Nat := (m_g μ c).1
def m_gr (μ : m_M) (c k : Nat) : Option Nat := ((m_g μ c).2[k]?).join
def m_sr (G : List m_G) (c k : Nat) (o : Option Nat) : List m_G := G.set c ((G.getD c ((9, 0), [])).1, (G.getD c ((9, 0), [])).2.set k o)
def m_ii (f : Int → Int → Int) : List m_V → Option (List m_V)
  | .inl y :: .inl x :: r => some (m_I (f x y) :: r)
  | _ => none
def m_id (f : Int → Int → Int) : List m_V → Option (List m_V)
  | .inl y :: .inl x :: r => if y = 0 then none else some (m_I (f x y) :: r)
  | _ => none
def m_jj (f : Int → Int → Int) : List m_V → Option (List m_V)
  | .inr (.inl y) :: .inr (.inl x) :: r => some (m_J (f x y) :: r)
  | _ => none
def m_jd (f : Int → Int → Int) : List m_V → Option (List m_V)
  | .inr (.inl y) :: .inr (.inl x) :: r => if y = 0 then none else some (m_J (f x y) :: r)
  | _ => none
def m_ff (f : UInt32 → UInt32 → UInt32) : List m_V → Option (List m_V)
  | .inr (.inr (.inl y)) :: .inr (.inr (.inl x)) :: r => if f x y &&& 0x7fffffff ≤ 0x7f800000 then some (m_F (f x y) :: r) else none
  | _ => none
/-- what works on the stack alone -/
def m_sk (op a : Nat) (z : Int) (st : List m_V) : Option (List m_V) :=
  match op with
  | 10 => some (m_I z :: st)
  | 11 => some (m_J z :: st)
  | 12 => some (m_F (UInt32.ofNat a) :: st)
  | 13 => some (m_N :: st)
  | 23 => m_ii (fun x y => m_w (x + y)) st
  | 24 => m_ii (fun x y => m_w (x - y)) st
  | 25 => m_ii (fun x y => m_w (x * y)) st
  | 26 => m_id (fun x y => m_w (Int.tdiv x y)) st
  | 27 => m_id (fun x y => Int.tmod x y) st
  | 28 => match st with
    | .inl x :: r => some (m_I (m_w (-x)) :: r)
    | _ => none
  | 29 => m_ii m_and st
  | 30 => m_ii m_xor st
  | 31 => m_ii m_shl st
  | 32 => m_ii m_shr st
  | 33 => m_ii m_ush st
  | 34 => m_jj (fun x y => m_x (x + y)) st
  | 35 => m_jj (fun x y => m_x (x - y)) st
  | 36 => m_jj (fun x y => m_x (x * y)) st
  | 37 => m_jd (fun x y => m_x (Int.tdiv x y)) st
  | 38 => m_jd (fun x y => Int.tmod x y) st
  | 39 => match st with
    | .inr (.inl x) :: r => some (m_J (m_x (-x)) :: r)
    | _ => none
  | 40 => match st with
    | .inr (.inl y) :: .inr (.inl x) :: r => some (m_I (m_cmp x y) :: r)
    | _ => none
  | 41 => match st with
    | .inl x :: r => some (m_J x :: r)
    | _ => none
  | 42 => match st with
    | .inr (.inl x) :: r => some (m_F (FP.l2f (Int64.ofInt x)) :: r)
    | _ => none
  | 43 => match st with
    | .inr (.inr (.inl x)) :: r => some (m_I (FP.f2i x).toInt :: r)
    | _ => none
  | 44 => match st with
    | .inl x :: r => some (m_I (m_b x) :: r)
    | _ => none
  | 45 => m_ff FP.fmul st
  | 46 => m_ff FP.fsub st
  | 47 => m_ff FP.fdiv st
  | 48 => match st with
    | .inr (.inr (.inl y)) :: .inr (.inr (.inl x)) :: r => some (m_I (m_fg x y .g) :: r)
    | _ => none
  | 49 => match st with
    | .inr (.inr (.inl y)) :: .inr (.inr (.inl x)) :: r => some (m_I (m_fg x y .l) :: r)
    | _ => none
  | 50 => match st with
    | .inr (.inr (.inr (.inl o))) :: r => some (m_O o :: m_O o :: r)
    | .inl x :: r => some (m_I x :: m_I x :: r)
    | _ => none
  | 51 => match st with
    | .inl x :: .inr (.inr (.inr (.inl o))) :: r => some (m_I x :: m_O o :: m_I x :: m_O o :: r)
    | _ => none
  | _ => none
/-- what works on locals and the stack -/
def m_lk (op a : Nat) (z : Int) (ls st : List m_V) : Option (List m_V × List m_V) :=
  match op with
  | 14 => match m_ld ls a with
    | .inl x => some (ls, m_I x :: st)
    | _ => none
  | 15 => match m_ld ls a with
    | .inr (.inl x) => some (ls, m_J x :: st)
    | _ => none
  | 16 => match m_ld ls a with
    | .inr (.inr (.inl x)) => some (ls, m_F x :: st)
    | _ => none
  | 17 => match m_ld ls a with
    | .inr (.inr (.inr (.inl (some x)))) => some (ls, m_R x :: st)
    | .inr (.inr (.inr (.inr true))) => some (ls, m_S :: st)
    | _ => none
  | 18 => match st with
    | .inl x :: r => some (m_s1 ls a (m_I x), r)
    | _ => none
  | 19 => match st with
    | .inr (.inl x) :: r => some (m_s2 ls a (m_J x), r)
    | _ => none
  | 20 => match st with
    | .inr (.inr (.inl x)) :: r => some (m_s1 ls a (m_F x), r)
    | _ => none
  | 21 => match st with
    | .inr (.inr (.inr (.inl (some x)))) :: r => some (m_s1 ls a (m_R x), r)
    | _ => none
  | 22 => match m_ld ls a with
    | .inl x => some (m_s1 ls a (m_I (m_w (x + z))), st)
    | _ => none
  | _ => none
/-- what a field of a kind (0 int, 1 boolean, 2 long, 3 a reference) holds -/
def m_fv (μ : m_M) (c k : Nat) (t : Int) : m_V := if t = 2 then m_J (μ.2 c k) else if t = 3 then m_O (m_gr μ c k) else m_I (μ.2 c k)
/-- what works on the stack and memory; X: the script -/
def m_mk (X : Option (Nat × (Nat → Int))) (op a b : Nat) (z : Int) (st : List m_V) (μ : m_M) : Option (List m_V × m_M) :=
  match op with
  | 53 => match st with
    | .inr (.inr (.inr (.inl (some c)))) :: r => if m_gk μ c = (0, a) then some (m_fv μ c b z :: r, μ) else none
    | _ => none
  | 54 => match st with
    | .inl x :: .inr (.inr (.inr (.inl (some c)))) :: r => if m_gk μ c = (0, a) ∧ (z = 0 ∨ z = 1 ∧ (x = 0 ∨ x = 1)) then some (r, (μ.1, m_up μ.2 c b x)) else none
    | .inr (.inl x) :: .inr (.inr (.inr (.inl (some c)))) :: r => if m_gk μ c = (0, a) ∧ z = 2 then some (r, (μ.1, m_up μ.2 c b x)) else none
    | .inr (.inr (.inr (.inl o))) :: .inr (.inr (.inr (.inl (some c)))) :: r => if m_gk μ c = (0, a) ∧ z = 3 ∧ b < (m_g μ c).2.length then some (r, (m_sr μ.1 c b o, μ.2)) else none
    | _ => none
  | 55 => match st with
    | .inl n :: r => if 0 ≤ n ∧ n ≤ 4096 then some (m_R μ.1.length :: r, (μ.1 ++ [((a, n.toNat), [])], m_zr μ.2 μ.1.length)) else none
    | _ => none
  | 56 => match st with
    | .inl n :: r => if 0 ≤ n ∧ n ≤ 4096 then some (m_R μ.1.length :: r, (μ.1 ++ [((4, n.toNat), List.replicate n.toNat none)], μ.2)) else none
    | _ => none
  | 57 => some (m_R μ.1.length :: st, (μ.1 ++ [((0, a), List.replicate z.toNat none)], m_zr μ.2 μ.1.length))
  | 58 => match st with
    | .inr (.inr (.inr (.inl (some c)))) :: r => if 1 ≤ (m_gk μ c).1 ∧ (m_gk μ c).1 ≤ 4 then some (m_I (m_gk μ c).2 :: r, μ) else none
    | .inr (.inr (.inr (.inr true))) :: r => match X with
      | some x => some (m_I x.1 :: r, μ)
      | none => none
    | _ => none
  | 59 => match st with
    | .inl i :: .inr (.inr (.inr (.inl (some c)))) :: r => if (m_gk μ c).1 = 1 ∧ 0 ≤ i ∧ i < (m_gk μ c).2 then some (m_I (μ.2 c i.toNat) :: r, μ) else none
    | .inl i :: .inr (.inr (.inr (.inr true))) :: r => match X with
      | some x => if 0 ≤ i ∧ i < x.1 then some (m_I (x.2 i.toNat) :: r, μ) else none
      | none => none
    | _ => none
  | 60 => match st with
    | .inl i :: .inr (.inr (.inr (.inl (some c)))) :: r => if (m_gk μ c).1 = 2 ∧ 0 ≤ i ∧ i < (m_gk μ c).2 then some (m_J (μ.2 c i.toNat) :: r, μ) else none
    | _ => none
  | 61 => match st with
    | .inl i :: .inr (.inr (.inr (.inl (some c)))) :: r => if (m_gk μ c).1 = 3 ∧ 0 ≤ i ∧ i < (m_gk μ c).2 then some (m_I (μ.2 c i.toNat) :: r, μ) else none
    | _ => none
  | 62 => match st with
    | .inl i :: .inr (.inr (.inr (.inl (some c)))) :: r => if (m_gk μ c).1 = 4 ∧ 0 ≤ i ∧ i < (m_gk μ c).2 then some (m_O (m_gr μ c i.toNat) :: r, μ) else none
    | _ => none
  | 63 => match st with
    | .inl x :: .inl i :: .inr (.inr (.inr (.inl (some c)))) :: r => if (m_gk μ c).1 = 1 ∧ 0 ≤ i ∧ i < (m_gk μ c).2 then some (r, (μ.1, m_up μ.2 c i.toNat x)) else none
    | _ => none
  | 64 => match st with
    | .inr (.inl x) :: .inl i :: .inr (.inr (.inr (.inl (some c)))) :: r => if (m_gk μ c).1 = 2 ∧ 0 ≤ i ∧ i < (m_gk μ c).2 then some (r, (μ.1, m_up μ.2 c i.toNat x)) else none
    | _ => none
  | 65 => match st with
    | .inl x :: .inl i :: .inr (.inr (.inr (.inl (some c)))) :: r => if (m_gk μ c).1 = 3 ∧ 0 ≤ i ∧ i < (m_gk μ c).2 then some (r, (μ.1, m_up μ.2 c i.toNat (m_b x))) else none
    | _ => none
  | 66 => match st with
    | .inr (.inr (.inr (.inl (some j)))) :: .inl i :: .inr (.inr (.inr (.inl (some c)))) :: r => if (m_gk μ c).1 = 4 ∧ 0 ≤ i ∧ i < (m_gk μ c).2 ∧ m_gk μ j = (0, 7) ∧ i.toNat < (m_g μ c).2.length then some (r, (m_sr μ.1 c i.toNat (some j), μ.2)) else none
    | _ => none
  | 67 => match st with
    | .inr (.inr (.inr (.inl (some _)))) :: r => if r.length ≤ 4 then some (r, μ) else none
    | _ => none
  | 68 => match st with
    | .inl n :: .inl dp :: .inr (.inr (.inr (.inl (some d)))) :: .inl sp :: .inr (.inr (.inr (.inl (some c)))) :: r =>
      if (m_gk μ c).1 = 1 ∧ (m_gk μ d).1 = 1 ∧ 0 ≤ sp ∧ 0 ≤ dp ∧ 0 ≤ n ∧ sp + n ≤ (m_gk μ c).2 ∧ dp + n ≤ (m_gk μ d).2 ∧ r.length ≤ 4 then some (r, (μ.1, m_cp μ.2 c d sp.toNat dp.toNat n.toNat)) else none
    | _ => none
  | 69 => match st with
    | .inr (.inr (.inl x)) :: r => if r.length ≤ 4 then some (m_I x.toInt32.toInt :: r, μ) else none
    | _ => none
  | _ => none
def m_stp (X : Option (Nat × (Nat → Int))) (i : m_P) (ls st : List m_V) (μ : m_M) : Option (List m_V × List m_V × m_M) :=
  if 53 ≤ i.1 then (m_mk X i.1 i.2.1 i.2.2.1 i.2.2.2 st μ).map (fun q => (ls, q.1, q.2))
  else if 14 ≤ i.1 ∧ i.1 ≤ 22 then (m_lk i.1 i.2.1 i.2.2.2 ls st).map (fun q => (q.1, q.2, μ))
  else (m_sk i.1 i.2.1 i.2.2.2 st).map (fun q => (ls, q, μ))
def m_cnd (c : Nat) (x y : Int) : Bool := match c with
  | 0 => decide (x = y)
  | 1 => decide (¬ x = y)
  | 2 => decide (x < y)
  | 3 => decide (y ≤ x)
  | 4 => decide (y < x)
  | _ => decide (x ≤ y)
def m_ret (k : Nat) (st : List m_V) (μ : m_M) : Option (Option m_V × m_M) := match k, st with
  | 0, [] => some (none, μ)
  | 1, [.inl x] => some (some (m_I x), μ)
  | 2, [.inl x] => if x = 0 ∨ x = 1 then some (some (m_I x), μ) else none
  | 3, [.inr (.inl x)] => some (some (m_J x), μ)
  | 4, [.inr (.inr (.inr (.inl o)))] => some (some (m_O o), μ)
  | _, _ => none
/-- whether a call's first argument is one of its class (z ≥ 0), any reference (-2), or it has none such (-1) -/
def m_rcv (z : Int) (as : List m_V) (μ : m_M) : Bool := if z = -1 then true else match as with
  | .inr (.inr (.inr (.inl (some c)))) :: _ => if z = -2 then true else decide (m_gk μ c = (0, z.toNat))
  | _ => false
abbrev m_C : Type := Nat → List m_V → m_M → Option (Option m_V × m_M)
/-- a call: n arguments are taken, the method's answer is put -/
def m_cal (f : m_C) (y n : Nat) (z : Int) (st : List m_V) (μ : m_M) : Option (List m_V × m_M) :=
  if n ≤ st.length ∧ (st.drop n).length ≤ 4 ∧ m_rcv z (st.take n).reverse μ = true then (f y (st.take n).reverse μ).map (fun q => (q.1.toList ++ st.drop n, q.2)) else none
def m_tsb (t : Int × Nat × List Nat) (x : Int) : Nat := if x < t.1 ∨ t.1 + t.2.2.length ≤ x then t.2.1 else t.2.2.getD (x - t.1).toNat t.2.1
def m_lsb : List (Int × Nat) → Nat → Int → Nat
  | [], d, _ => d
  | q :: r, d, x => if x = q.1 then q.2 else m_lsb r d x
def m_run (X : Option (Nat × (Nat → Int))) (f : m_C) (y : Nat) : Nat → List m_P → List m_V → List m_V → m_M → Option (Option m_V × m_M)
  | 0, _, _, _, _ => none
  | _ + 1, [], _, _, _ => none
  | n + 1, i :: is, ls, st, μ =>
    match i.1 with
    | 0 => m_run X f y n (m_blk y i.2.1) ls st μ
    | 1 => match st with
      | .inl a :: r => if m_cnd i.2.1 a 0 = true then m_run X f y n (m_blk y i.2.2.1) ls r μ else m_run X f y n is ls r μ
      | _ => none
    | 2 => match st with
      | .inl b :: .inl a :: r => if m_cnd i.2.1 a b = true then m_run X f y n (m_blk y i.2.2.1) ls r μ else m_run X f y n is ls r μ
      | _ => none
    | 3 => match st with
      | .inr (.inr (.inr (.inl none))) :: r => m_run X f y n (m_blk y i.2.1) ls r μ
      | .inr (.inr (.inr (.inl (some _)))) :: r => m_run X f y n is ls r μ
      | _ => none
    | 4 => match st with
      | .inr (.inr (.inr (.inl none))) :: r => m_run X f y n is ls r μ
      | .inr (.inr (.inr (.inl (some _)))) :: r => m_run X f y n (m_blk y i.2.1) ls r μ
      | _ => none
    | 5 => match st with
      | .inl a :: r => m_run X f y n (m_blk y (m_tsb (m_tsl i.2.1) a)) ls r μ
      | _ => none
    | 6 => m_ret i.2.1 st μ
    | 7 => match m_cal f i.2.1 i.2.2.1 i.2.2.2 st μ with
      | some q => m_run X f y n is ls q.1 q.2
      | none => none
    | 8 => m_run X f y n (m_blk y i.2.1) ls st μ
    | 9 => match st with
      | .inl a :: r => m_run X f y n (m_blk y (m_lsb (m_lsl i.2.1).2 (m_lsl i.2.1).1 a)) ls r μ
      | _ => none
    | _ => match m_stp X i ls st μ with
      | some q => m_run X f y n is q.1 q.2.1 q.2.2
      | none => none
/-- how many locals arguments take -/
def m_as : List m_V → Nat
  | [] => 0
  | .inr (.inl _) :: r => m_as r + 2
  | _ :: r => m_as r + 1
/-- a run that a program can follow to its end -/
def m_go (n : Nat) : Nat → m_C
  | 0, _, _, _ => none
  | d + 1, y, as, μ => if m_as as ≤ m_ml y then m_run none (m_go n d) y n (m_blk y 0) (m_en (m_ml y) as) [] μ else none
