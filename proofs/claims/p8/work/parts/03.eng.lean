-- the engine: what a block of instructions does to the picture
def up_ (T : Zt) (k : Nat) (i j v : Int) : Zt := fun k' i' j' => if k' = k ∧ i' = i ∧ j' = j then v else T k' i' j'
def al_ (T : Zt) (k : Nat) (i : Int) : Prop := T k i (-1) = 1
def en_v (ad : Nat → Int → Nat) (v : Zv) : Value := match v with
  | .inl x => .int (Int32.ofInt x)
  | .inr (.inl x) => .long (Int64.ofInt x)
  | .inr (.inr none) => .null
  | .inr (.inr (some (k, i))) => .ref (ad k i)
def ok_v (T : Zt) (v : Zv) : Prop := match v with
  | .inl x => -2147483648 ≤ x ∧ x ≤ 2147483647
  | .inr (.inl x) => -9223372036854775808 ≤ x ∧ x ≤ 9223372036854775807
  | .inr (.inr none) => True
  | .inr (.inr (some (k, i))) => k < 100 ∨ al_ T k i
/-- the value of a field, by its row of the table -/
def fv_ (c k : Nat) (x i : Int) : Zv := match c with
  | 0 => vI x
  | 1 => vR k 0
  | 2 => vR k i
  | 3 => vR k x
  | 4 => if x = 0 then vN else vR k i
  | 5 => if x = 0 then vN else vR k (x - 1)
  | _ => vN
def ln_ (T : Zt) (k : Nat) (i : Int) : Int := match ta_ k with
  | some (_, some n, _, _) => n
  | _ => T k i (-2)
def wr_ (z : Int) : Int := (z + 2147483648) % 4294967296 - 2147483648
def an_ (x y : Int) : Int := (Int32.ofInt x &&& Int32.ofInt y).toInt
def or_ (x y : Int) : Int := (Int32.ofInt x ||| Int32.ofInt y).toInt
def xo_ (x y : Int) : Int := (Int32.ofInt x ^^^ Int32.ofInt y).toInt
def sl_ (x y : Int) : Int := (Int32.ofInt x <<< (Int32.ofInt y &&& 31)).toInt
def sr_ (x y : Int) : Int := (Int32.ofInt x >>> (Int32.ofInt y &&& 31)).toInt
def dq_ (x y : Int) : Int := (Int32.ofInt x / Int32.ofInt y).toInt
def us_ (x y : Int) : Int := ((Int32.ofInt x).toUInt32 >>> ((Int32.ofInt y).toUInt32 &&& Int32.toUInt32 31)).toInt32.toInt
/-- a place of the locals is set; not where the second half of a long stands -/
def st_ (K : Zl → Prop) : Zl → Nat → Option Zv → Prop
  | [], _, _ => False
  | _ :: t, 0, v => K (v :: t)
  | a :: t, 1, v => match a with
    | some (.inr (.inl _)) => False
    | a => st_ (fun t' => K (a :: t')) t 0 v
  | a :: t, k + 2, v => st_ (fun t' => K (a :: t')) t (k + 1) v
def rg_ (z : Int) (Q : Prop) : Prop := -2147483648 ≤ z ∧ z ≤ 2147483647 ∧ Q
def rl_ (z : Int) (Q : Prop) : Prop := -9223372036854775808 ≤ z ∧ z ≤ 9223372036854775807 ∧ Q
def rh_ (z : Int) (Q : Prop) : Prop := -2147483648 ≤ z → z ≤ 2147483647 → Q
def br_ (c : ClassFile.Cond) (x y : Int) (A B : Prop) : Prop := match c with
  | .eq => (x = y → A) ∧ (¬ x = y → B)
  | .ne => (¬ x = y → A) ∧ (x = y → B)
  | .lt => (x < y → A) ∧ (y ≤ x → B)
  | .ge => (y ≤ x → A) ∧ (x < y → B)
  | .gt => (y < x → A) ∧ (x ≤ y → B)
  | .le => (x ≤ y → A) ∧ (y < x → B)
def sx_ (K : Int → Zl → List Zv → Zt → Prop) (P : Zt → Option Zv → Prop) : List Instr → Int → Zl → List Zv → Zt → Prop
  | [], pe, ls, st, T => K pe ls st T
  | i :: r, pe, ls, st, T => match i with
    | .iconst n => sx_ K P r pe ls (vI n :: st) T
    | .sipush n => sx_ K P r pe ls (vL n :: st) T
    | .iload k => (match ls[k]? with
      | some (some (.inl x)) => sx_ K P r pe ls (vI x :: st) T
      | _ => False)
    | .aload k => (match ls[k]? with
      | some (some (.inr (.inr q))) => sx_ K P r pe ls (.inr (.inr q) :: st) T
      | _ => False)
    | .lload k => (match ls[k]? with
      | some (some (.inr (.inl x))) => sx_ K P r pe ls (vL x :: st) T
      | _ => False)
    | .istore k => (match st with
      | .inl x :: st => st_ (fun ls => sx_ K P r pe ls st T) ls k (some (vI x))
      | _ => False)
    | .astore k => (match st with
      | .inr (.inr q) :: st => st_ (fun ls => sx_ K P r pe ls st T) ls k (some (.inr (.inr q)))
      | _ => False)
    | .lstore k => (match st with
      | .inr (.inl x) :: st => st_ (fun ls => st_ (fun ls => st_ (fun ls => sx_ K P r pe ls st T) ls k (some (vL x))) ls (k + 1) none) ls k none
      | _ => False)
    | .iinc k n => (match ls[k]? with
      | some (some (.inl x)) => rg_ (x + n) (st_ (fun ls => sx_ K P r pe ls st T) ls k (some (vI (x + n))))
      | _ => False)
    | .iadd => (match st with
      | .inl y :: .inl x :: st => rg_ (x + y) (sx_ K P r pe ls (vI (x + y) :: st) T)
      | _ => False)
    | .isub => (match st with
      | .inl y :: .inl x :: st => rg_ (x - y) (sx_ K P r pe ls (vI (x - y) :: st) T)
      | _ => False)
    | .imul => (match st with
      | .inl y :: .inl x :: st => rg_ (x * y) (sx_ K P r pe ls (vI (x * y) :: st) T)
      | _ => False)
    | .fadd => (match st with
      | .inl y :: .inl x :: st => rh_ (wr_ (x + y)) (sx_ K P r pe ls (vI (wr_ (x + y)) :: st) T)
      | _ => False)
    | .fsub => (match st with
      | .inl y :: .inl x :: st => rh_ (wr_ (x - y)) (sx_ K P r pe ls (vI (wr_ (x - y)) :: st) T)
      | _ => False)
    | .fmul => (match st with
      | .inl y :: .inl x :: st => rh_ (wr_ (x * y)) (sx_ K P r pe ls (vI (wr_ (x * y)) :: st) T)
      | _ => False)
    | .ineg => (match st with
      | .inl x :: st => rg_ (-x) (sx_ K P r pe ls (vI (-x) :: st) T)
      | _ => False)
    | .fneg => (match st with
      | .inl x :: st => rh_ (wr_ (-x)) (sx_ K P r pe ls (vI (wr_ (-x)) :: st) T)
      | _ => False)
    | .idiv => (match st with
      | .inl y :: .inl x :: st => 0 ≤ x ∧ 0 < y ∧ sx_ K P r pe ls (vI (x / y) :: st) T
      | _ => False)
    | .fdiv => (match st with
      | .inl y :: .inl x :: st => 0 < y ∧ rh_ (dq_ x y) (sx_ K P r pe ls (vI (dq_ x y) :: st) T)
      | _ => False)
    | .irem => (match st with
      | .inl y :: .inl x :: st => 0 ≤ x ∧ 0 < y ∧ sx_ K P r pe ls (vI (x % y) :: st) T
      | _ => False)
    | .iand => (match st with
      | .inl y :: .inl x :: st => rh_ (an_ x y) (sx_ K P r pe ls (vI (an_ x y) :: st) T)
      | _ => False)
    | .ior => (match st with
      | .inl y :: .inl x :: st => rh_ (or_ x y) (sx_ K P r pe ls (vI (or_ x y) :: st) T)
      | _ => False)
    | .ixor => (match st with
      | .inl y :: .inl x :: st => rh_ (xo_ x y) (sx_ K P r pe ls (vI (xo_ x y) :: st) T)
      | _ => False)
    | .ishl => (match st with
      | .inl y :: .inl x :: st => rh_ (sl_ x y) (sx_ K P r pe ls (vI (sl_ x y) :: st) T)
      | _ => False)
    | .ishr => (match st with
      | .inl y :: .inl x :: st => rh_ (sr_ x y) (sx_ K P r pe ls (vI (sr_ x y) :: st) T)
      | _ => False)
    | .iushr => (match st with
      | .inl y :: .inl x :: st => rh_ (us_ x y) (sx_ K P r pe ls (vI (us_ x y) :: st) T)
      | _ => False)
    | .i2l => (match st with
      | .inl x :: st => sx_ K P r pe ls (vL x :: st) T
      | _ => False)
    | .l2i => (match st with
      | .inr (.inl x) :: st => rg_ x (sx_ K P r pe ls (vI x :: st) T)
      | _ => False)
    | .ladd => (match st with
      | .inr (.inl y) :: .inr (.inl x) :: st => rl_ (x + y) (sx_ K P r pe ls (vL (x + y) :: st) T)
      | _ => False)
    | .lsub => (match st with
      | .inr (.inl y) :: .inr (.inl x) :: st => rl_ (x - y) (sx_ K P r pe ls (vL (x - y) :: st) T)
      | _ => False)
    | .lmul => (match st with
      | .inr (.inl y) :: .inr (.inl x) :: st => rl_ (x * y) (sx_ K P r pe ls (vL (x * y) :: st) T)
      | _ => False)
    | .lrem => (match st with
      | .inr (.inl y) :: .inr (.inl x) :: st => 0 ≤ x ∧ 0 < y ∧ sx_ K P r pe ls (vL (x % y) :: st) T
      | _ => False)
    | .lcmp => (match st with
      | .inr (.inl y) :: .inr (.inl x) :: st => (x < y → sx_ K P r pe ls (vI (-1) :: st) T) ∧ (x = y → sx_ K P r pe ls (vI 0 :: st) T) ∧ (y < x → sx_ K P r pe ls (vI 1 :: st) T)
      | _ => False)
    | .dup => (match st with
      | .inl x :: st => sx_ K P r pe ls (vI x :: vI x :: st) T
      | .inr (.inr q) :: st => sx_ K P r pe ls (.inr (.inr q) :: .inr (.inr q) :: st) T
      | _ => False)
    | .dup2 => (match st with
      | .inl y :: .inr (.inr q) :: st => sx_ K P r pe ls (vI y :: .inr (.inr q) :: vI y :: .inr (.inr q) :: st) T
      | _ => False)
    | .pop => (match st with
      | .inl _ :: st => sx_ K P r pe ls st T
      | .inr (.inr _) :: st => sx_ K P r pe ls st T
      | _ => False)
    | .goto t => K t ls st T
    | .if_icmp c t => (match st with
      | .inl y :: .inl x :: st => br_ c x y (K t ls st T) (sx_ K P r pe ls st T)
      | _ => False)
    | .ifCond c t => (match st with
      | .inl x :: st => br_ c x 0 (K t ls st T) (sx_ K P r pe ls st T)
      | _ => False)
    | .ifnull t => (match st with
      | .inr (.inr none) :: st => K t ls st T
      | .inr (.inr (some _)) :: st => sx_ K P r pe ls st T
      | _ => False)
    | .ifnonnull t => (match st with
      | .inr (.inr none) :: st => sx_ K P r pe ls st T
      | .inr (.inr (some _)) :: st => K t ls st T
      | _ => False)
    | .tableswitch o ci j _ => (match o with
      | 0 => (match st with
        | .inr (.inr (some (k, i))) :: st => if k = 100 + ci.toNat then (match (tf_ k)[j.toNat]? with
            | some (0, _, lo, hi) => lo ≤ T k i j → T k i j ≤ hi → sx_ K P r pe ls (vI (T k i j) :: st) T
            | some (1, k', _) => sx_ K P r pe ls (vR k' 0 :: st) T
            | some (2, k', _) => sx_ K P r pe ls (vR k' i :: st) T
            | some (3, k', _) => sx_ K P r pe ls (vR k' (T k i j) :: st) T
            | some (4, k', _) => (T k i j = 0 → sx_ K P r pe ls (vN :: st) T) ∧ (¬ T k i j = 0 → sx_ K P r pe ls (vR k' i :: st) T)
            | some (5, k', _) => (T k i j = 0 → sx_ K P r pe ls (vN :: st) T) ∧ (¬ T k i j = 0 → sx_ K P r pe ls (vR k' (T k i j - 1) :: st) T)
            | _ => False) else False
        | _ => False)
      | _ => (match st with
        | .inl x :: .inr (.inr (some (k, i))) :: st => if k = 100 + ci.toNat then (match (tf_ k)[j.toNat]? with
            | some (0, _, lo, hi) => lo ≤ x ∧ x ≤ hi ∧ sx_ K P r pe ls st (up_ T k i j x)
            | _ => False) else False
        | _ => False))
    | .iaload => (match st with
      | .inl x :: .inr (.inr (some (k, i))) :: st => (match ta_ k with
        | some (1, some n, lo, hi) => 0 ≤ x ∧ x < n ∧ (lo ≤ T k i x → T k i x ≤ hi → sx_ K P r pe ls (vI (T k i x) :: st) T)
        | some (1, none, lo, hi) => 0 ≤ x ∧ x < T k i (-2) ∧ (lo ≤ T k i x → T k i x ≤ hi → sx_ K P r pe ls (vI (T k i x) :: st) T)
        | _ => False)
      | _ => False)
    | .baload => (match st with
      | .inl x :: .inr (.inr (some (k, i))) :: st => (match ta_ k with
        | some (2, some n, lo, hi) => 0 ≤ x ∧ x < n ∧ (lo ≤ T k i x → T k i x ≤ hi → sx_ K P r pe ls (vI (T k i x) :: st) T)
        | _ => False)
      | _ => False)
    | .laload => (match st with
      | .inl x :: .inr (.inr (some (k, i))) :: st => (match ta_ k with
        | some (3, some n, lo, hi) => 0 ≤ x ∧ x < n ∧ (lo ≤ T k i x → T k i x ≤ hi → sx_ K P r pe ls (vL (T k i x) :: st) T)
        | _ => False)
      | _ => False)
    | .aaload => (match st with
      | .inl x :: .inr (.inr (some (k, i))) :: st => (match ta_ k with
        | some (4, some n, _) => 0 ≤ x ∧ x < n ∧ (T k i x = 0 → sx_ K P r pe ls (vN :: st) T) ∧ (¬ T k i x = 0 → sx_ K P r pe ls (vR 100 x :: st) T)
        | some (5, some n, _) => 0 ≤ x ∧ x < n ∧ (T k i x = 0 → sx_ K P r pe ls (vN :: st) T) ∧ (¬ T k i x = 0 → sx_ K P r pe ls (vR 102 x :: st) T)
        | _ => False)
      | _ => False)
    | .iastore => (match st with
      | .inl v :: .inl x :: .inr (.inr (some (k, i))) :: st => (match ta_ k with
        | some (1, some n, lo, hi) => 0 ≤ x ∧ x < n ∧ lo ≤ v ∧ v ≤ hi ∧ sx_ K P r pe ls st (up_ T k i x v)
        | some (1, none, lo, hi) => 0 ≤ x ∧ x < T k i (-2) ∧ lo ≤ v ∧ v ≤ hi ∧ sx_ K P r pe ls st (up_ T k i x v)
        | _ => False)
      | _ => False)
    | .bastore => (match st with
      | .inl v :: .inl x :: .inr (.inr (some (k, i))) :: st => (match ta_ k with
        | some (2, some n, lo, hi) => 0 ≤ x ∧ x < n ∧ lo ≤ v ∧ v ≤ hi ∧ sx_ K P r pe ls st (up_ T k i x v)
        | _ => False)
      | _ => False)
    | .lastore => (match st with
      | .inr (.inl v) :: .inl x :: .inr (.inr (some (k, i))) :: st => (match ta_ k with
        | some (3, some n, lo, hi) => 0 ≤ x ∧ x < n ∧ lo ≤ v ∧ v ≤ hi ∧ sx_ K P r pe ls st (up_ T k i x v)
        | _ => False)
      | _ => False)
    | .arraylength => (match st with
      | .inr (.inr (some (k, i))) :: st => (match ta_ k with
        | some (_, some n, _) => sx_ K P r pe ls (vI n :: st) T
        | some (_, none, _) => 0 ≤ T k i (-2) → T k i (-2) ≤ 2147483647 → sx_ K P r pe ls (vI (T k i (-2)) :: st) T
        | _ => False)
      | _ => False)
    | .ireturn => (match st with
      | [.inl x] => P T (some (vI x))
      | _ => False)
    | .lreturn => (match st with
      | [.inr (.inl x)] => P T (some (vL x))
      | _ => False)
    | .return_ => (match st with
      | [] => P T none
      | _ => False)
    | _ => False
