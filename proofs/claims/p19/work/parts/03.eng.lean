-- the engine: what a block of instructions does to the picture
def up_ (T : Zt) (k : Nat) (i j v : Int) : Zt := fun k' i' j' => if k' = k ∧ i' = i ∧ j' = j then v else T k' i' j'
def al_ (T : Zt) (k : Nat) (i : Int) : Prop := T k i (-1) = 1
def en_v (ad : Nat → Int → Nat) (v : Zv) : Value := match v with
  | .inl x => .int (Int32.ofInt x)
  | .inr (.inl x) => .long (Int64.ofInt x)
  | .inr (.inr none) => .null
  | .inr (.inr (some (k, i))) => .ref (ad k i)
def ok_v (T : Zt) (v : Zv) : Prop := match v with
  | .inl x => -2147483648 ≤ x ∧ x ≤ 2147483647
  | .inr (.inl x) => -9223372036854775808 ≤ x ∧ x ≤ 9223372036854775807
  | .inr (.inr none) => True
  | .inr (.inr (some (k, i))) => k < 100 ∨ al_ T k i
/-- the value of a field, by its row of the table -/
def fv_ (c k : Nat) (x i : Int) : Zv := match c with
  | 0 => vI x
  | 1 => vR k 0
  | 2 => vR k i
  | 3 => vR k x
  | 4 => if x = 0 then vN else vR k i
  | 5 => if x = 0 then vN else vR k (x - 1)
  | _ => vN
def ln_ (T : Zt) (k : Nat) (i : Int) : Int := match ta_ k with
  | some (_, some n, _, _) => n
  | _ => T k i (-2)
def wr_ (z : Int) : Int := (z + 2147483648) % 4294967296 - 2147483648
def an_ (x y : Int) : Int := (Int32.ofInt x &&& Int32.ofInt y).toInt
def or_ (x y : Int) : Int := (Int32.ofInt x ||| Int32.ofInt y).toInt
def xo_ (x y : Int) : Int := (Int32.ofInt x ^^^ Int32.ofInt y).toInt
def sl_ (x y : Int) : Int := (Int32.ofInt x <<< (Int32.ofInt y &&& 31)).toInt
def sr_ (x y : Int) : Int := (Int32.ofInt x >>> (Int32.ofInt y &&& 31)).toInt
def dq_ (x y : Int) : Int := (Int32.ofInt x / Int32.ofInt y).toInt
def dr_ (x y : Int) : Int := (Int32.ofInt x - Int32.ofInt x / Int32.ofInt y * Int32.ofInt y).toInt
def wq_ (z : Int) : Int := (z + 9223372036854775808) % 18446744073709551616 - 9223372036854775808
def us_ (x y : Int) : Int := ((Int32.ofInt x).toUInt32 >>> ((Int32.ofInt y).toUInt32 &&& Int32.toUInt32 31)).toInt32.toInt
/-- a place of the locals is set; not where the second half of a long stands -/
def st_ (K : Zl → Prop) : Zl → Nat → Option Zv → Prop
  | [], _, _ => False
  | _ :: t, 0, v => K (v :: t)
  | a :: t, 1, v => match a with
    | some (.inr (.inl _)) => False
    | a => st_ (fun t' => K (a :: t')) t 0 v
  | a :: t, k + 2, v => st_ (fun t' => K (a :: t')) t (k + 1) v
def rg_ (z : Int) (Q : Prop) : Prop := -2147483648 ≤ z ∧ z ≤ 2147483647 ∧ Q
def rl_ (z : Int) (Q : Prop) : Prop := -9223372036854775808 ≤ z ∧ z ≤ 9223372036854775807 ∧ Q
def rk_ (z : Int) (Q : Prop) : Prop := -9223372036854775808 ≤ z → z ≤ 9223372036854775807 → Q
def rh_ (z : Int) (Q : Prop) : Prop := -2147483648 ≤ z → z ≤ 2147483647 → Q
def br_ (c : ClassFile.Cond) (x y : Int) (A B : Prop) : Prop := match c with
  | .eq => (x = y → A) ∧ (¬ x = y → B)
  | .ne => (¬ x = y → A) ∧ (x = y → B)
  | .lt => (x < y → A) ∧ (y ≤ x → B)
  | .ge => (y ≤ x → A) ∧ (x < y → B)
  | .gt => (y < x → A) ∧ (x ≤ y → B)
  | .le => (x ≤ y → A) ∧ (y < x → B)
def sx_ (K : Int → Zl → List Zv → Zt → Prop) (P : Zt → Option Zv → Prop) : List Instr → Int → Zl → List Zv → Zt → Prop
  | [], pe, ls, st, T => K pe ls st T
  | i :: r, pe, ls, st, T => match i with
    | .iconst n => sx_ K P r pe ls (vI n :: st) T
    | .sipush n => sx_ K P r pe ls (vL n :: st) T
    | .iload k => (match ls[k]? with
      | some (some (.inl x)) => sx_ K P r pe ls (vI x :: st) T
      | _ => False)
    | .aload k => (match ls[k]? with
      | some (some (.inr (.inr q))) => sx_ K P r pe ls (.inr (.inr q) :: st) T
      | _ => False)
    | .lload k => (match ls[k]? with
      | some (some (.inr (.inl x))) => sx_ K P r pe ls (vL x :: st) T
      | _ => False)
    | .istore k => (match st with
      | .inl x :: st => st_ (fun ls => sx_ K P r pe ls st T) ls k (some (vI x))
      | _ => False)
    | .astore k => (match st with
      | .inr (.inr q) :: st => st_ (fun ls => sx_ K P r pe ls st T) ls k (some (.inr (.inr q)))
      | _ => False)
    | .lstore k => (match st with
      | .inr (.inl x) :: st => st_ (fun ls => st_ (fun ls => st_ (fun ls => sx_ K P r pe ls st T) ls k (some (vL x))) ls (k + 1) none) ls k none
      | _ => False)
    | .iinc k n => (match ls[k]? with
      | some (some (.inl x)) => rg_ (x + n) (st_ (fun ls => sx_ K P r pe ls st T) ls k (some (vI (x + n))))
      | _ => False)
    | .iadd => (match st with
      | .inl y :: .inl x :: st => rg_ (x + y) (sx_ K P r pe ls (vI (x + y) :: st) T)
      | _ => False)
    | .isub => (match st with
      | .inl y :: .inl x :: st => rg_ (x - y) (sx_ K P r pe ls (vI (x - y) :: st) T)
      | _ => False)
    | .imul => (match st with
      | .inl y :: .inl x :: st => rg_ (x * y) (sx_ K P r pe ls (vI (x * y) :: st) T)
      | _ => False)
    | .fadd => (match st with
      | .inl y :: .inl x :: st => rh_ (wr_ (x + y)) (sx_ K P r pe ls (vI (wr_ (x + y)) :: st) T)
      | _ => False)
    | .fsub => (match st with
      | .inl y :: .inl x :: st => rh_ (wr_ (x - y)) (sx_ K P r pe ls (vI (wr_ (x - y)) :: st) T)
      | _ => False)
    | .fmul => (match st with
      | .inl y :: .inl x :: st => rh_ (wr_ (x * y)) (sx_ K P r pe ls (vI (wr_ (x * y)) :: st) T)
      | _ => False)
    | .ineg => (match st with
      | .inl x :: st => rg_ (-x) (sx_ K P r pe ls (vI (-x) :: st) T)
      | _ => False)
    | .fneg => (match st with
      | .inl x :: st => rh_ (wr_ (-x)) (sx_ K P r pe ls (vI (wr_ (-x)) :: st) T)
      | _ => False)
    | .idiv => (match st with
      | .inl y :: .inl x :: st => 0 ≤ x ∧ 0 < y ∧ sx_ K P r pe ls (vI (x / y) :: st) T
      | _ => False)
    | .fdiv => (match st with
      | .inl y :: .inl x :: st => 0 < y ∧ rh_ (dq_ x y) (sx_ K P r pe ls (vI (dq_ x y) :: st) T)
      | _ => False)
    | .frem => (match st with
      | .inl y :: .inl x :: st => 0 < y ∧ rh_ (dr_ x y) (sx_ K P r pe ls (vI (dr_ x y) :: st) T)
      | _ => False)
    | .dadd => (match st with
      | .inr (.inl y) :: .inr (.inl x) :: st => rk_ (wq_ (x + y)) (sx_ K P r pe ls (vL (wq_ (x + y)) :: st) T)
      | _ => False)
    | .dsub => (match st with
      | .inr (.inl y) :: .inr (.inl x) :: st => rk_ (wq_ (x - y)) (sx_ K P r pe ls (vL (wq_ (x - y)) :: st) T)
      | _ => False)
    | .dmul => (match st with
      | .inr (.inl y) :: .inr (.inl x) :: st => rk_ (wq_ (x * y)) (sx_ K P r pe ls (vL (wq_ (x * y)) :: st) T)
      | _ => False)
    | .irem => (match st with
      | .inl y :: .inl x :: st => 0 ≤ x ∧ 0 < y ∧ sx_ K P r pe ls (vI (x % y) :: st) T
      | _ => False)
    | .iand => (match st with
      | .inl y :: .inl x :: st => rh_ (an_ x y) (sx_ K P r pe ls (vI (an_ x y) :: st) T)
      | _ => False)
    | .ior => (match st with
      | .inl y :: .inl x :: st => rh_ (or_ x y) (sx_ K P r pe ls (vI (or_ x y) :: st) T)
      | _ => False)
    | .ixor => (match st with
      | .inl y :: .inl x :: st => rh_ (xo_ x y) (sx_ K P r pe ls (vI (xo_ x y) :: st) T)
      | _ => False)
    | .ishl => (match st with
      | .inl y :: .inl x :: st => rh_ (sl_ x y) (sx_ K P r pe ls (vI (sl_ x y) :: st) T)
      | _ => False)
    | .ishr => (match st with
      | .inl y :: .inl x :: st => rh_ (sr_ x y) (sx_ K P r pe ls (vI (sr_ x y) :: st) T)
      | _ => False)
    | .iushr => (match st with
      | .inl y :: .inl x :: st => rh_ (us_ x y) (sx_ K P r pe ls (vI (us_ x y) :: st) T)
      | _ => False)
    | .i2l => (match st with
      | .inl x :: st => sx_ K P r pe ls (vL x :: st) T
      | _ => False)
    | .l2i => (match st with
      | .inr (.inl x) :: st => rg_ x (sx_ K P r pe ls (vI x :: st) T)
      | _ => False)
    | .ladd => (match st with
      | .inr (.inl y) :: .inr (.inl x) :: st => rl_ (x + y) (sx_ K P r pe ls (vL (x + y) :: st) T)
      | _ => False)
    | .lsub => (match st with
      | .inr (.inl y) :: .inr (.inl x) :: st => rl_ (x - y) (sx_ K P r pe ls (vL (x - y) :: st) T)
      | _ => False)
    | .lmul => (match st with
      | .inr (.inl y) :: .inr (.inl x) :: st => rl_ (x * y) (sx_ K P r pe ls (vL (x * y) :: st) T)
      | _ => False)
    | .lrem => (match st with
      | .inr (.inl y) :: .inr (.inl x) :: st => 0 ≤ x ∧ 0 < y ∧ sx_ K P r pe ls (vL (x % y) :: st) T
      | _ => False)
    | .lcmp => (match st with
      | .inr (.inl y) :: .inr (.inl x) :: st => (x < y → sx_ K P r pe ls (vI (-1) :: st) T) ∧ (x = y → sx_ K P r pe ls (vI 0 :: st) T) ∧ (y < x → sx_ K P r pe ls (vI 1 :: st) T)
      | _ => False)
    | .dup => (match st with
      | .inl x :: st => sx_ K P r pe ls (vI x :: vI x :: st) T
      | .inr (.inr q) :: st => sx_ K P r pe ls (.inr (.inr q) :: .inr (.inr q) :: st) T
      | _ => False)
    | .dup2 => (match st with
      | .inl y :: .inr (.inr q) :: st => sx_ K P r pe ls (vI y :: .inr (.inr q) :: vI y :: .inr (.inr q) :: st) T
      | _ => False)
    | .pop => (match st with
      | .inl _ :: st => sx_ K P r pe ls st T
      | .inr (.inr _) :: st => sx_ K P r pe ls st T
      | _ => False)
    | .goto t => K t ls st T
    | .if_icmp c t => (match st with
      | .inl y :: .inl x :: st => br_ c x y (K t ls st T) (sx_ K P r pe ls st T)
      | _ => False)
    | .ifCond c t => (match st with
      | .inl x :: st => br_ c x 0 (K t ls st T) (sx_ K P r pe ls st T)
      | _ => False)
    | .ifnull t => (match st with
      | .inr (.inr none) :: st => K t ls st T
      | .inr (.inr (some _)) :: st => sx_ K P r pe ls st T
      | _ => False)
    | .ifnonnull t => (match st with
      | .inr (.inr none) :: st => sx_ K P r pe ls st T
      | .inr (.inr (some _)) :: st => K t ls st T
      | _ => False)
    | .tableswitch o ci j _ => (match o with
      | 0 => (match st with
        | .inr (.inr (some (k, i))) :: st => if k = 100 + ci.toNat then (match (tf_ k)[j.toNat]? with
            | some (0, _, lo, hi) => lo ≤ T k i j → T k i j ≤ hi → sx_ K P r pe ls (vI (T k i j) :: st) T
            | some (1, k', _) => sx_ K P r pe ls (vR k' 0 :: st) T
            | some (2, k', _) => sx_ K P r pe ls (vR k' i :: st) T
            | some (3, k', _) => sx_ K P r pe ls (vR k' (T k i j) :: st) T
            | some (4, k', _) => (T k i j = 0 → sx_ K P r pe ls (vN :: st) T) ∧ (¬ T k i j = 0 → sx_ K P r pe ls (vR k' i :: st) T)
            | some (5, k', _) => (T k i j = 0 → sx_ K P r pe ls (vN :: st) T) ∧ (¬ T k i j = 0 → sx_ K P r pe ls (vR k' (T k i j - 1) :: st) T)
            | _ => False) else False
        | _ => False)
      | _ => (match st with
        | .inl x :: .inr (.inr (some (k, i))) :: st => if k = 100 + ci.toNat then (match (tf_ k)[j.toNat]? with
            | some (0, _, lo, hi) => lo ≤ x ∧ x ≤ hi ∧ sx_ K P r pe ls st (up_ T k i j x)
            | _ => False) else False
        | _ => False))
    | .iaload => (match st with
      | .inl x :: .inr (.inr (some (k, i))) :: st => (match ta_ k with
        | some (1, some n, lo, hi) => 0 ≤ x ∧ x < n ∧ (lo ≤ T k i x → T k i x ≤ hi → sx_ K P r pe ls (vI (T k i x) :: st) T)
        | some (1, none, lo, hi) => 0 ≤ x ∧ x < T k i (-2) ∧ (lo ≤ T k i x → T k i x ≤ hi → sx_ K P r pe ls (vI (T k i x) :: st) T)
        | _ => False)
      | _ => False)
    | .baload => (match st with
      | .inl x :: .inr (.inr (some (k, i))) :: st => (match ta_ k with
        | some (2, some n, lo, hi) => 0 ≤ x ∧ x < n ∧ (lo ≤ T k i x → T k i x ≤ hi → sx_ K P r pe ls (vI (T k i x) :: st) T)
        | _ => False)
      | _ => False)
    | .laload => (match st with
      | .inl x :: .inr (.inr (some (k, i))) :: st => (match ta_ k with
        | some (3, some n, lo, hi) => 0 ≤ x ∧ x < n ∧ (lo ≤ T k i x → T k i x ≤ hi → sx_ K P r pe ls (vL (T k i x) :: st) T)
        | _ => False)
      | _ => False)
    | .aaload => (match st with
      | .inl x :: .inr (.inr (some (k, i))) :: st => (match ta_ k with
        | some (4, some n, _) => 0 ≤ x ∧ x < n ∧ (T k i x = 0 → sx_ K P r pe ls (vN :: st) T) ∧ (¬ T k i x = 0 → sx_ K P r pe ls (vR 100 x :: st) T)
        | some (5, some n, _) => 0 ≤ x ∧ x < n ∧ (T k i x = 0 → sx_ K P r pe ls (vN :: st) T) ∧ (¬ T k i x = 0 → sx_ K P r pe ls (vR 102 x :: st) T)
        | _ => False)
      | _ => False)
    | .iastore => (match st with
      | .inl v :: .inl x :: .inr (.inr (some (k, i))) :: st => (match ta_ k with
        | some (1, some n, lo, hi) => 0 ≤ x ∧ x < n ∧ lo ≤ v ∧ v ≤ hi ∧ sx_ K P r pe ls st (up_ T k i x v)
        | some (1, none, lo, hi) => 0 ≤ x ∧ x < T k i (-2) ∧ lo ≤ v ∧ v ≤ hi ∧ sx_ K P r pe ls st (up_ T k i x v)
        | _ => False)
      | _ => False)
    | .bastore => (match st with
      | .inl v :: .inl x :: .inr (.inr (some (k, i))) :: st => (match ta_ k with
        | some (2, some n, lo, hi) => 0 ≤ x ∧ x < n ∧ lo ≤ v ∧ v ≤ hi ∧ sx_ K P r pe ls st (up_ T k i x v)
        | _ => False)
      | _ => False)
    | .lastore => (match st with
      | .inr (.inl v) :: .inl x :: .inr (.inr (some (k, i))) :: st => (match ta_ k with
        | some (3, some n, lo, hi) => 0 ≤ x ∧ x < n ∧ lo ≤ v ∧ v ≤ hi ∧ sx_ K P r pe ls st (up_ T k i x v)
        | _ => False)
      | _ => False)
    | .arraylength => (match st with
      | .inr (.inr (some (k, i))) :: st => (match ta_ k with
        | some (_, some n, _) => sx_ K P r pe ls (vI n :: st) T
        | some (_, none, _) => 0 ≤ T k i (-2) → T k i (-2) ≤ 2147483647 → sx_ K P r pe ls (vI (T k i (-2)) :: st) T
        | _ => False)
      | _ => False)
    | .ireturn => (match st with
      | [.inl x] => P T (some (vI x))
      | _ => False)
    | .lreturn => (match st with
      | [.inr (.inl x)] => P T (some (vL x))
      | _ => False)
    | .return_ => (match st with
      | [] => P T none
      | _ => False)
    | _ => False
-- how a picture stands in a heap
def ce_ (cA : Nat → ClassId) (ad : Nat → Int → Nat) (T : Zt) (k : Nat) (i : Int) : va_E := match ta_ k with
  | some (1, _, _) => .inl (cA 0, (ln_ T k i).toNat, .inl fun x => Int32.ofInt (T k i (x : Int)))
  | some (2, _, _) => .inl (cA 1, (ln_ T k i).toNat, .inl fun x => Int32.ofInt (T k i (x : Int)))
  | some (3, _, _) => .inl (cA 2, (ln_ T k i).toNat, .inr (.inl fun x => Int64.ofInt (T k i (x : Int))))
  | some (4, _, _) => .inl (cA 3, (ln_ T k i).toNat, .inr (.inr (.inr (.inr fun x => if T k i (x : Int) = 0 then none else some (ad 100 x)))))
  | some (_, _, _) => .inl (cA 4, (ln_ T k i).toNat, .inr (.inr (.inr (.inr fun x => if T k i (x : Int) = 0 then none else some (ad 102 x)))))
  | none => .inr (kc_ k, (tf_ k).zipIdx.map fun q => en_v ad (fv_ q.1.1 q.1.2.1 (T k i (q.2 : Int)) i))
def wd_ (cA : Nat → ClassId) (ad : Nat → Int → Nat) (T : Zt) (ids : List (Nat × Int)) : va_W := ids.map fun q => (ad q.1 q.2, ce_ cA ad T q.1 q.2)
abbrev ty_ (cA : Nat → ClassId) : List (ClassId × FieldType) := [(cA 0, .int), (cA 1, .boolean), (cA 2, .long), (cA 3, .object RX0), (cA 4, .object RX2)]
def Rp_ (D : va_G) (cA : Nat → ClassId) (ad : Nat → Int → Nat) (T : Zt) (A : Nat → Prop) (H : Heap) : Prop := ∃ ids : List (Nat × Int), (∀ k i, al_ T k i ↔ (k, i) ∈ ids) ∧ va_P D vwCl (wd_ cA ad T ids) H ∧ va_D A (wd_ cA ad T ids)
/-- the rows of a competition, a match, a play are there only where it is -/
def ow_ (k : Nat) : Option Nat := if 400 ≤ k ∧ k < 420 then some 100 else if 440 ≤ k ∧ k < 460 then some 102 else if 460 ≤ k ∧ k < 480 then some 103 else none
/-- the picture keeps its table: bounds, and what is referred to is there; 191 0 0 counts the rows of kind 190 -/
def ok_T (T : Zt) : Prop :=
  (∀ k t n lo hi, ta_ k = some (t, n, lo, hi) → ∀ i x, 0 ≤ x → lo ≤ T k i x ∧ T k i x ≤ hi) ∧
  (∀ (k j c k' : Nat) (lo hi : Int), (tf_ k)[j]? = some (c, k', lo, hi) → ∀ i, lo ≤ T k i (j : Int) ∧ T k i (j : Int) ≤ hi) ∧
  (∀ i, 0 ≤ T 190 i (-2) ∧ T 190 i (-2) ≤ 2147483647) ∧
  (∀ k i, al_ T k i → ∀ (j c k' : Nat) (lo hi : Int), (tf_ k)[j]? = some (c, k', lo, hi) → ok_v T (fv_ c k' (T k i (j : Int)) i)) ∧
  (∀ i x, 0 ≤ x → T 521 i x ≠ 0 → al_ T 100 x) ∧ (∀ i x, 0 ≤ x → T 523 i x ≠ 0 → al_ T 102 x) ∧ (∀ k i, k < 100 → ¬ al_ T k i) ∧ (∀ k i o, ow_ k = some o → al_ T k i → al_ T o i ∨ al_ T (o + 50) i) ∧ (∀ i, T 191 0 0 ≤ i → ¬ al_ T 190 i)
def ok_l (T : Zt) (ls : Zl) (st : List Zv) : Prop := (∀ (k : Nat) (v : Zv), ls[k]? = some (some v) → ok_v T v) ∧ ∀ v ∈ st, ok_v T v
def Sb_ (ad0 ad : Nat → Int → Nat) (T0 T : Zt) : Prop := (∀ k i, al_ T0 k i → al_ T k i) ∧ ∀ k i, k < 100 ∨ al_ T0 k i → ad k i = ad0 k i
def lp_ (ad : Nat → Int → Nat) : Nat → Zl → List (Nat × Value)
  | _, [] => []
  | n, none :: r => lp_ ad (n + 1) r
  | n, some v :: r => (n, en_v ad v) :: lp_ ad (n + 1) r
/-- the static rows, which no method writes: AT_FIRST, LEAST, MOST -/
def sa_ (i : Nat) : List Int := ([[0, 3, 1, 0, 2, 0, 1, 7, 1, 2, 2, 3, 3, 3, 1, 0], [0, 0, 0, 0, 0, 0, 1, 1, 1, 1, 0, 2, 1, 1, 1, 0], [3, 9, 9, 9, 7, 1, 4, 30, 9, 6, 5, 25, 9, 9, 9, 999]] : List (List Int)).getD i []
def sn_ (i : Nat) : String := (["AT_FIRST", "LEAST", "MOST"] : List String).getD i ""
/-- the texts of the file, which no method writes -/
def stx_ (i : Nat) : Nat × String := ([(53, "sport;points;order;redo;legs;every;rest;field;subs;target;walkover;cards;red;seed;"), (82, "football;volleyball;tennis;baseball;"), (90, "diff;scored;wins;away;head;fair;lots;")] : List (Nat × String)).getD i (0, "")
def sle_ : List Nat := [82, 36, 37]
def sby_ : List (List Int32) := [[115, 112, 111, 114, 116, 59, 112, 111, 105, 110, 116, 115, 59, 111, 114, 100, 101, 114, 59, 114, 101, 100, 111, 59, 108, 101, 103, 115, 59, 101, 118, 101, 114, 121, 59, 114, 101, 115, 116, 59, 102, 105, 101, 108, 100, 59, 115, 117, 98, 115, 59, 116, 97, 114, 103, 101, 116, 59, 119, 97, 108, 107, 111, 118, 101, 114, 59, 99, 97, 114, 100, 115, 59, 114, 101, 100, 59, 115, 101, 101, 100, 59], [102, 111, 111, 116, 98, 97, 108, 108, 59, 118, 111, 108, 108, 101, 121, 98, 97, 108, 108, 59, 116, 101, 110, 110, 105, 115, 59, 98, 97, 115, 101, 98, 97, 108, 108, 59], [100, 105, 102, 102, 59, 115, 99, 111, 114, 101, 100, 59, 119, 105, 110, 115, 59, 97, 119, 97, 121, 59, 104, 101, 97, 100, 59, 102, 97, 105, 114, 59, 108, 111, 116, 115, 59]]
def stz_ (ad : Nat → Int → Nat) (A : Nat → Prop) (U : State) : Prop := vk_S 3 sle_ sby_ (fun i => ad 82 (i : Int)) (fun i => ad 83 (i : Int)) A U U.heap ∧ (∀ i : Nat, i < 3 → vk_R "SportsHouse$RuleText" (stx_ i).1 (stx_ i).2 (ad 82 (i : Int)) U) ∧ va_Z "java/lang/String" "COMPACT_STRINGS" "Z" (.int 1) A U U.heap ∧ (va_Z "jdk/internal/util/Preconditions" "SIOOBE_FORMATTER" "Ljava/util/function/BiFunction;" .null A U U.heap ∨ va_Z "jdk/internal/util/Preconditions" "SIOOBE_FORMATTER" "Ljava/util/function/BiFunction;" (.ref (ad 84 0)) A U U.heap)
def se_ (ad : Nat → Int → Nat) (A : Nat → Prop) (U : State) : Prop := (∀ i : Nat, i < 3 → va_Z "SportsHouse$RuleText" (sn_ i) "[I" (.ref (ad 81 i)) A U U.heap ∧ va_T .int (ad 81 i) 16 (fun j => .int (Int32.ofInt ((sa_ i).getD j 0))) A U U.heap) ∧ stz_ ad A U
abbrev Zm : Type := String × ByteArray × Nat × Option FieldType × Room
def Qc_ (D : va_G) (cA : Nat → ClassId) (ad0 : Nat → Int → Nat) (T0 : Zt) (A : Nat → Prop) (P : Zt → Option Zv → Prop) : Array Value → State → Outcome → State → Prop := fun _ st oc t =>
  (∃ (T : Zt) (ad : Nat → Int → Nat) (r : Option Zv), oc = .returned (r.map (en_v ad)) ∧ P T r ∧ ok_T T ∧ (∀ v, r = some v → ok_v T v) ∧ Rp_ D cA ad T A t.heap ∧ Sb_ ad0 ad T0 T) ∧ va_F A st t
/-- the room of the constructors is marked by its slots, so that a walk knows that it may put final fields -/
def im_ (n : Nat) : Bool := n == 23 || n == 25 || n == 111
def Cx_ (Y : Zm) (p : Program) (s : State) (m : MethodId) (args : Array Value) (meth : Method) (c : Code) (D : va_G) (cA : Nat → ClassId) (ad0 : Nat → Int → Nat) (A : Nat → Prop) : Prop :=
  p.tables.exec = Jvm.exec ∧ c.code = Y.2.1 ∧ c.maxLocals = Y.2.2.1 ∧ meth.sig.returnType = Y.2.2.2.1 ∧ meth.locks = false ∧ (∀ w ∈ lw_g, w.before args s = true) ∧ s.vm.findClass Y.1 = some m.cls ∧ va_K D vwCl (ty_ cA) s ∧ ex_E s ∧ (∀ q, s.heap.size ≤ q → A q) ∧ se_ ad0 A s ∧ (im_ Y.2.2.2.2.slots = true → meth.name = "<init>")
/-- from here on the method ends, and P holds of what it leaves -/
def J_ (Y : Zm) (T0 : Zt) (P : Zt → Option Zv → Prop) (bc bs : Nat) (pc : Int) (ls : Zl) (st : List Zv) (T : Zt) : Prop :=
  ∀ (l : Launch) (p : Program) (e : Env) (s : State) (m : MethodId) (args : Array Value) (below : List Frame) (meth : Method) (c : Code) (D : va_G) (cA : Nat → ClassId) (ad0 : Nat → Int → Nat) (A : Nat → Prop), Cx_ Y p s m args meth c D cA ad0 A →
  ∀ (ad : Nat → Int → Nat) (H : Heap) (locs : List Loc) (cells slots : Nat) (lsC : Array Slot), cells + bc ≤ Y.2.2.2.2.cells → slots + bs ≤ Y.2.2.2.2.slots → Rp_ D cA ad T A H → va_S A s.heap H locs → Sb_ ad0 ad T0 T → ok_T T → ok_l T ls st → lv_has lsC Y.2.2.1 (lp_ ad 0 ls) → ls.length = Y.2.2.1 →
  W p l e Y.2.2.2.2 s m args below meth c H locs cells slots (MQ below (Qc_ D cA ad0 T0 A P) args s Y.2.2.2.2.cells Y.2.2.2.2.slots A) (F0 m pc.toNat lsC (st.map (en_v ad)))
-- rows of the picture
theorem up_s (T : Zt) (k : Nat) (i j v : Int) : up_ T k i j v k i j = v := by simp [up_]
theorem up_n {T : Zt} {k k' : Nat} {i j v i' j' : Int} (h : ¬ (k' = k ∧ i' = i ∧ j' = j)) : up_ T k i j v k' i' j' = T k' i' j' := by simp [up_, h]
theorem up_o {T : Zt} {k k' : Nat} {i j v i' : Int} (h : (k', i') ≠ (k, i)) : up_ T k i j v k' i' = T k' i' := by
  funext j'
  refine up_n (fun q => h ?_)
  rw [q.1, q.2.1]
theorem lp_get {ad : Nat → Int → Nat} : ∀ {ls : Zl} {n k : Nat} {v : Zv}, ls[k]? = some (some v) → (n + k, en_v ad v) ∈ lp_ ad n ls
  | [], _, _, _, h => by simp at h
  | none :: r, n, 0, v, h => by simp at h
  | some w :: r, n, 0, v, h => by simp at h; subst h; simp [lp_]
  | none :: r, n, k + 1, v, h => by
    have h1 : r[k]? = some (some v) := by simpa using h
    have := lp_get (ad := ad) (n := n + 1) h1
    rw [show n + (k + 1) = n + 1 + k by omega]
    exact this
  | some w :: r, n, k + 1, v, h => by
    have h1 : r[k]? = some (some v) := by simpa using h
    have := lp_get (ad := ad) (n := n + 1) h1
    rw [show n + (k + 1) = n + 1 + k by omega]
    exact List.mem_cons_of_mem _ this
theorem lp_mem {ad : Nat → Int → Nat} : ∀ {ls : Zl} {n : Nat} {q : Nat × Value}, q ∈ lp_ ad n ls → ∃ k v, q = (n + k, en_v ad v) ∧ ls[k]? = some (some v)
  | [], _, _, h => by simp [lp_] at h
  | none :: r, n, q, h => by
    obtain ⟨k, v, e, h1⟩ := lp_mem (ls := r) (n := n + 1) h
    exact ⟨k + 1, v, by rw [e]; congr 1; omega, by simpa using h1⟩
  | some w :: r, n, q, h => by
    rcases List.mem_cons.mp h with rfl | h
    · exact ⟨0, w, rfl, rfl⟩
    · obtain ⟨k, v, e, h1⟩ := lp_mem (ls := r) (n := n + 1) h
      exact ⟨k + 1, v, by rw [e]; congr 1; omega, by simpa using h1⟩
theorem lp_read {ad : Nat → Int → Nat} {lsC : Array Slot} {nL : Nat} {ls : Zl} {k : Nat} {v : Zv} (h : lv_has lsC nL (lp_ ad 0 ls)) (hk : ls[k]? = some (some v)) : lsC[k]? = some (.val (en_v ad v)) := by
  have := h.2.2 _ (lp_get (ad := ad) (n := 0) hk)
  simpa using this
theorem en_cat {ad : Nat → Int → Nat} {v : Zv} : (en_v ad v).category = 2 ↔ ∃ x, v = vL x := by
  rcases v with x | x | _ | ⟨k, i⟩ <;> simp [en_v, Value.category]
theorem st_spec : ∀ {ls : Zl} {K : Zl → Prop} {k : Nat} {v : Option Zv}, st_ K ls k v → k < ls.length ∧ (∀ (k0 : Nat) (x : Int), k = k0 + 1 → ls[k0]? ≠ some (some (vL x))) ∧ K (ls.set k v)
  | [], _, _, _, h => by simp [st_] at h
  | a :: t, K, 0, v, h => ⟨by simp, fun k0 x e => by omega, by simpa [st_] using h⟩
  | a :: t, K, 1, v, h => by
    have h1 : st_ (fun t' => K (a :: t')) t 0 v ∧ ∀ x, a ≠ some (vL x) := by
      rcases a with _ | x | x | q
      · exact ⟨h, fun _ => by simp⟩
      · exact ⟨h, fun _ => by simp [vL]⟩
      · exact absurd h (by simp [st_])
      · exact ⟨h, fun _ => by simp [vL]⟩
    obtain ⟨q1, q2, q3⟩ := st_spec h1.1
    refine ⟨by simp; omega, fun k0 x e => ?_, by simpa using q3⟩
    have : k0 = 0 := by omega
    subst this
    simpa using h1.2 x
  | a :: t, K, k + 2, v, h => by
    have h1 : st_ (fun t' => K (a :: t')) t (k + 1) v := h
    obtain ⟨q1, q2, q3⟩ := st_spec h1
    refine ⟨by simp; omega, fun k0 x e => ?_, by simpa using q3⟩
    obtain ⟨k1, rfl⟩ : ∃ k1, k0 = k1 + 1 := ⟨k, by omega⟩
    have := q2 k1 x (by omega)
    simpa using this
theorem lp_set1 {ad : Nat → Int → Nat} {lsC : Array Slot} {nL : Nat} {ls : Zl} {k : Nat} {v : Zv} {w : Value} (hw : en_v ad v = w) (hn : ∀ (k0 : Nat) (x : Int), k = k0 + 1 → ls[k0]? ≠ some (some (vL x))) (h : lv_has lsC nL ((k, w) :: (lp_ ad 0 ls).filter (fun q => !(q.1 == k) && !(q.1 + 1 == k && q.2.category == 2)))) : lv_has lsC nL (lp_ ad 0 (ls.set k (some v))) := by
  subst hw
  refine ⟨h.1, h.2.1, fun q hq => ?_⟩
  obtain ⟨j, u, rfl, hu⟩ := lp_mem hq
  rw [List.getElem?_set] at hu
  by_cases hj : k = j
  · subst hj
    rw [if_pos rfl] at hu
    by_cases hl : k < ls.length
    · rw [if_pos hl] at hu
      simp at hu
      subst hu
      have := h.2.2 (k, en_v ad v) List.mem_cons_self
      simpa using this
    · rw [if_neg hl] at hu
      simp at hu
  · rw [if_neg hj] at hu
    refine h.2.2 _ (List.mem_cons_of_mem _ (List.mem_filter.mpr ⟨lp_get hu, ?_⟩))
    have h1 : ¬ (0 + j + 1 = k ∧ (en_v ad u).category = 2) := by
      rintro ⟨a, b⟩
      obtain ⟨x, rfl⟩ := en_cat.mp b
      exact hn j x (by omega) hu
    simp only [Bool.and_eq_true, Bool.not_eq_true', beq_eq_false_iff_ne, ne_eq, Bool.and_eq_false_iff]
    refine ⟨by omega, ?_⟩
    by_cases z : 0 + j + 1 = k
    · exact Or.inr (fun b => h1 ⟨z, b⟩)
    · exact Or.inl z
-- numbers
theorem i3_t {x : Int} (h1 : -2147483648 ≤ x) (h2 : x ≤ 2147483647) : (Int32.ofInt x).toInt = x := Int32.toInt_ofInt_of_le (by omega) (by omega)
theorem i6_t {x : Int} (h1 : -9223372036854775808 ≤ x) (h2 : x ≤ 9223372036854775807) : (Int64.ofInt x).toInt = x := Int64.toInt_ofInt_of_le (by omega) (by omega)
theorem i3_eq {x y : Int} (h1 : -2147483648 ≤ x ∧ x ≤ 2147483647) (h2 : -2147483648 ≤ y ∧ y ≤ 2147483647) : Int32.ofInt x = Int32.ofInt y ↔ x = y := ⟨fun h => by have := congrArg Int32.toInt h; rwa [i3_t h1.1 h1.2, i3_t h2.1 h2.2] at this, fun h => by rw [h]⟩
theorem i3_le {x y : Int} (h1 : -2147483648 ≤ x ∧ x ≤ 2147483647) (h2 : -2147483648 ≤ y ∧ y ≤ 2147483647) : Int32.ofInt x ≤ Int32.ofInt y ↔ x ≤ y := by rw [Int32.le_iff_toInt_le, i3_t h1.1 h1.2, i3_t h2.1 h2.2]
theorem i3_lt {x y : Int} (h1 : -2147483648 ≤ x ∧ x ≤ 2147483647) (h2 : -2147483648 ≤ y ∧ y ≤ 2147483647) : Int32.ofInt x < Int32.ofInt y ↔ x < y := by rw [Int32.lt_iff_toInt_lt, i3_t h1.1 h1.2, i3_t h2.1 h2.2]
theorem i3_in {x n : Int} (h1 : 0 ≤ x) (h2 : x < n) (h3 : x ≤ 2147483647) : vp_in (Int32.ofInt x) n.toNat := vp_in_iff.mpr (by rw [i3_t (by omega) h3]; omega)
theorem i3_cl {x : Int} (h1 : 0 ≤ x) (h3 : x ≤ 2147483647) : ((Int32.ofInt x).toNatClampNeg : Int) = x := by
  show (((Int32.ofInt x).toInt.toNat : Nat) : Int) = x
  rw [i3_t (by omega) h3]; omega
theorem i3_r (v : Int32) : -2147483648 ≤ v.toInt ∧ v.toInt ≤ 2147483647 := ⟨Int32.le_toInt v, by have := Int32.toInt_lt v; omega⟩
theorem i3_div {x y : Int} (h1 : 0 ≤ x) (h2 : x ≤ 2147483647) (h3 : 0 < y) (h4 : y ≤ 2147483647) : Int32.ofInt x / Int32.ofInt y = Int32.ofInt (x / y) := by
  obtain ⟨a, rfl⟩ := Int.eq_ofNat_of_zero_le h1
  obtain ⟨b, rfl⟩ := Int.eq_ofNat_of_zero_le (Int.le_of_lt h3)
  exact pk_div (a := a) (d := b) (by omega) (by omega) (by omega)
theorem i3_rem {x y : Int} (h1 : 0 ≤ x) (h2 : x ≤ 2147483647) (h3 : 0 < y) (h4 : y ≤ 2147483647) : Int32.ofInt x - Int32.ofInt x / Int32.ofInt y * Int32.ofInt y = Int32.ofInt (x % y) := by
  obtain ⟨a, rfl⟩ := Int.eq_ofNat_of_zero_le h1
  obtain ⟨b, rfl⟩ := Int.eq_ofNat_of_zero_le (Int.le_of_lt h3)
  exact pk_rem (a := a) (d := b) (by omega) (by omega) (by omega)
theorem i6_rem {x y : Int} (h1 : 0 ≤ x) (h2 : x ≤ 9223372036854775807) (h3 : 0 < y) (h4 : y ≤ 9223372036854775807) : Int64.ofInt x - Int64.ofInt x / Int64.ofInt y * Int64.ofInt y = Int64.ofInt (x % y) := by
  obtain ⟨a, rfl⟩ := Int.eq_ofNat_of_zero_le h1
  obtain ⟨b, rfl⟩ := Int.eq_ofNat_of_zero_le (Int.le_of_lt h3)
  exact pk_lRem (a := a) (b := b) (by omega) (by omega) (by omega)
theorem i3_ne {y : Int} (h3 : 0 < y) (h4 : y ≤ 2147483647) : ¬ Int32.ofInt y = 0 := fun h => by
  have := congrArg Int32.toInt h
  rw [i3_t (by omega) h4] at this
  have e : (0 : Int32).toInt = 0 := rfl
  omega
theorem i6_ne {y : Int} (h3 : 0 < y) (h4 : y ≤ 9223372036854775807) : ¬ Int64.ofInt y = 0 := fun h => by
  have := congrArg Int64.toInt h
  rw [i6_t (by omega) h4] at this
  have e : (0 : Int64).toInt = 0 := rfl
  omega
theorem wr_ofInt (z : Int) : Int32.ofInt (wr_ z) = Int32.ofInt z := by
  apply Int32.toInt_inj.mp
  rw [Int32.toInt_ofInt, Int32.toInt_ofInt]
  simp only [wr_, Int.bmod_def, Int32.size]
  omega
theorem wq_ofInt (z : Int) : Int64.ofInt (wq_ z) = Int64.ofInt z := by
  apply Int64.toInt_inj.mp
  rw [Int64.toInt_ofInt, Int64.toInt_ofInt]
  simp only [wq_, Int.bmod_def, Int64.size]
  omega
theorem wq_r (z : Int) : -9223372036854775808 ≤ wq_ z ∧ wq_ z ≤ 9223372036854775807 := by unfold wq_; omega
theorem wr_r (z : Int) : -2147483648 ≤ wr_ z ∧ wr_ z ≤ 2147483647 := by unfold wr_; omega
theorem i3_l {x : Int} (h : -2147483648 ≤ x ∧ x ≤ 2147483647) : (Int32.ofInt x).toInt64 = Int64.ofInt x := by
  apply Int64.toInt_inj.mp
  rw [Int32.toInt_toInt64, i3_t h.1 h.2, i6_t (by omega) (by omega)]
theorem i6_i {x : Int} (h : -2147483648 ≤ x ∧ x ≤ 2147483647) : (Int64.ofInt x).toInt32 = Int32.ofInt x := by
  apply Int32.toInt_inj.mp
  rw [Int64.toInt_toInt32, i6_t (by omega) (by omega), i3_t h.1 h.2]
  simp only [Int.bmod_def]
  omega
theorem i6_cmp {x y : Int} (h1 : -9223372036854775808 ≤ x ∧ x ≤ 9223372036854775807) (h2 : -9223372036854775808 ≤ y ∧ y ≤ 9223372036854775807) : lg_cmp (Int64.ofInt x) (Int64.ofInt y) = Int32.ofInt (if x < y then -1 else if x = y then 0 else 1) := by
  have e1 : Int64.ofInt y < Int64.ofInt x ↔ y < x := by rw [Int64.lt_iff_toInt_lt, i6_t h1.1 h1.2, i6_t h2.1 h2.2]
  have e2 : Int64.ofInt x = Int64.ofInt y ↔ x = y := ⟨fun h => by have := congrArg Int64.toInt h; rwa [i6_t h1.1 h1.2, i6_t h2.1 h2.2] at this, fun h => by rw [h]⟩
  unfold lg_cmp
  simp only [e1, e2]
  by_cases a : x < y
  · have b : ¬ y < x := by omega
    have c : ¬ x = y := by omega
    simp [a, b, c]
  · by_cases b : x = y
    · subst b
      simp
    · have c : y < x := by omega
      simp [a, b, c]
section JR
variable {Y : Zm} {T0 T : Zt} {P : Zt → Option Zv → Prop} {bc bs : Nat} {pc : Int} {ls : Zl} {st : List Zv}
/-- an instruction that changes the operand stack alone -/
theorem j_pure {n : Nat} {st' : List Zv} (hp : 0 ≤ pc) (hok : ok_l T ls st → ok_l T ls st')
    (hw : ∀ (p : Program) (l : Launch) (e : Env) (R : Room) (s : State) (m : MethodId) (args : Array Value) (below : List Frame) (meth : Method) (c : Code) (H : Heap) (locs : List Loc) (cells slots : Nat) (Q : State → Prop) (lsC : Array Slot) (ad : Nat → Int → Nat), p.tables.exec = Jvm.exec → c.code = Y.2.1 → (∀ w ∈ lw_g, w.before args s = true) → s.vm.findClass Y.1 = some m.cls → ok_l T ls st → lv_has lsC Y.2.2.1 (lp_ ad 0 ls) → W p l e R s m args below meth c H locs cells slots Q (F0 m (pc.toNat + n) lsC (st'.map (en_v ad))) → W p l e R s m args below meth c H locs cells slots Q (F0 m pc.toNat lsC (st.map (en_v ad))))
    (k : J_ Y T0 P bc bs (pc + n) ls st' T) : J_ Y T0 P bc bs pc ls st T := by
  intro l p e s m args below meth c D cA ad0 A X ad H locs cells slots lsC hc hs hR hS hB hT hL hl hn
  have h1 := k l p e s m args below meth c D cA ad0 A X ad H locs cells slots lsC hc hs hR hS hB hT (hok hL) hl hn
  rw [show (pc + n).toNat = pc.toNat + n by omega] at h1
  exact hw _ _ _ _ _ _ _ _ _ _ _ _ _ _ _ _ _ X.1 X.2.1 X.2.2.2.2.2.1 X.2.2.2.2.2.2.1 hL hl h1
/-- a jump -/
theorem j_jump {tgt : Int} (hp : 0 ≤ pc) (ht : 0 ≤ tgt) {off : Int} (e : pc + off = tgt) (hd : decode Y.2.1 pc.toNat = .ok (.goto off, 3)) (k : J_ Y T0 P bc bs tgt ls st T) : J_ Y T0 P bc bs pc ls st T := by
  intro l p e' s m args below meth c D cA ad0 A X ad H locs cells slots lsC hc hs hR hS hB hT hL hl hn
  exact lv_goto (tgt := tgt.toNat) X.1 X.2.1 hd (by omega) (k l p e' s m args below meth c D cA ad0 A X ad H locs cells slots lsC hc hs hR hS hB hT hL hl hn)
theorem ok_push {v : Zv} (hv : ok_v T v) (h : ok_l T ls st) : ok_l T ls (v :: st) := ⟨h.1, fun w hw => (List.mem_cons.mp hw).elim (fun q => q ▸ hv) (h.2 w)⟩
theorem ok_head {v : Zv} (h : ok_l T ls (v :: st)) : ok_v T v := h.2 v List.mem_cons_self
theorem ok_tail {v : Zv} (h : ok_l T ls (v :: st)) : ok_l T ls st := ⟨h.1, fun w hw => h.2 w (List.mem_cons_of_mem _ hw)⟩
theorem ok_set {k : Nat} {v : Option Zv} (hv : ∀ w, v = some w → ok_v T w) (h : ok_l T ls st) : ok_l T (ls.set k v) st := by
  refine ⟨fun j w hj => ?_, h.2⟩
  rw [List.getElem?_set] at hj
  by_cases a : k = j
  · rw [if_pos a] at hj
    by_cases b : k < ls.length
    · rw [if_pos b] at hj
      exact hv w (by simpa using hj)
    · rw [if_neg b] at hj
      simp at hj
  · rw [if_neg a] at hj
    exact h.1 j w hj
theorem j_iconst {n : Int} (h1 : -2147483648 ≤ n) (h2 : n ≤ 2147483647) (hd : decode Y.2.1 pc.toNat = .ok (.iconst n, 1)) (hp : 0 ≤ pc) (k : J_ Y T0 P bc bs (pc + 1) ls (vI n :: st) T) : J_ Y T0 P bc bs pc ls (st) T :=
  j_pure (n := 1) (st' := vI n :: st) hp (fun h => ok_push (show ok_v T (vI n) from ⟨h1, h2⟩) h) (fun p l e R s m args below meth c H locs cells slots Q lsC ad hx hb ht ho hL hl k => lv_iconst hx hb hd rfl k) (by simpa using k)
theorem j_bipush {n : Int} (h1 : -128 ≤ n) (h2 : n ≤ 127) (hd : decode Y.2.1 pc.toNat = .ok (.bipush n, 2)) (hp : 0 ≤ pc) (k : J_ Y T0 P bc bs (pc + 2) ls (vI n :: st) T) : J_ Y T0 P bc bs pc ls (st) T :=
  j_pure (n := 2) (st' := vI n :: st) hp (fun h => ok_push (show ok_v T (vI n) from ⟨by omega, by omega⟩) h) (fun p l e R s m args below meth c H locs cells slots Q lsC ad hx hb ht ho hL hl k => lv_bipush hx hb hd (by apply Int32.toInt_inj.mp; rw [Int8.toInt_toInt32, Int8.toInt_ofInt_of_le (by omega) (by omega), i3_t (by omega) (by omega)]) k) (by simpa using k)
theorem j_sipush {n : Int} (h1 : -32768 ≤ n) (h2 : n ≤ 32767) (hd : decode Y.2.1 pc.toNat = .ok (.sipush n, 3)) (hp : 0 ≤ pc) (k : J_ Y T0 P bc bs (pc + 3) ls (vI n :: st) T) : J_ Y T0 P bc bs pc ls (st) T :=
  j_pure (n := 3) (st' := vI n :: st) hp (fun h => ok_push (show ok_v T (vI n) from ⟨by omega, by omega⟩) h) (fun p l e R s m args below meth c H locs cells slots Q lsC ad hx hb ht ho hL hl k => lv_sipush hx hb hd (by apply Int32.toInt_inj.mp; rw [Int16.toInt_toInt32, Int16.toInt_ofInt_of_le (by omega) (by omega), i3_t (by omega) (by omega)]) k) (by simpa using k)
theorem j_ldc {n : Int} {idx : Nat} (h1 : -2147483648 ≤ n) (h2 : n ≤ 2147483647) (hc : Cond.constant Y.1 idx (Int32.ofInt n) ∈ lw_g) (hd : decode Y.2.1 pc.toNat = .ok (.ldc idx, 2)) (hp : 0 ≤ pc) (k : J_ Y T0 P bc bs (pc + 2) ls (vI n :: st) T) : J_ Y T0 P bc bs pc ls (st) T :=
  j_pure (n := 2) (st' := vI n :: st) hp (fun h => ok_push (show ok_v T (vI n) from ⟨h1, h2⟩) h) (fun p l e R s m args below meth c H locs cells slots Q lsC ad hx hb ht ho hL hl k => lv_ldc hx hb ho (ht _ hc) hd k) (by simpa using k)
theorem j_ldcw {n : Int} {idx : Nat} (h1 : -2147483648 ≤ n) (h2 : n ≤ 2147483647) (hc : Cond.constant Y.1 idx (Int32.ofInt n) ∈ lw_g) (hd : decode Y.2.1 pc.toNat = .ok (.ldc_w idx, 3)) (hp : 0 ≤ pc) (k : J_ Y T0 P bc bs (pc + 3) ls (vI n :: st) T) : J_ Y T0 P bc bs pc ls (st) T :=
  j_pure (n := 3) (st' := vI n :: st) hp (fun h => ok_push (show ok_v T (vI n) from ⟨h1, h2⟩) h) (fun p l e R s m args below meth c H locs cells slots Q lsC ad hx hb ht ho hL hl k => lv_ldcw hx hb ho (ht _ hc) hd k) (by simpa using k)
theorem j_ldc2 {n : Int} {idx : Nat} (h1 : -9223372036854775808 ≤ n) (h2 : n ≤ 9223372036854775807) (hc : Cond.constantLong Y.1 idx (Int64.ofInt n) ∈ lw_g) (hd : decode Y.2.1 pc.toNat = .ok (.ldc2_w idx, 3)) (hp : 0 ≤ pc) (k : J_ Y T0 P bc bs (pc + 3) ls (vL n :: st) T) : J_ Y T0 P bc bs pc ls (st) T :=
  j_pure (n := 3) (st' := vL n :: st) hp (fun h => ok_push (show ok_v T (vL n) from ⟨h1, h2⟩) h) (fun p l e R s m args below meth c H locs cells slots Q lsC ad hx hb ht ho hL hl k => lv_ldc2 hx hb ho (ht _ hc) hd k) (by simpa using k)
theorem j_lconst {n : Fin 2} (hd : decode Y.2.1 pc.toNat = .ok (.lconst n, 1)) (hp : 0 ≤ pc) (k : J_ Y T0 P bc bs (pc + 1) ls (vL ((n : Nat) : Int) :: st) T) : J_ Y T0 P bc bs pc ls (st) T :=
  j_pure (n := 1) (st' := vL ((n : Nat) : Int) :: st) hp (fun h => ok_push (show ok_v T (vL ((n : Nat) : Int)) from ⟨by have := n.isLt; omega, by have := n.isLt; omega⟩) h) (fun p l e R s m args below meth c H locs cells slots Q lsC ad hx hb ht ho hL hl k => lv_lconst (v := Int64.ofInt ((n : Nat) : Int)) hx hb hd (by rw [Int64.ofInt_eq_ofNat]) k) (by simpa using k)
theorem j_iload {i : Nat} {x : Int} (hi : ls[i]? = some (some (vI x))) (hd : decode Y.2.1 pc.toNat = .ok (.iload i, 2)) (hp : 0 ≤ pc) (k : J_ Y T0 P bc bs (pc + 2) ls (vI x :: st) T) : J_ Y T0 P bc bs pc ls (st) T :=
  j_pure (n := 2) (st' := vI x :: st) hp (fun h => ok_push (h.1 _ _ hi) h) (fun p l e R s m args below meth c H locs cells slots Q lsC ad hx hb ht ho hL hl k => lv_iload hx hb hd (lp_read hl hi) k) (by simpa using k)
theorem j_iload_n {i : Fin 4} {x : Int} (hi : ls[(i : Nat)]? = some (some (vI x))) (hd : decode Y.2.1 pc.toNat = .ok (.iload_n i, 1)) (hp : 0 ≤ pc) (k : J_ Y T0 P bc bs (pc + 1) ls (vI x :: st) T) : J_ Y T0 P bc bs pc ls (st) T :=
  j_pure (n := 1) (st' := vI x :: st) hp (fun h => ok_push (h.1 _ _ hi) h) (fun p l e R s m args below meth c H locs cells slots Q lsC ad hx hb ht ho hL hl k => lv_iload_n hx hb hd rfl (lp_read hl hi) k) (by simpa using k)
theorem j_lload {i : Nat} {x : Int} (hi : ls[i]? = some (some (vL x))) (hd : decode Y.2.1 pc.toNat = .ok (.lload i, 2)) (hp : 0 ≤ pc) (k : J_ Y T0 P bc bs (pc + 2) ls (vL x :: st) T) : J_ Y T0 P bc bs pc ls (st) T :=
  j_pure (n := 2) (st' := vL x :: st) hp (fun h => ok_push (h.1 _ _ hi) h) (fun p l e R s m args below meth c H locs cells slots Q lsC ad hx hb ht ho hL hl k => lv_lload hx hb hd (lp_read hl hi) k) (by simpa using k)
theorem j_lload_n {i : Fin 4} {x : Int} (hi : ls[(i : Nat)]? = some (some (vL x))) (hd : decode Y.2.1 pc.toNat = .ok (.lload_n i, 1)) (hp : 0 ≤ pc) (k : J_ Y T0 P bc bs (pc + 1) ls (vL x :: st) T) : J_ Y T0 P bc bs pc ls (st) T :=
  j_pure (n := 1) (st' := vL x :: st) hp (fun h => ok_push (h.1 _ _ hi) h) (fun p l e R s m args below meth c H locs cells slots Q lsC ad hx hb ht ho hL hl k => lv_lload_n hx hb hd rfl (lp_read hl hi) k) (by simpa using k)
theorem j_aload {i : Nat} {q : Option (Nat × Int)} (hi : ls[i]? = some (some (.inr (.inr q)))) (hd : decode Y.2.1 pc.toNat = .ok (.aload i, 2)) (hp : 0 ≤ pc) (k : J_ Y T0 P bc bs (pc + 2) ls (.inr (.inr q) :: st) T) : J_ Y T0 P bc bs pc ls (st) T :=
  j_pure (n := 2) (st' := .inr (.inr q) :: st) hp (fun h => ok_push (h.1 _ _ hi) h) (fun p l e R s m args below meth c H locs cells slots Q lsC ad hx hb ht ho hL hl k => by
    rcases q with _ | ⟨kk, ii⟩
    · exact lv_aloadN hx hb hd (lp_read hl hi) k
    · exact lv_aload hx hb hd (lp_read hl hi) k) (by simpa using k)
theorem j_aload_n {i : Fin 4} {q : Option (Nat × Int)} (hi : ls[(i : Nat)]? = some (some (.inr (.inr q)))) (hd : decode Y.2.1 pc.toNat = .ok (.aload_n i, 1)) (hp : 0 ≤ pc) (k : J_ Y T0 P bc bs (pc + 1) ls (.inr (.inr q) :: st) T) : J_ Y T0 P bc bs pc ls (st) T :=
  j_pure (n := 1) (st' := .inr (.inr q) :: st) hp (fun h => ok_push (h.1 _ _ hi) h) (fun p l e R s m args below meth c H locs cells slots Q lsC ad hx hb ht ho hL hl k => by
    rcases q with _ | ⟨kk, ii⟩
    · exact lv_aload_nN hx hb hd rfl (lp_read hl hi) k
    · exact lv_aload_n hx hb hd rfl (lp_read hl hi) k) (by simpa using k)
theorem j_iadd {x y : Int} (h1 : -2147483648 ≤ x + y) (h2 : x + y ≤ 2147483647) (hd : decode Y.2.1 pc.toNat = .ok (.iadd, 1)) (hp : 0 ≤ pc) (k : J_ Y T0 P bc bs (pc + 1) ls (vI (x + y) :: st) T) : J_ Y T0 P bc bs pc ls (vI y :: vI x :: st) T :=
  j_pure (n := 1) (st' := vI (x + y) :: st) hp (fun h => ok_push (show ok_v T (vI (x + y)) from ⟨h1, h2⟩) (ok_tail (ok_tail h))) (fun p l e R s m args below meth c H locs cells slots Q lsC ad hx hb ht ho hL hl k => lv_iadd hx hb hd (by simpa [en_v, Int32.ofInt_add] using k)) (by simpa using k)
theorem j_iaddw {x y : Int} (hd : decode Y.2.1 pc.toNat = .ok (.iadd, 1)) (hp : 0 ≤ pc) (k : J_ Y T0 P bc bs (pc + 1) ls (vI (wr_ (x + y)) :: st) T) : J_ Y T0 P bc bs pc ls (vI y :: vI x :: st) T :=
  j_pure (n := 1) (st' := vI (wr_ (x + y)) :: st) hp (fun h => ok_push (show ok_v T (vI (wr_ (x + y))) from wr_r _) (ok_tail (ok_tail h))) (fun p l e R s m args below meth c H locs cells slots Q lsC ad hx hb ht ho hL hl k => lv_iadd hx hb hd (by simpa [en_v, wr_ofInt, Int32.ofInt_add] using k)) (by simpa using k)
theorem j_isub {x y : Int} (h1 : -2147483648 ≤ x - y) (h2 : x - y ≤ 2147483647) (hd : decode Y.2.1 pc.toNat = .ok (.isub, 1)) (hp : 0 ≤ pc) (k : J_ Y T0 P bc bs (pc + 1) ls (vI (x - y) :: st) T) : J_ Y T0 P bc bs pc ls (vI y :: vI x :: st) T :=
  j_pure (n := 1) (st' := vI (x - y) :: st) hp (fun h => ok_push (show ok_v T (vI (x - y)) from ⟨h1, h2⟩) (ok_tail (ok_tail h))) (fun p l e R s m args below meth c H locs cells slots Q lsC ad hx hb ht ho hL hl k => lv_isub hx hb hd (by simpa [en_v, Int32.ofInt_sub] using k)) (by simpa using k)
theorem j_isubw {x y : Int} (hd : decode Y.2.1 pc.toNat = .ok (.isub, 1)) (hp : 0 ≤ pc) (k : J_ Y T0 P bc bs (pc + 1) ls (vI (wr_ (x - y)) :: st) T) : J_ Y T0 P bc bs pc ls (vI y :: vI x :: st) T :=
  j_pure (n := 1) (st' := vI (wr_ (x - y)) :: st) hp (fun h => ok_push (show ok_v T (vI (wr_ (x - y))) from wr_r _) (ok_tail (ok_tail h))) (fun p l e R s m args below meth c H locs cells slots Q lsC ad hx hb ht ho hL hl k => lv_isub hx hb hd (by simpa [en_v, wr_ofInt, Int32.ofInt_sub] using k)) (by simpa using k)
theorem j_imul {x y : Int} (h1 : -2147483648 ≤ x * y) (h2 : x * y ≤ 2147483647) (hd : decode Y.2.1 pc.toNat = .ok (.imul, 1)) (hp : 0 ≤ pc) (k : J_ Y T0 P bc bs (pc + 1) ls (vI (x * y) :: st) T) : J_ Y T0 P bc bs pc ls (vI y :: vI x :: st) T :=
  j_pure (n := 1) (st' := vI (x * y) :: st) hp (fun h => ok_push (show ok_v T (vI (x * y)) from ⟨h1, h2⟩) (ok_tail (ok_tail h))) (fun p l e R s m args below meth c H locs cells slots Q lsC ad hx hb ht ho hL hl k => lv_imul hx hb hd (by simpa [en_v, Int32.ofInt_mul] using k)) (by simpa using k)
theorem j_imulw {x y : Int} (hd : decode Y.2.1 pc.toNat = .ok (.imul, 1)) (hp : 0 ≤ pc) (k : J_ Y T0 P bc bs (pc + 1) ls (vI (wr_ (x * y)) :: st) T) : J_ Y T0 P bc bs pc ls (vI y :: vI x :: st) T :=
  j_pure (n := 1) (st' := vI (wr_ (x * y)) :: st) hp (fun h => ok_push (show ok_v T (vI (wr_ (x * y))) from wr_r _) (ok_tail (ok_tail h))) (fun p l e R s m args below meth c H locs cells slots Q lsC ad hx hb ht ho hL hl k => lv_imul hx hb hd (by simpa [en_v, wr_ofInt, Int32.ofInt_mul] using k)) (by simpa using k)
theorem j_ineg {x : Int} (h1 : -2147483648 ≤ -x) (h2 : -x ≤ 2147483647) (hd : decode Y.2.1 pc.toNat = .ok (.ineg, 1)) (hp : 0 ≤ pc) (k : J_ Y T0 P bc bs (pc + 1) ls (vI (-x) :: st) T) : J_ Y T0 P bc bs pc ls (vI x :: st) T :=
  j_pure (n := 1) (st' := vI (-x) :: st) hp (fun h => ok_push (show ok_v T (vI (-x)) from ⟨h1, h2⟩) (ok_tail h)) (fun p l e R s m args below meth c H locs cells slots Q lsC ad hx hb ht ho hL hl k => lv_ineg hx hb hd (by simpa [en_v, Int32.ofInt_neg] using k)) (by simpa using k)
theorem j_inegw {x : Int} (hd : decode Y.2.1 pc.toNat = .ok (.ineg, 1)) (hp : 0 ≤ pc) (k : J_ Y T0 P bc bs (pc + 1) ls (vI (wr_ (-x)) :: st) T) : J_ Y T0 P bc bs pc ls (vI x :: st) T :=
  j_pure (n := 1) (st' := vI (wr_ (-x)) :: st) hp (fun h => ok_push (show ok_v T (vI (wr_ (-x))) from wr_r _) (ok_tail h)) (fun p l e R s m args below meth c H locs cells slots Q lsC ad hx hb ht ho hL hl k => lv_ineg hx hb hd (by simpa [en_v, wr_ofInt, Int32.ofInt_neg] using k)) (by simpa using k)
theorem dv_r {x y : Int} (h1 : 0 ≤ x) (h2 : 0 < y) : 0 ≤ x / y ∧ x / y ≤ x := ⟨Int.ediv_nonneg h1 (Int.le_of_lt h2), Int.ediv_le_self _ h1⟩
theorem rm_r {x y : Int} (h1 : 0 ≤ x) (h2 : 0 < y) : 0 ≤ x % y ∧ x % y ≤ x ∧ x % y < y := ⟨Int.emod_nonneg _ (by omega), by have := Int.ediv_mul_add_emod x y; have h := Int.mul_nonneg (Int.ediv_nonneg h1 (Int.le_of_lt h2)) (Int.le_of_lt h2); omega, Int.emod_lt_of_pos _ h2⟩
theorem j_idiv {x y : Int} (h1 : 0 ≤ x) (h2 : 0 < y) (hd : decode Y.2.1 pc.toNat = .ok (.idiv, 1)) (hp : 0 ≤ pc) (k : J_ Y T0 P bc bs (pc + 1) ls (vI (x / y) :: st) T) : J_ Y T0 P bc bs pc ls (vI y :: vI x :: st) T :=
  j_pure (n := 1) (st' := vI (x / y) :: st) hp (fun h => ok_push (show ok_v T (vI (x / y)) from by have a : -2147483648 ≤ x ∧ x ≤ 2147483647 := ok_head (ok_tail h); have b := dv_r h1 h2; exact ⟨by omega, by omega⟩) (ok_tail (ok_tail h))) (fun p l e R s m args below meth c H locs cells slots Q lsC ad hx hb ht ho hL hl k => by
    have a : -2147483648 ≤ x ∧ x ≤ 2147483647 := ok_head (ok_tail hL)
    have b : -2147483648 ≤ y ∧ y ≤ 2147483647 := ok_head hL
    exact lv_idiv hx hb hd (i3_ne h2 b.2) (by simpa [en_v, i3_div h1 a.2 h2 b.2] using k)) (by simpa using k)
theorem j_iremq {x y : Int} (h2 : 0 < y) (hd : decode Y.2.1 pc.toNat = .ok (.irem, 1)) (hp : 0 ≤ pc) (k : J_ Y T0 P bc bs (pc + 1) ls (vI (dr_ x y) :: st) T) : J_ Y T0 P bc bs pc ls (vI y :: vI x :: st) T :=
  j_pure (n := 1) (st' := vI (dr_ x y) :: st) hp (fun h => ok_push (show ok_v T (vI (dr_ x y)) from i3_r _) (ok_tail (ok_tail h))) (fun p l e R s m args below meth c H locs cells slots Q lsC ad hx hb ht ho hL hl k => by
    have b : -2147483648 ≤ y ∧ y ≤ 2147483647 := ok_head hL
    exact lv_irem hx hb hd (i3_ne h2 b.2) (by simpa only [en_v, dr_, List.map_cons, Int32.ofInt_toInt] using k)) (by simpa using k)
theorem j_idivq {x y : Int} (h2 : 0 < y) (hd : decode Y.2.1 pc.toNat = .ok (.idiv, 1)) (hp : 0 ≤ pc) (k : J_ Y T0 P bc bs (pc + 1) ls (vI (dq_ x y) :: st) T) : J_ Y T0 P bc bs pc ls (vI y :: vI x :: st) T :=
  j_pure (n := 1) (st' := vI (dq_ x y) :: st) hp (fun h => ok_push (show ok_v T (vI (dq_ x y)) from i3_r _) (ok_tail (ok_tail h))) (fun p l e R s m args below meth c H locs cells slots Q lsC ad hx hb ht ho hL hl k => by
    have b : -2147483648 ≤ y ∧ y ≤ 2147483647 := ok_head hL
    exact lv_idiv hx hb hd (i3_ne h2 b.2) (by simpa only [en_v, dq_, List.map_cons, Int32.ofInt_toInt] using k)) (by simpa using k)
theorem j_irem {x y : Int} (h1 : 0 ≤ x) (h2 : 0 < y) (hd : decode Y.2.1 pc.toNat = .ok (.irem, 1)) (hp : 0 ≤ pc) (k : J_ Y T0 P bc bs (pc + 1) ls (vI (x % y) :: st) T) : J_ Y T0 P bc bs pc ls (vI y :: vI x :: st) T :=
  j_pure (n := 1) (st' := vI (x % y) :: st) hp (fun h => ok_push (show ok_v T (vI (x % y)) from by have a : -2147483648 ≤ x ∧ x ≤ 2147483647 := ok_head (ok_tail h); have b := rm_r h1 h2; exact ⟨by omega, by omega⟩) (ok_tail (ok_tail h))) (fun p l e R s m args below meth c H locs cells slots Q lsC ad hx hb ht ho hL hl k => by
    have a : -2147483648 ≤ x ∧ x ≤ 2147483647 := ok_head (ok_tail hL)
    have b : -2147483648 ≤ y ∧ y ≤ 2147483647 := ok_head hL
    exact lv_irem hx hb hd (i3_ne h2 b.2) (by simpa [en_v, i3_rem h1 a.2 h2 b.2] using k)) (by simpa using k)
theorem j_iand {x y : Int} (hd : decode Y.2.1 pc.toNat = .ok (.iand, 1)) (hp : 0 ≤ pc) (k : J_ Y T0 P bc bs (pc + 1) ls (vI (an_ x y) :: st) T) : J_ Y T0 P bc bs pc ls (vI y :: vI x :: st) T :=
  j_pure (n := 1) (st' := vI (an_ x y) :: st) hp (fun h => ok_push (show ok_v T (vI (an_ x y)) from i3_r _) (ok_tail (ok_tail h))) (fun p l e R s m args below meth c H locs cells slots Q lsC ad hx hb ht ho hL hl k => lv_iand hx hb hd (by simpa [en_v, an_] using k)) (by simpa using k)
theorem j_ior {x y : Int} (hd : decode Y.2.1 pc.toNat = .ok (.ior, 1)) (hp : 0 ≤ pc) (k : J_ Y T0 P bc bs (pc + 1) ls (vI (or_ x y) :: st) T) : J_ Y T0 P bc bs pc ls (vI y :: vI x :: st) T :=
  j_pure (n := 1) (st' := vI (or_ x y) :: st) hp (fun h => ok_push (show ok_v T (vI (or_ x y)) from i3_r _) (ok_tail (ok_tail h))) (fun p l e R s m args below meth c H locs cells slots Q lsC ad hx hb ht ho hL hl k => lv_ior hx hb hd (by simpa [en_v, or_] using k)) (by simpa using k)
theorem j_ixor {x y : Int} (hd : decode Y.2.1 pc.toNat = .ok (.ixor, 1)) (hp : 0 ≤ pc) (k : J_ Y T0 P bc bs (pc + 1) ls (vI (xo_ x y) :: st) T) : J_ Y T0 P bc bs pc ls (vI y :: vI x :: st) T :=
  j_pure (n := 1) (st' := vI (xo_ x y) :: st) hp (fun h => ok_push (show ok_v T (vI (xo_ x y)) from i3_r _) (ok_tail (ok_tail h))) (fun p l e R s m args below meth c H locs cells slots Q lsC ad hx hb ht ho hL hl k => lv_ixor hx hb hd (by simpa [en_v, xo_] using k)) (by simpa using k)
theorem j_ishl {x y : Int} (hd : decode Y.2.1 pc.toNat = .ok (.ishl, 1)) (hp : 0 ≤ pc) (k : J_ Y T0 P bc bs (pc + 1) ls (vI (sl_ x y) :: st) T) : J_ Y T0 P bc bs pc ls (vI y :: vI x :: st) T :=
  j_pure (n := 1) (st' := vI (sl_ x y) :: st) hp (fun h => ok_push (show ok_v T (vI (sl_ x y)) from i3_r _) (ok_tail (ok_tail h))) (fun p l e R s m args below meth c H locs cells slots Q lsC ad hx hb ht ho hL hl k => lv_ishl hx hb hd (by simpa [en_v, sl_] using k)) (by simpa using k)
theorem j_ishr {x y : Int} (hd : decode Y.2.1 pc.toNat = .ok (.ishr, 1)) (hp : 0 ≤ pc) (k : J_ Y T0 P bc bs (pc + 1) ls (vI (sr_ x y) :: st) T) : J_ Y T0 P bc bs pc ls (vI y :: vI x :: st) T :=
  j_pure (n := 1) (st' := vI (sr_ x y) :: st) hp (fun h => ok_push (show ok_v T (vI (sr_ x y)) from i3_r _) (ok_tail (ok_tail h))) (fun p l e R s m args below meth c H locs cells slots Q lsC ad hx hb ht ho hL hl k => lv_ishr hx hb hd (by simpa [en_v, sr_] using k)) (by simpa using k)
theorem j_iushr {x y : Int} (hd : decode Y.2.1 pc.toNat = .ok (.iushr, 1)) (hp : 0 ≤ pc) (k : J_ Y T0 P bc bs (pc + 1) ls (vI (us_ x y) :: st) T) : J_ Y T0 P bc bs pc ls (vI y :: vI x :: st) T :=
  j_pure (n := 1) (st' := vI (us_ x y) :: st) hp (fun h => ok_push (show ok_v T (vI (us_ x y)) from i3_r _) (ok_tail (ok_tail h))) (fun p l e R s m args below meth c H locs cells slots Q lsC ad hx hb ht ho hL hl k => lv_iushr hx hb hd rfl (by simpa only [en_v, us_, List.map_cons, Int32.ofInt_toInt] using k)) (by simpa using k)
theorem j_i2l {x : Int} (hd : decode Y.2.1 pc.toNat = .ok (.i2l, 1)) (hp : 0 ≤ pc) (k : J_ Y T0 P bc bs (pc + 1) ls (vL x :: st) T) : J_ Y T0 P bc bs pc ls (vI x :: st) T :=
  j_pure (n := 1) (st' := vL x :: st) hp (fun h => ok_push (show ok_v T (vL x) from by have a : -2147483648 ≤ x ∧ x ≤ 2147483647 := ok_head h; exact ⟨by omega, by omega⟩) (ok_tail h)) (fun p l e R s m args below meth c H locs cells slots Q lsC ad hx hb ht ho hL hl k => lv_i2l hx hb hd (i3_l (ok_head hL)) k) (by simpa using k)
theorem j_l2i {x : Int} (h1 : -2147483648 ≤ x) (h2 : x ≤ 2147483647) (hd : decode Y.2.1 pc.toNat = .ok (.l2i, 1)) (hp : 0 ≤ pc) (k : J_ Y T0 P bc bs (pc + 1) ls (vI x :: st) T) : J_ Y T0 P bc bs pc ls (vL x :: st) T :=
  j_pure (n := 1) (st' := vI x :: st) hp (fun h => ok_push (show ok_v T (vI x) from ⟨h1, h2⟩) (ok_tail h)) (fun p l e R s m args below meth c H locs cells slots Q lsC ad hx hb ht ho hL hl k => lv_l2i hx hb hd (i6_i ⟨h1, h2⟩) k) (by simpa using k)
theorem j_laddw {x y : Int} (hd : decode Y.2.1 pc.toNat = .ok (.ladd, 1)) (hp : 0 ≤ pc) (k : J_ Y T0 P bc bs (pc + 1) ls (vL (wq_ (x + y)) :: st) T) : J_ Y T0 P bc bs pc ls (vL y :: vL x :: st) T :=
  j_pure (n := 1) (st' := vL (wq_ (x + y)) :: st) hp (fun h => ok_push (show ok_v T (vL (wq_ (x + y))) from wq_r _) (ok_tail (ok_tail h))) (fun p l e R s m args below meth c H locs cells slots Q lsC ad hx hb ht ho hL hl k => lv_ladd hx hb hd (by simpa [en_v, wq_ofInt, Int64.ofInt_add] using k)) (by simpa using k)
theorem j_ladd {x y : Int} (h1 : -9223372036854775808 ≤ x + y) (h2 : x + y ≤ 9223372036854775807) (hd : decode Y.2.1 pc.toNat = .ok (.ladd, 1)) (hp : 0 ≤ pc) (k : J_ Y T0 P bc bs (pc + 1) ls (vL (x + y) :: st) T) : J_ Y T0 P bc bs pc ls (vL y :: vL x :: st) T :=
  j_pure (n := 1) (st' := vL (x + y) :: st) hp (fun h => ok_push (show ok_v T (vL (x + y)) from ⟨h1, h2⟩) (ok_tail (ok_tail h))) (fun p l e R s m args below meth c H locs cells slots Q lsC ad hx hb ht ho hL hl k => lv_ladd hx hb hd (by simpa [en_v, Int64.ofInt_add] using k)) (by simpa using k)
theorem j_lsubw {x y : Int} (hd : decode Y.2.1 pc.toNat = .ok (.lsub, 1)) (hp : 0 ≤ pc) (k : J_ Y T0 P bc bs (pc + 1) ls (vL (wq_ (x - y)) :: st) T) : J_ Y T0 P bc bs pc ls (vL y :: vL x :: st) T :=
  j_pure (n := 1) (st' := vL (wq_ (x - y)) :: st) hp (fun h => ok_push (show ok_v T (vL (wq_ (x - y))) from wq_r _) (ok_tail (ok_tail h))) (fun p l e R s m args below meth c H locs cells slots Q lsC ad hx hb ht ho hL hl k => lv_lsub hx hb hd (by simpa [en_v, wq_ofInt, Int64.ofInt_sub] using k)) (by simpa using k)
theorem j_lsub {x y : Int} (h1 : -9223372036854775808 ≤ x - y) (h2 : x - y ≤ 9223372036854775807) (hd : decode Y.2.1 pc.toNat = .ok (.lsub, 1)) (hp : 0 ≤ pc) (k : J_ Y T0 P bc bs (pc + 1) ls (vL (x - y) :: st) T) : J_ Y T0 P bc bs pc ls (vL y :: vL x :: st) T :=
  j_pure (n := 1) (st' := vL (x - y) :: st) hp (fun h => ok_push (show ok_v T (vL (x - y)) from ⟨h1, h2⟩) (ok_tail (ok_tail h))) (fun p l e R s m args below meth c H locs cells slots Q lsC ad hx hb ht ho hL hl k => lv_lsub hx hb hd (by simpa [en_v, Int64.ofInt_sub] using k)) (by simpa using k)
theorem j_lmulw {x y : Int} (hd : decode Y.2.1 pc.toNat = .ok (.lmul, 1)) (hp : 0 ≤ pc) (k : J_ Y T0 P bc bs (pc + 1) ls (vL (wq_ (x * y)) :: st) T) : J_ Y T0 P bc bs pc ls (vL y :: vL x :: st) T :=
  j_pure (n := 1) (st' := vL (wq_ (x * y)) :: st) hp (fun h => ok_push (show ok_v T (vL (wq_ (x * y))) from wq_r _) (ok_tail (ok_tail h))) (fun p l e R s m args below meth c H locs cells slots Q lsC ad hx hb ht ho hL hl k => lv_lmul hx hb hd (by simpa [en_v, wq_ofInt, Int64.ofInt_mul] using k)) (by simpa using k)
theorem j_lmul {x y : Int} (h1 : -9223372036854775808 ≤ x * y) (h2 : x * y ≤ 9223372036854775807) (hd : decode Y.2.1 pc.toNat = .ok (.lmul, 1)) (hp : 0 ≤ pc) (k : J_ Y T0 P bc bs (pc + 1) ls (vL (x * y) :: st) T) : J_ Y T0 P bc bs pc ls (vL y :: vL x :: st) T :=
  j_pure (n := 1) (st' := vL (x * y) :: st) hp (fun h => ok_push (show ok_v T (vL (x * y)) from ⟨h1, h2⟩) (ok_tail (ok_tail h))) (fun p l e R s m args below meth c H locs cells slots Q lsC ad hx hb ht ho hL hl k => lv_lmul hx hb hd (by simpa [en_v, Int64.ofInt_mul] using k)) (by simpa using k)
theorem j_lrem {x y : Int} (h1 : 0 ≤ x) (h2 : 0 < y) (hd : decode Y.2.1 pc.toNat = .ok (.lrem, 1)) (hp : 0 ≤ pc) (k : J_ Y T0 P bc bs (pc + 1) ls (vL (x % y) :: st) T) : J_ Y T0 P bc bs pc ls (vL y :: vL x :: st) T :=
  j_pure (n := 1) (st' := vL (x % y) :: st) hp (fun h => ok_push (show ok_v T (vL (x % y)) from by have a : -9223372036854775808 ≤ x ∧ x ≤ 9223372036854775807 := ok_head (ok_tail h); have b := rm_r h1 h2; exact ⟨by omega, by omega⟩) (ok_tail (ok_tail h))) (fun p l e R s m args below meth c H locs cells slots Q lsC ad hx hb ht ho hL hl k => by
    have a : -9223372036854775808 ≤ x ∧ x ≤ 9223372036854775807 := ok_head (ok_tail hL)
    have b : -9223372036854775808 ≤ y ∧ y ≤ 9223372036854775807 := ok_head hL
    exact lv_lrem hx hb hd (i6_ne h2 b.2) (by simpa [en_v, i6_rem h1 a.2 h2 b.2] using k)) (by simpa using k)
theorem j_lcmp {x y : Int} (hd : decode Y.2.1 pc.toNat = .ok (.lcmp, 1)) (hp : 0 ≤ pc) (k : J_ Y T0 P bc bs (pc + 1) ls (vI (if x < y then -1 else if x = y then 0 else 1) :: st) T) : J_ Y T0 P bc bs pc ls (vL y :: vL x :: st) T :=
  j_pure (n := 1) (st' := vI (if x < y then -1 else if x = y then 0 else 1) :: st) hp (fun h => ok_push (show ok_v T (vI _) from ⟨by split <;> (try split) <;> omega, by split <;> (try split) <;> omega⟩) (ok_tail (ok_tail h))) (fun p l e R s m args below meth c H locs cells slots Q lsC ad hx hb ht ho hL hl k => W.lcmp hx hb hd (by rw [i6_cmp (ok_head (ok_tail hL)) (ok_head hL)]; exact k)) (by simpa using k)
theorem j_dupi {x : Int} (hd : decode Y.2.1 pc.toNat = .ok (.dup, 1)) (hp : 0 ≤ pc) (k : J_ Y T0 P bc bs (pc + 1) ls (vI x :: vI x :: st) T) : J_ Y T0 P bc bs pc ls (vI x :: st) T :=
  j_pure (n := 1) (st' := vI x :: vI x :: st) hp (fun h => ok_push (ok_head h) h) (fun p l e R s m args below meth c H locs cells slots Q lsC ad hx hb ht ho hL hl k => lv_dup hx hb hd rfl k) (by simpa using k)
theorem j_dupr {q : Option (Nat × Int)} (hd : decode Y.2.1 pc.toNat = .ok (.dup, 1)) (hp : 0 ≤ pc) (k : J_ Y T0 P bc bs (pc + 1) ls (.inr (.inr q) :: .inr (.inr q) :: st) T) : J_ Y T0 P bc bs pc ls (.inr (.inr q) :: st) T :=
  j_pure (n := 1) (st' := .inr (.inr q) :: .inr (.inr q) :: st) hp (fun h => ok_push (ok_head h) h) (fun p l e R s m args below meth c H locs cells slots Q lsC ad hx hb ht ho hL hl k => lv_dup hx hb hd (by rcases q with _ | ⟨kk, ii⟩ <;> rfl) k) (by simpa using k)
theorem j_dup2 {y : Int} {q : Option (Nat × Int)} (hd : decode Y.2.1 pc.toNat = .ok (.dup2, 1)) (hp : 0 ≤ pc) (k : J_ Y T0 P bc bs (pc + 1) ls (vI y :: .inr (.inr q) :: vI y :: .inr (.inr q) :: st) T) : J_ Y T0 P bc bs pc ls (vI y :: .inr (.inr q) :: st) T :=
  j_pure (n := 1) (st' := vI y :: .inr (.inr q) :: vI y :: .inr (.inr q) :: st) hp (fun h => ok_push (ok_head h) (ok_push (ok_head (ok_tail h)) h)) (fun p l e R s m args below meth c H locs cells slots Q lsC ad hx hb ht ho hL hl k => lv_dup2_11 hx hb hd rfl (by rcases q with _ | ⟨kk, ii⟩ <;> rfl) k) (by simpa using k)
theorem j_popi {x : Int} (hd : decode Y.2.1 pc.toNat = .ok (.pop, 1)) (hp : 0 ≤ pc) (k : J_ Y T0 P bc bs (pc + 1) ls (st) T) : J_ Y T0 P bc bs pc ls (vI x :: st) T :=
  j_pure (n := 1) (st' := st) hp (fun h => ok_tail h) (fun p l e R s m args below meth c H locs cells slots Q lsC ad hx hb ht ho hL hl k => lv_pop hx hb hd rfl k) (by simpa using k)
theorem j_popr {q : Option (Nat × Int)} (hd : decode Y.2.1 pc.toNat = .ok (.pop, 1)) (hp : 0 ≤ pc) (k : J_ Y T0 P bc bs (pc + 1) ls (st) T) : J_ Y T0 P bc bs pc ls (.inr (.inr q) :: st) T :=
  j_pure (n := 1) (st' := st) hp (fun h => ok_tail h) (fun p l e R s m args below meth c H locs cells slots Q lsC ad hx hb ht ho hL hl k => lv_pop hx hb hd (by rcases q with _ | ⟨kk, ii⟩ <;> rfl) k) (by simpa using k)
end JR
section JR
variable {Y : Zm} {T0 T : Zt} {P : Zt → Option Zv → Prop} {bc bs : Nat} {pc : Int} {ls : Zl} {st : List Zv}
theorem j_istore {i : Nat} {x : Int} (hp : 0 ≤ pc) (hd : decode Y.2.1 pc.toNat = .ok (.istore i, 2)) (hi : i < ls.length) (hw : ∀ (k0 : Nat) (x : Int), i = k0 + 1 → ls[k0]? ≠ some (some (vL x))) (k : J_ Y T0 P bc bs (pc + 2) (ls.set i (some (vI x))) st T) : J_ Y T0 P bc bs pc ls (vI x :: st) T := by
  intro l p e s m args below meth c D cA ad0 A X ad H locs cells slots lsC hc hs hR hS hB hT hL hl hn
  have k2 := fun lsC hl => k l p e s m args below meth c D cA ad0 A X ad H locs cells slots lsC hc hs hR hS hB hT (ok_set (fun w h => by cases h; exact ok_head hL) (ok_tail hL)) hl (by rw [List.length_set]; exact hn)
  rw [show (pc + 2).toNat = pc.toNat + 2 by omega] at k2
  exact lv_istore X.1 X.2.1 hd hl (by rw [← hn]; exact hi) rfl (fun ls' h' => k2 ls' (lp_set1 rfl hw h'))
theorem j_istore_n {i : Fin 4} {x : Int} (hp : 0 ≤ pc) (hd : decode Y.2.1 pc.toNat = .ok (.istore_n i, 1)) (hi : (i : Nat) < ls.length) (hw : ∀ (k0 : Nat) (x : Int), (i : Nat) = k0 + 1 → ls[k0]? ≠ some (some (vL x))) (k : J_ Y T0 P bc bs (pc + 1) (ls.set (i : Nat) (some (vI x))) st T) : J_ Y T0 P bc bs pc ls (vI x :: st) T := by
  intro l p e s m args below meth c D cA ad0 A X ad H locs cells slots lsC hc hs hR hS hB hT hL hl hn
  have k2 := fun lsC hl => k l p e s m args below meth c D cA ad0 A X ad H locs cells slots lsC hc hs hR hS hB hT (ok_set (fun w h => by cases h; exact ok_head hL) (ok_tail hL)) hl (by rw [List.length_set]; exact hn)
  rw [show (pc + 1).toNat = pc.toNat + 1 by omega] at k2
  exact lv_istore_n X.1 X.2.1 hd rfl hl (by rw [← hn]; exact hi) rfl (fun ls' h' => k2 ls' (lp_set1 rfl hw h'))
theorem j_astore {i : Nat} {q : Option (Nat × Int)} (hp : 0 ≤ pc) (hd : decode Y.2.1 pc.toNat = .ok (.astore i, 2)) (hi : i < ls.length) (hw : ∀ (k0 : Nat) (x : Int), i = k0 + 1 → ls[k0]? ≠ some (some (vL x))) (k : J_ Y T0 P bc bs (pc + 2) (ls.set i (some (.inr (.inr q)))) st T) : J_ Y T0 P bc bs pc ls (.inr (.inr q) :: st) T := by
  intro l p e s m args below meth c D cA ad0 A X ad H locs cells slots lsC hc hs hR hS hB hT hL hl hn
  have k2 := fun lsC hl => k l p e s m args below meth c D cA ad0 A X ad H locs cells slots lsC hc hs hR hS hB hT (ok_set (fun w h => by cases h; exact ok_head hL) (ok_tail hL)) hl (by rw [List.length_set]; exact hn)
  rw [show (pc + 2).toNat = pc.toNat + 2 by omega] at k2
  rcases q with _ | ⟨kk, ii⟩
  · exact lv_astoreN X.1 X.2.1 hd hl (by rw [← hn]; exact hi) rfl (fun ls' h' => k2 ls' (lp_set1 rfl hw h'))
  · exact lv_astore X.1 X.2.1 hd hl (by rw [← hn]; exact hi) rfl (fun ls' h' => k2 ls' (lp_set1 rfl hw h'))
theorem j_astore_n {i : Fin 4} {q : Option (Nat × Int)} (hp : 0 ≤ pc) (hd : decode Y.2.1 pc.toNat = .ok (.astore_n i, 1)) (hi : (i : Nat) < ls.length) (hw : ∀ (k0 : Nat) (x : Int), (i : Nat) = k0 + 1 → ls[k0]? ≠ some (some (vL x))) (k : J_ Y T0 P bc bs (pc + 1) (ls.set (i : Nat) (some (.inr (.inr q)))) st T) : J_ Y T0 P bc bs pc ls (.inr (.inr q) :: st) T := by
  intro l p e s m args below meth c D cA ad0 A X ad H locs cells slots lsC hc hs hR hS hB hT hL hl hn
  have k2 := fun lsC hl => k l p e s m args below meth c D cA ad0 A X ad H locs cells slots lsC hc hs hR hS hB hT (ok_set (fun w h => by cases h; exact ok_head hL) (ok_tail hL)) hl (by rw [List.length_set]; exact hn)
  rw [show (pc + 1).toNat = pc.toNat + 1 by omega] at k2
  rcases q with _ | ⟨kk, ii⟩
  · exact lv_astore_nN X.1 X.2.1 hd rfl hl (by rw [← hn]; exact hi) rfl (fun ls' h' => k2 ls' (lp_set1 rfl hw h'))
  · exact lv_astore_n X.1 X.2.1 hd rfl hl (by rw [← hn]; exact hi) rfl (fun ls' h' => k2 ls' (lp_set1 rfl hw h'))
theorem lp_set2 {ad : Nat → Int → Nat} {lsC : Array Slot} {nL : Nat} {ls : Zl} {k : Nat} {x : Int} (hn : ∀ (k0 : Nat) (x : Int), k = k0 + 1 → ls[k0]? ≠ some (some (vL x))) (h : lv_has lsC nL ((k, Value.long (Int64.ofInt x)) :: (lp_ ad 0 ls).filter (fun q => !(q.1 == k) && (!(q.1 == k + 1) && !(q.1 + 1 == k && q.2.category == 2))))) : lv_has lsC nL (lp_ ad 0 (((ls.set k none).set (k + 1) none).set k (some (vL x)))) := by
  refine ⟨h.1, h.2.1, fun q hq => ?_⟩
  obtain ⟨j, u, rfl, hu⟩ := lp_mem hq
  by_cases hj : k = j
  · subst hj
    have hu' : u = vL x := by
      rw [List.getElem?_set, if_pos rfl] at hu
      split at hu <;> simp at hu
      exact hu.symm
    subst hu'
    have := h.2.2 (k, Value.long (Int64.ofInt x)) List.mem_cons_self
    rw [Nat.zero_add]
    exact this
  · rw [List.getElem?_set_ne hj] at hu
    have hj1 : ¬ k + 1 = j := by
      intro a
      subst a
      rw [List.getElem?_set, if_pos rfl] at hu
      split at hu <;> simp at hu
    rw [List.getElem?_set_ne hj1, List.getElem?_set_ne hj] at hu
    refine h.2.2 _ (List.mem_cons_of_mem _ (List.mem_filter.mpr ⟨lp_get hu, ?_⟩))
    have h1 : ¬ (0 + j + 1 = k ∧ (en_v ad u).category = 2) := by
      rintro ⟨a, b⟩
      obtain ⟨x, rfl⟩ := en_cat.mp b
      exact hn j x (by omega) hu
    simp only [Bool.and_eq_true, Bool.not_eq_true', beq_eq_false_iff_ne, ne_eq, Bool.and_eq_false_iff]
    refine ⟨by omega, by omega, ?_⟩
    by_cases z : 0 + j + 1 = k
    · exact Or.inr (fun b => h1 ⟨z, b⟩)
    · exact Or.inl z
theorem j_lstore {i : Nat} {x : Int} (hp : 0 ≤ pc) (hd : decode Y.2.1 pc.toNat = .ok (.lstore i, 2)) (hi : i + 1 < ls.length) (hw : ∀ (k0 : Nat) (x : Int), i = k0 + 1 → ls[k0]? ≠ some (some (vL x))) (k : J_ Y T0 P bc bs (pc + 2) (((ls.set i none).set (i + 1) none).set i (some (vL x))) st T) : J_ Y T0 P bc bs pc ls (vL x :: st) T := by
  intro l p e s m args below meth c D cA ad0 A X ad H locs cells slots lsC hc hs hR hS hB hT hL hl hn
  have k2 := fun lsC hl => k l p e s m args below meth c D cA ad0 A X ad H locs cells slots lsC hc hs hR hS hB hT (ok_set (fun w h => by cases h; exact ok_head hL) (ok_set (fun w h => by cases h) (ok_set (fun w h => by cases h) (ok_tail hL)))) hl (by rw [List.length_set, List.length_set, List.length_set]; exact hn)
  rw [show (pc + 2).toNat = pc.toNat + 2 by omega] at k2
  exact lv_lstore X.1 X.2.1 hd hl (by rw [← hn]; exact hi) rfl (fun ls' h' => k2 ls' (lp_set2 hw h'))
theorem j_lstore_n {i : Fin 4} {x : Int} (hp : 0 ≤ pc) (hd : decode Y.2.1 pc.toNat = .ok (.lstore_n i, 1)) (hi : (i : Nat) + 1 < ls.length) (hw : ∀ (k0 : Nat) (x : Int), (i : Nat) = k0 + 1 → ls[k0]? ≠ some (some (vL x))) (k : J_ Y T0 P bc bs (pc + 1) (((ls.set (i : Nat) none).set ((i : Nat) + 1) none).set (i : Nat) (some (vL x))) st T) : J_ Y T0 P bc bs pc ls (vL x :: st) T := by
  intro l p e s m args below meth c D cA ad0 A X ad H locs cells slots lsC hc hs hR hS hB hT hL hl hn
  have k2 := fun lsC hl => k l p e s m args below meth c D cA ad0 A X ad H locs cells slots lsC hc hs hR hS hB hT (ok_set (fun w h => by cases h; exact ok_head hL) (ok_set (fun w h => by cases h) (ok_set (fun w h => by cases h) (ok_tail hL)))) hl (by rw [List.length_set, List.length_set, List.length_set]; exact hn)
  rw [show (pc + 1).toNat = pc.toNat + 1 by omega] at k2
  exact lv_lstore_n X.1 X.2.1 hd rfl hl (by rw [← hn]; exact hi) rfl (fun ls' h' => k2 ls' (lp_set2 hw h'))
theorem j_iinc {i : Nat} {n x : Int} (hp : 0 ≤ pc) (hd : decode Y.2.1 pc.toNat = .ok (.iinc i n, 3)) (hx : ls[i]? = some (some (vI x))) (h1 : -2147483648 ≤ x + n) (h2 : x + n ≤ 2147483647) (hw : ∀ (k0 : Nat) (x : Int), i = k0 + 1 → ls[k0]? ≠ some (some (vL x))) (k : J_ Y T0 P bc bs (pc + 3) (ls.set i (some (vI (x + n)))) st T) : J_ Y T0 P bc bs pc ls st T := by
  intro l p e s m args below meth c D cA ad0 A X ad H locs cells slots lsC hc hs hR hS hB hT hL hl hn
  have k2 := fun lsC hl => k l p e s m args below meth c D cA ad0 A X ad H locs cells slots lsC hc hs hR hS hB hT (ok_set (fun w h => by cases h; exact ⟨h1, h2⟩) hL) hl (by rw [List.length_set]; exact hn)
  rw [show (pc + 3).toNat = pc.toNat + 3 by omega] at k2
  have hi : i < ls.length := (List.getElem?_eq_some_iff.mp hx).1
  obtain ⟨kk, hkk⟩ := List.getElem?_of_mem (lp_get (ad := ad) (n := 0) hx)
  exact lv_iinc (k := kk) (x := Int32.ofInt x) X.1 X.2.1 hd hl (by rw [hkk, Nat.zero_add]; rfl) (by rw [← Int32.ofInt_add]) (by rw [← hn]; exact hi) rfl (fun ls' h' => k2 ls' (lp_set1 rfl hw h'))
theorem j_icmp_eq {x y off tgt : Int} (hp : 0 ≤ pc) (ht : 0 ≤ tgt) (e : pc + off = tgt) (hd : decode Y.2.1 pc.toNat = .ok (.if_icmp .eq off, 3)) (kt : x = y → J_ Y T0 P bc bs tgt ls st T) (kf : ¬ x = y → J_ Y T0 P bc bs (pc + 3) ls st T) : J_ Y T0 P bc bs pc ls (vI y :: vI x :: st) T := by
  intro l p e' s m args below meth c D cA ad0 A X ad H locs cells slots lsC hc hs hR hS hB hT hL hl hn
  have hL' := ok_tail (ok_tail hL)
  have ax : -2147483648 ≤ x ∧ x ≤ 2147483647 := ok_head (ok_tail hL)
  have ay : -2147483648 ≤ (y : Int) ∧ y ≤ 2147483647 := ok_head hL
  refine lv_icmp_eq (tgt := tgt.toNat) X.1 X.2.1 hd (by omega) (fun h => kt ((i3_eq ax ay).mp h) l p e' s m args below meth c D cA ad0 A X ad H locs cells slots lsC hc hs hR hS hB hT hL' hl hn) (fun h => ?_)
  have k2 := kf (fun q => h ((i3_eq ax ay).mpr q)) l p e' s m args below meth c D cA ad0 A X ad H locs cells slots lsC hc hs hR hS hB hT hL' hl hn
  rw [show (pc + 3).toNat = pc.toNat + 3 by omega] at k2
  exact k2
theorem j_icmp_ne {x y off tgt : Int} (hp : 0 ≤ pc) (ht : 0 ≤ tgt) (e : pc + off = tgt) (hd : decode Y.2.1 pc.toNat = .ok (.if_icmp .ne off, 3)) (kt : ¬ x = y → J_ Y T0 P bc bs tgt ls st T) (kf : x = y → J_ Y T0 P bc bs (pc + 3) ls st T) : J_ Y T0 P bc bs pc ls (vI y :: vI x :: st) T := by
  intro l p e' s m args below meth c D cA ad0 A X ad H locs cells slots lsC hc hs hR hS hB hT hL hl hn
  have hL' := ok_tail (ok_tail hL)
  have ax : -2147483648 ≤ x ∧ x ≤ 2147483647 := ok_head (ok_tail hL)
  have ay : -2147483648 ≤ (y : Int) ∧ y ≤ 2147483647 := ok_head hL
  refine lv_icmp_ne (tgt := tgt.toNat) X.1 X.2.1 hd (by omega) (fun h => kt (fun q => h ((i3_eq ax ay).mpr q)) l p e' s m args below meth c D cA ad0 A X ad H locs cells slots lsC hc hs hR hS hB hT hL' hl hn) (fun h => ?_)
  have k2 := kf ((i3_eq ax ay).mp h) l p e' s m args below meth c D cA ad0 A X ad H locs cells slots lsC hc hs hR hS hB hT hL' hl hn
  rw [show (pc + 3).toNat = pc.toNat + 3 by omega] at k2
  exact k2
theorem j_icmp_lt {x y off tgt : Int} (hp : 0 ≤ pc) (ht : 0 ≤ tgt) (e : pc + off = tgt) (hd : decode Y.2.1 pc.toNat = .ok (.if_icmp .lt off, 3)) (kt : x < y → J_ Y T0 P bc bs tgt ls st T) (kf : y ≤ x → J_ Y T0 P bc bs (pc + 3) ls st T) : J_ Y T0 P bc bs pc ls (vI y :: vI x :: st) T := by
  intro l p e' s m args below meth c D cA ad0 A X ad H locs cells slots lsC hc hs hR hS hB hT hL hl hn
  have hL' := ok_tail (ok_tail hL)
  have ax : -2147483648 ≤ x ∧ x ≤ 2147483647 := ok_head (ok_tail hL)
  have ay : -2147483648 ≤ (y : Int) ∧ y ≤ 2147483647 := ok_head hL
  refine lv_icmp_lt (tgt := tgt.toNat) X.1 X.2.1 hd (by omega) (fun h => kt ((i3_lt ax ay).mp h) l p e' s m args below meth c D cA ad0 A X ad H locs cells slots lsC hc hs hR hS hB hT hL' hl hn) (fun h => ?_)
  have k2 := kf (by have := mt (i3_lt ax ay).mpr h; omega) l p e' s m args below meth c D cA ad0 A X ad H locs cells slots lsC hc hs hR hS hB hT hL' hl hn
  rw [show (pc + 3).toNat = pc.toNat + 3 by omega] at k2
  exact k2
theorem j_icmp_ge {x y off tgt : Int} (hp : 0 ≤ pc) (ht : 0 ≤ tgt) (e : pc + off = tgt) (hd : decode Y.2.1 pc.toNat = .ok (.if_icmp .ge off, 3)) (kt : y ≤ x → J_ Y T0 P bc bs tgt ls st T) (kf : x < y → J_ Y T0 P bc bs (pc + 3) ls st T) : J_ Y T0 P bc bs pc ls (vI y :: vI x :: st) T := by
  intro l p e' s m args below meth c D cA ad0 A X ad H locs cells slots lsC hc hs hR hS hB hT hL hl hn
  have hL' := ok_tail (ok_tail hL)
  have ax : -2147483648 ≤ x ∧ x ≤ 2147483647 := ok_head (ok_tail hL)
  have ay : -2147483648 ≤ (y : Int) ∧ y ≤ 2147483647 := ok_head hL
  refine lv_icmp_ge (tgt := tgt.toNat) X.1 X.2.1 hd (by omega) (fun h => kt ((i3_le ay ax).mp h) l p e' s m args below meth c D cA ad0 A X ad H locs cells slots lsC hc hs hR hS hB hT hL' hl hn) (fun h => ?_)
  have k2 := kf (by have := mt (i3_le ay ax).mpr h; omega) l p e' s m args below meth c D cA ad0 A X ad H locs cells slots lsC hc hs hR hS hB hT hL' hl hn
  rw [show (pc + 3).toNat = pc.toNat + 3 by omega] at k2
  exact k2
theorem j_icmp_gt {x y off tgt : Int} (hp : 0 ≤ pc) (ht : 0 ≤ tgt) (e : pc + off = tgt) (hd : decode Y.2.1 pc.toNat = .ok (.if_icmp .gt off, 3)) (kt : y < x → J_ Y T0 P bc bs tgt ls st T) (kf : x ≤ y → J_ Y T0 P bc bs (pc + 3) ls st T) : J_ Y T0 P bc bs pc ls (vI y :: vI x :: st) T := by
  intro l p e' s m args below meth c D cA ad0 A X ad H locs cells slots lsC hc hs hR hS hB hT hL hl hn
  have hL' := ok_tail (ok_tail hL)
  have ax : -2147483648 ≤ x ∧ x ≤ 2147483647 := ok_head (ok_tail hL)
  have ay : -2147483648 ≤ (y : Int) ∧ y ≤ 2147483647 := ok_head hL
  refine lv_icmp_gt (tgt := tgt.toNat) X.1 X.2.1 hd (by omega) (fun h => kt ((i3_lt ay ax).mp h) l p e' s m args below meth c D cA ad0 A X ad H locs cells slots lsC hc hs hR hS hB hT hL' hl hn) (fun h => ?_)
  have k2 := kf (by have := mt (i3_lt ay ax).mpr h; omega) l p e' s m args below meth c D cA ad0 A X ad H locs cells slots lsC hc hs hR hS hB hT hL' hl hn
  rw [show (pc + 3).toNat = pc.toNat + 3 by omega] at k2
  exact k2
theorem j_icmp_le {x y off tgt : Int} (hp : 0 ≤ pc) (ht : 0 ≤ tgt) (e : pc + off = tgt) (hd : decode Y.2.1 pc.toNat = .ok (.if_icmp .le off, 3)) (kt : x ≤ y → J_ Y T0 P bc bs tgt ls st T) (kf : y < x → J_ Y T0 P bc bs (pc + 3) ls st T) : J_ Y T0 P bc bs pc ls (vI y :: vI x :: st) T := by
  intro l p e' s m args below meth c D cA ad0 A X ad H locs cells slots lsC hc hs hR hS hB hT hL hl hn
  have hL' := ok_tail (ok_tail hL)
  have ax : -2147483648 ≤ x ∧ x ≤ 2147483647 := ok_head (ok_tail hL)
  have ay : -2147483648 ≤ (y : Int) ∧ y ≤ 2147483647 := ok_head hL
  refine lv_icmp_le (tgt := tgt.toNat) X.1 X.2.1 hd (by omega) (fun h => kt ((i3_le ax ay).mp h) l p e' s m args below meth c D cA ad0 A X ad H locs cells slots lsC hc hs hR hS hB hT hL' hl hn) (fun h => ?_)
  have k2 := kf (by have := mt (i3_le ax ay).mpr h; omega) l p e' s m args below meth c D cA ad0 A X ad H locs cells slots lsC hc hs hR hS hB hT hL' hl hn
  rw [show (pc + 3).toNat = pc.toNat + 3 by omega] at k2
  exact k2
theorem j_if_eq {x off tgt : Int} (hp : 0 ≤ pc) (ht : 0 ≤ tgt) (e : pc + off = tgt) (hd : decode Y.2.1 pc.toNat = .ok (.ifCond .eq off, 3)) (kt : x = 0 → J_ Y T0 P bc bs tgt ls st T) (kf : ¬ x = 0 → J_ Y T0 P bc bs (pc + 3) ls st T) : J_ Y T0 P bc bs pc ls (vI x :: st) T := by
  intro l p e' s m args below meth c D cA ad0 A X ad H locs cells slots lsC hc hs hR hS hB hT hL hl hn
  have hL' := ok_tail hL
  have ax : -2147483648 ≤ x ∧ x ≤ 2147483647 := ok_head hL
  have ay : -2147483648 ≤ 0 ∧ (0 : Int) ≤ 2147483647 := by omega
  refine lv_if_eq (tgt := tgt.toNat) X.1 X.2.1 hd (by omega) (fun h => kt ((i3_eq (y := 0) ax ay).mp h) l p e' s m args below meth c D cA ad0 A X ad H locs cells slots lsC hc hs hR hS hB hT hL' hl hn) (fun h => ?_)
  have k2 := kf (fun q => h ((i3_eq (y := 0) ax ay).mpr q)) l p e' s m args below meth c D cA ad0 A X ad H locs cells slots lsC hc hs hR hS hB hT hL' hl hn
  rw [show (pc + 3).toNat = pc.toNat + 3 by omega] at k2
  exact k2
theorem j_if_ne {x off tgt : Int} (hp : 0 ≤ pc) (ht : 0 ≤ tgt) (e : pc + off = tgt) (hd : decode Y.2.1 pc.toNat = .ok (.ifCond .ne off, 3)) (kt : ¬ x = 0 → J_ Y T0 P bc bs tgt ls st T) (kf : x = 0 → J_ Y T0 P bc bs (pc + 3) ls st T) : J_ Y T0 P bc bs pc ls (vI x :: st) T := by
  intro l p e' s m args below meth c D cA ad0 A X ad H locs cells slots lsC hc hs hR hS hB hT hL hl hn
  have hL' := ok_tail hL
  have ax : -2147483648 ≤ x ∧ x ≤ 2147483647 := ok_head hL
  have ay : -2147483648 ≤ 0 ∧ (0 : Int) ≤ 2147483647 := by omega
  refine lv_if_ne (tgt := tgt.toNat) X.1 X.2.1 hd (by omega) (fun h => kt (fun q => h ((i3_eq (y := 0) ax ay).mpr q)) l p e' s m args below meth c D cA ad0 A X ad H locs cells slots lsC hc hs hR hS hB hT hL' hl hn) (fun h => ?_)
  have k2 := kf ((i3_eq (y := 0) ax ay).mp h) l p e' s m args below meth c D cA ad0 A X ad H locs cells slots lsC hc hs hR hS hB hT hL' hl hn
  rw [show (pc + 3).toNat = pc.toNat + 3 by omega] at k2
  exact k2
theorem j_if_lt {x off tgt : Int} (hp : 0 ≤ pc) (ht : 0 ≤ tgt) (e : pc + off = tgt) (hd : decode Y.2.1 pc.toNat = .ok (.ifCond .lt off, 3)) (kt : x < 0 → J_ Y T0 P bc bs tgt ls st T) (kf : 0 ≤ x → J_ Y T0 P bc bs (pc + 3) ls st T) : J_ Y T0 P bc bs pc ls (vI x :: st) T := by
  intro l p e' s m args below meth c D cA ad0 A X ad H locs cells slots lsC hc hs hR hS hB hT hL hl hn
  have hL' := ok_tail hL
  have ax : -2147483648 ≤ x ∧ x ≤ 2147483647 := ok_head hL
  have ay : -2147483648 ≤ 0 ∧ (0 : Int) ≤ 2147483647 := by omega
  refine lv_if_lt (tgt := tgt.toNat) X.1 X.2.1 hd (by omega) (fun h => kt ((i3_lt (y := 0) ax ay).mp h) l p e' s m args below meth c D cA ad0 A X ad H locs cells slots lsC hc hs hR hS hB hT hL' hl hn) (fun h => ?_)
  have k2 := kf (by have := mt (i3_lt (y := 0) ax ay).mpr h; omega) l p e' s m args below meth c D cA ad0 A X ad H locs cells slots lsC hc hs hR hS hB hT hL' hl hn
  rw [show (pc + 3).toNat = pc.toNat + 3 by omega] at k2
  exact k2
theorem j_if_ge {x off tgt : Int} (hp : 0 ≤ pc) (ht : 0 ≤ tgt) (e : pc + off = tgt) (hd : decode Y.2.1 pc.toNat = .ok (.ifCond .ge off, 3)) (kt : 0 ≤ x → J_ Y T0 P bc bs tgt ls st T) (kf : x < 0 → J_ Y T0 P bc bs (pc + 3) ls st T) : J_ Y T0 P bc bs pc ls (vI x :: st) T := by
  intro l p e' s m args below meth c D cA ad0 A X ad H locs cells slots lsC hc hs hR hS hB hT hL hl hn
  have hL' := ok_tail hL
  have ax : -2147483648 ≤ x ∧ x ≤ 2147483647 := ok_head hL
  have ay : -2147483648 ≤ 0 ∧ (0 : Int) ≤ 2147483647 := by omega
  refine lv_if_ge (tgt := tgt.toNat) X.1 X.2.1 hd (by omega) (fun h => kt ((i3_le (x := 0) ay ax).mp h) l p e' s m args below meth c D cA ad0 A X ad H locs cells slots lsC hc hs hR hS hB hT hL' hl hn) (fun h => ?_)
  have k2 := kf (by have := mt (i3_le (x := 0) ay ax).mpr h; omega) l p e' s m args below meth c D cA ad0 A X ad H locs cells slots lsC hc hs hR hS hB hT hL' hl hn
  rw [show (pc + 3).toNat = pc.toNat + 3 by omega] at k2
  exact k2
theorem j_if_gt {x off tgt : Int} (hp : 0 ≤ pc) (ht : 0 ≤ tgt) (e : pc + off = tgt) (hd : decode Y.2.1 pc.toNat = .ok (.ifCond .gt off, 3)) (kt : 0 < x → J_ Y T0 P bc bs tgt ls st T) (kf : x ≤ 0 → J_ Y T0 P bc bs (pc + 3) ls st T) : J_ Y T0 P bc bs pc ls (vI x :: st) T := by
  intro l p e' s m args below meth c D cA ad0 A X ad H locs cells slots lsC hc hs hR hS hB hT hL hl hn
  have hL' := ok_tail hL
  have ax : -2147483648 ≤ x ∧ x ≤ 2147483647 := ok_head hL
  have ay : -2147483648 ≤ 0 ∧ (0 : Int) ≤ 2147483647 := by omega
  refine lv_if_gt (tgt := tgt.toNat) X.1 X.2.1 hd (by omega) (fun h => kt ((i3_lt (x := 0) ay ax).mp h) l p e' s m args below meth c D cA ad0 A X ad H locs cells slots lsC hc hs hR hS hB hT hL' hl hn) (fun h => ?_)
  have k2 := kf (by have := mt (i3_lt (x := 0) ay ax).mpr h; omega) l p e' s m args below meth c D cA ad0 A X ad H locs cells slots lsC hc hs hR hS hB hT hL' hl hn
  rw [show (pc + 3).toNat = pc.toNat + 3 by omega] at k2
  exact k2
theorem j_if_le {x off tgt : Int} (hp : 0 ≤ pc) (ht : 0 ≤ tgt) (e : pc + off = tgt) (hd : decode Y.2.1 pc.toNat = .ok (.ifCond .le off, 3)) (kt : x ≤ 0 → J_ Y T0 P bc bs tgt ls st T) (kf : 0 < x → J_ Y T0 P bc bs (pc + 3) ls st T) : J_ Y T0 P bc bs pc ls (vI x :: st) T := by
  intro l p e' s m args below meth c D cA ad0 A X ad H locs cells slots lsC hc hs hR hS hB hT hL hl hn
  have hL' := ok_tail hL
  have ax : -2147483648 ≤ x ∧ x ≤ 2147483647 := ok_head hL
  have ay : -2147483648 ≤ 0 ∧ (0 : Int) ≤ 2147483647 := by omega
  refine lv_if_le (tgt := tgt.toNat) X.1 X.2.1 hd (by omega) (fun h => kt ((i3_le (y := 0) ax ay).mp h) l p e' s m args below meth c D cA ad0 A X ad H locs cells slots lsC hc hs hR hS hB hT hL' hl hn) (fun h => ?_)
  have k2 := kf (by have := mt (i3_le (y := 0) ax ay).mpr h; omega) l p e' s m args below meth c D cA ad0 A X ad H locs cells slots lsC hc hs hR hS hB hT hL' hl hn
  rw [show (pc + 3).toNat = pc.toNat + 3 by omega] at k2
  exact k2
theorem j_ifnull_N {off tgt : Int} (hp : 0 ≤ pc) (ht : 0 ≤ tgt) (e : pc + off = tgt) (hd : decode Y.2.1 pc.toNat = .ok (.ifnull off, 3)) (k : J_ Y T0 P bc bs tgt ls st T) : J_ Y T0 P bc bs pc ls (vN :: st) T := by
  intro l p e' s m args below meth c D cA ad0 A X ad H locs cells slots lsC hc hs hR hS hB hT hL hl hn
  exact lv_ifnullN (tgt := tgt.toNat) X.1 X.2.1 hd (by omega) (k l p e' s m args below meth c D cA ad0 A X ad H locs cells slots lsC hc hs hR hS hB hT (ok_tail hL) hl hn)
theorem j_ifnull_R {off : Int} {q : Nat × Int} (hp : 0 ≤ pc) (hd : decode Y.2.1 pc.toNat = .ok (.ifnull off, 3)) (k : J_ Y T0 P bc bs (pc + 3) ls st T) : J_ Y T0 P bc bs pc ls (.inr (.inr (some q)) :: st) T := by
  intro l p e' s m args below meth c D cA ad0 A X ad H locs cells slots lsC hc hs hR hS hB hT hL hl hn
  have k2 := k l p e' s m args below meth c D cA ad0 A X ad H locs cells slots lsC hc hs hR hS hB hT (ok_tail hL) hl hn
  rw [show (pc + 3).toNat = pc.toNat + 3 by omega] at k2
  obtain ⟨kk, ii⟩ := q
  exact lv_ifnull X.1 X.2.1 hd k2
theorem j_ifnonnull_N {off : Int} (hp : 0 ≤ pc) (hd : decode Y.2.1 pc.toNat = .ok (.ifnonnull off, 3)) (k : J_ Y T0 P bc bs (pc + 3) ls st T) : J_ Y T0 P bc bs pc ls (vN :: st) T := by
  intro l p e' s m args below meth c D cA ad0 A X ad H locs cells slots lsC hc hs hR hS hB hT hL hl hn
  have k2 := k l p e' s m args below meth c D cA ad0 A X ad H locs cells slots lsC hc hs hR hS hB hT (ok_tail hL) hl hn
  rw [show (pc + 3).toNat = pc.toNat + 3 by omega] at k2
  exact lv_ifnonnullN X.1 X.2.1 hd k2
theorem j_ifnonnull_R {off tgt : Int} {q : Nat × Int} (hp : 0 ≤ pc) (ht : 0 ≤ tgt) (e : pc + off = tgt) (hd : decode Y.2.1 pc.toNat = .ok (.ifnonnull off, 3)) (k : J_ Y T0 P bc bs tgt ls st T) : J_ Y T0 P bc bs pc ls (.inr (.inr (some q)) :: st) T := by
  intro l p e' s m args below meth c D cA ad0 A X ad H locs cells slots lsC hc hs hR hS hB hT hL hl hn
  obtain ⟨kk, ii⟩ := q
  exact lv_ifnonnull (tgt := tgt.toNat) X.1 X.2.1 hd (by omega) (k l p e' s m args below meth c D cA ad0 A X ad H locs cells slots lsC hc hs hR hS hB hT (ok_tail hL) hl hn)
/-- the ends -/
theorem j_ireturn {x : Int} (hr : Y.2.2.2.1 = some .int ∨ Y.2.2.2.1 = some .boolean ∧ 0 ≤ x ∧ x ≤ 1) (hd : decode Y.2.1 pc.toNat = .ok (.ireturn, 1)) (k : P T (some (vI x))) : J_ Y T0 P bc bs pc ls [vI x] T := by
  intro l p e' s m args below meth c D cA ad0 A X ad H locs cells slots lsC hc hs hR hS hB hT hL hl hn
  refine W.widen (k := Y.2.2.2.2.cells) (n := Y.2.2.2.2.slots) (by omega) (by omega) ?_
  have hq : ∀ t : State, t.heap = H → s.WarmedH t.vm → Qc_ D cA ad0 T0 A P args s (.returned (some (.int (Int32.ofInt x)))) t := fun t ht _ => ⟨⟨T, ad, some (vI x), rfl, k, hT, fun v hv => by cases hv; exact ok_head hL, by rw [ht]; exact hR, hB⟩, hS.F ht⟩
  rcases hr with hr | ⟨hr, h0, h1⟩
  · exact W.iret X.1 X.2.1 (X.2.2.2.1.trans hr) hq hS.2.2 hd X.2.2.2.2.1
  · refine W.zret (ty := .boolean) X.1 X.2.1 (X.2.2.2.1.trans hr) ?_ hq hS.2.2 hd X.2.2.2.2.1
    have : x = 0 ∨ x = 1 := by omega
    rcases this with rfl | rfl <;> decide
theorem j_lreturn {x : Int} (hr : Y.2.2.2.1 = some .long) (hd : decode Y.2.1 pc.toNat = .ok (.lreturn, 1)) (k : P T (some (vL x))) : J_ Y T0 P bc bs pc ls [vL x] T := by
  intro l p e' s m args below meth c D cA ad0 A X ad H locs cells slots lsC hc hs hR hS hB hT hL hl hn
  refine W.widen (k := Y.2.2.2.2.cells) (n := Y.2.2.2.2.slots) (by omega) (by omega) ?_
  exact W.lret X.1 X.2.1 (X.2.2.2.1.trans hr) (fun t ht _ => ⟨⟨T, ad, some (vL x), rfl, k, hT, fun v hv => by cases hv; exact ok_head hL, by rw [ht]; exact hR, hB⟩, hS.F ht⟩) hS.2.2 hd X.2.2.2.2.1
theorem j_return (hr : Y.2.2.2.1 = none) (hd : decode Y.2.1 pc.toNat = .ok (.return_, 1)) (k : P T none) : J_ Y T0 P bc bs pc ls [] T := by
  intro l p e' s m args below meth c D cA ad0 A X ad H locs cells slots lsC hc hs hR hS hB hT hL hl hn
  refine W.widen (k := Y.2.2.2.2.cells) (n := Y.2.2.2.2.slots) (by omega) (by omega) ?_
  exact W.vret X.1 X.2.1 (X.2.2.2.1.trans hr) (fun t ht _ => ⟨⟨T, ad, none, rfl, k, hT, (fun v hv => by cases hv), by rw [ht]; exact hR, hB⟩, hS.F ht⟩) hS.2.2 hd X.2.2.2.2.1
end JR
-- the tables' own rows
theorem tk_no : ∀ k, k < 154 → ta_ k = none := by decide +kernel
theorem tf_no {k : Nat} (h : 154 ≤ k) : tf_ k = [] := by
  unfold tf_
  rw [if_neg (by omega), if_neg (by omega), if_neg (by omega)]
theorem ta_no {k : Nat} (h : 640 ≤ k) : ta_ k = none := by
  unfold ta_
  have e : ta_l.getD (k / 32) [] = [] := by
    rw [List.getD_eq_getElem?_getD, List.getElem?_eq_none (by have : ta_l.length = 19 := rfl; omega)]
    rfl
  rw [e]; rfl
def tc_ (q : Option (Nat × Option Int × Int × Int)) : Bool := match q with
  | none => true
  | some (t, n, lo, hi) => (decide (1 ≤ t) && decide (t ≤ 5)) && (if t = 3 then decide (-9223372036854775808 ≤ lo) && decide (hi ≤ 9223372036854775807) else decide (-2147483648 ≤ lo) && decide (hi ≤ 2147483647)) && (match n with
    | none => decide (t = 1)
    | some m => decide (0 ≤ m) && decide (m ≤ 2147483647)) && (if t = 2 then decide (lo = 0) && decide (hi = 1) else true)
theorem tc_all : ∀ k, k < 640 → tc_ (ta_ k) = true ∧ (∀ t lo hi, ta_ k = some (t, none, lo, hi) → k = 190) := by
  have h : ∀ k, k < 640 → tc_ (ta_ k) = true ∧ ((match ta_ k with | some (_, none, _, _) => decide (k = 190) | _ => true) = true) := by decide +kernel
  intro k hk
  refine ⟨(h k hk).1, fun t lo hi e => ?_⟩
  have := (h k hk).2
  rw [e] at this
  simpa using this
theorem tc_of {k t : Nat} {n : Option Int} {lo hi : Int} (h : ta_ k = some (t, n, lo, hi)) : tc_ (some (t, n, lo, hi)) = true := by
  by_cases hk : k < 640
  · rw [← h]; exact (tc_all k hk).1
  · rw [ta_no (by omega)] at h; cases h
theorem ta_tf {k : Nat} {q : Nat × Option Int × Int × Int} (h : ta_ k = some q) : tf_ k = [] := by
  by_cases hk : k < 154
  · rw [tk_no k hk] at h; cases h
  · exact tf_no (by omega)
theorem tf_lt {k j : Nat} {q : Nat × Nat × Int × Int} (h : (tf_ k)[j]? = some q) : k < 154 := by
  by_cases hk : k < 154
  · exact hk
  · rw [tf_no (by omega)] at h; simp at h
theorem tf_ta {k j : Nat} {q : Nat × Nat × Int × Int} (h : (tf_ k)[j]? = some q) : ta_ k = none := tk_no k (tf_lt h)
theorem tf_rng : ∀ k, k < 154 → ∀ q ∈ tf_ k, -2147483648 ≤ q.2.2.1 ∧ q.2.2.2 ≤ 2147483647 := by decide +kernel
theorem tf_r {k j c k' : Nat} {lo hi : Int} (h : (tf_ k)[j]? = some (c, k', lo, hi)) : -2147483648 ≤ lo ∧ hi ≤ 2147483647 := tf_rng k (tf_lt h) _ (List.mem_of_getElem? h)
theorem ta_521 : ta_ 521 = some (4, some 4, 0, 1) := by decide +kernel
theorem ta_523 : ta_ 523 = some (5, some 400, 0, 1) := by decide +kernel
theorem ta_190 : ta_ 190 = some (1, none, -2147483648, 2147483647) := by decide +kernel
theorem okv_mono {T T' : Zt} (h : ∀ k i, al_ T k i → al_ T' k i) {v : Zv} (hv : ok_v T v) : ok_v T' v := by
  rcases v with x | x | _ | ⟨k, i⟩
  · exact hv
  · exact hv
  · exact trivial
  · exact hv.imp id (h k i)
theorem al_up {T : Zt} {k : Nat} {i j x : Int} (hj : j ≠ -1) (k' : Nat) (i' : Int) : al_ (up_ T k i j x) k' i' ↔ al_ T k' i' := by
  unfold al_
  rw [up_n (fun h => hj h.2.2.symm)]
/-- a number is stored in a row -/
theorem ok_upA {T : Zt} (hT : ok_T T) {k t : Nat} {n : Option Int} {lo hi : Int} (ha : ta_ k = some (t, n, lo, hi)) (ht : t ≤ 3) {i j x : Int} (hj : 0 ≤ j) (h1 : lo ≤ x) (h2 : x ≤ hi) : ok_T (up_ T k i j x) := by
  obtain ⟨a1, a2, a3, a4, a5, a6, a7, a8, a9⟩ := hT
  have hal := al_up (T := T) (k := k) (i := i) (j := j) (x := x) (by omega)
  refine ⟨fun k' t' n' lo' hi' h i' x' hx => ?_, fun k' j' c k'' lo' hi' h i' => ?_, fun i' => ?_, fun k' i' hl j' c k'' lo' hi' h => ?_, fun i' x' hx' h => ?_, fun i' x' hx' h => ?_, fun k' i' h q => ?_, fun k' i' o h q => (a8 k' i' o h ((hal _ _).mp q)).imp (hal _ _).mpr (hal _ _).mpr, fun i' h q => a9 i' (by rw [up_n (fun e => by rw [← e.1] at ha; exact absurd (show ta_ 191 = none by decide +kernel) (by rw [ha]; simp))] at h; exact h) ((hal _ _).mp q)⟩
  · by_cases e : k' = k ∧ i' = i ∧ x' = j
    · obtain ⟨rfl, rfl, rfl⟩ := e
      rw [ha] at h
      cases h
      rw [up_s]
      exact ⟨h1, h2⟩
    · rw [up_n e]
      exact a1 k' t' n' lo' hi' h i' x' hx
  · rw [up_n (fun e => by rw [e.1, ta_tf ha] at h; simp at h)]
    exact a2 k' j' c k'' lo' hi' h i'
  · rw [up_n (fun e => by omega)]
    exact a3 i'
  · rw [up_n (fun e => by rw [e.1, ta_tf ha] at h; simp at h)]
    exact okv_mono (fun k i => (hal k i).mpr) (a4 k' i' ((hal k' i').mp hl) j' c k'' lo' hi' h)
  · rw [up_n (fun e => by rw [← e.1, ta_521] at ha; cases ha; omega)] at h
    exact (hal _ _).mpr (a5 i' x' hx' h)
  · rw [up_n (fun e => by rw [← e.1, ta_523] at ha; cases ha; omega)] at h
    exact (hal _ _).mpr (a6 i' x' hx' h)
  · exact a7 k' i' h ((hal _ _).mp q)
/-- a number is stored in a field -/
theorem ok_upF {T : Zt} (hT : ok_T T) {k j k1 : Nat} {lo hi : Int} (hf : (tf_ k)[j]? = some (0, k1, lo, hi)) {i x : Int} (h1 : lo ≤ x) (h2 : x ≤ hi) : ok_T (up_ T k i (j : Int) x) := by
  obtain ⟨a1, a2, a3, a4, a5, a6, a7, a8, a9⟩ := hT
  have hal := al_up (T := T) (k := k) (i := i) (j := (j : Int)) (x := x) (by omega)
  have hk := tf_lt hf
  refine ⟨fun k' t' n' lo' hi' h i' x' hx => ?_, fun k' j' c k'' lo' hi' h i' => ?_, fun i' => ?_, fun k' i' hl j' c k'' lo' hi' h => ?_, fun i' x' hx' h => ?_, fun i' x' hx' h => ?_, fun k' i' h q => ?_, fun k' i' o h q => (a8 k' i' o h ((hal _ _).mp q)).imp (hal _ _).mpr (hal _ _).mpr, fun i' h q => a9 i' (by rw [up_n (fun e => by omega)] at h; exact h) ((hal _ _).mp q)⟩
  · rw [up_n (fun e => by rw [e.1, tf_ta hf] at h; cases h)]
    exact a1 k' t' n' lo' hi' h i' x' hx
  · by_cases e : k' = k ∧ i' = i ∧ (j' : Int) = (j : Int)
    · obtain ⟨rfl, rfl, e3⟩ := e
      have e3 : j' = j := by omega
      subst e3
      rw [hf] at h
      cases h
      rw [up_s]
      exact ⟨h1, h2⟩
    · rw [up_n e]
      exact a2 k' j' c k'' lo' hi' h i'
  · rw [up_n (fun e => by omega)]
    exact a3 i'
  · by_cases e : k' = k ∧ i' = i ∧ (j' : Int) = (j : Int)
    · obtain ⟨rfl, rfl, e3⟩ := e
      have e3 : j' = j := by omega
      subst e3
      have hr := tf_r hf
      rw [hf] at h
      cases h
      rw [up_s]
      exact ⟨by omega, by omega⟩
    · rw [up_n e]
      exact okv_mono (fun k i => (hal k i).mpr) (a4 k' i' ((hal k' i').mp hl) j' c k'' lo' hi' h)
  · rw [up_n (fun e => by omega)] at h
    exact (hal _ _).mpr (a5 i' x' hx' h)
  · rw [up_n (fun e => by omega)] at h
    exact (hal _ _).mpr (a6 i' x' hx' h)
  · exact a7 k' i' h ((hal _ _).mp q)
-- cells
theorem ce_congr {cA : Nat → ClassId} {ad : Nat → Int → Nat} {T T' : Zt} {k : Nat} {i : Int} (h : T' k i = T k i) : ce_ cA ad T' k i = ce_ cA ad T k i := by
  unfold ce_ ln_
  rw [h]
theorem wd_get {cA : Nat → ClassId} {ad : Nat → Int → Nat} {T : Zt} {ids : List (Nat × Int)} {q0 k : Nat} {i : Int} (h : ids[q0]? = some (k, i)) : (wd_ cA ad T ids)[q0]? = some (ad k i, ce_ cA ad T k i) := by
  unfold wd_
  rw [List.getElem?_map, h]
  rfl
theorem wd_set {cA : Nat → ClassId} {ad : Nat → Int → Nat} {T T' : Zt} {ids : List (Nat × Int)} {q0 k : Nat} {i : Int} {A : Nat → Prop} (hD : va_D A (wd_ cA ad T ids)) (h : ids[q0]? = some (k, i)) (ho : ∀ k' i', (k', i') ≠ (k, i) → T' k' i' = T k' i') : (wd_ cA ad T ids).set q0 (ad k i, ce_ cA ad T' k i) = wd_ cA ad T' ids := by
  apply List.ext_getElem?
  intro n
  rw [List.getElem?_set]
  by_cases e : q0 = n
  · subst e
    rw [if_pos rfl, wd_get h]
    have hl : q0 < (wd_ cA ad T ids).length := (List.getElem?_eq_some_iff.mp (wd_get (cA := cA) (ad := ad) (T := T) h)).1
    rw [if_pos hl]
  · rw [if_neg e]
    cases hn : ids[n]? with
    | none => unfold wd_; rw [List.getElem?_map, List.getElem?_map, hn]; rfl
    | some q =>
      obtain ⟨k', i'⟩ := q
      have hne : (k', i') ≠ (k, i) := by
        rintro q
        cases q
        exact e (hD.1 q0 n _ _ (wd_get h) (wd_get hn) rfl)
      rw [wd_get hn, wd_get hn, ce_congr (ho _ _ hne)]
section JC
variable {Y : Zm} {T0 T : Zt} {P : Zt → Option Zv → Prop} {bc bs : Nat} {pc : Int} {ls : Zl} {st : List Zv}
theorem rp_at {D : va_G} {cA : Nat → ClassId} {ad : Nat → Int → Nat} {A : Nat → Prop} {H : Heap} (h : Rp_ D cA ad T A H) {k : Nat} {i : Int} (ha : al_ T k i) : ∃ (ids : List (Nat × Int)) (q0 : Nat), ids[q0]? = some (k, i) ∧ (∀ k i, al_ T k i ↔ (k, i) ∈ ids) ∧ va_P D vwCl (wd_ cA ad T ids) H ∧ va_D A (wd_ cA ad T ids) := by
  obtain ⟨ids, h1, h2, h3⟩ := h
  obtain ⟨q0, hq⟩ := List.getElem?_of_mem ((h1 k i).mp ha)
  exact ⟨ids, q0, hq, h1, h2, h3⟩
theorem ok_al {k : Nat} {i : Int} {v : Option (Nat × Int)} (hk : 100 ≤ k) (h : ok_v T (vR k i)) : al_ T k i := by
  rcases h with h | h
  · omega
  · exact h
/-- the facts of a field: its class's row, its link -/
def fl_ (own : String) (idx ci j : Nat) : Prop := ∃ (C : String) (Tb : u_T) (N : Nat), vwCl[ci]? = some (C, Tb, N) ∧ j < N ∧ N = (tf_ (100 + ci)).length ∧ Cond.fieldLink own idx (Tb j).1 (Tb j).2.1 (Tb j).2.2.1 ∈ lw_g
def fp_ (own : String) (idx ci j : Nat) : Prop := ∃ (C : String) (Tb : u_T) (N : Nat), vwCl[ci]? = some (C, Tb, N) ∧ j < N ∧ N = (tf_ (100 + ci)).length ∧ Cond.fieldLink own idx (Tb j).1 (Tb j).2.1 (Tb j).2.2.1 ∈ lw_g ∧ (Tb j).2.2.2 = false ∧ ((Tb j).2.2.1 = "I" ∨ (Tb j).2.2.1 = "Z" ∧ ∃ k', (tf_ (100 + ci))[j]? = some (0, k', 0, 1))
theorem cl_in {ci N : Nat} {C : String} {Tb : u_T} (h : vwCl[ci]? = some (C, Tb, N)) : (∀ w ∈ u_ws C Tb N, w ∈ lw_g) ∧ (∃ ty0 : Nat → FieldType, ∀ k, k < N → parseFieldDescriptor (Tb k).2.2.1 = some (ty0 k)) ∧ ∀ a, a < N → ∀ b, b < N → a ≠ b → (Tb a).2.1 ≠ (Tb b).2.1 := by
  match ci, h with
  | 0, h => cases h; exact ⟨inX0, ⟨tyX0, tyX0_ok⟩, nmX0⟩
  | 1, h => cases h; exact ⟨inX1, ⟨tyX1, tyX1_ok⟩, nmX1⟩
  | 2, h => cases h; exact ⟨inX2, ⟨tyX2, tyX2_ok⟩, nmX2⟩
  | 3, h => cases h; exact ⟨inX3, ⟨tyX3, tyX3_ok⟩, nmX3⟩
  | 4, h => cases h; exact ⟨inX4, ⟨tyX4, tyX4_ok⟩, nmX4⟩
  | 5, h => cases h; exact ⟨inX5, ⟨tyX5, tyX5_ok⟩, nmX5⟩
  | 6, h => cases h; exact ⟨inX6, ⟨tyX6, tyX6_ok⟩, nmX6⟩
  | 7, h => cases h; exact ⟨inX7, ⟨tyX7, tyX7_ok⟩, nmX7⟩
  | 8, h => cases h; exact ⟨inX8, ⟨tyX8, tyX8_ok⟩, nmX8⟩
  | 9, h => cases h; exact ⟨inX9, ⟨tyX9, tyX9_ok⟩, nmX9⟩
  | 10, h => cases h; exact ⟨inX10, ⟨tyX10, tyX10_ok⟩, nmX10⟩
  | 11, h => cases h; exact ⟨inX11, ⟨tyX11, tyX11_ok⟩, nmX11⟩
  | n + 12, h => simp at h
theorem cl_lt {ci N : Nat} {C : String} {Tb : u_T} (h : vwCl[ci]? = some (C, Tb, N)) : ci < 12 := (List.getElem?_eq_some_iff.mp h).1
theorem ce_ob {cA : Nat → ClassId} {ad : Nat → Int → Nat} {ci : Nat} {i : Int} (h : ci < 12) : ce_ cA ad T (100 + ci) i = .inr (ci, (tf_ (100 + ci)).zipIdx.map fun q => en_v ad (fv_ q.1.1 q.1.2.1 (T (100 + ci) i (q.2 : Int)) i)) := by
  unfold ce_
  rw [tk_no _ (by omega)]
  simp only [kc_]
  rw [if_pos (by omega), Nat.add_sub_cancel_left]
theorem fs_at {ad : Nat → Int → Nat} {k j c k' : Nat} {lo hi i : Int} (h : (tf_ k)[j]? = some (c, k', lo, hi)) : ((tf_ k).zipIdx.map fun q => en_v ad (fv_ q.1.1 q.1.2.1 (T k i (q.2 : Int)) i))[j]? = some (en_v ad (fv_ c k' (T k i (j : Int)) i)) := by
  rw [List.getElem?_map, List.getElem?_zipIdx, h]
  simp
/-- a field is read -/
theorem j_getf {ci j c k' idx : Nat} {lo hi i : Int} (hp : 0 ≤ pc) (hf : fl_ Y.1 idx ci j) (ht : (tf_ (100 + ci))[j]? = some (c, k', lo, hi)) (hd : decode Y.2.1 pc.toNat = .ok (.getfield idx, 3)) (k : lo ≤ T (100 + ci) i (j : Int) → T (100 + ci) i (j : Int) ≤ hi → J_ Y T0 P bc bs (pc + 3) ls (fv_ c k' (T (100 + ci) i (j : Int)) i :: st) T) : J_ Y T0 P bc bs pc ls (vR (100 + ci) i :: st) T := by
  intro l p e s m args below meth c0 D cA ad0 A X ad H locs cells slots lsC hc hs hR hS hB hT hL hl hn
  have hal : al_ T (100 + ci) i := ok_al (v := none) (by omega) (ok_head hL)
  obtain ⟨ids, q0, hq, h1, hP, hD⟩ := rp_at hR hal
  obtain ⟨C, Tb, N, hC, hjN, hN, hlk⟩ := hf
  obtain ⟨hin, -, -⟩ := cl_in hC
  have hbd := hT.2.1 _ _ _ _ _ _ ht i
  have k2 := k hbd.1 hbd.2 l p e s m args below meth c0 D cA ad0 A X ad H locs cells slots lsC hc hs hR hS hB hT (ok_push (hT.2.2.2.1 _ _ hal _ _ _ _ _ ht) (ok_tail hL)) hl hn
  rw [show (pc + 3).toNat = pc.toNat + 3 by omega] at k2
  have hw := wd_get (cA := cA) (ad := ad) (T := T) hq
  rw [ce_ob (cl_lt hC)] at hw
  exact va_get (D := D) (ci := ci) (C := C) (T := Tb) (N := N) (own := Y.1) (ref := (Tb j).1) (index := idx) X.1 X.2.1 X.2.2.2.2.2.1 hin X.2.2.2.2.2.2.1 X.2.2.2.2.2.2.2.1 hP q0 hw hC j hjN (X.2.2.2.2.2.1 _ hlk) (fun _ h => h) (fs_at ht) hd k2
theorem nr_z {x : Int} (h1 : 0 ≤ x) (h2 : x ≤ 1) : narrow .boolean (.int (Int32.ofInt x)) = .int (Int32.ofInt x) := by
  have : x = 0 ∨ x = 1 := by omega
  rcases this with rfl | rfl <;> decide
/-- a number is put into a field -/
theorem j_putf {ci j k' idx : Nat} {lo hi i x : Int} (hp : 0 ≤ pc) (hf : fp_ Y.1 idx ci j) (ht : (tf_ (100 + ci))[j]? = some (0, k', lo, hi)) (hd : decode Y.2.1 pc.toNat = .ok (.putfield idx, 3)) (h1 : lo ≤ x) (h2 : x ≤ hi) (k : J_ Y T0 P bc bs (pc + 3) ls st (up_ T (100 + ci) i (j : Int) x)) : J_ Y T0 P bc bs pc ls (vI x :: vR (100 + ci) i :: st) T := by
  intro l p e s m args below meth c0 D cA ad0 A X ad H locs cells slots lsC hc hs hR hS hB hT hL hl hn
  have hal : al_ T (100 + ci) i := ok_al (v := none) (by omega) (ok_head (ok_tail hL))
  have hup := al_up (T := T) (k := 100 + ci) (i := i) (j := (j : Int)) (x := x) (by omega)
  obtain ⟨ids, q0, hq, hids, hP, hD⟩ := rp_at hR hal
  obtain ⟨C, Tb, N, hC, hjN, hN, hlk, hfin, hds⟩ := hf
  obtain ⟨hin, ⟨ty0, hty⟩, hnm⟩ := cl_in hC
  have hw := wd_get (cA := cA) (ad := ad) (T := T) hq
  rw [ce_ob (cl_lt hC)] at hw
  obtain ⟨ty, hty1, hnar, hfit⟩ : ∃ ty, parseFieldDescriptor (Tb j).2.2.1 = some ty ∧ narrow ty (.int (Int32.ofInt x)) = .int (Int32.ofInt x) ∧ fits ty (.int (Int32.ofInt x)) = true := by
    rcases hds with h | ⟨h, k9, h9⟩
    · exact ⟨.int, by rw [h]; decide +kernel, rfl, rfl⟩
    · rw [ht] at h9
      cases h9
      refine ⟨.boolean, by rw [h]; decide +kernel, nr_z h1 h2, ?_⟩
      have : x = 0 ∨ x = 1 := by omega
      rcases this with rfl | rfl <;> decide
  refine va_put (D := D) (ci := ci) (C := C) (T := Tb) (N := N) (own := Y.1) (ref := (Tb j).1) (index := idx) (ty := ty) (v := .int (Int32.ofInt x)) X.1 X.2.1 X.2.2.2.2.2.1 hin ty0 hty hnm X.2.2.2.2.2.2.1 X.2.2.2.2.2.2.2.1 hP hD hS q0 hw hC j hjN (X.2.2.2.2.2.1 _ hlk) (fun _ h => h) hfin hty1 hnar hfit (by rw [List.length_map, List.length_zipIdx, ← hN]; exact hjN) hd (fun H1 locs1 hP1 hD1 hS1 => ?_)
  have e1 : ((tf_ (100 + ci)).zipIdx.map fun q => en_v ad (fv_ q.1.1 q.1.2.1 (T (100 + ci) i (q.2 : Int)) i)).set j (.int (Int32.ofInt x)) = (tf_ (100 + ci)).zipIdx.map fun q => en_v ad (fv_ q.1.1 q.1.2.1 (up_ T (100 + ci) i (j : Int) x (100 + ci) i (q.2 : Int)) i) := by
    apply List.ext_getElem?
    intro n
    rw [List.getElem?_set]
    by_cases en : j = n
    · subst en
      rw [if_pos rfl, if_pos (by rw [List.length_map, List.length_zipIdx, ← hN]; exact hjN), fs_at (T := up_ T (100 + ci) i (j : Int) x) ht, up_s]
      rfl
    · rw [if_neg en, List.getElem?_map, List.getElem?_map, List.getElem?_zipIdx]
      cases hn9 : (tf_ (100 + ci))[n]? with
      | none => rfl
      | some q =>
        simp only [Option.map_some]
        rw [up_n (fun q => by omega)]
  have e2 : (wd_ cA ad T ids).set q0 (ad (100 + ci) i, .inr (ci, ((tf_ (100 + ci)).zipIdx.map fun q => en_v ad (fv_ q.1.1 q.1.2.1 (T (100 + ci) i (q.2 : Int)) i)).set j (.int (Int32.ofInt x)))) = wd_ cA ad (up_ T (100 + ci) i (j : Int) x) ids := by
    rw [e1, ← ce_ob (cl_lt hC) (T := up_ T (100 + ci) i (j : Int) x) (cA := cA)]
    exact wd_set hD hq (fun k' i' h => up_o h)
  rw [e2] at hP1 hD1
  have k2 := k l p e s m args below meth c0 D cA ad0 A X ad H1 locs1 cells slots lsC hc hs ⟨ids, fun k i => (hup k i).trans (hids k i), hP1, hD1⟩ hS1 ⟨fun k i h => (hup k i).mpr (hB.1 k i h), hB.2⟩ (ok_upF hT ht h1 h2) ⟨fun k9 v h => okv_mono (fun k i => (hup k i).mpr) (hL.1 k9 v h), fun v h => okv_mono (fun k i => (hup k i).mpr) ((ok_tail (ok_tail hL)).2 v h)⟩ hl hn
  rw [show (pc + 3).toNat = pc.toNat + 3 by omega] at k2
  exact k2
end JC
section JA
variable {Y : Zm} {T0 T : Zt} {P : Zt → Option Zv → Prop} {bc bs : Nat} {pc : Int} {ls : Zl} {st : List Zv}
theorem ta_ge {k : Nat} {q : Nat × Option Int × Int × Int} (h : ta_ k = some q) : 154 ≤ k := by
  by_cases hk : k < 154
  · rw [tk_no k hk] at h; cases h
  · omega
theorem ln_r {k t : Nat} {n : Option Int} {lo hi : Int} (hT : ok_T T) (h : ta_ k = some (t, n, lo, hi)) (i : Int) : 0 ≤ ln_ T k i ∧ ln_ T k i ≤ 2147483647 := by
  have h1 := tc_of h
  unfold ln_
  rw [h]
  cases n with
  | none =>
    have hk : k = 190 := by
      by_cases hk : k < 640
      · exact (tc_all k hk).2 _ _ _ h
      · rw [ta_no (by omega)] at h; cases h
    subst hk
    exact hT.2.2.1 i
  | some m =>
    simp [tc_] at h1
    simp only
    omega
theorem ln_up {k : Nat} {i j x : Int} (hj : 0 ≤ j) : ln_ (up_ T k i j x) k i = ln_ T k i := by
  unfold ln_
  rw [up_n (fun e => by omega)]
theorem j_iald {k : Nat} {n : Option Int} {lo hi i x : Int} (hp : 0 ≤ pc) (ha : ta_ k = some (1, n, lo, hi)) (hd : decode Y.2.1 pc.toNat = .ok (.iaload, 1)) (h1 : 0 ≤ x) (h2 : x < ln_ T k i) (kk : lo ≤ T k i x → T k i x ≤ hi → J_ Y T0 P bc bs (pc + 1) ls (vI (T k i x) :: st) T) : J_ Y T0 P bc bs pc ls (vI x :: vR k i :: st) T := by
  intro l p e s m args below meth c0 D cA ad0 A X ad H locs cells slots lsC hc hs hR hS hB hT hL hl hn
  have hk := ta_ge ha
  have hal : al_ T k i := ok_al (v := none) (by omega) (ok_head (ok_tail hL))
  have hx : -2147483648 ≤ x ∧ x ≤ 2147483647 := ok_head hL
  obtain ⟨ids, q0, hq, hids, hP, hD⟩ := rp_at hR hal
  have hbd := hT.1 _ _ _ _ _ ha i x h1
  have hcb := tc_of ha
  simp [tc_] at hcb
  have k2 := kk hbd.1 hbd.2 l p e s m args below meth c0 D cA ad0 A X ad H locs cells slots lsC hc hs hR hS hB hT (ok_push (show ok_v T (vI (T k i x)) from ⟨by omega, by omega⟩) (ok_tail (ok_tail hL))) hl hn
  rw [show (pc + 1).toNat = pc.toNat + 1 by omega] at k2
  have hw := wd_get (cA := cA) (ad := ad) (T := T) hq
  unfold ce_ at hw
  rw [ha] at hw
  have hin := i3_in h1 h2 hx.2
  refine va_iald X.1 X.2.1 X.2.2.2.2.2.2.2.1 hP q0 0 hw rfl hin hd ?_
  rw [i3_cl h1 hx.2]
  exact k2
theorem j_zald {k : Nat} {n : Option Int} {lo hi i x : Int} (hp : 0 ≤ pc) (ha : ta_ k = some (2, n, lo, hi)) (hd : decode Y.2.1 pc.toNat = .ok (.baload, 1)) (h1 : 0 ≤ x) (h2 : x < ln_ T k i) (kk : lo ≤ T k i x → T k i x ≤ hi → J_ Y T0 P bc bs (pc + 1) ls (vI (T k i x) :: st) T) : J_ Y T0 P bc bs pc ls (vI x :: vR k i :: st) T := by
  intro l p e s m args below meth c0 D cA ad0 A X ad H locs cells slots lsC hc hs hR hS hB hT hL hl hn
  have hk := ta_ge ha
  have hal : al_ T k i := ok_al (v := none) (by omega) (ok_head (ok_tail hL))
  have hx : -2147483648 ≤ x ∧ x ≤ 2147483647 := ok_head hL
  obtain ⟨ids, q0, hq, hids, hP, hD⟩ := rp_at hR hal
  have hbd := hT.1 _ _ _ _ _ ha i x h1
  have hcb := tc_of ha
  simp [tc_] at hcb
  have k2 := kk hbd.1 hbd.2 l p e s m args below meth c0 D cA ad0 A X ad H locs cells slots lsC hc hs hR hS hB hT (ok_push (show ok_v T (vI (T k i x)) from ⟨by omega, by omega⟩) (ok_tail (ok_tail hL))) hl hn
  rw [show (pc + 1).toNat = pc.toNat + 1 by omega] at k2
  have hw := wd_get (cA := cA) (ad := ad) (T := T) hq
  unfold ce_ at hw
  rw [ha] at hw
  have hin := i3_in h1 h2 hx.2
  refine va_zald X.1 X.2.1 X.2.2.2.2.2.2.2.1 hP q0 1 hw rfl hin hd ?_
  rw [i3_cl h1 hx.2]
  exact k2
theorem j_lald {k : Nat} {n : Option Int} {lo hi i x : Int} (hp : 0 ≤ pc) (ha : ta_ k = some (3, n, lo, hi)) (hd : decode Y.2.1 pc.toNat = .ok (.laload, 1)) (h1 : 0 ≤ x) (h2 : x < ln_ T k i) (kk : lo ≤ T k i x → T k i x ≤ hi → J_ Y T0 P bc bs (pc + 1) ls (vL (T k i x) :: st) T) : J_ Y T0 P bc bs pc ls (vI x :: vR k i :: st) T := by
  intro l p e s m args below meth c0 D cA ad0 A X ad H locs cells slots lsC hc hs hR hS hB hT hL hl hn
  have hk := ta_ge ha
  have hal : al_ T k i := ok_al (v := none) (by omega) (ok_head (ok_tail hL))
  have hx : -2147483648 ≤ x ∧ x ≤ 2147483647 := ok_head hL
  obtain ⟨ids, q0, hq, hids, hP, hD⟩ := rp_at hR hal
  have hbd := hT.1 _ _ _ _ _ ha i x h1
  have hcb := tc_of ha
  simp [tc_] at hcb
  have k2 := kk hbd.1 hbd.2 l p e s m args below meth c0 D cA ad0 A X ad H locs cells slots lsC hc hs hR hS hB hT (ok_push (show ok_v T (vL (T k i x)) from ⟨by omega, by omega⟩) (ok_tail (ok_tail hL))) hl hn
  rw [show (pc + 1).toNat = pc.toNat + 1 by omega] at k2
  have hw := wd_get (cA := cA) (ad := ad) (T := T) hq
  unfold ce_ at hw
  rw [ha] at hw
  have hin := i3_in h1 h2 hx.2
  refine va_lald X.1 X.2.1 X.2.2.2.2.2.2.2.1 hP q0 2 hw rfl hin hd ?_
  rw [i3_cl h1 hx.2]
  exact k2
theorem j_iast {k : Nat} {n : Option Int} {lo hi i x v : Int} (hp : 0 ≤ pc) (ha : ta_ k = some (1, n, lo, hi)) (hd : decode Y.2.1 pc.toNat = .ok (.iastore, 1)) (h1 : 0 ≤ x) (h2 : x < ln_ T k i) (h3 : lo ≤ v) (h4 : v ≤ hi) (kk : J_ Y T0 P bc bs (pc + 1) ls st (up_ T k i x v)) : J_ Y T0 P bc bs pc ls (vI v :: vI x :: vR k i :: st) T := by
  intro l p e s m args below meth c0 D cA ad0 A X ad H locs cells slots lsC hc hs hR hS hB hT hL hl hn
  have hk := ta_ge ha
  have hal : al_ T k i := ok_al (v := none) (by omega) (ok_head (ok_tail (ok_tail hL)))
  have hup := al_up (T := T) (k := k) (i := i) (j := x) (x := v) (by omega)
  have hx : -2147483648 ≤ x ∧ x ≤ 2147483647 := ok_head (ok_tail hL)
  obtain ⟨ids, q0, hq, hids, hP, hD⟩ := rp_at hR hal
  have hcb := tc_of ha
  simp [tc_] at hcb
  have hw := wd_get (cA := cA) (ad := ad) (T := T) hq
  unfold ce_ at hw
  rw [ha] at hw
  refine va_iast X.1 X.2.1 X.2.2.2.2.2.2.2.1 hP hD hS q0 0 hw rfl (i3_in h1 h2 hx.2) hd (fun H1 locs1 hP1 hD1 hS1 => ?_)
  have e1 : upd (fun y : Nat => Int32.ofInt (T k i (y : Int))) (Int32.ofInt x).toNatClampNeg (Int32.ofInt v) = fun y : Nat => Int32.ofInt (up_ T k i x v k i (y : Int)) := by
    funext y
    by_cases ey : y = (Int32.ofInt x).toNatClampNeg
    · subst ey
      rw [i3_cl h1 hx.2, up_s]
      simp [upd]
    · rw [up_n (fun q => ey (by have := i3_cl h1 hx.2; omega))]
      simp [upd, ey]
  have e2 : ∀ z, z = ce_ cA ad (up_ T k i x v) k i → (wd_ cA ad T ids).set q0 (ad k i, z) = wd_ cA ad (up_ T k i x v) ids := by
    rintro z rfl
    exact wd_set hD hq (fun k' i' h => up_o h)
  have e3 : (.inl (cA 0, (ln_ T k i).toNat, .inl (upd (fun y : Nat => Int32.ofInt (T k i (y : Int))) (Int32.ofInt x).toNatClampNeg (Int32.ofInt v))) : va_E) = ce_ cA ad (up_ T k i x v) k i := by
    unfold ce_
    rw [ha, ln_up h1]
    simp only
    rw [e1]
  rw [e2 _ e3] at hP1 hD1
  have k2 := kk l p e s m args below meth c0 D cA ad0 A X ad H1 locs1 cells slots lsC hc hs ⟨ids, fun k i => (hup k i).trans (hids k i), hP1, hD1⟩ hS1 ⟨fun k i h => (hup k i).mpr (hB.1 k i h), hB.2⟩ (ok_upA hT ha (by decide) h1 h3 h4) ⟨fun k9 v h => okv_mono (fun k i => (hup k i).mpr) (hL.1 k9 v h), fun v h => okv_mono (fun k i => (hup k i).mpr) ((ok_tail (ok_tail (ok_tail hL))).2 v h)⟩ hl hn
  rw [show (pc + 1).toNat = pc.toNat + 1 by omega] at k2
  exact k2
theorem j_zast {k : Nat} {n : Option Int} {lo hi i x v : Int} (hp : 0 ≤ pc) (ha : ta_ k = some (2, n, lo, hi)) (hd : decode Y.2.1 pc.toNat = .ok (.bastore, 1)) (h1 : 0 ≤ x) (h2 : x < ln_ T k i) (h3 : lo ≤ v) (h4 : v ≤ hi) (kk : J_ Y T0 P bc bs (pc + 1) ls st (up_ T k i x v)) : J_ Y T0 P bc bs pc ls (vI v :: vI x :: vR k i :: st) T := by
  intro l p e s m args below meth c0 D cA ad0 A X ad H locs cells slots lsC hc hs hR hS hB hT hL hl hn
  have hk := ta_ge ha
  have hal : al_ T k i := ok_al (v := none) (by omega) (ok_head (ok_tail (ok_tail hL)))
  have hup := al_up (T := T) (k := k) (i := i) (j := x) (x := v) (by omega)
  have hx : -2147483648 ≤ x ∧ x ≤ 2147483647 := ok_head (ok_tail hL)
  obtain ⟨ids, q0, hq, hids, hP, hD⟩ := rp_at hR hal
  have hcb := tc_of ha
  simp [tc_] at hcb
  have hw := wd_get (cA := cA) (ad := ad) (T := T) hq
  unfold ce_ at hw
  rw [ha] at hw
  refine va_zast X.1 X.2.1 X.2.2.2.2.2.2.2.1 hP hD hS q0 1 hw rfl (i3_in h1 h2 hx.2) hd (fun H1 locs1 hP1 hD1 hS1 => ?_)
  have e1 : upd (fun y : Nat => Int32.ofInt (T k i (y : Int))) (Int32.ofInt x).toNatClampNeg (vp_nar .boolean (Int32.ofInt v)) = fun y : Nat => Int32.ofInt (up_ T k i x v k i (y : Int)) := by
    funext y
    by_cases ey : y = (Int32.ofInt x).toNatClampNeg
    · subst ey
      rw [i3_cl h1 hx.2, up_s]
      simp only [upd, if_pos]
      unfold vp_nar
      rw [nr_z (by omega) (by omega)]
    · rw [up_n (fun q => ey (by have := i3_cl h1 hx.2; omega))]
      simp [upd, ey]
  have e2 : ∀ z, z = ce_ cA ad (up_ T k i x v) k i → (wd_ cA ad T ids).set q0 (ad k i, z) = wd_ cA ad (up_ T k i x v) ids := by
    rintro z rfl
    exact wd_set hD hq (fun k' i' h => up_o h)
  have e3 : (.inl (cA 1, (ln_ T k i).toNat, .inl (upd (fun y : Nat => Int32.ofInt (T k i (y : Int))) (Int32.ofInt x).toNatClampNeg (vp_nar .boolean (Int32.ofInt v)))) : va_E) = ce_ cA ad (up_ T k i x v) k i := by
    unfold ce_
    rw [ha, ln_up h1]
    simp only
    rw [e1]
  rw [e2 _ e3] at hP1 hD1
  have k2 := kk l p e s m args below meth c0 D cA ad0 A X ad H1 locs1 cells slots lsC hc hs ⟨ids, fun k i => (hup k i).trans (hids k i), hP1, hD1⟩ hS1 ⟨fun k i h => (hup k i).mpr (hB.1 k i h), hB.2⟩ (ok_upA hT ha (by decide) h1 h3 h4) ⟨fun k9 v h => okv_mono (fun k i => (hup k i).mpr) (hL.1 k9 v h), fun v h => okv_mono (fun k i => (hup k i).mpr) ((ok_tail (ok_tail (ok_tail hL))).2 v h)⟩ hl hn
  rw [show (pc + 1).toNat = pc.toNat + 1 by omega] at k2
  exact k2
theorem j_last {k : Nat} {n : Option Int} {lo hi i x v : Int} (hp : 0 ≤ pc) (ha : ta_ k = some (3, n, lo, hi)) (hd : decode Y.2.1 pc.toNat = .ok (.lastore, 1)) (h1 : 0 ≤ x) (h2 : x < ln_ T k i) (h3 : lo ≤ v) (h4 : v ≤ hi) (kk : J_ Y T0 P bc bs (pc + 1) ls st (up_ T k i x v)) : J_ Y T0 P bc bs pc ls (vL v :: vI x :: vR k i :: st) T := by
  intro l p e s m args below meth c0 D cA ad0 A X ad H locs cells slots lsC hc hs hR hS hB hT hL hl hn
  have hk := ta_ge ha
  have hal : al_ T k i := ok_al (v := none) (by omega) (ok_head (ok_tail (ok_tail hL)))
  have hup := al_up (T := T) (k := k) (i := i) (j := x) (x := v) (by omega)
  have hx : -2147483648 ≤ x ∧ x ≤ 2147483647 := ok_head (ok_tail hL)
  obtain ⟨ids, q0, hq, hids, hP, hD⟩ := rp_at hR hal
  have hcb := tc_of ha
  simp [tc_] at hcb
  have hw := wd_get (cA := cA) (ad := ad) (T := T) hq
  unfold ce_ at hw
  rw [ha] at hw
  refine va_last X.1 X.2.1 X.2.2.2.2.2.2.2.1 hP hD hS q0 2 hw rfl (i3_in h1 h2 hx.2) hd (fun H1 locs1 hP1 hD1 hS1 => ?_)
  have e1 : vp_updL (fun y : Nat => Int64.ofInt (T k i (y : Int))) (Int32.ofInt x).toNatClampNeg (Int64.ofInt v) = fun y : Nat => Int64.ofInt (up_ T k i x v k i (y : Int)) := by
    funext y
    by_cases ey : y = (Int32.ofInt x).toNatClampNeg
    · subst ey
      rw [i3_cl h1 hx.2, up_s]
      simp [vp_updL]
    · rw [up_n (fun q => ey (by have := i3_cl h1 hx.2; omega))]
      simp [vp_updL, ey]
  have e2 : ∀ z, z = ce_ cA ad (up_ T k i x v) k i → (wd_ cA ad T ids).set q0 (ad k i, z) = wd_ cA ad (up_ T k i x v) ids := by
    rintro z rfl
    exact wd_set hD hq (fun k' i' h => up_o h)
  have e3 : (.inl (cA 2, (ln_ T k i).toNat, .inr (.inl (vp_updL (fun y : Nat => Int64.ofInt (T k i (y : Int))) (Int32.ofInt x).toNatClampNeg (Int64.ofInt v)))) : va_E) = ce_ cA ad (up_ T k i x v) k i := by
    unfold ce_
    rw [ha, ln_up h1]
    simp only
    rw [e1]
  rw [e2 _ e3] at hP1 hD1
  have k2 := kk l p e s m args below meth c0 D cA ad0 A X ad H1 locs1 cells slots lsC hc hs ⟨ids, fun k i => (hup k i).trans (hids k i), hP1, hD1⟩ hS1 ⟨fun k i h => (hup k i).mpr (hB.1 k i h), hB.2⟩ (ok_upA hT ha (by decide) h1 h3 h4) ⟨fun k9 v h => okv_mono (fun k i => (hup k i).mpr) (hL.1 k9 v h), fun v h => okv_mono (fun k i => (hup k i).mpr) ((ok_tail (ok_tail (ok_tail hL))).2 v h)⟩ hl hn
  rw [show (pc + 1).toNat = pc.toNat + 1 by omega] at k2
  exact k2
theorem j_alen {k t : Nat} {n : Option Int} {lo hi i : Int} (hp : 0 ≤ pc) (ha : ta_ k = some (t, n, lo, hi)) (hd : decode Y.2.1 pc.toNat = .ok (.arraylength, 1)) (kk : 0 ≤ ln_ T k i → ln_ T k i ≤ 2147483647 → J_ Y T0 P bc bs (pc + 1) ls (vI (ln_ T k i) :: st) T) : J_ Y T0 P bc bs pc ls (vR k i :: st) T := by
  intro l p e s m args below meth c0 D cA ad0 A X ad H locs cells slots lsC hc hs hR hS hB hT hL hl hn
  have hk := ta_ge ha
  have hal : al_ T k i := ok_al (v := none) (by omega) (ok_head hL)
  obtain ⟨ids, q0, hq, hids, hP, hD⟩ := rp_at hR hal
  have hr := ln_r hT ha i
  have k2 := kk hr.1 hr.2 l p e s m args below meth c0 D cA ad0 A X ad H locs cells slots lsC hc hs hR hS hB hT (ok_push (show ok_v T (vI _) from ⟨by omega, by omega⟩) (ok_tail hL)) hl hn
  rw [show (pc + 1).toNat = pc.toNat + 1 by omega] at k2
  have hw := wd_get (cA := cA) (ad := ad) (T := T) hq
  have hcb := tc_of ha
  simp [tc_] at hcb
  have e9 : Int32.ofNat (ln_ T k i).toNat = Int32.ofInt (ln_ T k i) := by
    rw [← Int32.ofInt_eq_ofNat]
    congr 1
    omega
  unfold ce_ at hw
  rw [ha] at hw
  have ht : t = 1 ∨ t = 2 ∨ t = 3 ∨ t = 4 ∨ t = 5 := by omega
  rcases ht with rfl | rfl | rfl | rfl | rfl
  · exact va_alen X.1 X.2.1 X.2.2.2.2.2.2.2.1 hP q0 0 hw (ty := .int) rfl e9 hd k2
  · exact va_alen X.1 X.2.1 X.2.2.2.2.2.2.2.1 hP q0 1 hw (ty := .boolean) rfl e9 hd k2
  · exact va_alen X.1 X.2.1 X.2.2.2.2.2.2.2.1 hP q0 2 hw (ty := .long) rfl e9 hd k2
  · exact va_alen X.1 X.2.1 X.2.2.2.2.2.2.2.1 hP q0 3 hw (ty := .object RX0) rfl e9 hd k2
  · exact va_alen X.1 X.2.1 X.2.2.2.2.2.2.2.1 hP q0 4 hw (ty := .object RX2) rfl e9 hd k2
theorem ta_4_k : ∀ k, k < 640 → ∀ n lo hi, ta_ k = some (4, n, lo, hi) → k = 521 := by
  have h : ∀ k, k < 640 → ((match ta_ k with | some (4, _) => decide (k = 521) | _ => true) = true) := by decide +kernel
  intro k hk n lo hi e
  have := h k hk
  rw [e] at this
  simpa using this
theorem j_aald4 {k : Nat} {n : Option Int} {lo hi i x : Int} (hp : 0 ≤ pc) (ha : ta_ k = some (4, n, lo, hi)) (hd : decode Y.2.1 pc.toNat = .ok (.aaload, 1)) (h1 : 0 ≤ x) (h2 : x < ln_ T k i) (k0 : T k i x = 0 → J_ Y T0 P bc bs (pc + 1) ls (vN :: st) T) (k1 : ¬ T k i x = 0 → J_ Y T0 P bc bs (pc + 1) ls (vR 100 x :: st) T) : J_ Y T0 P bc bs pc ls (vI x :: vR k i :: st) T := by
  intro l p e s m args below meth c0 D cA ad0 A X ad H locs cells slots lsC hc hs hR hS hB hT hL hl hn
  have hk := ta_ge ha
  have hal : al_ T k i := ok_al (v := none) (by omega) (ok_head (ok_tail hL))
  have hx : -2147483648 ≤ x ∧ x ≤ 2147483647 := ok_head hL
  obtain ⟨ids, q0, hq, hids, hP, hD⟩ := rp_at hR hal
  have hw := wd_get (cA := cA) (ad := ad) (T := T) hq
  unfold ce_ at hw
  rw [ha] at hw
  have hke : k = 521 := by
    by_cases hk6 : k < 640
    · exact ta_4_k k hk6 _ _ _ ha
    · rw [ta_no (by omega)] at ha; cases ha
  refine va_aldq X.1 X.2.1 X.2.2.2.2.2.2.2.1 hP q0 3 hw rfl (i3_in h1 h2 hx.2) hd ?_
  rw [i3_cl h1 hx.2]
  by_cases hz : T k i x = 0
  · rw [if_pos hz]
    have k2 := k0 hz l p e s m args below meth c0 D cA ad0 A X ad H locs cells slots lsC hc hs hR hS hB hT (ok_push (show ok_v T vN from trivial) (ok_tail (ok_tail hL))) hl hn
    rw [show (pc + 1).toNat = pc.toNat + 1 by omega] at k2
    exact k2
  · rw [if_neg hz]
    have hal2 : al_ T 100 x := hT.2.2.2.2.1 i x h1 (by rw [hke] at hz; exact hz)
    have k2 := k1 hz l p e s m args below meth c0 D cA ad0 A X ad H locs cells slots lsC hc hs hR hS hB hT (ok_push (show ok_v T (vR 100 x) from Or.inr hal2) (ok_tail (ok_tail hL))) hl hn
    rw [show (pc + 1).toNat = pc.toNat + 1 by omega] at k2
    exact k2
theorem ta_5_k : ∀ k, k < 640 → ∀ n lo hi, ta_ k = some (5, n, lo, hi) → k = 523 := by
  have h : ∀ k, k < 640 → ((match ta_ k with | some (5, _) => decide (k = 523) | _ => true) = true) := by decide +kernel
  intro k hk n lo hi e
  have := h k hk
  rw [e] at this
  simpa using this
theorem j_aald5 {k : Nat} {n : Option Int} {lo hi i x : Int} (hp : 0 ≤ pc) (ha : ta_ k = some (5, n, lo, hi)) (hd : decode Y.2.1 pc.toNat = .ok (.aaload, 1)) (h1 : 0 ≤ x) (h2 : x < ln_ T k i) (k0 : T k i x = 0 → J_ Y T0 P bc bs (pc + 1) ls (vN :: st) T) (k1 : ¬ T k i x = 0 → J_ Y T0 P bc bs (pc + 1) ls (vR 102 x :: st) T) : J_ Y T0 P bc bs pc ls (vI x :: vR k i :: st) T := by
  intro l p e s m args below meth c0 D cA ad0 A X ad H locs cells slots lsC hc hs hR hS hB hT hL hl hn
  have hk := ta_ge ha
  have hal : al_ T k i := ok_al (v := none) (by omega) (ok_head (ok_tail hL))
  have hx : -2147483648 ≤ x ∧ x ≤ 2147483647 := ok_head hL
  obtain ⟨ids, q0, hq, hids, hP, hD⟩ := rp_at hR hal
  have hw := wd_get (cA := cA) (ad := ad) (T := T) hq
  unfold ce_ at hw
  rw [ha] at hw
  have hke : k = 523 := by
    by_cases hk6 : k < 640
    · exact ta_5_k k hk6 _ _ _ ha
    · rw [ta_no (by omega)] at ha; cases ha
  refine va_aldq X.1 X.2.1 X.2.2.2.2.2.2.2.1 hP q0 4 hw rfl (i3_in h1 h2 hx.2) hd ?_
  rw [i3_cl h1 hx.2]
  by_cases hz : T k i x = 0
  · rw [if_pos hz]
    have k2 := k0 hz l p e s m args below meth c0 D cA ad0 A X ad H locs cells slots lsC hc hs hR hS hB hT (ok_push (show ok_v T vN from trivial) (ok_tail (ok_tail hL))) hl hn
    rw [show (pc + 1).toNat = pc.toNat + 1 by omega] at k2
    exact k2
  · rw [if_neg hz]
    have hal2 : al_ T 102 x := hT.2.2.2.2.2.1 i x h1 (by rw [hke] at hz; exact hz)
    have k2 := k1 hz l p e s m args below meth c0 D cA ad0 A X ad H locs cells slots lsC hc hs hR hS hB hT (ok_push (show ok_v T (vR 102 x) from Or.inr hal2) (ok_tail (ok_tail hL))) hl hn
    rw [show (pc + 1).toNat = pc.toNat + 1 by omega] at k2
    exact k2
end JA
