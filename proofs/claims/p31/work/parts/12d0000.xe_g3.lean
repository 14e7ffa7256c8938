-- what a block does, an instruction by a definition of its own
def x_iconst (n : Int) (C : Zl → List Zv → Zt → Prop) : Zl → List Zv → Zt → Prop := fun ls st T => C ls (vI n :: st) T
theorem xe_iconst {K : Int → Zl → List Zv → Zt → Prop} {P : Zt → Option Zv → Prop} {r : List Instr} {pe : Int} (n : Int) : sx_ K P (.iconst n :: r) pe = x_iconst n (sx_ K P r pe) := by
  funext ls st T
  rfl
def x_sipush (n : Int) (C : Zl → List Zv → Zt → Prop) : Zl → List Zv → Zt → Prop := fun ls st T => C ls (vL n :: st) T
theorem xe_sipush {K : Int → Zl → List Zv → Zt → Prop} {P : Zt → Option Zv → Prop} {r : List Instr} {pe : Int} (n : Int) : sx_ K P (.sipush n :: r) pe = x_sipush n (sx_ K P r pe) := by
  funext ls st T
  rfl
def x_iload (k : Nat) (C : Zl → List Zv → Zt → Prop) : Zl → List Zv → Zt → Prop := fun ls st T => (match ls[k]? with
      | some (some (.inl x)) => C ls (vI x :: st) T
      | _ => False)
theorem xe_iload {K : Int → Zl → List Zv → Zt → Prop} {P : Zt → Option Zv → Prop} {r : List Instr} {pe : Int} (k : Nat) : sx_ K P (.iload k :: r) pe = x_iload k (sx_ K P r pe) := by
  funext ls st T
  rfl
def x_aload (k : Nat) (C : Zl → List Zv → Zt → Prop) : Zl → List Zv → Zt → Prop := fun ls st T => (match ls[k]? with
      | some (some (.inr (.inr q))) => C ls (.inr (.inr q) :: st) T
      | _ => False)
theorem xe_aload {K : Int → Zl → List Zv → Zt → Prop} {P : Zt → Option Zv → Prop} {r : List Instr} {pe : Int} (k : Nat) : sx_ K P (.aload k :: r) pe = x_aload k (sx_ K P r pe) := by
  funext ls st T
  rfl
def x_lload (k : Nat) (C : Zl → List Zv → Zt → Prop) : Zl → List Zv → Zt → Prop := fun ls st T => (match ls[k]? with
      | some (some (.inr (.inl x))) => C ls (vL x :: st) T
      | _ => False)
theorem xe_lload {K : Int → Zl → List Zv → Zt → Prop} {P : Zt → Option Zv → Prop} {r : List Instr} {pe : Int} (k : Nat) : sx_ K P (.lload k :: r) pe = x_lload k (sx_ K P r pe) := by
  funext ls st T
  rfl
def x_istore (k : Nat) (C : Zl → List Zv → Zt → Prop) : Zl → List Zv → Zt → Prop := fun ls st T => (match st with
      | .inl x :: st => st_ (fun ls => C ls st T) ls k (some (vI x))
      | _ => False)
theorem xe_istore {K : Int → Zl → List Zv → Zt → Prop} {P : Zt → Option Zv → Prop} {r : List Instr} {pe : Int} (k : Nat) : sx_ K P (.istore k :: r) pe = x_istore k (sx_ K P r pe) := by
  funext ls st T
  rfl
def x_astore (k : Nat) (C : Zl → List Zv → Zt → Prop) : Zl → List Zv → Zt → Prop := fun ls st T => (match st with
      | .inr (.inr q) :: st => st_ (fun ls => C ls st T) ls k (some (.inr (.inr q)))
      | _ => False)
theorem xe_astore {K : Int → Zl → List Zv → Zt → Prop} {P : Zt → Option Zv → Prop} {r : List Instr} {pe : Int} (k : Nat) : sx_ K P (.astore k :: r) pe = x_astore k (sx_ K P r pe) := by
  funext ls st T
  rfl
def x_lstore (k : Nat) (C : Zl → List Zv → Zt → Prop) : Zl → List Zv → Zt → Prop := fun ls st T => (match st with
      | .inr (.inl x) :: st => st_ (fun ls => st_ (fun ls => st_ (fun ls => C ls st T) ls k (some (vL x))) ls (k + 1) none) ls k none
      | _ => False)
theorem xe_lstore {K : Int → Zl → List Zv → Zt → Prop} {P : Zt → Option Zv → Prop} {r : List Instr} {pe : Int} (k : Nat) : sx_ K P (.lstore k :: r) pe = x_lstore k (sx_ K P r pe) := by
  funext ls st T
  rfl
def x_iinc (k : Nat) (n : Int) (C : Zl → List Zv → Zt → Prop) : Zl → List Zv → Zt → Prop := fun ls st T => (match ls[k]? with
      | some (some (.inl x)) => rg_ (x + n) (st_ (fun ls => C ls st T) ls k (some (vI (x + n))))
      | _ => False)
theorem xe_iinc {K : Int → Zl → List Zv → Zt → Prop} {P : Zt → Option Zv → Prop} {r : List Instr} {pe : Int} (k : Nat) (n : Int) : sx_ K P (.iinc k n :: r) pe = x_iinc k n (sx_ K P r pe) := by
  funext ls st T
  rfl
def x_iadd (C : Zl → List Zv → Zt → Prop) : Zl → List Zv → Zt → Prop := fun ls st T => (match st with
      | .inl y :: .inl x :: st => rg_ (x + y) (C ls (vI (x + y) :: st) T)
      | _ => False)
theorem xe_iadd {K : Int → Zl → List Zv → Zt → Prop} {P : Zt → Option Zv → Prop} {r : List Instr} {pe : Int} : sx_ K P (.iadd :: r) pe = x_iadd (sx_ K P r pe) := by
  funext ls st T
  rfl
def x_isub (C : Zl → List Zv → Zt → Prop) : Zl → List Zv → Zt → Prop := fun ls st T => (match st with
      | .inl y :: .inl x :: st => rg_ (x - y) (C ls (vI (x - y) :: st) T)
      | _ => False)
theorem xe_isub {K : Int → Zl → List Zv → Zt → Prop} {P : Zt → Option Zv → Prop} {r : List Instr} {pe : Int} : sx_ K P (.isub :: r) pe = x_isub (sx_ K P r pe) := by
  funext ls st T
  rfl
def x_imul (C : Zl → List Zv → Zt → Prop) : Zl → List Zv → Zt → Prop := fun ls st T => (match st with
      | .inl y :: .inl x :: st => rg_ (x * y) (C ls (vI (x * y) :: st) T)
      | _ => False)
theorem xe_imul {K : Int → Zl → List Zv → Zt → Prop} {P : Zt → Option Zv → Prop} {r : List Instr} {pe : Int} : sx_ K P (.imul :: r) pe = x_imul (sx_ K P r pe) := by
  funext ls st T
  rfl
def x_fadd (C : Zl → List Zv → Zt → Prop) : Zl → List Zv → Zt → Prop := fun ls st T => (match st with
      | .inl y :: .inl x :: st => rh_ (wr_ (x + y)) (C ls (vI (wr_ (x + y)) :: st) T)
      | _ => False)
theorem xe_fadd {K : Int → Zl → List Zv → Zt → Prop} {P : Zt → Option Zv → Prop} {r : List Instr} {pe : Int} : sx_ K P (.fadd :: r) pe = x_fadd (sx_ K P r pe) := by
  funext ls st T
  rfl
def x_fsub (C : Zl → List Zv → Zt → Prop) : Zl → List Zv → Zt → Prop := fun ls st T => (match st with
      | .inl y :: .inl x :: st => rh_ (wr_ (x - y)) (C ls (vI (wr_ (x - y)) :: st) T)
      | _ => False)
theorem xe_fsub {K : Int → Zl → List Zv → Zt → Prop} {P : Zt → Option Zv → Prop} {r : List Instr} {pe : Int} : sx_ K P (.fsub :: r) pe = x_fsub (sx_ K P r pe) := by
  funext ls st T
  rfl
def x_fmul (C : Zl → List Zv → Zt → Prop) : Zl → List Zv → Zt → Prop := fun ls st T => (match st with
      | .inl y :: .inl x :: st => rh_ (wr_ (x * y)) (C ls (vI (wr_ (x * y)) :: st) T)
      | _ => False)
theorem xe_fmul {K : Int → Zl → List Zv → Zt → Prop} {P : Zt → Option Zv → Prop} {r : List Instr} {pe : Int} : sx_ K P (.fmul :: r) pe = x_fmul (sx_ K P r pe) := by
  funext ls st T
  rfl
def x_ineg (C : Zl → List Zv → Zt → Prop) : Zl → List Zv → Zt → Prop := fun ls st T => (match st with
      | .inl x :: st => rg_ (-x) (C ls (vI (-x) :: st) T)
      | _ => False)
theorem xe_ineg {K : Int → Zl → List Zv → Zt → Prop} {P : Zt → Option Zv → Prop} {r : List Instr} {pe : Int} : sx_ K P (.ineg :: r) pe = x_ineg (sx_ K P r pe) := by
  funext ls st T
  rfl
def x_fneg (C : Zl → List Zv → Zt → Prop) : Zl → List Zv → Zt → Prop := fun ls st T => (match st with
      | .inl x :: st => rh_ (wr_ (-x)) (C ls (vI (wr_ (-x)) :: st) T)
      | _ => False)
theorem xe_fneg {K : Int → Zl → List Zv → Zt → Prop} {P : Zt → Option Zv → Prop} {r : List Instr} {pe : Int} : sx_ K P (.fneg :: r) pe = x_fneg (sx_ K P r pe) := by
  funext ls st T
  rfl
def x_idiv (C : Zl → List Zv → Zt → Prop) : Zl → List Zv → Zt → Prop := fun ls st T => (match st with
      | .inl y :: .inl x :: st => 0 ≤ x ∧ 0 < y ∧ C ls (vI (x / y) :: st) T
      | _ => False)
theorem xe_idiv {K : Int → Zl → List Zv → Zt → Prop} {P : Zt → Option Zv → Prop} {r : List Instr} {pe : Int} : sx_ K P (.idiv :: r) pe = x_idiv (sx_ K P r pe) := by
  funext ls st T
  rfl
def x_fdiv (C : Zl → List Zv → Zt → Prop) : Zl → List Zv → Zt → Prop := fun ls st T => (match st with
      | .inl y :: .inl x :: st => 0 < y ∧ rh_ (dq_ x y) (C ls (vI (dq_ x y) :: st) T)
      | _ => False)
theorem xe_fdiv {K : Int → Zl → List Zv → Zt → Prop} {P : Zt → Option Zv → Prop} {r : List Instr} {pe : Int} : sx_ K P (.fdiv :: r) pe = x_fdiv (sx_ K P r pe) := by
  funext ls st T
  rfl
def x_frem (C : Zl → List Zv → Zt → Prop) : Zl → List Zv → Zt → Prop := fun ls st T => (match st with
      | .inl y :: .inl x :: st => 0 < y ∧ rh_ (dr_ x y) (C ls (vI (dr_ x y) :: st) T)
      | _ => False)
theorem xe_frem {K : Int → Zl → List Zv → Zt → Prop} {P : Zt → Option Zv → Prop} {r : List Instr} {pe : Int} : sx_ K P (.frem :: r) pe = x_frem (sx_ K P r pe) := by
  funext ls st T
  rfl
def x_dadd (C : Zl → List Zv → Zt → Prop) : Zl → List Zv → Zt → Prop := fun ls st T => (match st with
      | .inr (.inl y) :: .inr (.inl x) :: st => rk_ (wq_ (x + y)) (C ls (vL (wq_ (x + y)) :: st) T)
      | _ => False)
theorem xe_dadd {K : Int → Zl → List Zv → Zt → Prop} {P : Zt → Option Zv → Prop} {r : List Instr} {pe : Int} : sx_ K P (.dadd :: r) pe = x_dadd (sx_ K P r pe) := by
  funext ls st T
  rfl
def x_dsub (C : Zl → List Zv → Zt → Prop) : Zl → List Zv → Zt → Prop := fun ls st T => (match st with
      | .inr (.inl y) :: .inr (.inl x) :: st => rk_ (wq_ (x - y)) (C ls (vL (wq_ (x - y)) :: st) T)
      | _ => False)
theorem xe_dsub {K : Int → Zl → List Zv → Zt → Prop} {P : Zt → Option Zv → Prop} {r : List Instr} {pe : Int} : sx_ K P (.dsub :: r) pe = x_dsub (sx_ K P r pe) := by
  funext ls st T
  rfl
def x_dmul (C : Zl → List Zv → Zt → Prop) : Zl → List Zv → Zt → Prop := fun ls st T => (match st with
      | .inr (.inl y) :: .inr (.inl x) :: st => rk_ (wq_ (x * y)) (C ls (vL (wq_ (x * y)) :: st) T)
      | _ => False)
theorem xe_dmul {K : Int → Zl → List Zv → Zt → Prop} {P : Zt → Option Zv → Prop} {r : List Instr} {pe : Int} : sx_ K P (.dmul :: r) pe = x_dmul (sx_ K P r pe) := by
  funext ls st T
  rfl
def x_irem (C : Zl → List Zv → Zt → Prop) : Zl → List Zv → Zt → Prop := fun ls st T => (match st with
      | .inl y :: .inl x :: st => 0 ≤ x ∧ 0 < y ∧ C ls (vI (x % y) :: st) T
      | _ => False)
theorem xe_irem {K : Int → Zl → List Zv → Zt → Prop} {P : Zt → Option Zv → Prop} {r : List Instr} {pe : Int} : sx_ K P (.irem :: r) pe = x_irem (sx_ K P r pe) := by
  funext ls st T
  rfl
def x_iand (C : Zl → List Zv → Zt → Prop) : Zl → List Zv → Zt → Prop := fun ls st T => (match st with
      | .inl y :: .inl x :: st => rh_ (an_ x y) (C ls (vI (an_ x y) :: st) T)
      | _ => False)
theorem xe_iand {K : Int → Zl → List Zv → Zt → Prop} {P : Zt → Option Zv → Prop} {r : List Instr} {pe : Int} : sx_ K P (.iand :: r) pe = x_iand (sx_ K P r pe) := by
  funext ls st T
  rfl
def x_ior (C : Zl → List Zv → Zt → Prop) : Zl → List Zv → Zt → Prop := fun ls st T => (match st with
      | .inl y :: .inl x :: st => rh_ (or_ x y) (C ls (vI (or_ x y) :: st) T)
      | _ => False)
theorem xe_ior {K : Int → Zl → List Zv → Zt → Prop} {P : Zt → Option Zv → Prop} {r : List Instr} {pe : Int} : sx_ K P (.ior :: r) pe = x_ior (sx_ K P r pe) := by
  funext ls st T
  rfl
def x_ixor (C : Zl → List Zv → Zt → Prop) : Zl → List Zv → Zt → Prop := fun ls st T => (match st with
      | .inl y :: .inl x :: st => rh_ (xo_ x y) (C ls (vI (xo_ x y) :: st) T)
      | _ => False)
theorem xe_ixor {K : Int → Zl → List Zv → Zt → Prop} {P : Zt → Option Zv → Prop} {r : List Instr} {pe : Int} : sx_ K P (.ixor :: r) pe = x_ixor (sx_ K P r pe) := by
  funext ls st T
  rfl
def x_ishl (C : Zl → List Zv → Zt → Prop) : Zl → List Zv → Zt → Prop := fun ls st T => (match st with
      | .inl y :: .inl x :: st => rh_ (sl_ x y) (C ls (vI (sl_ x y) :: st) T)
      | _ => False)
theorem xe_ishl {K : Int → Zl → List Zv → Zt → Prop} {P : Zt → Option Zv → Prop} {r : List Instr} {pe : Int} : sx_ K P (.ishl :: r) pe = x_ishl (sx_ K P r pe) := by
  funext ls st T
  rfl
def x_ishr (C : Zl → List Zv → Zt → Prop) : Zl → List Zv → Zt → Prop := fun ls st T => (match st with
      | .inl y :: .inl x :: st => rh_ (sr_ x y) (C ls (vI (sr_ x y) :: st) T)
      | _ => False)
theorem xe_ishr {K : Int → Zl → List Zv → Zt → Prop} {P : Zt → Option Zv → Prop} {r : List Instr} {pe : Int} : sx_ K P (.ishr :: r) pe = x_ishr (sx_ K P r pe) := by
  funext ls st T
  rfl
def x_iushr (C : Zl → List Zv → Zt → Prop) : Zl → List Zv → Zt → Prop := fun ls st T => (match st with
      | .inl y :: .inl x :: st => rh_ (us_ x y) (C ls (vI (us_ x y) :: st) T)
      | _ => False)
theorem xe_iushr {K : Int → Zl → List Zv → Zt → Prop} {P : Zt → Option Zv → Prop} {r : List Instr} {pe : Int} : sx_ K P (.iushr :: r) pe = x_iushr (sx_ K P r pe) := by
  funext ls st T
  rfl
def x_i2l (C : Zl → List Zv → Zt → Prop) : Zl → List Zv → Zt → Prop := fun ls st T => (match st with
      | .inl x :: st => C ls (vL x :: st) T
      | _ => False)
theorem xe_i2l {K : Int → Zl → List Zv → Zt → Prop} {P : Zt → Option Zv → Prop} {r : List Instr} {pe : Int} : sx_ K P (.i2l :: r) pe = x_i2l (sx_ K P r pe) := by
  funext ls st T
  rfl
def x_l2i (C : Zl → List Zv → Zt → Prop) : Zl → List Zv → Zt → Prop := fun ls st T => (match st with
      | .inr (.inl x) :: st => rg_ x (C ls (vI x :: st) T)
      | _ => False)
theorem xe_l2i {K : Int → Zl → List Zv → Zt → Prop} {P : Zt → Option Zv → Prop} {r : List Instr} {pe : Int} : sx_ K P (.l2i :: r) pe = x_l2i (sx_ K P r pe) := by
  funext ls st T
  rfl
def x_ladd (C : Zl → List Zv → Zt → Prop) : Zl → List Zv → Zt → Prop := fun ls st T => (match st with
      | .inr (.inl y) :: .inr (.inl x) :: st => rl_ (x + y) (C ls (vL (x + y) :: st) T)
      | _ => False)
theorem xe_ladd {K : Int → Zl → List Zv → Zt → Prop} {P : Zt → Option Zv → Prop} {r : List Instr} {pe : Int} : sx_ K P (.ladd :: r) pe = x_ladd (sx_ K P r pe) := by
  funext ls st T
  rfl
def x_lsub (C : Zl → List Zv → Zt → Prop) : Zl → List Zv → Zt → Prop := fun ls st T => (match st with
      | .inr (.inl y) :: .inr (.inl x) :: st => rl_ (x - y) (C ls (vL (x - y) :: st) T)
      | _ => False)
theorem xe_lsub {K : Int → Zl → List Zv → Zt → Prop} {P : Zt → Option Zv → Prop} {r : List Instr} {pe : Int} : sx_ K P (.lsub :: r) pe = x_lsub (sx_ K P r pe) := by
  funext ls st T
  rfl
def x_lmul (C : Zl → List Zv → Zt → Prop) : Zl → List Zv → Zt → Prop := fun ls st T => (match st with
      | .inr (.inl y) :: .inr (.inl x) :: st => rl_ (x * y) (C ls (vL (x * y) :: st) T)
      | _ => False)
theorem xe_lmul {K : Int → Zl → List Zv → Zt → Prop} {P : Zt → Option Zv → Prop} {r : List Instr} {pe : Int} : sx_ K P (.lmul :: r) pe = x_lmul (sx_ K P r pe) := by
  funext ls st T
  rfl
def x_lrem (C : Zl → List Zv → Zt → Prop) : Zl → List Zv → Zt → Prop := fun ls st T => (match st with
      | .inr (.inl y) :: .inr (.inl x) :: st => 0 ≤ x ∧ 0 < y ∧ C ls (vL (x % y) :: st) T
      | _ => False)
theorem xe_lrem {K : Int → Zl → List Zv → Zt → Prop} {P : Zt → Option Zv → Prop} {r : List Instr} {pe : Int} : sx_ K P (.lrem :: r) pe = x_lrem (sx_ K P r pe) := by
  funext ls st T
  rfl
def x_lcmp (C : Zl → List Zv → Zt → Prop) : Zl → List Zv → Zt → Prop := fun ls st T => (match st with
      | .inr (.inl y) :: .inr (.inl x) :: st => (x < y → C ls (vI (-1) :: st) T) ∧ (x = y → C ls (vI 0 :: st) T) ∧ (y < x → C ls (vI 1 :: st) T)
      | _ => False)
theorem xe_lcmp {K : Int → Zl → List Zv → Zt → Prop} {P : Zt → Option Zv → Prop} {r : List Instr} {pe : Int} : sx_ K P (.lcmp :: r) pe = x_lcmp (sx_ K P r pe) := by
  funext ls st T
  rfl
def x_dup (C : Zl → List Zv → Zt → Prop) : Zl → List Zv → Zt → Prop := fun ls st T => (match st with
      | .inl x :: st => C ls (vI x :: vI x :: st) T
      | .inr (.inr q) :: st => C ls (.inr (.inr q) :: .inr (.inr q) :: st) T
      | _ => False)
theorem xe_dup {K : Int → Zl → List Zv → Zt → Prop} {P : Zt → Option Zv → Prop} {r : List Instr} {pe : Int} : sx_ K P (.dup :: r) pe = x_dup (sx_ K P r pe) := by
  funext ls st T
  rfl
def x_dup2 (C : Zl → List Zv → Zt → Prop) : Zl → List Zv → Zt → Prop := fun ls st T => (match st with
      | .inl y :: .inr (.inr q) :: st => C ls (vI y :: .inr (.inr q) :: vI y :: .inr (.inr q) :: st) T
      | _ => False)
theorem xe_dup2 {K : Int → Zl → List Zv → Zt → Prop} {P : Zt → Option Zv → Prop} {r : List Instr} {pe : Int} : sx_ K P (.dup2 :: r) pe = x_dup2 (sx_ K P r pe) := by
  funext ls st T
  rfl
def x_pop (C : Zl → List Zv → Zt → Prop) : Zl → List Zv → Zt → Prop := fun ls st T => (match st with
      | .inl _ :: st => C ls st T
      | .inr (.inr _) :: st => C ls st T
      | _ => False)
theorem xe_pop {K : Int → Zl → List Zv → Zt → Prop} {P : Zt → Option Zv → Prop} {r : List Instr} {pe : Int} : sx_ K P (.pop :: r) pe = x_pop (sx_ K P r pe) := by
  funext ls st T
  rfl
def x_goto (t : Int) (K : Int → Zl → List Zv → Zt → Prop) : Zl → List Zv → Zt → Prop := fun ls st T => K t ls st T
theorem xe_goto {K : Int → Zl → List Zv → Zt → Prop} {P : Zt → Option Zv → Prop} {r : List Instr} {pe : Int} (t : Int) : sx_ K P (.goto t :: r) pe = x_goto t K := by
  funext ls st T
  rfl
def x_if_icmp (c : ClassFile.Cond) (t : Int) (K : Int → Zl → List Zv → Zt → Prop) (C : Zl → List Zv → Zt → Prop) : Zl → List Zv → Zt → Prop := fun ls st T => (match st with
      | .inl y :: .inl x :: st => br_ c x y (K t ls st T) (C ls st T)
      | _ => False)
theorem xe_if_icmp {K : Int → Zl → List Zv → Zt → Prop} {P : Zt → Option Zv → Prop} {r : List Instr} {pe : Int} (c : ClassFile.Cond) (t : Int) : sx_ K P (.if_icmp c t :: r) pe = x_if_icmp c t K (sx_ K P r pe) := by
  funext ls st T
  rfl
def x_ifCond (c : ClassFile.Cond) (t : Int) (K : Int → Zl → List Zv → Zt → Prop) (C : Zl → List Zv → Zt → Prop) : Zl → List Zv → Zt → Prop := fun ls st T => (match st with
      | .inl x :: st => br_ c x 0 (K t ls st T) (C ls st T)
      | _ => False)
theorem xe_ifCond {K : Int → Zl → List Zv → Zt → Prop} {P : Zt → Option Zv → Prop} {r : List Instr} {pe : Int} (c : ClassFile.Cond) (t : Int) : sx_ K P (.ifCond c t :: r) pe = x_ifCond c t K (sx_ K P r pe) := by
  funext ls st T
  rfl
def x_ifnull (t : Int) (K : Int → Zl → List Zv → Zt → Prop) (C : Zl → List Zv → Zt → Prop) : Zl → List Zv → Zt → Prop := fun ls st T => (match st with
      | .inr (.inr none) :: st => K t ls st T
      | .inr (.inr (some _)) :: st => C ls st T
      | _ => False)
theorem xe_ifnull {K : Int → Zl → List Zv → Zt → Prop} {P : Zt → Option Zv → Prop} {r : List Instr} {pe : Int} (t : Int) : sx_ K P (.ifnull t :: r) pe = x_ifnull t K (sx_ K P r pe) := by
  funext ls st T
  rfl
def x_ifnonnull (t : Int) (K : Int → Zl → List Zv → Zt → Prop) (C : Zl → List Zv → Zt → Prop) : Zl → List Zv → Zt → Prop := fun ls st T => (match st with
      | .inr (.inr none) :: st => C ls st T
      | .inr (.inr (some _)) :: st => K t ls st T
      | _ => False)
theorem xe_ifnonnull {K : Int → Zl → List Zv → Zt → Prop} {P : Zt → Option Zv → Prop} {r : List Instr} {pe : Int} (t : Int) : sx_ K P (.ifnonnull t :: r) pe = x_ifnonnull t K (sx_ K P r pe) := by
  funext ls st T
  rfl
def x_iaload (C : Zl → List Zv → Zt → Prop) : Zl → List Zv → Zt → Prop := fun ls st T => (match st with
      | .inl x :: .inr (.inr (some (k, i))) :: st => (match ta_ k with
        | some (1, some n, lo, hi) => 0 ≤ x ∧ x < n ∧ (lo ≤ T k i x → T k i x ≤ hi → C ls (vI (T k i x) :: st) T)
        | some (1, none, lo, hi) => 0 ≤ x ∧ x < T k i (-2) ∧ (lo ≤ T k i x → T k i x ≤ hi → C ls (vI (T k i x) :: st) T)
        | _ => False)
      | _ => False)
theorem xe_iaload {K : Int → Zl → List Zv → Zt → Prop} {P : Zt → Option Zv → Prop} {r : List Instr} {pe : Int} : sx_ K P (.iaload :: r) pe = x_iaload (sx_ K P r pe) := by
  funext ls st T
  rfl
def x_baload (C : Zl → List Zv → Zt → Prop) : Zl → List Zv → Zt → Prop := fun ls st T => (match st with
      | .inl x :: .inr (.inr (some (k, i))) :: st => (match ta_ k with
        | some (2, some n, lo, hi) => 0 ≤ x ∧ x < n ∧ (lo ≤ T k i x → T k i x ≤ hi → C ls (vI (T k i x) :: st) T)
        | _ => False)
      | _ => False)
theorem xe_baload {K : Int → Zl → List Zv → Zt → Prop} {P : Zt → Option Zv → Prop} {r : List Instr} {pe : Int} : sx_ K P (.baload :: r) pe = x_baload (sx_ K P r pe) := by
  funext ls st T
  rfl
def x_laload (C : Zl → List Zv → Zt → Prop) : Zl → List Zv → Zt → Prop := fun ls st T => (match st with
      | .inl x :: .inr (.inr (some (k, i))) :: st => (match ta_ k with
        | some (3, some n, lo, hi) => 0 ≤ x ∧ x < n ∧ (lo ≤ T k i x → T k i x ≤ hi → C ls (vL (T k i x) :: st) T)
        | _ => False)
      | _ => False)
theorem xe_laload {K : Int → Zl → List Zv → Zt → Prop} {P : Zt → Option Zv → Prop} {r : List Instr} {pe : Int} : sx_ K P (.laload :: r) pe = x_laload (sx_ K P r pe) := by
  funext ls st T
  rfl
def x_aaload (C : Zl → List Zv → Zt → Prop) : Zl → List Zv → Zt → Prop := fun ls st T => (match st with
      | .inl x :: .inr (.inr (some (k, i))) :: st => (match ta_ k with
        | some (4, some n, _) => 0 ≤ x ∧ x < n ∧ (T k i x = 0 → C ls (vN :: st) T) ∧ (¬ T k i x = 0 → C ls (vR 100 x :: st) T)
        | some (5, some n, _) => 0 ≤ x ∧ x < n ∧ (T k i x = 0 → C ls (vN :: st) T) ∧ (¬ T k i x = 0 → C ls (vR 102 x :: st) T)
        | _ => False)
      | _ => False)
theorem xe_aaload {K : Int → Zl → List Zv → Zt → Prop} {P : Zt → Option Zv → Prop} {r : List Instr} {pe : Int} : sx_ K P (.aaload :: r) pe = x_aaload (sx_ K P r pe) := by
  funext ls st T
  rfl
def x_iastore (C : Zl → List Zv → Zt → Prop) : Zl → List Zv → Zt → Prop := fun ls st T => (match st with
      | .inl v :: .inl x :: .inr (.inr (some (k, i))) :: st => (match ta_ k with
        | some (1, some n, lo, hi) => 0 ≤ x ∧ x < n ∧ lo ≤ v ∧ v ≤ hi ∧ C ls st (up_ T k i x v)
        | some (1, none, lo, hi) => 0 ≤ x ∧ x < T k i (-2) ∧ lo ≤ v ∧ v ≤ hi ∧ C ls st (up_ T k i x v)
        | _ => False)
      | _ => False)
theorem xe_iastore {K : Int → Zl → List Zv → Zt → Prop} {P : Zt → Option Zv → Prop} {r : List Instr} {pe : Int} : sx_ K P (.iastore :: r) pe = x_iastore (sx_ K P r pe) := by
  funext ls st T
  rfl
def x_bastore (C : Zl → List Zv → Zt → Prop) : Zl → List Zv → Zt → Prop := fun ls st T => (match st with
      | .inl v :: .inl x :: .inr (.inr (some (k, i))) :: st => (match ta_ k with
        | some (2, some n, lo, hi) => 0 ≤ x ∧ x < n ∧ lo ≤ v ∧ v ≤ hi ∧ C ls st (up_ T k i x v)
        | _ => False)
      | _ => False)
theorem xe_bastore {K : Int → Zl → List Zv → Zt → Prop} {P : Zt → Option Zv → Prop} {r : List Instr} {pe : Int} : sx_ K P (.bastore :: r) pe = x_bastore (sx_ K P r pe) := by
  funext ls st T
  rfl
def x_lastore (C : Zl → List Zv → Zt → Prop) : Zl → List Zv → Zt → Prop := fun ls st T => (match st with
      | .inr (.inl v) :: .inl x :: .inr (.inr (some (k, i))) :: st => (match ta_ k with
        | some (3, some n, lo, hi) => 0 ≤ x ∧ x < n ∧ lo ≤ v ∧ v ≤ hi ∧ C ls st (up_ T k i x v)
        | _ => False)
      | _ => False)
theorem xe_lastore {K : Int → Zl → List Zv → Zt → Prop} {P : Zt → Option Zv → Prop} {r : List Instr} {pe : Int} : sx_ K P (.lastore :: r) pe = x_lastore (sx_ K P r pe) := by
  funext ls st T
  rfl
def x_arraylength (C : Zl → List Zv → Zt → Prop) : Zl → List Zv → Zt → Prop := fun ls st T => (match st with
      | .inr (.inr (some (k, i))) :: st => (match ta_ k with
        | some (_, some n, _) => C ls (vI n :: st) T
        | some (_, none, _) => 0 ≤ T k i (-2) → T k i (-2) ≤ 2147483647 → C ls (vI (T k i (-2)) :: st) T
        | _ => False)
      | _ => False)
theorem xe_arraylength {K : Int → Zl → List Zv → Zt → Prop} {P : Zt → Option Zv → Prop} {r : List Instr} {pe : Int} : sx_ K P (.arraylength :: r) pe = x_arraylength (sx_ K P r pe) := by
  funext ls st T
  rfl
def x_ireturn (P : Zt → Option Zv → Prop) : Zl → List Zv → Zt → Prop := fun ls st T => (match st with
      | [.inl x] => P T (some (vI x))
      | _ => False)
theorem xe_ireturn {K : Int → Zl → List Zv → Zt → Prop} {P : Zt → Option Zv → Prop} {r : List Instr} {pe : Int} : sx_ K P (.ireturn :: r) pe = x_ireturn P := by
  funext ls st T
  rfl
def x_lreturn (P : Zt → Option Zv → Prop) : Zl → List Zv → Zt → Prop := fun ls st T => (match st with
      | [.inr (.inl x)] => P T (some (vL x))
      | _ => False)
theorem xe_lreturn {K : Int → Zl → List Zv → Zt → Prop} {P : Zt → Option Zv → Prop} {r : List Instr} {pe : Int} : sx_ K P (.lreturn :: r) pe = x_lreturn P := by
  funext ls st T
  rfl
def x_return_ (P : Zt → Option Zv → Prop) : Zl → List Zv → Zt → Prop := fun ls st T => (match st with
      | [] => P T none
      | _ => False)
theorem xe_return_ {K : Int → Zl → List Zv → Zt → Prop} {P : Zt → Option Zv → Prop} {r : List Instr} {pe : Int} : sx_ K P (.return_ :: r) pe = x_return_ P := by
  funext ls st T
  rfl
theorem xe_nil {K : Int → Zl → List Zv → Zt → Prop} {P : Zt → Option Zv → Prop} {pe : Int} : sx_ K P [] pe = K pe := by
  funext ls st T
  rfl
def x_g0 (kk : Nat) (j lo hi : Int) (C : Zl → List Zv → Zt → Prop) : Zl → List Zv → Zt → Prop := fun ls st T => match st with
  | .inr (.inr (some (k, i))) :: st => (match Nat.beq k kk with
    | true => (lo ≤ T k i j → T k i j ≤ hi → C ls (vI (T k i j) :: st) T)
    | false => False)
  | _ => False
theorem xe_g0 {K : Int → Zl → List Zv → Zt → Prop} {P : Zt → Option Zv → Prop} {r : List Instr} {pe ci j : Int} {q : Array Int} {kk : Nat} {a : Nat} {lo hi : Int} (hk : kk = 100 + ci.toNat) (h : (tf_ kk)[j.toNat]? = some (0, a, lo, hi)) : sx_ K P (.tableswitch 0 ci j q :: r) pe = x_g0 kk j lo hi (sx_ K P r pe) := by
  funext ls st T
  match st with
  | [] => rfl
  | .inl _ :: _ => rfl
  | .inr (.inl _) :: _ => rfl
  | .inr (.inr none) :: _ => rfl
  | .inr (.inr (some (k, i))) :: st =>
    show (if k = 100 + ci.toNat then (match (tf_ k)[j.toNat]? with
            | some (0, _, lo, hi) => lo ≤ T k i j → T k i j ≤ hi → sx_ K P r pe ls (vI (T k i j) :: st) T
            | some (1, k', _) => sx_ K P r pe ls (vR k' 0 :: st) T
            | some (2, k', _) => sx_ K P r pe ls (vR k' i :: st) T
            | some (3, k', _) => sx_ K P r pe ls (vR k' (T k i j) :: st) T
            | some (4, k', _) => (T k i j = 0 → sx_ K P r pe ls (vN :: st) T) ∧ (¬ T k i j = 0 → sx_ K P r pe ls (vR k' i :: st) T)
            | some (5, k', _) => (T k i j = 0 → sx_ K P r pe ls (vN :: st) T) ∧ (¬ T k i j = 0 → sx_ K P r pe ls (vR k' (T k i j - 1) :: st) T)
            | _ => False) else False) = (match Nat.beq k kk with
      | true => (lo ≤ T k i j → T k i j ≤ hi → sx_ K P r pe ls (vI (T k i j) :: st) T)
      | false => False)
    by_cases z : k = kk
    · rw [if_pos (z.trans hk), show Nat.beq k kk = true by rw [z]; exact Nat.beq_refl kk, z, h] <;> rfl
    · rw [if_neg (fun w => z (w.trans hk.symm)), show Nat.beq k kk = false from Bool.eq_false_iff.mpr (fun w => z (Nat.eq_of_beq_eq_true w))] <;> rfl
def x_g1 (kk k' : Nat) (C : Zl → List Zv → Zt → Prop) : Zl → List Zv → Zt → Prop := fun ls st T => match st with
  | .inr (.inr (some (k, i))) :: st => (match Nat.beq k kk with
    | true => C ls (vR k' 0 :: st) T
    | false => False)
  | _ => False
theorem xe_g1 {K : Int → Zl → List Zv → Zt → Prop} {P : Zt → Option Zv → Prop} {r : List Instr} {pe ci j : Int} {q : Array Int} {kk : Nat} {k' : Nat} {a : Int × Int} (hk : kk = 100 + ci.toNat) (h : (tf_ kk)[j.toNat]? = some (1, k', a)) : sx_ K P (.tableswitch 0 ci j q :: r) pe = x_g1 kk k' (sx_ K P r pe) := by
  funext ls st T
  match st with
  | [] => rfl
  | .inl _ :: _ => rfl
  | .inr (.inl _) :: _ => rfl
  | .inr (.inr none) :: _ => rfl
  | .inr (.inr (some (k, i))) :: st =>
    show (if k = 100 + ci.toNat then (match (tf_ k)[j.toNat]? with
            | some (0, _, lo, hi) => lo ≤ T k i j → T k i j ≤ hi → sx_ K P r pe ls (vI (T k i j) :: st) T
            | some (1, k', _) => sx_ K P r pe ls (vR k' 0 :: st) T
            | some (2, k', _) => sx_ K P r pe ls (vR k' i :: st) T
            | some (3, k', _) => sx_ K P r pe ls (vR k' (T k i j) :: st) T
            | some (4, k', _) => (T k i j = 0 → sx_ K P r pe ls (vN :: st) T) ∧ (¬ T k i j = 0 → sx_ K P r pe ls (vR k' i :: st) T)
            | some (5, k', _) => (T k i j = 0 → sx_ K P r pe ls (vN :: st) T) ∧ (¬ T k i j = 0 → sx_ K P r pe ls (vR k' (T k i j - 1) :: st) T)
            | _ => False) else False) = (match Nat.beq k kk with
      | true => sx_ K P r pe ls (vR k' 0 :: st) T
      | false => False)
    by_cases z : k = kk
    · rw [if_pos (z.trans hk), show Nat.beq k kk = true by rw [z]; exact Nat.beq_refl kk, z, h] <;> rfl
    · rw [if_neg (fun w => z (w.trans hk.symm)), show Nat.beq k kk = false from Bool.eq_false_iff.mpr (fun w => z (Nat.eq_of_beq_eq_true w))] <;> rfl
def x_g2 (kk k' : Nat) (C : Zl → List Zv → Zt → Prop) : Zl → List Zv → Zt → Prop := fun ls st T => match st with
  | .inr (.inr (some (k, i))) :: st => (match Nat.beq k kk with
    | true => C ls (vR k' i :: st) T
    | false => False)
  | _ => False
theorem xe_g2 {K : Int → Zl → List Zv → Zt → Prop} {P : Zt → Option Zv → Prop} {r : List Instr} {pe ci j : Int} {q : Array Int} {kk : Nat} {k' : Nat} {a : Int × Int} (hk : kk = 100 + ci.toNat) (h : (tf_ kk)[j.toNat]? = some (2, k', a)) : sx_ K P (.tableswitch 0 ci j q :: r) pe = x_g2 kk k' (sx_ K P r pe) := by
  funext ls st T
  match st with
  | [] => rfl
  | .inl _ :: _ => rfl
  | .inr (.inl _) :: _ => rfl
  | .inr (.inr none) :: _ => rfl
  | .inr (.inr (some (k, i))) :: st =>
    show (if k = 100 + ci.toNat then (match (tf_ k)[j.toNat]? with
            | some (0, _, lo, hi) => lo ≤ T k i j → T k i j ≤ hi → sx_ K P r pe ls (vI (T k i j) :: st) T
            | some (1, k', _) => sx_ K P r pe ls (vR k' 0 :: st) T
            | some (2, k', _) => sx_ K P r pe ls (vR k' i :: st) T
            | some (3, k', _) => sx_ K P r pe ls (vR k' (T k i j) :: st) T
            | some (4, k', _) => (T k i j = 0 → sx_ K P r pe ls (vN :: st) T) ∧ (¬ T k i j = 0 → sx_ K P r pe ls (vR k' i :: st) T)
            | some (5, k', _) => (T k i j = 0 → sx_ K P r pe ls (vN :: st) T) ∧ (¬ T k i j = 0 → sx_ K P r pe ls (vR k' (T k i j - 1) :: st) T)
            | _ => False) else False) = (match Nat.beq k kk with
      | true => sx_ K P r pe ls (vR k' i :: st) T
      | false => False)
    by_cases z : k = kk
    · rw [if_pos (z.trans hk), show Nat.beq k kk = true by rw [z]; exact Nat.beq_refl kk, z, h] <;> rfl
    · rw [if_neg (fun w => z (w.trans hk.symm)), show Nat.beq k kk = false from Bool.eq_false_iff.mpr (fun w => z (Nat.eq_of_beq_eq_true w))] <;> rfl
def x_g3 (kk k' : Nat) (j : Int) (C : Zl → List Zv → Zt → Prop) : Zl → List Zv → Zt → Prop := fun ls st T => match st with
  | .inr (.inr (some (k, i))) :: st => (match Nat.beq k kk with
    | true => C ls (vR k' (T k i j) :: st) T
    | false => False)
  | _ => False
theorem xe_g3 {K : Int → Zl → List Zv → Zt → Prop} {P : Zt → Option Zv → Prop} {r : List Instr} {pe ci j : Int} {q : Array Int} {kk : Nat} {k' : Nat} {a : Int × Int} (hk : kk = 100 + ci.toNat) (h : (tf_ kk)[j.toNat]? = some (3, k', a)) : sx_ K P (.tableswitch 0 ci j q :: r) pe = x_g3 kk k' j (sx_ K P r pe) := by
  funext ls st T
  match st with
  | [] => rfl
  | .inl _ :: _ => rfl
  | .inr (.inl _) :: _ => rfl
  | .inr (.inr none) :: _ => rfl
  | .inr (.inr (some (k, i))) :: st =>
    show (if k = 100 + ci.toNat then (match (tf_ k)[j.toNat]? with
            | some (0, _, lo, hi) => lo ≤ T k i j → T k i j ≤ hi → sx_ K P r pe ls (vI (T k i j) :: st) T
            | some (1, k', _) => sx_ K P r pe ls (vR k' 0 :: st) T
            | some (2, k', _) => sx_ K P r pe ls (vR k' i :: st) T
            | some (3, k', _) => sx_ K P r pe ls (vR k' (T k i j) :: st) T
            | some (4, k', _) => (T k i j = 0 → sx_ K P r pe ls (vN :: st) T) ∧ (¬ T k i j = 0 → sx_ K P r pe ls (vR k' i :: st) T)
            | some (5, k', _) => (T k i j = 0 → sx_ K P r pe ls (vN :: st) T) ∧ (¬ T k i j = 0 → sx_ K P r pe ls (vR k' (T k i j - 1) :: st) T)
            | _ => False) else False) = (match Nat.beq k kk with
      | true => sx_ K P r pe ls (vR k' (T k i j) :: st) T
      | false => False)
    by_cases z : k = kk
    · rw [if_pos (z.trans hk), show Nat.beq k kk = true by rw [z]; exact Nat.beq_refl kk, z, h] <;> rfl
    · rw [if_neg (fun w => z (w.trans hk.symm)), show Nat.beq k kk = false from Bool.eq_false_iff.mpr (fun w => z (Nat.eq_of_beq_eq_true w))] <;> rfl
