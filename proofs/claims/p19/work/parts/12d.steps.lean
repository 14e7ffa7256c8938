-- what a block does, an instruction by a definition of its own
def x_iconst (n : Int) (C : Zl → List Zv → Zt → Prop) : Zl → List Zv → Zt → Prop := fun ls st T => C ls (vI n :: st) T
theorem xe_iconst {K : Int → Zl → List Zv → Zt → Prop} {P : Zt → Option Zv → Prop} {r : List Instr} {pe : Int} (n : Int) : sx_ K P (.iconst n :: r) pe = x_iconst n (sx_ K P r pe) := by
  funext ls st T
  rfl
def x_sipush (n : Int) (C : Zl → List Zv → Zt → Prop) : Zl → List Zv → Zt → Prop := fun ls st T => C ls (vL n :: st) T
theorem xe_sipush {K : Int → Zl → List Zv → Zt → Prop} {P : Zt → Option Zv → Prop} {r : List Instr} {pe : Int} (n : Int) : sx_ K P (.sipush n :: r) pe = x_sipush n (sx_ K P r pe) := by
  funext ls st T
  rfl
def x_iload (k : Nat) (C : Zl → List Zv → Zt → Prop) : Zl → List Zv → Zt → Prop := fun ls st T => (match ls[k]? with
      | some (some (.inl x)) => C ls (vI x :: st) T
      | _ => False)
theorem xe_iload {K : Int → Zl → List Zv → Zt → Prop} {P : Zt → Option Zv → Prop} {r : List Instr} {pe : Int} (k : Nat) : sx_ K P (.iload k :: r) pe = x_iload k (sx_ K P r pe) := by
  funext ls st T
  rfl
def x_aload (k : Nat) (C : Zl → List Zv → Zt → Prop) : Zl → List Zv → Zt → Prop := fun ls st T => (match ls[k]? with
      | some (some (.inr (.inr q))) => C ls (.inr (.inr q) :: st) T
      | _ => False)
theorem xe_aload {K : Int → Zl → List Zv → Zt → Prop} {P : Zt → Option Zv → Prop} {r : List Instr} {pe : Int} (k : Nat) : sx_ K P (.aload k :: r) pe = x_aload k (sx_ K P r pe) := by
  funext ls st T
  rfl
def x_lload (k : Nat) (C : Zl → List Zv → Zt → Prop) : Zl → List Zv → Zt → Prop := fun ls st T => (match ls[k]? with
      | some (some (.inr (.inl x))) => C ls (vL x :: st) T
      | _ => False)
theorem xe_lload {K : Int → Zl → List Zv → Zt → Prop} {P : Zt → Option Zv → Prop} {r : List Instr} {pe : Int} (k : Nat) : sx_ K P (.lload k :: r) pe = x_lload k (sx_ K P r pe) := by
  funext ls st T
  rfl
def x_istore (k : Nat) (C : Zl → List Zv → Zt → Prop) : Zl → List Zv → Zt → Prop := fun ls st T => (match st with
      | .inl x :: st => st_ (fun ls => C ls st T) ls k (some (vI x))
      | _ => False)
theorem xe_istore {K : Int → Zl → List Zv → Zt → Prop} {P : Zt → Option Zv → Prop} {r : List Instr} {pe : Int} (k : Nat) : sx_ K P (.istore k :: r) pe = x_istore k (sx_ K P r pe) := by
  funext ls st T
  rfl
def x_astore (k : Nat) (C : Zl → List Zv → Zt → Prop) : Zl → List Zv → Zt → Prop := fun ls st T => (match st with
      | .inr (.inr q) :: st => st_ (fun ls => C ls st T) ls k (some (.inr (.inr q)))
      | _ => False)
theorem xe_astore {K : Int → Zl → List Zv → Zt → Prop} {P : Zt → Option Zv → Prop} {r : List Instr} {pe : Int} (k : Nat) : sx_ K P (.astore k :: r) pe = x_astore k (sx_ K P r pe) := by
  funext ls st T
  rfl
def x_lstore (k : Nat) (C : Zl → List Zv → Zt → Prop) : Zl → List Zv → Zt → Prop := fun ls st T => (match st with
      | .inr (.inl x) :: st => st_ (fun ls => st_ (fun ls => st_ (fun ls => C ls st T) ls k (some (vL x))) ls (k + 1) none) ls k none
      | _ => False)
theorem xe_lstore {K : Int → Zl → List Zv → Zt → Prop} {P : Zt → Option Zv → Prop} {r : List Instr} {pe : Int} (k : Nat) : sx_ K P (.lstore k :: r) pe = x_lstore k (sx_ K P r pe) := by
  funext ls st T
  rfl
def x_iinc (k : Nat) (n : Int) (C : Zl → List Zv → Zt → Prop) : Zl → List Zv → Zt → Prop := fun ls st T => (match ls[k]? with
      | some (some (.inl x)) => rg_ (x + n) (st_ (fun ls => C ls st T) ls k (some (vI (x + n))))
      | _ => False)
theorem xe_iinc {K : Int → Zl → List Zv → Zt → Prop} {P : Zt → Option Zv → Prop} {r : List Instr} {pe : Int} (k : Nat) (n : Int) : sx_ K P (.iinc k n :: r) pe = x_iinc k n (sx_ K P r pe) := by
  funext ls st T
  rfl
def x_iadd (C : Zl → List Zv → Zt → Prop) : Zl → List Zv → Zt → Prop := fun ls st T => (match st with
      | .inl y :: .inl x :: st => rg_ (x + y) (C ls (vI (x + y) :: st) T)
      | _ => False)
theorem xe_iadd {K : Int → Zl → List Zv → Zt → Prop} {P : Zt → Option Zv → Prop} {r : List Instr} {pe : Int} : sx_ K P (.iadd :: r) pe = x_iadd (sx_ K P r pe) := by
  funext ls st T
  rfl
def x_isub (C : Zl → List Zv → Zt → Prop) : Zl → List Zv → Zt → Prop := fun ls st T => (match st with
      | .inl y :: .inl x :: st => rg_ (x - y) (C ls (vI (x - y) :: st) T)
      | _ => False)
theorem xe_isub {K : Int → Zl → List Zv → Zt → Prop} {P : Zt → Option Zv → Prop} {r : List Instr} {pe : Int} : sx_ K P (.isub :: r) pe = x_isub (sx_ K P r pe) := by
  funext ls st T
  rfl
def x_imul (C : Zl → List Zv → Zt → Prop) : Zl → List Zv → Zt → Prop := fun ls st T => (match st with
      | .inl y :: .inl x :: st => rg_ (x * y) (C ls (vI (x * y) :: st) T)
      | _ => False)
theorem xe_imul {K : Int → Zl → List Zv → Zt → Prop} {P : Zt → Option Zv → Prop} {r : List Instr} {pe : Int} : sx_ K P (.imul :: r) pe = x_imul (sx_ K P r pe) := by
  funext ls st T
  rfl
def x_fadd (C : Zl → List Zv → Zt → Prop) : Zl → List Zv → Zt → Prop := fun ls st T => (match st with
      | .inl y :: .inl x :: st => rh_ (wr_ (x + y)) (C ls (vI (wr_ (x + y)) :: st) T)
      | _ => False)
theorem xe_fadd {K : Int → Zl → List Zv → Zt → Prop} {P : Zt → Option Zv → Prop} {r : List Instr} {pe : Int} : sx_ K P (.fadd :: r) pe = x_fadd (sx_ K P r pe) := by
  funext ls st T
  rfl
def x_fsub (C : Zl → List Zv → Zt → Prop) : Zl → List Zv → Zt → Prop := fun ls st T => (match st with
      | .inl y :: .inl x :: st => rh_ (wr_ (x - y)) (C ls (vI (wr_ (x - y)) :: st) T)
      | _ => False)
theorem xe_fsub {K : Int → Zl → List Zv → Zt → Prop} {P : Zt → Option Zv → Prop} {r : List Instr} {pe : Int} : sx_ K P (.fsub :: r) pe = x_fsub (sx_ K P r pe) := by
  funext ls st T
  rfl
def x_fmul (C : Zl → List Zv → Zt → Prop) : Zl → List Zv → Zt → Prop := fun ls st T => (match st with
      | .inl y :: .inl x :: st => rh_ (wr_ (x * y)) (C ls (vI (wr_ (x * y)) :: st) T)
      | _ => False)
theorem xe_fmul {K : Int → Zl → List Zv → Zt → Prop} {P : Zt → Option Zv → Prop} {r : List Instr} {pe : Int} : sx_ K P (.fmul :: r) pe = x_fmul (sx_ K P r pe) := by
  funext ls st T
  rfl
def x_ineg (C : Zl → List Zv → Zt → Prop) : Zl → List Zv → Zt → Prop := fun ls st T => (match st with
      | .inl x :: st => rg_ (-x) (C ls (vI (-x) :: st) T)
      | _ => False)
theorem xe_ineg {K : Int → Zl → List Zv → Zt → Prop} {P : Zt → Option Zv → Prop} {r : List Instr} {pe : Int} : sx_ K P (.ineg :: r) pe = x_ineg (sx_ K P r pe) := by
  funext ls st T
  rfl
def x_fneg (C : Zl → List Zv → Zt → Prop) : Zl → List Zv → Zt → Prop := fun ls st T => (match st with
      | .inl x :: st => rh_ (wr_ (-x)) (C ls (vI (wr_ (-x)) :: st) T)
      | _ => False)
theorem xe_fneg {K : Int → Zl → List Zv → Zt → Prop} {P : Zt → Option Zv → Prop} {r : List Instr} {pe : Int} : sx_ K P (.fneg :: r) pe = x_fneg (sx_ K P r pe) := by
  funext ls st T
  rfl
def x_idiv (C : Zl → List Zv → Zt → Prop) : Zl → List Zv → Zt → Prop := fun ls st T => (match st with
      | .inl y :: .inl x :: st => 0 ≤ x ∧ 0 < y ∧ C ls (vI (x / y) :: st) T
      | _ => False)
theorem xe_idiv {K : Int → Zl → List Zv → Zt → Prop} {P : Zt → Option Zv → Prop} {r : List Instr} {pe : Int} : sx_ K P (.idiv :: r) pe = x_idiv (sx_ K P r pe) := by
  funext ls st T
  rfl
def x_fdiv (C : Zl → List Zv → Zt → Prop) : Zl → List Zv → Zt → Prop := fun ls st T => (match st with
      | .inl y :: .inl x :: st => 0 < y ∧ rh_ (dq_ x y) (C ls (vI (dq_ x y) :: st) T)
      | _ => False)
theorem xe_fdiv {K : Int → Zl → List Zv → Zt → Prop} {P : Zt → Option Zv → Prop} {r : List Instr} {pe : Int} : sx_ K P (.fdiv :: r) pe = x_fdiv (sx_ K P r pe) := by
  funext ls st T
  rfl
def x_frem (C : Zl → List Zv → Zt → Prop) : Zl → List Zv → Zt → Prop := fun ls st T => (match st with
      | .inl y :: .inl x :: st => 0 < y ∧ rh_ (dr_ x y) (C ls (vI (dr_ x y) :: st) T)
      | _ => False)
theorem xe_frem {K : Int → Zl → List Zv → Zt → Prop} {P : Zt → Option Zv → Prop} {r : List Instr} {pe : Int} : sx_ K P (.frem :: r) pe = x_frem (sx_ K P r pe) := by
  funext ls st T
  rfl
def x_dadd (C : Zl → List Zv → Zt → Prop) : Zl → List Zv → Zt → Prop := fun ls st T => (match st with
      | .inr (.inl y) :: .inr (.inl x) :: st => rk_ (wq_ (x + y)) (C ls (vL (wq_ (x + y)) :: st) T)
      | _ => False)
theorem xe_dadd {K : Int → Zl → List Zv → Zt → Prop} {P : Zt → Option Zv → Prop} {r : List Instr} {pe : Int} : sx_ K P (.dadd :: r) pe = x_dadd (sx_ K P r pe) := by
  funext ls st T
  rfl
def x_dsub (C : Zl → List Zv → Zt → Prop) : Zl → List Zv → Zt → Prop := fun ls st T => (match st with
      | .inr (.inl y) :: .inr (.inl x) :: st => rk_ (wq_ (x - y)) (C ls (vL (wq_ (x - y)) :: st) T)
      | _ => False)
theorem xe_dsub {K : Int → Zl → List Zv → Zt → Prop} {P : Zt → Option Zv → Prop} {r : List Instr} {pe : Int} : sx_ K P (.dsub :: r) pe = x_dsub (sx_ K P r pe) := by
  funext ls st T
  rfl
def x_dmul (C : Zl → List Zv → Zt → Prop) : Zl → List Zv → Zt → Prop := fun ls st T => (match st with
      | .inr (.inl y) :: .inr (.inl x) :: st => rk_ (wq_ (x * y)) (C ls (vL (wq_ (x * y)) :: st) T)
      | _ => False)
theorem xe_dmul {K : Int → Zl → List Zv → Zt → Prop} {P : Zt → Option Zv → Prop} {r : List Instr} {pe : Int} : sx_ K P (.dmul :: r) pe = x_dmul (sx_ K P r pe) := by
  funext ls st T
  rfl
def x_irem (C : Zl → List Zv → Zt → Prop) : Zl → List Zv → Zt → Prop := fun ls st T => (match st with
      | .inl y :: .inl x :: st => 0 ≤ x ∧ 0 < y ∧ C ls (vI (x % y) :: st) T
      | _ => False)
theorem xe_irem {K : Int → Zl → List Zv → Zt → Prop} {P : Zt → Option Zv → Prop} {r : List Instr} {pe : Int} : sx_ K P (.irem :: r) pe = x_irem (sx_ K P r pe) := by
  funext ls st T
  rfl
def x_iand (C : Zl → List Zv → Zt → Prop) : Zl → List Zv → Zt → Prop := fun ls st T => (match st with
      | .inl y :: .inl x :: st => rh_ (an_ x y) (C ls (vI (an_ x y) :: st) T)
      | _ => False)
theorem xe_iand {K : Int → Zl → List Zv → Zt → Prop} {P : Zt → Option Zv → Prop} {r : List Instr} {pe : Int} : sx_ K P (.iand :: r) pe = x_iand (sx_ K P r pe) := by
  funext ls st T
  rfl
def x_ior (C : Zl → List Zv → Zt → Prop) : Zl → List Zv → Zt → Prop := fun ls st T => (match st with
      | .inl y :: .inl x :: st => rh_ (or_ x y) (C ls (vI (or_ x y) :: st) T)
      | _ => False)
theorem xe_ior {K : Int → Zl → List Zv → Zt → Prop} {P : Zt → Option Zv → Prop} {r : List Instr} {pe : Int} : sx_ K P (.ior :: r) pe = x_ior (sx_ K P r pe) := by
  funext ls st T
  rfl
def x_ixor (C : Zl → List Zv → Zt → Prop) : Zl → List Zv → Zt → Prop := fun ls st T => (match st with
      | .inl y :: .inl x :: st => rh_ (xo_ x y) (C ls (vI (xo_ x y) :: st) T)
      | _ => False)
theorem xe_ixor {K : Int → Zl → List Zv → Zt → Prop} {P : Zt → Option Zv → Prop} {r : List Instr} {pe : Int} : sx_ K P (.ixor :: r) pe = x_ixor (sx_ K P r pe) := by
  funext ls st T
  rfl
def x_ishl (C : Zl → List Zv → Zt → Prop) : Zl → List Zv → Zt → Prop := fun ls st T => (match st with
      | .inl y :: .inl x :: st => rh_ (sl_ x y) (C ls (vI (sl_ x y) :: st) T)
      | _ => False)
theorem xe_ishl {K : Int → Zl → List Zv → Zt → Prop} {P : Zt → Option Zv → Prop} {r : List Instr} {pe : Int} : sx_ K P (.ishl :: r) pe = x_ishl (sx_ K P r pe) := by
  funext ls st T
  rfl
def x_ishr (C : Zl → List Zv → Zt → Prop) : Zl → List Zv → Zt → Prop := fun ls st T => (match st with
      | .inl y :: .inl x :: st => rh_ (sr_ x y) (C ls (vI (sr_ x y) :: st) T)
      | _ => False)
theorem xe_ishr {K : Int → Zl → List Zv → Zt → Prop} {P : Zt → Option Zv → Prop} {r : List Instr} {pe : Int} : sx_ K P (.ishr :: r) pe = x_ishr (sx_ K P r pe) := by
  funext ls st T
  rfl
def x_iushr (C : Zl → List Zv → Zt → Prop) : Zl → List Zv → Zt → Prop := fun ls st T => (match st with
      | .inl y :: .inl x :: st => rh_ (us_ x y) (C ls (vI (us_ x y) :: st) T)
      | _ => False)
theorem xe_iushr {K : Int → Zl → List Zv → Zt → Prop} {P : Zt → Option Zv → Prop} {r : List Instr} {pe : Int} : sx_ K P (.iushr :: r) pe = x_iushr (sx_ K P r pe) := by
  funext ls st T
  rfl
def x_i2l (C : Zl → List Zv → Zt → Prop) : Zl → List Zv → Zt → Prop := fun ls st T => (match st with
      | .inl x :: st => C ls (vL x :: st) T
      | _ => False)
theorem xe_i2l {K : Int → Zl → List Zv → Zt → Prop} {P : Zt → Option Zv → Prop} {r : List Instr} {pe : Int} : sx_ K P (.i2l :: r) pe = x_i2l (sx_ K P r pe) := by
  funext ls st T
  rfl
def x_l2i (C : Zl → List Zv → Zt → Prop) : Zl → List Zv → Zt → Prop := fun ls st T => (match st with
      | .inr (.inl x) :: st => rg_ x (C ls (vI x :: st) T)
      | _ => False)
theorem xe_l2i {K : Int → Zl → List Zv → Zt → Prop} {P : Zt → Option Zv → Prop} {r : List Instr} {pe : Int} : sx_ K P (.l2i :: r) pe = x_l2i (sx_ K P r pe) := by
  funext ls st T
  rfl
def x_lsub (C : Zl → List Zv → Zt → Prop) : Zl → List Zv → Zt → Prop := fun ls st T => (match st with
      | .inr (.inl y) :: .inr (.inl x) :: st => rl_ (x - y) (C ls (vL (x - y) :: st) T)
      | _ => False)
theorem xe_lsub {K : Int → Zl → List Zv → Zt → Prop} {P : Zt → Option Zv → Prop} {r : List Instr} {pe : Int} : sx_ K P (.lsub :: r) pe = x_lsub (sx_ K P r pe) := by
  funext ls st T
  rfl
def x_lrem (C : Zl → List Zv → Zt → Prop) : Zl → List Zv → Zt → Prop := fun ls st T => (match st with
      | .inr (.inl y) :: .inr (.inl x) :: st => 0 ≤ x ∧ 0 < y ∧ C ls (vL (x % y) :: st) T
      | _ => False)
theorem xe_lrem {K : Int → Zl → List Zv → Zt → Prop} {P : Zt → Option Zv → Prop} {r : List Instr} {pe : Int} : sx_ K P (.lrem :: r) pe = x_lrem (sx_ K P r pe) := by
  funext ls st T
  rfl
def x_lcmp (C : Zl → List Zv → Zt → Prop) : Zl → List Zv → Zt → Prop := fun ls st T => (match st with
      | .inr (.inl y) :: .inr (.inl x) :: st => (x < y → C ls (vI (-1) :: st) T) ∧ (x = y → C ls (vI 0 :: st) T) ∧ (y < x → C ls (vI 1 :: st) T)
      | _ => False)
theorem xe_lcmp {K : Int → Zl → List Zv → Zt → Prop} {P : Zt → Option Zv → Prop} {r : List Instr} {pe : Int} : sx_ K P (.lcmp :: r) pe = x_lcmp (sx_ K P r pe) := by
  funext ls st T
  rfl
def x_dup (C : Zl → List Zv → Zt → Prop) : Zl → List Zv → Zt → Prop := fun ls st T => (match st with
      | .inl x :: st => C ls (vI x :: vI x :: st) T
      | .inr (.inr q) :: st => C ls (.inr (.inr q) :: .inr (.inr q) :: st) T
      | _ => False)
theorem xe_dup {K : Int → Zl → List Zv → Zt → Prop} {P : Zt → Option Zv → Prop} {r : List Instr} {pe : Int} : sx_ K P (.dup :: r) pe = x_dup (sx_ K P r pe) := by
  funext ls st T
  rfl
def x_dup2 (C : Zl → List Zv → Zt → Prop) : Zl → List Zv → Zt → Prop := fun ls st T => (match st with
      | .inl y :: .inr (.inr q) :: st => C ls (vI y :: .inr (.inr q) :: vI y :: .inr (.inr q) :: st) T
      | _ => False)
theorem xe_dup2 {K : Int → Zl → List Zv → Zt → Prop} {P : Zt → Option Zv → Prop} {r : List Instr} {pe : Int} : sx_ K P (.dup2 :: r) pe = x_dup2 (sx_ K P r pe) := by
  funext ls st T
  rfl
def x_pop (C : Zl → List Zv → Zt → Prop) : Zl → List Zv → Zt → Prop := fun ls st T => (match st with
      | .inl _ :: st => C ls st T
      | .inr (.inr _) :: st => C ls st T
      | _ => False)
theorem xe_pop {K : Int → Zl → List Zv → Zt → Prop} {P : Zt → Option Zv → Prop} {r : List Instr} {pe : Int} : sx_ K P (.pop :: r) pe = x_pop (sx_ K P r pe) := by
  funext ls st T
  rfl
def x_goto (t : Int) (K : Int → Zl → List Zv → Zt → Prop) : Zl → List Zv → Zt → Prop := fun ls st T => K t ls st T
theorem xe_goto {K : Int → Zl → List Zv → Zt → Prop} {P : Zt → Option Zv → Prop} {r : List Instr} {pe : Int} (t : Int) : sx_ K P (.goto t :: r) pe = x_goto t K := by
  funext ls st T
  rfl
def x_if_icmp (c : ClassFile.Cond) (t : Int) (K : Int → Zl → List Zv → Zt → Prop) (C : Zl → List Zv → Zt → Prop) : Zl → List Zv → Zt → Prop := fun ls st T => (match st with
      | .inl y :: .inl x :: st => br_ c x y (K t ls st T) (C ls st T)
      | _ => False)
theorem xe_if_icmp {K : Int → Zl → List Zv → Zt → Prop} {P : Zt → Option Zv → Prop} {r : List Instr} {pe : Int} (c : ClassFile.Cond) (t : Int) : sx_ K P (.if_icmp c t :: r) pe = x_if_icmp c t K (sx_ K P r pe) := by
  funext ls st T
  rfl
def x_ifCond (c : ClassFile.Cond) (t : Int) (K : Int → Zl → List Zv → Zt → Prop) (C : Zl → List Zv → Zt → Prop) : Zl → List Zv → Zt → Prop := fun ls st T => (match st with
      | .inl x :: st => br_ c x 0 (K t ls st T) (C ls st T)
      | _ => False)
theorem xe_ifCond {K : Int → Zl → List Zv → Zt → Prop} {P : Zt → Option Zv → Prop} {r : List Instr} {pe : Int} (c : ClassFile.Cond) (t : Int) : sx_ K P (.ifCond c t :: r) pe = x_ifCond c t K (sx_ K P r pe) := by
  funext ls st T
  rfl
def x_ifnull (t : Int) (K : Int → Zl → List Zv → Zt → Prop) (C : Zl → List Zv → Zt → Prop) : Zl → List Zv → Zt → Prop := fun ls st T => (match st with
      | .inr (.inr none) :: st => K t ls st T
      | .inr (.inr (some _)) :: st => C ls st T
      | _ => False)
theorem xe_ifnull {K : Int → Zl → List Zv → Zt → Prop} {P : Zt → Option Zv → Prop} {r : List Instr} {pe : Int} (t : Int) : sx_ K P (.ifnull t :: r) pe = x_ifnull t K (sx_ K P r pe) := by
  funext ls st T
  rfl
def x_ifnonnull (t : Int) (K : Int → Zl → List Zv → Zt → Prop) (C : Zl → List Zv → Zt → Prop) : Zl → List Zv → Zt → Prop := fun ls st T => (match st with
      | .inr (.inr none) :: st => C ls st T
      | .inr (.inr (some _)) :: st => K t ls st T
      | _ => False)
theorem xe_ifnonnull {K : Int → Zl → List Zv → Zt → Prop} {P : Zt → Option Zv → Prop} {r : List Instr} {pe : Int} (t : Int) : sx_ K P (.ifnonnull t :: r) pe = x_ifnonnull t K (sx_ K P r pe) := by
  funext ls st T
  rfl
def x_iaload (C : Zl → List Zv → Zt → Prop) : Zl → List Zv → Zt → Prop := fun ls st T => (match st with
      | .inl x :: .inr (.inr (some (k, i))) :: st => (match ta_ k with
        | some (1, some n, lo, hi) => 0 ≤ x ∧ x < n ∧ (lo ≤ T k i x → T k i x ≤ hi → C ls (vI (T k i x) :: st) T)
        | some (1, none, lo, hi) => 0 ≤ x ∧ x < T k i (-2) ∧ (lo ≤ T k i x → T k i x ≤ hi → C ls (vI (T k i x) :: st) T)
        | _ => False)
      | _ => False)
theorem xe_iaload {K : Int → Zl → List Zv → Zt → Prop} {P : Zt → Option Zv → Prop} {r : List Instr} {pe : Int} : sx_ K P (.iaload :: r) pe = x_iaload (sx_ K P r pe) := by
  funext ls st T
  rfl
def x_baload (C : Zl → List Zv → Zt → Prop) : Zl → List Zv → Zt → Prop := fun ls st T => (match st with
      | .inl x :: .inr (.inr (some (k, i))) :: st => (match ta_ k with
        | some (2, some n, lo, hi) => 0 ≤ x ∧ x < n ∧ (lo ≤ T k i x → T k i x ≤ hi → C ls (vI (T k i x) :: st) T)
        | _ => False)
      | _ => False)
theorem xe_baload {K : Int → Zl → List Zv → Zt → Prop} {P : Zt → Option Zv → Prop} {r : List Instr} {pe : Int} : sx_ K P (.baload :: r) pe = x_baload (sx_ K P r pe) := by
  funext ls st T
  rfl
def x_laload (C : Zl → List Zv → Zt → Prop) : Zl → List Zv → Zt → Prop := fun ls st T => (match st with
      | .inl x :: .inr (.inr (some (k, i))) :: st => (match ta_ k with
        | some (3, some n, lo, hi) => 0 ≤ x ∧ x < n ∧ (lo ≤ T k i x → T k i x ≤ hi → C ls (vL (T k i x) :: st) T)
        | _ => False)
      | _ => False)
theorem xe_laload {K : Int → Zl → List Zv → Zt → Prop} {P : Zt → Option Zv → Prop} {r : List Instr} {pe : Int} : sx_ K P (.laload :: r) pe = x_laload (sx_ K P r pe) := by
  funext ls st T
  rfl
def x_aaload (C : Zl → List Zv → Zt → Prop) : Zl → List Zv → Zt → Prop := fun ls st T => (match st with
      | .inl x :: .inr (.inr (some (k, i))) :: st => (match ta_ k with
        | some (4, some n, _) => 0 ≤ x ∧ x < n ∧ (T k i x = 0 → C ls (vN :: st) T) ∧ (¬ T k i x = 0 → C ls (vR 100 x :: st) T)
        | some (5, some n, _) => 0 ≤ x ∧ x < n ∧ (T k i x = 0 → C ls (vN :: st) T) ∧ (¬ T k i x = 0 → C ls (vR 102 x :: st) T)
        | _ => False)
      | _ => False)
theorem xe_aaload {K : Int → Zl → List Zv → Zt → Prop} {P : Zt → Option Zv → Prop} {r : List Instr} {pe : Int} : sx_ K P (.aaload :: r) pe = x_aaload (sx_ K P r pe) := by
  funext ls st T
  rfl
def x_iastore (C : Zl → List Zv → Zt → Prop) : Zl → List Zv → Zt → Prop := fun ls st T => (match st with
      | .inl v :: .inl x :: .inr (.inr (some (k, i))) :: st => (match ta_ k with
        | some (1, some n, lo, hi) => 0 ≤ x ∧ x < n ∧ lo ≤ v ∧ v ≤ hi ∧ C ls st (up_ T k i x v)
        | some (1, none, lo, hi) => 0 ≤ x ∧ x < T k i (-2) ∧ lo ≤ v ∧ v ≤ hi ∧ C ls st (up_ T k i x v)
        | _ => False)
      | _ => False)
theorem xe_iastore {K : Int → Zl → List Zv → Zt → Prop} {P : Zt → Option Zv → Prop} {r : List Instr} {pe : Int} : sx_ K P (.iastore :: r) pe = x_iastore (sx_ K P r pe) := by
  funext ls st T
  rfl
def x_bastore (C : Zl → List Zv → Zt → Prop) : Zl → List Zv → Zt → Prop := fun ls st T => (match st with
      | .inl v :: .inl x :: .inr (.inr (some (k, i))) :: st => (match ta_ k with
        | some (2, some n, lo, hi) => 0 ≤ x ∧ x < n ∧ lo ≤ v ∧ v ≤ hi ∧ C ls st (up_ T k i x v)
        | _ => False)
      | _ => False)
theorem xe_bastore {K : Int → Zl → List Zv → Zt → Prop} {P : Zt → Option Zv → Prop} {r : List Instr} {pe : Int} : sx_ K P (.bastore :: r) pe = x_bastore (sx_ K P r pe) := by
  funext ls st T
  rfl
def x_lastore (C : Zl → List Zv → Zt → Prop) : Zl → List Zv → Zt → Prop := fun ls st T => (match st with
      | .inr (.inl v) :: .inl x :: .inr (.inr (some (k, i))) :: st => (match ta_ k with
        | some (3, some n, lo, hi) => 0 ≤ x ∧ x < n ∧ lo ≤ v ∧ v ≤ hi ∧ C ls st (up_ T k i x v)
        | _ => False)
      | _ => False)
theorem xe_lastore {K : Int → Zl → List Zv → Zt → Prop} {P : Zt → Option Zv → Prop} {r : List Instr} {pe : Int} : sx_ K P (.lastore :: r) pe = x_lastore (sx_ K P r pe) := by
  funext ls st T
  rfl
def x_arraylength (C : Zl → List Zv → Zt → Prop) : Zl → List Zv → Zt → Prop := fun ls st T => (match st with
      | .inr (.inr (some (k, i))) :: st => (match ta_ k with
        | some (_, some n, _) => C ls (vI n :: st) T
        | some (_, none, _) => 0 ≤ T k i (-2) → T k i (-2) ≤ 2147483647 → C ls (vI (T k i (-2)) :: st) T
        | _ => False)
      | _ => False)
theorem xe_arraylength {K : Int → Zl → List Zv → Zt → Prop} {P : Zt → Option Zv → Prop} {r : List Instr} {pe : Int} : sx_ K P (.arraylength :: r) pe = x_arraylength (sx_ K P r pe) := by
  funext ls st T
  rfl
def x_ireturn (P : Zt → Option Zv → Prop) : Zl → List Zv → Zt → Prop := fun ls st T => (match st with
      | [.inl x] => P T (some (vI x))
      | _ => False)
theorem xe_ireturn {K : Int → Zl → List Zv → Zt → Prop} {P : Zt → Option Zv → Prop} {r : List Instr} {pe : Int} : sx_ K P (.ireturn :: r) pe = x_ireturn P := by
  funext ls st T
  rfl
def x_lreturn (P : Zt → Option Zv → Prop) : Zl → List Zv → Zt → Prop := fun ls st T => (match st with
      | [.inr (.inl x)] => P T (some (vL x))
      | _ => False)
theorem xe_lreturn {K : Int → Zl → List Zv → Zt → Prop} {P : Zt → Option Zv → Prop} {r : List Instr} {pe : Int} : sx_ K P (.lreturn :: r) pe = x_lreturn P := by
  funext ls st T
  rfl
def x_return_ (P : Zt → Option Zv → Prop) : Zl → List Zv → Zt → Prop := fun ls st T => (match st with
      | [] => P T none
      | _ => False)
theorem xe_return_ {K : Int → Zl → List Zv → Zt → Prop} {P : Zt → Option Zv → Prop} {r : List Instr} {pe : Int} : sx_ K P (.return_ :: r) pe = x_return_ P := by
  funext ls st T
  rfl
theorem xe_nil {K : Int → Zl → List Zv → Zt → Prop} {P : Zt → Option Zv → Prop} {pe : Int} : sx_ K P [] pe = K pe := by
  funext ls st T
  rfl
def x_g0 (kk : Nat) (j lo hi : Int) (C : Zl → List Zv → Zt → Prop) : Zl → List Zv → Zt → Prop := fun ls st T => match st with
  | .inr (.inr (some (k, i))) :: st => (match Nat.beq k kk with
    | true => (lo ≤ T k i j → T k i j ≤ hi → C ls (vI (T k i j) :: st) T)
    | false => False)
  | _ => False
theorem xe_g0 {K : Int → Zl → List Zv → Zt → Prop} {P : Zt → Option Zv → Prop} {r : List Instr} {pe ci j : Int} {q : Array Int} {kk : Nat} {a : Nat} {lo hi : Int} (hk : kk = 100 + ci.toNat) (h : (tf_ kk)[j.toNat]? = some (0, a, lo, hi)) : sx_ K P (.tableswitch 0 ci j q :: r) pe = x_g0 kk j lo hi (sx_ K P r pe) := by
  funext ls st T
  match st with
  | [] => rfl
  | .inl _ :: _ => rfl
  | .inr (.inl _) :: _ => rfl
  | .inr (.inr none) :: _ => rfl
  | .inr (.inr (some (k, i))) :: st =>
    show (if k = 100 + ci.toNat then (match (tf_ k)[j.toNat]? with
            | some (0, _, lo, hi) => lo ≤ T k i j → T k i j ≤ hi → sx_ K P r pe ls (vI (T k i j) :: st) T
            | some (1, k', _) => sx_ K P r pe ls (vR k' 0 :: st) T
            | some (2, k', _) => sx_ K P r pe ls (vR k' i :: st) T
            | some (3, k', _) => sx_ K P r pe ls (vR k' (T k i j) :: st) T
            | some (4, k', _) => (T k i j = 0 → sx_ K P r pe ls (vN :: st) T) ∧ (¬ T k i j = 0 → sx_ K P r pe ls (vR k' i :: st) T)
            | some (5, k', _) => (T k i j = 0 → sx_ K P r pe ls (vN :: st) T) ∧ (¬ T k i j = 0 → sx_ K P r pe ls (vR k' (T k i j - 1) :: st) T)
            | _ => False) else False) = (match Nat.beq k kk with
      | true => (lo ≤ T k i j → T k i j ≤ hi → sx_ K P r pe ls (vI (T k i j) :: st) T)
      | false => False)
    by_cases z : k = kk
    · rw [if_pos (z.trans hk), show Nat.beq k kk = true by rw [z]; exact Nat.beq_refl kk, z, h] <;> rfl
    · rw [if_neg (fun w => z (w.trans hk.symm)), show Nat.beq k kk = false from Bool.eq_false_iff.mpr (fun w => z (Nat.eq_of_beq_eq_true w))] <;> rfl
def x_g1 (kk k' : Nat) (C : Zl → List Zv → Zt → Prop) : Zl → List Zv → Zt → Prop := fun ls st T => match st with
  | .inr (.inr (some (k, i))) :: st => (match Nat.beq k kk with
    | true => C ls (vR k' 0 :: st) T
    | false => False)
  | _ => False
theorem xe_g1 {K : Int → Zl → List Zv → Zt → Prop} {P : Zt → Option Zv → Prop} {r : List Instr} {pe ci j : Int} {q : Array Int} {kk : Nat} {k' : Nat} {a : Int × Int} (hk : kk = 100 + ci.toNat) (h : (tf_ kk)[j.toNat]? = some (1, k', a)) : sx_ K P (.tableswitch 0 ci j q :: r) pe = x_g1 kk k' (sx_ K P r pe) := by
  funext ls st T
  match st with
  | [] => rfl
  | .inl _ :: _ => rfl
  | .inr (.inl _) :: _ => rfl
  | .inr (.inr none) :: _ => rfl
  | .inr (.inr (some (k, i))) :: st =>
    show (if k = 100 + ci.toNat then (match (tf_ k)[j.toNat]? with
            | some (0, _, lo, hi) => lo ≤ T k i j → T k i j ≤ hi → sx_ K P r pe ls (vI (T k i j) :: st) T
            | some (1, k', _) => sx_ K P r pe ls (vR k' 0 :: st) T
            | some (2, k', _) => sx_ K P r pe ls (vR k' i :: st) T
            | some (3, k', _) => sx_ K P r pe ls (vR k' (T k i j) :: st) T
            | some (4, k', _) => (T k i j = 0 → sx_ K P r pe ls (vN :: st) T) ∧ (¬ T k i j = 0 → sx_ K P r pe ls (vR k' i :: st) T)
            | some (5, k', _) => (T k i j = 0 → sx_ K P r pe ls (vN :: st) T) ∧ (¬ T k i j = 0 → sx_ K P r pe ls (vR k' (T k i j - 1) :: st) T)
            | _ => False) else False) = (match Nat.beq k kk with
      | true => sx_ K P r pe ls (vR k' 0 :: st) T
      | false => False)
    by_cases z : k = kk
    · rw [if_pos (z.trans hk), show Nat.beq k kk = true by rw [z]; exact Nat.beq_refl kk, z, h] <;> rfl
    · rw [if_neg (fun w => z (w.trans hk.symm)), show Nat.beq k kk = false from Bool.eq_false_iff.mpr (fun w => z (Nat.eq_of_beq_eq_true w))] <;> rfl
def x_g2 (kk k' : Nat) (C : Zl → List Zv → Zt → Prop) : Zl → List Zv → Zt → Prop := fun ls st T => match st with
  | .inr (.inr (some (k, i))) :: st => (match Nat.beq k kk with
    | true => C ls (vR k' i :: st) T
    | false => False)
  | _ => False
theorem xe_g2 {K : Int → Zl → List Zv → Zt → Prop} {P : Zt → Option Zv → Prop} {r : List Instr} {pe ci j : Int} {q : Array Int} {kk : Nat} {k' : Nat} {a : Int × Int} (hk : kk = 100 + ci.toNat) (h : (tf_ kk)[j.toNat]? = some (2, k', a)) : sx_ K P (.tableswitch 0 ci j q :: r) pe = x_g2 kk k' (sx_ K P r pe) := by
  funext ls st T
  match st with
  | [] => rfl
  | .inl _ :: _ => rfl
  | .inr (.inl _) :: _ => rfl
  | .inr (.inr none) :: _ => rfl
  | .inr (.inr (some (k, i))) :: st =>
    show (if k = 100 + ci.toNat then (match (tf_ k)[j.toNat]? with
            | some (0, _, lo, hi) => lo ≤ T k i j → T k i j ≤ hi → sx_ K P r pe ls (vI (T k i j) :: st) T
            | some (1, k', _) => sx_ K P r pe ls (vR k' 0 :: st) T
            | some (2, k', _) => sx_ K P r pe ls (vR k' i :: st) T
            | some (3, k', _) => sx_ K P r pe ls (vR k' (T k i j) :: st) T
            | some (4, k', _) => (T k i j = 0 → sx_ K P r pe ls (vN :: st) T) ∧ (¬ T k i j = 0 → sx_ K P r pe ls (vR k' i :: st) T)
            | some (5, k', _) => (T k i j = 0 → sx_ K P r pe ls (vN :: st) T) ∧ (¬ T k i j = 0 → sx_ K P r pe ls (vR k' (T k i j - 1) :: st) T)
            | _ => False) else False) = (match Nat.beq k kk with
      | true => sx_ K P r pe ls (vR k' i :: st) T
      | false => False)
    by_cases z : k = kk
    · rw [if_pos (z.trans hk), show Nat.beq k kk = true by rw [z]; exact Nat.beq_refl kk, z, h] <;> rfl
    · rw [if_neg (fun w => z (w.trans hk.symm)), show Nat.beq k kk = false from Bool.eq_false_iff.mpr (fun w => z (Nat.eq_of_beq_eq_true w))] <;> rfl
def x_g3 (kk k' : Nat) (j : Int) (C : Zl → List Zv → Zt → Prop) : Zl → List Zv → Zt → Prop := fun ls st T => match st with
  | .inr (.inr (some (k, i))) :: st => (match Nat.beq k kk with
    | true => C ls (vR k' (T k i j) :: st) T
    | false => False)
  | _ => False
theorem xe_g3 {K : Int → Zl → List Zv → Zt → Prop} {P : Zt → Option Zv → Prop} {r : List Instr} {pe ci j : Int} {q : Array Int} {kk : Nat} {k' : Nat} {a : Int × Int} (hk : kk = 100 + ci.toNat) (h : (tf_ kk)[j.toNat]? = some (3, k', a)) : sx_ K P (.tableswitch 0 ci j q :: r) pe = x_g3 kk k' j (sx_ K P r pe) := by
  funext ls st T
  match st with
  | [] => rfl
  | .inl _ :: _ => rfl
  | .inr (.inl _) :: _ => rfl
  | .inr (.inr none) :: _ => rfl
  | .inr (.inr (some (k, i))) :: st =>
    show (if k = 100 + ci.toNat then (match (tf_ k)[j.toNat]? with
            | some (0, _, lo, hi) => lo ≤ T k i j → T k i j ≤ hi → sx_ K P r pe ls (vI (T k i j) :: st) T
            | some (1, k', _) => sx_ K P r pe ls (vR k' 0 :: st) T
            | some (2, k', _) => sx_ K P r pe ls (vR k' i :: st) T
            | some (3, k', _) => sx_ K P r pe ls (vR k' (T k i j) :: st) T
            | some (4, k', _) => (T k i j = 0 → sx_ K P r pe ls (vN :: st) T) ∧ (¬ T k i j = 0 → sx_ K P r pe ls (vR k' i :: st) T)
            | some (5, k', _) => (T k i j = 0 → sx_ K P r pe ls (vN :: st) T) ∧ (¬ T k i j = 0 → sx_ K P r pe ls (vR k' (T k i j - 1) :: st) T)
            | _ => False) else False) = (match Nat.beq k kk with
      | true => sx_ K P r pe ls (vR k' (T k i j) :: st) T
      | false => False)
    by_cases z : k = kk
    · rw [if_pos (z.trans hk), show Nat.beq k kk = true by rw [z]; exact Nat.beq_refl kk, z, h] <;> rfl
    · rw [if_neg (fun w => z (w.trans hk.symm)), show Nat.beq k kk = false from Bool.eq_false_iff.mpr (fun w => z (Nat.eq_of_beq_eq_true w))] <;> rfl
def x_g4 (kk k' : Nat) (j : Int) (C : Zl → List Zv → Zt → Prop) : Zl → List Zv → Zt → Prop := fun ls st T => match st with
  | .inr (.inr (some (k, i))) :: st => (match Nat.beq k kk with
    | true => (T k i j = 0 → C ls (vN :: st) T) ∧ (¬ T k i j = 0 → C ls (vR k' i :: st) T)
    | false => False)
  | _ => False
theorem xe_g4 {K : Int → Zl → List Zv → Zt → Prop} {P : Zt → Option Zv → Prop} {r : List Instr} {pe ci j : Int} {q : Array Int} {kk : Nat} {k' : Nat} {a : Int × Int} (hk : kk = 100 + ci.toNat) (h : (tf_ kk)[j.toNat]? = some (4, k', a)) : sx_ K P (.tableswitch 0 ci j q :: r) pe = x_g4 kk k' j (sx_ K P r pe) := by
  funext ls st T
  match st with
  | [] => rfl
  | .inl _ :: _ => rfl
  | .inr (.inl _) :: _ => rfl
  | .inr (.inr none) :: _ => rfl
  | .inr (.inr (some (k, i))) :: st =>
    show (if k = 100 + ci.toNat then (match (tf_ k)[j.toNat]? with
            | some (0, _, lo, hi) => lo ≤ T k i j → T k i j ≤ hi → sx_ K P r pe ls (vI (T k i j) :: st) T
            | some (1, k', _) => sx_ K P r pe ls (vR k' 0 :: st) T
            | some (2, k', _) => sx_ K P r pe ls (vR k' i :: st) T
            | some (3, k', _) => sx_ K P r pe ls (vR k' (T k i j) :: st) T
            | some (4, k', _) => (T k i j = 0 → sx_ K P r pe ls (vN :: st) T) ∧ (¬ T k i j = 0 → sx_ K P r pe ls (vR k' i :: st) T)
            | some (5, k', _) => (T k i j = 0 → sx_ K P r pe ls (vN :: st) T) ∧ (¬ T k i j = 0 → sx_ K P r pe ls (vR k' (T k i j - 1) :: st) T)
            | _ => False) else False) = (match Nat.beq k kk with
      | true => (T k i j = 0 → sx_ K P r pe ls (vN :: st) T) ∧ (¬ T k i j = 0 → sx_ K P r pe ls (vR k' i :: st) T)
      | false => False)
    by_cases z : k = kk
    · rw [if_pos (z.trans hk), show Nat.beq k kk = true by rw [z]; exact Nat.beq_refl kk, z, h] <;> rfl
    · rw [if_neg (fun w => z (w.trans hk.symm)), show Nat.beq k kk = false from Bool.eq_false_iff.mpr (fun w => z (Nat.eq_of_beq_eq_true w))] <;> rfl
def x_g5 (kk k' : Nat) (j : Int) (C : Zl → List Zv → Zt → Prop) : Zl → List Zv → Zt → Prop := fun ls st T => match st with
  | .inr (.inr (some (k, i))) :: st => (match Nat.beq k kk with
    | true => (T k i j = 0 → C ls (vN :: st) T) ∧ (¬ T k i j = 0 → C ls (vR k' (T k i j - 1) :: st) T)
    | false => False)
  | _ => False
theorem xe_g5 {K : Int → Zl → List Zv → Zt → Prop} {P : Zt → Option Zv → Prop} {r : List Instr} {pe ci j : Int} {q : Array Int} {kk : Nat} {k' : Nat} {a : Int × Int} (hk : kk = 100 + ci.toNat) (h : (tf_ kk)[j.toNat]? = some (5, k', a)) : sx_ K P (.tableswitch 0 ci j q :: r) pe = x_g5 kk k' j (sx_ K P r pe) := by
  funext ls st T
  match st with
  | [] => rfl
  | .inl _ :: _ => rfl
  | .inr (.inl _) :: _ => rfl
  | .inr (.inr none) :: _ => rfl
  | .inr (.inr (some (k, i))) :: st =>
    show (if k = 100 + ci.toNat then (match (tf_ k)[j.toNat]? with
            | some (0, _, lo, hi) => lo ≤ T k i j → T k i j ≤ hi → sx_ K P r pe ls (vI (T k i j) :: st) T
            | some (1, k', _) => sx_ K P r pe ls (vR k' 0 :: st) T
            | some (2, k', _) => sx_ K P r pe ls (vR k' i :: st) T
            | some (3, k', _) => sx_ K P r pe ls (vR k' (T k i j) :: st) T
            | some (4, k', _) => (T k i j = 0 → sx_ K P r pe ls (vN :: st) T) ∧ (¬ T k i j = 0 → sx_ K P r pe ls (vR k' i :: st) T)
            | some (5, k', _) => (T k i j = 0 → sx_ K P r pe ls (vN :: st) T) ∧ (¬ T k i j = 0 → sx_ K P r pe ls (vR k' (T k i j - 1) :: st) T)
            | _ => False) else False) = (match Nat.beq k kk with
      | true => (T k i j = 0 → sx_ K P r pe ls (vN :: st) T) ∧ (¬ T k i j = 0 → sx_ K P r pe ls (vR k' (T k i j - 1) :: st) T)
      | false => False)
    by_cases z : k = kk
    · rw [if_pos (z.trans hk), show Nat.beq k kk = true by rw [z]; exact Nat.beq_refl kk, z, h] <;> rfl
    · rw [if_neg (fun w => z (w.trans hk.symm)), show Nat.beq k kk = false from Bool.eq_false_iff.mpr (fun w => z (Nat.eq_of_beq_eq_true w))] <;> rfl
def x_p (kk : Nat) (j lo hi : Int) (C : Zl → List Zv → Zt → Prop) : Zl → List Zv → Zt → Prop := fun ls st T => match st with
  | .inl x :: .inr (.inr (some (k, i))) :: st => (match Nat.beq k kk with
    | true => lo ≤ x ∧ x ≤ hi ∧ C ls st (up_ T k i j x)
    | false => False)
  | _ => False
theorem xe_p {K : Int → Zl → List Zv → Zt → Prop} {P : Zt → Option Zv → Prop} {r : List Instr} {pe ci j : Int} {q : Array Int} {kk : Nat} {a : Nat} {lo hi : Int} (hk : kk = 100 + ci.toNat) (h : (tf_ kk)[j.toNat]? = some (0, a, lo, hi)) : sx_ K P (.tableswitch 1 ci j q :: r) pe = x_p kk j lo hi (sx_ K P r pe) := by
  funext ls st T
  match st with
  | [] => rfl
  | [.inl _] => rfl
  | .inl _ :: .inl _ :: _ => rfl
  | .inl _ :: .inr (.inl _) :: _ => rfl
  | .inl _ :: .inr (.inr none) :: _ => rfl
  | .inr _ :: _ => rfl
  | .inl x :: .inr (.inr (some (k, i))) :: st =>
    show (if k = 100 + ci.toNat then (match (tf_ k)[j.toNat]? with
            | some (0, _, lo, hi) => lo ≤ x ∧ x ≤ hi ∧ sx_ K P r pe ls st (up_ T k i j x)
            | _ => False) else False) = (match Nat.beq k kk with
      | true => lo ≤ x ∧ x ≤ hi ∧ sx_ K P r pe ls st (up_ T k i j x)
      | false => False)
    by_cases z : k = kk
    · rw [if_pos (z.trans hk), show Nat.beq k kk = true by rw [z]; exact Nat.beq_refl kk, z, h] <;> rfl
    · rw [if_neg (fun w => z (w.trans hk.symm)), show Nat.beq k kk = false from Bool.eq_false_iff.mpr (fun w => z (Nat.eq_of_beq_eq_true w))] <;> rfl
/-- a picture named -/
theorem x_nm {C : Zl → List Zv → Zt → Prop} {ls : Zl} {st : List Zv} {t : Zt} (h : ∀ T1, T1 = t → C ls st T1) : C ls st t := h t rfl
section JX
variable {Y : Zm} {T0 T : Zt} {P : Zt → Option Zv → Prop} {bc bs : Nat} {pc : Int} {ls : Zl} {rest : List Zv}
/-- a block runs, told by its own words -/
theorem j_blx {F : Zf} {pe : Int} {blk : List Instr} {X : (Int → Zl → List Zv → Zt → Prop) → Zl → List Zv → Zt → Prop} (hF : tb_ Y.1 F) (hp : 0 ≤ pc) (hck : ck_ F Y.2.2.2.1 Y.2.1 pc blk pe = true) (hX : ∀ K, sx_ K P blk pe = X K) (hz : Y.2.2.2.1 = some .boolean → ∀ T x, P T (some (vI x)) → 0 ≤ x ∧ x ≤ 1) (h : ∀ K : Int → Zl → List Zv → Zt → Prop, (∀ pc ls st T, J_ Y T0 P bc bs pc ls st T → K pc ls st T) → X K ls rest T) : J_ Y T0 P bc bs pc ls rest T := j_blk hF hp hck hz (fun K hK => by rw [hX K]; exact h K hK)
end JX
theorem tl_0_0 : (tf_ 100)[Int.toNat 0]? = some (0, 0, 0, 3) := by decide +kernel
theorem tl_0_1 : (tf_ 100)[Int.toNat 1]? = some (2, 401, (-2147483648), 2147483647) := by decide +kernel
theorem tl_0_2 : (tf_ 100)[Int.toNat 2]? = some (2, 402, (-2147483648), 2147483647) := by decide +kernel
theorem tl_0_3 : (tf_ 100)[Int.toNat 3]? = some (2, 403, (-2147483648), 2147483647) := by decide +kernel
theorem tl_0_4 : (tf_ 100)[Int.toNat 4]? = some (2, 404, (-2147483648), 2147483647) := by decide +kernel
theorem tl_0_5 : (tf_ 100)[Int.toNat 5]? = some (0, 0, 0, 12) := by decide +kernel
theorem tl_0_6 : (tf_ 100)[Int.toNat 6]? = some (0, 0, 0, 1) := by decide +kernel
theorem tl_0_7 : (tf_ 100)[Int.toNat 7]? = some (0, 0, 0, 400) := by decide +kernel
theorem tl_0_8 : (tf_ 100)[Int.toNat 8]? = some (0, 0, 0, 400) := by decide +kernel
theorem tl_1_0 : (tf_ 101)[Int.toNat 0]? = some (1, 108, (-2147483648), 2147483647) := by decide +kernel
theorem tl_1_1 : (tf_ 101)[Int.toNat 1]? = some (0, 0, 0, 4) := by decide +kernel
theorem tl_1_2 : (tf_ 101)[Int.toNat 2]? = some (0, 0, 0, 3) := by decide +kernel
theorem tl_1_3 : (tf_ 101)[Int.toNat 3]? = some (0, 0, (-2147483648), 2147483647) := by decide +kernel
theorem tl_1_4 : (tf_ 101)[Int.toNat 4]? = some (0, 0, (-2147483648), 2147483647) := by decide +kernel
theorem tl_1_5 : (tf_ 101)[Int.toNat 5]? = some (0, 0, (-2147483648), 2147483647) := by decide +kernel
theorem tl_1_6 : (tf_ 101)[Int.toNat 6]? = some (0, 0, (-2147483648), 2147483647) := by decide +kernel
theorem tl_1_7 : (tf_ 101)[Int.toNat 7]? = some (0, 0, 0, 1) := by decide +kernel
theorem tl_1_8 : (tf_ 101)[Int.toNat 8]? = some (1, 428, (-2147483648), 2147483647) := by decide +kernel
theorem tl_1_9 : (tf_ 101)[Int.toNat 9]? = some (1, 429, (-2147483648), 2147483647) := by decide +kernel
theorem tl_1_10 : (tf_ 101)[Int.toNat 10]? = some (1, 430, (-2147483648), 2147483647) := by decide +kernel
theorem tl_1_11 : (tf_ 101)[Int.toNat 11]? = some (1, 431, (-2147483648), 2147483647) := by decide +kernel
theorem tl_1_12 : (tf_ 101)[Int.toNat 12]? = some (1, 432, (-2147483648), 2147483647) := by decide +kernel
theorem tl_1_13 : (tf_ 101)[Int.toNat 13]? = some (0, 0, 0, 12) := by decide +kernel
theorem tl_1_14 : (tf_ 101)[Int.toNat 14]? = some (1, 434, (-2147483648), 2147483647) := by decide +kernel
theorem tl_1_15 : (tf_ 101)[Int.toNat 15]? = some (1, 435, (-2147483648), 2147483647) := by decide +kernel
theorem tl_2_0 : (tf_ 102)[Int.toNat 0]? = some (3, 100, (-2147483648), 2147483647) := by decide +kernel
theorem tl_2_1 : (tf_ 102)[Int.toNat 1]? = some (0, 0, 0, 399) := by decide +kernel
theorem tl_2_2 : (tf_ 102)[Int.toNat 2]? = some (0, 0, (-2147483648), 2147483647) := by decide +kernel
theorem tl_2_3 : (tf_ 102)[Int.toNat 3]? = some (0, 0, 0, 11) := by decide +kernel
theorem tl_2_4 : (tf_ 102)[Int.toNat 4]? = some (0, 0, 0, 11) := by decide +kernel
theorem tl_2_5 : (tf_ 102)[Int.toNat 5]? = some (0, 0, 0, 999) := by decide +kernel
theorem tl_2_6 : (tf_ 102)[Int.toNat 6]? = some (0, 0, (-1), 1) := by decide +kernel
theorem tl_2_7 : (tf_ 102)[Int.toNat 7]? = some (0, 0, (-1), 7) := by decide +kernel
theorem tl_2_8 : (tf_ 102)[Int.toNat 8]? = some (2, 448, (-2147483648), 2147483647) := by decide +kernel
theorem tl_2_9 : (tf_ 102)[Int.toNat 9]? = some (2, 449, (-2147483648), 2147483647) := by decide +kernel
theorem tl_2_10 : (tf_ 102)[Int.toNat 10]? = some (4, 103, (-2147483648), 2147483647) := by decide +kernel
theorem tl_3_0 : (tf_ 103)[Int.toNat 0]? = some (3, 401, (-2147483648), 2147483647) := by decide +kernel
theorem tl_3_1 : (tf_ 103)[Int.toNat 1]? = some (2, 448, (-2147483648), 2147483647) := by decide +kernel
theorem tl_3_2 : (tf_ 103)[Int.toNat 2]? = some (2, 449, (-2147483648), 2147483647) := by decide +kernel
theorem tl_3_3 : (tf_ 103)[Int.toNat 3]? = some (0, 0, 0, 1) := by decide +kernel
theorem tl_3_4 : (tf_ 103)[Int.toNat 4]? = some (0, 0, (-2147483648), 2147483647) := by decide +kernel
theorem tl_3_5 : (tf_ 103)[Int.toNat 5]? = some (0, 0, 0, 1) := by decide +kernel
theorem tl_3_6 : (tf_ 103)[Int.toNat 6]? = some (2, 466, (-2147483648), 2147483647) := by decide +kernel
theorem tl_3_7 : (tf_ 103)[Int.toNat 7]? = some (2, 467, (-2147483648), 2147483647) := by decide +kernel
theorem tl_3_8 : (tf_ 103)[Int.toNat 8]? = some (2, 468, (-2147483648), 2147483647) := by decide +kernel
theorem tl_3_9 : (tf_ 103)[Int.toNat 9]? = some (2, 469, (-2147483648), 2147483647) := by decide +kernel
theorem tl_3_10 : (tf_ 103)[Int.toNat 10]? = some (2, 470, (-2147483648), 2147483647) := by decide +kernel
theorem tl_3_11 : (tf_ 103)[Int.toNat 11]? = some (2, 471, (-2147483648), 2147483647) := by decide +kernel
theorem tl_3_12 : (tf_ 103)[Int.toNat 12]? = some (2, 472, (-2147483648), 2147483647) := by decide +kernel
theorem tl_3_13 : (tf_ 103)[Int.toNat 13]? = some (2, 473, (-2147483648), 2147483647) := by decide +kernel
theorem tl_3_14 : (tf_ 103)[Int.toNat 14]? = some (3, 190, (-2147483648), 2147483647) := by decide +kernel
theorem tl_3_15 : (tf_ 103)[Int.toNat 15]? = some (0, 0, 0, 3000) := by decide +kernel
theorem tl_3_16 : (tf_ 103)[Int.toNat 16]? = some (3, 190, (-2147483648), 2147483647) := by decide +kernel
theorem tl_3_17 : (tf_ 103)[Int.toNat 17]? = some (0, 0, 0, 3000) := by decide +kernel
theorem tl_4_0 : (tf_ 104)[Int.toNat 0]? = some (1, 106, (-2147483648), 2147483647) := by decide +kernel
theorem tl_4_1 : (tf_ 104)[Int.toNat 1]? = some (1, 108, (-2147483648), 2147483647) := by decide +kernel
theorem tl_4_2 : (tf_ 104)[Int.toNat 2]? = some (1, 482, (-2147483648), 2147483647) := by decide +kernel
theorem tl_4_3 : (tf_ 104)[Int.toNat 3]? = some (0, 0, 0, 400) := by decide +kernel
theorem tl_4_4 : (tf_ 104)[Int.toNat 4]? = some (3, 190, (-2147483648), 2147483647) := by decide +kernel
theorem tl_5_0 : (tf_ 105)[Int.toNat 0]? = some (1, 500, (-2147483648), 2147483647) := by decide +kernel
theorem tl_5_1 : (tf_ 105)[Int.toNat 1]? = some (0, 0, 0, 400) := by decide +kernel
theorem tl_5_2 : (tf_ 105)[Int.toNat 2]? = some (0, 0, 0, 5) := by decide +kernel
theorem tl_5_3 : (tf_ 105)[Int.toNat 3]? = some (0, 0, (-1), 400) := by decide +kernel
theorem tl_5_4 : (tf_ 105)[Int.toNat 4]? = some (1, 504, (-2147483648), 2147483647) := by decide +kernel
theorem tl_5_5 : (tf_ 105)[Int.toNat 5]? = some (1, 505, (-2147483648), 2147483647) := by decide +kernel
theorem tl_5_6 : (tf_ 105)[Int.toNat 6]? = some (0, 0, (-2147483648), 2147483647) := by decide +kernel
theorem tl_5_7 : (tf_ 105)[Int.toNat 7]? = some (0, 0, 0, 5) := by decide +kernel
theorem tl_5_8 : (tf_ 105)[Int.toNat 8]? = some (0, 0, 0, 400) := by decide +kernel
theorem tl_5_9 : (tf_ 105)[Int.toNat 9]? = some (0, 0, 0, 400) := by decide +kernel
theorem tl_6_0 : (tf_ 106)[Int.toNat 0]? = some (1, 108, (-2147483648), 2147483647) := by decide +kernel
theorem tl_6_1 : (tf_ 106)[Int.toNat 1]? = some (1, 521, (-2147483648), 2147483647) := by decide +kernel
theorem tl_6_2 : (tf_ 106)[Int.toNat 2]? = some (0, 0, 0, 4) := by decide +kernel
theorem tl_6_3 : (tf_ 106)[Int.toNat 3]? = some (1, 523, (-2147483648), 2147483647) := by decide +kernel
theorem tl_6_4 : (tf_ 106)[Int.toNat 4]? = some (0, 0, 0, 400) := by decide +kernel
theorem tl_6_5 : (tf_ 106)[Int.toNat 5]? = some (0, 0, 0, 3000) := by decide +kernel
theorem tl_6_6 : (tf_ 106)[Int.toNat 6]? = some (0, 0, 0, 50) := by decide +kernel
theorem tl_6_7 : (tf_ 106)[Int.toNat 7]? = some (1, 527, (-2147483648), 2147483647) := by decide +kernel
theorem tl_6_8 : (tf_ 106)[Int.toNat 8]? = some (1, 528, (-2147483648), 2147483647) := by decide +kernel
theorem tl_6_9 : (tf_ 106)[Int.toNat 9]? = some (1, 529, (-2147483648), 2147483647) := by decide +kernel
theorem tl_6_10 : (tf_ 106)[Int.toNat 10]? = some (1, 530, (-2147483648), 2147483647) := by decide +kernel
theorem tl_6_11 : (tf_ 106)[Int.toNat 11]? = some (1, 531, (-2147483648), 2147483647) := by decide +kernel
theorem tl_6_12 : (tf_ 106)[Int.toNat 12]? = some (0, 0, 0, 400) := by decide +kernel
theorem tl_6_13 : (tf_ 106)[Int.toNat 13]? = some (1, 533, (-2147483648), 2147483647) := by decide +kernel
theorem tl_6_14 : (tf_ 106)[Int.toNat 14]? = some (1, 534, (-2147483648), 2147483647) := by decide +kernel
theorem tl_6_15 : (tf_ 106)[Int.toNat 15]? = some (1, 535, (-2147483648), 2147483647) := by decide +kernel
theorem tl_7_0 : (tf_ 107)[Int.toNat 0]? = some (1, 106, (-2147483648), 2147483647) := by decide +kernel
theorem tl_7_1 : (tf_ 107)[Int.toNat 1]? = some (5, 100, (-2147483648), 2147483647) := by decide +kernel
theorem tl_7_2 : (tf_ 107)[Int.toNat 2]? = some (1, 542, (-2147483648), 2147483647) := by decide +kernel
theorem tl_7_3 : (tf_ 107)[Int.toNat 3]? = some (1, 543, (-2147483648), 2147483647) := by decide +kernel
theorem tl_7_4 : (tf_ 107)[Int.toNat 4]? = some (1, 544, (-2147483648), 2147483647) := by decide +kernel
theorem tl_7_5 : (tf_ 107)[Int.toNat 5]? = some (1, 545, (-2147483648), 2147483647) := by decide +kernel
theorem tl_7_6 : (tf_ 107)[Int.toNat 6]? = some (1, 546, (-2147483648), 2147483647) := by decide +kernel
theorem tl_7_7 : (tf_ 107)[Int.toNat 7]? = some (1, 547, (-2147483648), 2147483647) := by decide +kernel
theorem tl_7_8 : (tf_ 107)[Int.toNat 8]? = some (1, 548, (-2147483648), 2147483647) := by decide +kernel
theorem tl_7_9 : (tf_ 107)[Int.toNat 9]? = some (1, 549, (-2147483648), 2147483647) := by decide +kernel
theorem tl_7_10 : (tf_ 107)[Int.toNat 10]? = some (1, 550, (-2147483648), 2147483647) := by decide +kernel
theorem tl_7_11 : (tf_ 107)[Int.toNat 11]? = some (1, 551, (-2147483648), 2147483647) := by decide +kernel
theorem tl_7_12 : (tf_ 107)[Int.toNat 12]? = some (1, 552, (-2147483648), 2147483647) := by decide +kernel
theorem tl_7_13 : (tf_ 107)[Int.toNat 13]? = some (0, 0, 0, 16) := by decide +kernel
theorem tl_8_0 : (tf_ 108)[Int.toNat 0]? = some (1, 560, (-2147483648), 2147483647) := by decide +kernel
theorem tl_8_1 : (tf_ 108)[Int.toNat 1]? = some (1, 561, (-2147483648), 2147483647) := by decide +kernel
theorem tl_8_2 : (tf_ 108)[Int.toNat 2]? = some (0, 0, 0, 12) := by decide +kernel
theorem tl_8_3 : (tf_ 108)[Int.toNat 3]? = some (0, 0, 0, 200) := by decide +kernel
theorem tl_8_4 : (tf_ 108)[Int.toNat 4]? = some (1, 564, (-2147483648), 2147483647) := by decide +kernel
theorem tl_8_5 : (tf_ 108)[Int.toNat 5]? = some (0, 0, 0, 300) := by decide +kernel
theorem tl_8_6 : (tf_ 108)[Int.toNat 6]? = some (1, 566, (-2147483648), 2147483647) := by decide +kernel
theorem tl_8_7 : (tf_ 108)[Int.toNat 7]? = some (1, 567, (-2147483648), 2147483647) := by decide +kernel
theorem tl_8_8 : (tf_ 108)[Int.toNat 8]? = some (1, 568, (-2147483648), 2147483647) := by decide +kernel
theorem tl_8_9 : (tf_ 108)[Int.toNat 9]? = some (1, 569, (-2147483648), 2147483647) := by decide +kernel
theorem tl_8_10 : (tf_ 108)[Int.toNat 10]? = some (1, 570, (-2147483648), 2147483647) := by decide +kernel
theorem tl_8_11 : (tf_ 108)[Int.toNat 11]? = some (1, 571, (-2147483648), 2147483647) := by decide +kernel
theorem tl_8_12 : (tf_ 108)[Int.toNat 12]? = some (0, 0, 0, 8) := by decide +kernel
theorem tl_8_13 : (tf_ 108)[Int.toNat 13]? = some (0, 0, 0, 999) := by decide +kernel
theorem tl_9_0 : (tf_ 109)[Int.toNat 0]? = some (1, 106, (-2147483648), 2147483647) := by decide +kernel
theorem tl_9_1 : (tf_ 109)[Int.toNat 1]? = some (1, 107, (-2147483648), 2147483647) := by decide +kernel
theorem tl_9_2 : (tf_ 109)[Int.toNat 2]? = some (0, 0, (-1), 2) := by decide +kernel
theorem tl_9_3 : (tf_ 109)[Int.toNat 3]? = some (0, 0, 0, 4095) := by decide +kernel
theorem tl_9_4 : (tf_ 109)[Int.toNat 4]? = some (1, 584, (-2147483648), 2147483647) := by decide +kernel
theorem tl_9_5 : (tf_ 109)[Int.toNat 5]? = some (5, 100, (-2147483648), 2147483647) := by decide +kernel
theorem tl_9_6 : (tf_ 109)[Int.toNat 6]? = some (0, 0, (-2147483648), 2147483647) := by decide +kernel
theorem tl_9_7 : (tf_ 109)[Int.toNat 7]? = some (1, 587, (-2147483648), 2147483647) := by decide +kernel
theorem tl_9_8 : (tf_ 109)[Int.toNat 8]? = some (1, 588, (-2147483648), 2147483647) := by decide +kernel
theorem tl_9_9 : (tf_ 109)[Int.toNat 9]? = some (0, 0, 0, 40) := by decide +kernel
theorem tl_9_10 : (tf_ 109)[Int.toNat 10]? = some (1, 590, (-2147483648), 2147483647) := by decide +kernel
theorem tl_9_11 : (tf_ 109)[Int.toNat 11]? = some (1, 591, (-2147483648), 2147483647) := by decide +kernel
theorem tl_9_12 : (tf_ 109)[Int.toNat 12]? = some (1, 592, (-2147483648), 2147483647) := by decide +kernel
theorem tl_9_13 : (tf_ 109)[Int.toNat 13]? = some (1, 593, (-2147483648), 2147483647) := by decide +kernel
theorem tl_9_14 : (tf_ 109)[Int.toNat 14]? = some (1, 594, (-2147483648), 2147483647) := by decide +kernel
theorem tl_9_15 : (tf_ 109)[Int.toNat 15]? = some (5, 190, (-2147483648), 2147483647) := by decide +kernel
theorem tl_10_0 : (tf_ 110)[Int.toNat 0]? = some (1, 105, (-2147483648), 2147483647) := by decide +kernel
theorem tl_10_1 : (tf_ 110)[Int.toNat 1]? = some (1, 108, (-2147483648), 2147483647) := by decide +kernel
theorem tl_10_2 : (tf_ 110)[Int.toNat 2]? = some (1, 106, (-2147483648), 2147483647) := by decide +kernel
theorem tl_10_3 : (tf_ 110)[Int.toNat 3]? = some (1, 107, (-2147483648), 2147483647) := by decide +kernel
theorem tl_10_4 : (tf_ 110)[Int.toNat 4]? = some (1, 109, (-2147483648), 2147483647) := by decide +kernel
theorem tl_10_5 : (tf_ 110)[Int.toNat 5]? = some (1, 101, (-2147483648), 2147483647) := by decide +kernel
theorem tl_10_6 : (tf_ 110)[Int.toNat 6]? = some (1, 104, (-2147483648), 2147483647) := by decide +kernel
theorem tl_11_0 : (tf_ 111)[Int.toNat 0]? = some (1, 200, (-2147483648), 2147483647) := by decide +kernel
theorem tl_11_1 : (tf_ 111)[Int.toNat 1]? = some (0, 0, 0, 400) := by decide +kernel
theorem tl_11_2 : (tf_ 111)[Int.toNat 2]? = some (0, 0, (-1), 400) := by decide +kernel
theorem tl_11_3 : (tf_ 111)[Int.toNat 3]? = some (0, 0, 0, 999) := by decide +kernel
theorem tl_11_4 : (tf_ 111)[Int.toNat 4]? = some (1, 204, (-2147483648), 2147483647) := by decide +kernel
theorem tl_11_5 : (tf_ 111)[Int.toNat 5]? = some (1, 205, (-2147483648), 2147483647) := by decide +kernel
theorem tl_11_6 : (tf_ 111)[Int.toNat 6]? = some (0, 0, 0, 4) := by decide +kernel
theorem tl_11_7 : (tf_ 111)[Int.toNat 7]? = some (1, 207, (-2147483648), 2147483647) := by decide +kernel
theorem tl_11_8 : (tf_ 111)[Int.toNat 8]? = some (1, 208, (-2147483648), 2147483647) := by decide +kernel
theorem tl_11_9 : (tf_ 111)[Int.toNat 9]? = some (1, 209, (-2147483648), 2147483647) := by decide +kernel
theorem tl_11_10 : (tf_ 111)[Int.toNat 10]? = some (1, 210, (-2147483648), 2147483647) := by decide +kernel
theorem tl_11_11 : (tf_ 111)[Int.toNat 11]? = some (1, 211, (-2147483648), 2147483647) := by decide +kernel
theorem tl_11_12 : (tf_ 111)[Int.toNat 12]? = some (0, 0, 0, 12) := by decide +kernel
theorem tl_11_13 : (tf_ 111)[Int.toNat 13]? = some (1, 213, (-2147483648), 2147483647) := by decide +kernel
theorem tl_11_14 : (tf_ 111)[Int.toNat 14]? = some (1, 214, (-2147483648), 2147483647) := by decide +kernel
theorem tl_11_15 : (tf_ 111)[Int.toNat 15]? = some (0, 0, 0, 200) := by decide +kernel
theorem tl_11_16 : (tf_ 111)[Int.toNat 16]? = some (0, 0, 0, 300) := by decide +kernel
theorem tl_11_17 : (tf_ 111)[Int.toNat 17]? = some (1, 217, (-2147483648), 2147483647) := by decide +kernel
theorem tl_11_18 : (tf_ 111)[Int.toNat 18]? = some (1, 218, (-2147483648), 2147483647) := by decide +kernel
theorem tl_11_19 : (tf_ 111)[Int.toNat 19]? = some (1, 219, (-2147483648), 2147483647) := by decide +kernel
theorem tl_11_20 : (tf_ 111)[Int.toNat 20]? = some (1, 220, (-2147483648), 2147483647) := by decide +kernel
theorem tl_11_21 : (tf_ 111)[Int.toNat 21]? = some (0, 0, 0, 8) := by decide +kernel
theorem tl_11_22 : (tf_ 111)[Int.toNat 22]? = some (1, 222, (-2147483648), 2147483647) := by decide +kernel
theorem tl_11_23 : (tf_ 111)[Int.toNat 23]? = some (1, 223, (-2147483648), 2147483647) := by decide +kernel
theorem tl_11_24 : (tf_ 111)[Int.toNat 24]? = some (0, 0, 0, 50) := by decide +kernel
theorem tl_11_25 : (tf_ 111)[Int.toNat 25]? = some (1, 225, (-2147483648), 2147483647) := by decide +kernel
theorem tl_11_26 : (tf_ 111)[Int.toNat 26]? = some (1, 226, (-2147483648), 2147483647) := by decide +kernel
theorem tl_11_27 : (tf_ 111)[Int.toNat 27]? = some (1, 227, (-2147483648), 2147483647) := by decide +kernel
theorem tl_11_28 : (tf_ 111)[Int.toNat 28]? = some (1, 228, (-2147483648), 2147483647) := by decide +kernel
theorem tl_11_29 : (tf_ 111)[Int.toNat 29]? = some (0, 0, 0, 400) := by decide +kernel
theorem tl_11_30 : (tf_ 111)[Int.toNat 30]? = some (1, 230, (-2147483648), 2147483647) := by decide +kernel
theorem tl_11_31 : (tf_ 111)[Int.toNat 31]? = some (1, 231, (-2147483648), 2147483647) := by decide +kernel
theorem tl_11_32 : (tf_ 111)[Int.toNat 32]? = some (1, 232, (-2147483648), 2147483647) := by decide +kernel
theorem tl_11_33 : (tf_ 111)[Int.toNat 33]? = some (1, 233, (-2147483648), 2147483647) := by decide +kernel
theorem tl_11_34 : (tf_ 111)[Int.toNat 34]? = some (1, 234, (-2147483648), 2147483647) := by decide +kernel
theorem tl_11_35 : (tf_ 111)[Int.toNat 35]? = some (1, 235, (-2147483648), 2147483647) := by decide +kernel
theorem tl_11_36 : (tf_ 111)[Int.toNat 36]? = some (1, 236, (-2147483648), 2147483647) := by decide +kernel
theorem tl_11_37 : (tf_ 111)[Int.toNat 37]? = some (1, 237, (-2147483648), 2147483647) := by decide +kernel
theorem tl_11_38 : (tf_ 111)[Int.toNat 38]? = some (1, 238, (-2147483648), 2147483647) := by decide +kernel
theorem tl_11_39 : (tf_ 111)[Int.toNat 39]? = some (1, 239, (-2147483648), 2147483647) := by decide +kernel
theorem tl_11_40 : (tf_ 111)[Int.toNat 40]? = some (1, 240, (-2147483648), 2147483647) := by decide +kernel
theorem tl_11_41 : (tf_ 111)[Int.toNat 41]? = some (1, 241, (-2147483648), 2147483647) := by decide +kernel
theorem tl_11_42 : (tf_ 111)[Int.toNat 42]? = some (1, 242, (-2147483648), 2147483647) := by decide +kernel
theorem tl_11_43 : (tf_ 111)[Int.toNat 43]? = some (1, 243, (-2147483648), 2147483647) := by decide +kernel
theorem tl_11_44 : (tf_ 111)[Int.toNat 44]? = some (1, 244, (-2147483648), 2147483647) := by decide +kernel
theorem tl_11_45 : (tf_ 111)[Int.toNat 45]? = some (1, 245, (-2147483648), 2147483647) := by decide +kernel
theorem tl_11_46 : (tf_ 111)[Int.toNat 46]? = some (1, 246, (-2147483648), 2147483647) := by decide +kernel
theorem tl_11_47 : (tf_ 111)[Int.toNat 47]? = some (0, 0, 0, 3000) := by decide +kernel
theorem tl_11_48 : (tf_ 111)[Int.toNat 48]? = some (1, 248, (-2147483648), 2147483647) := by decide +kernel
theorem tl_11_49 : (tf_ 111)[Int.toNat 49]? = some (1, 249, (-2147483648), 2147483647) := by decide +kernel
theorem tl_11_50 : (tf_ 111)[Int.toNat 50]? = some (1, 250, (-2147483648), 2147483647) := by decide +kernel
theorem tl_11_51 : (tf_ 111)[Int.toNat 51]? = some (1, 251, (-2147483648), 2147483647) := by decide +kernel
theorem tl_11_52 : (tf_ 111)[Int.toNat 52]? = some (1, 252, (-2147483648), 2147483647) := by decide +kernel
theorem tl_11_53 : (tf_ 111)[Int.toNat 53]? = some (1, 253, (-2147483648), 2147483647) := by decide +kernel
theorem tl_11_54 : (tf_ 111)[Int.toNat 54]? = some (1, 254, (-2147483648), 2147483647) := by decide +kernel
theorem tl_11_55 : (tf_ 111)[Int.toNat 55]? = some (1, 255, (-2147483648), 2147483647) := by decide +kernel
theorem tl_11_56 : (tf_ 111)[Int.toNat 56]? = some (1, 256, (-2147483648), 2147483647) := by decide +kernel
theorem tl_11_57 : (tf_ 111)[Int.toNat 57]? = some (0, 0, 0, 400) := by decide +kernel
theorem tl_11_58 : (tf_ 111)[Int.toNat 58]? = some (0, 0, 0, 4) := by decide +kernel
theorem tl_11_59 : (tf_ 111)[Int.toNat 59]? = some (0, 0, 0, 400) := by decide +kernel
theorem tl_11_60 : (tf_ 111)[Int.toNat 60]? = some (0, 0, 0, 400) := by decide +kernel
theorem tl_11_61 : (tf_ 111)[Int.toNat 61]? = some (0, 0, (-2147483648), 2147483647) := by decide +kernel
theorem tl_11_62 : (tf_ 111)[Int.toNat 62]? = some (0, 0, 0, 5) := by decide +kernel
theorem tl_11_63 : (tf_ 111)[Int.toNat 63]? = some (0, 0, (-1), 400) := by decide +kernel
theorem tl_11_64 : (tf_ 111)[Int.toNat 64]? = some (1, 264, (-2147483648), 2147483647) := by decide +kernel
theorem tl_11_65 : (tf_ 111)[Int.toNat 65]? = some (1, 265, (-2147483648), 2147483647) := by decide +kernel
theorem tl_11_66 : (tf_ 111)[Int.toNat 66]? = some (1, 266, (-2147483648), 2147483647) := by decide +kernel
theorem tl_11_67 : (tf_ 111)[Int.toNat 67]? = some (1, 267, (-2147483648), 2147483647) := by decide +kernel
theorem tl_11_68 : (tf_ 111)[Int.toNat 68]? = some (1, 268, (-2147483648), 2147483647) := by decide +kernel
theorem tl_11_69 : (tf_ 111)[Int.toNat 69]? = some (1, 269, (-2147483648), 2147483647) := by decide +kernel
theorem tl_11_70 : (tf_ 111)[Int.toNat 70]? = some (1, 270, (-2147483648), 2147483647) := by decide +kernel
theorem tl_11_71 : (tf_ 111)[Int.toNat 71]? = some (1, 271, (-2147483648), 2147483647) := by decide +kernel
theorem tl_11_72 : (tf_ 111)[Int.toNat 72]? = some (1, 272, (-2147483648), 2147483647) := by decide +kernel
theorem tl_11_73 : (tf_ 111)[Int.toNat 73]? = some (0, 0, 0, 400) := by decide +kernel
theorem tl_11_74 : (tf_ 111)[Int.toNat 74]? = some (1, 274, (-2147483648), 2147483647) := by decide +kernel
theorem tl_11_75 : (tf_ 111)[Int.toNat 75]? = some (0, 0, 0, 400) := by decide +kernel
theorem tl_11_76 : (tf_ 111)[Int.toNat 76]? = some (1, 276, (-2147483648), 2147483647) := by decide +kernel
theorem tl_11_77 : (tf_ 111)[Int.toNat 77]? = some (1, 277, (-2147483648), 2147483647) := by decide +kernel
theorem tl_11_78 : (tf_ 111)[Int.toNat 78]? = some (1, 278, (-2147483648), 2147483647) := by decide +kernel
theorem tl_11_79 : (tf_ 111)[Int.toNat 79]? = some (0, 0, 0, 12) := by decide +kernel
theorem tl_11_80 : (tf_ 111)[Int.toNat 80]? = some (0, 0, 0, 1) := by decide +kernel
theorem tl_11_81 : (tf_ 111)[Int.toNat 81]? = some (1, 281, (-2147483648), 2147483647) := by decide +kernel
theorem tl_11_82 : (tf_ 111)[Int.toNat 82]? = some (0, 0, (-2147483648), 2147483647) := by decide +kernel
theorem tl_11_83 : (tf_ 111)[Int.toNat 83]? = some (0, 0, (-2147483648), 2147483647) := by decide +kernel
theorem tl_11_84 : (tf_ 111)[Int.toNat 84]? = some (1, 284, (-2147483648), 2147483647) := by decide +kernel
theorem tl_11_85 : (tf_ 111)[Int.toNat 85]? = some (0, 0, 0, 4095) := by decide +kernel
theorem tl_11_86 : (tf_ 111)[Int.toNat 86]? = some (1, 286, (-2147483648), 2147483647) := by decide +kernel
theorem tl_11_87 : (tf_ 111)[Int.toNat 87]? = some (0, 0, 0, 120) := by decide +kernel
theorem tl_11_88 : (tf_ 111)[Int.toNat 88]? = some (0, 0, (-1), 3) := by decide +kernel
theorem tl_11_89 : (tf_ 111)[Int.toNat 89]? = some (1, 289, (-2147483648), 2147483647) := by decide +kernel
theorem tl_11_90 : (tf_ 111)[Int.toNat 90]? = some (0, 0, 0, 4095) := by decide +kernel
theorem tl_11_91 : (tf_ 111)[Int.toNat 91]? = some (1, 291, (-2147483648), 2147483647) := by decide +kernel
theorem tl_11_92 : (tf_ 111)[Int.toNat 92]? = some (1, 292, (-2147483648), 2147483647) := by decide +kernel
theorem tl_11_93 : (tf_ 111)[Int.toNat 93]? = some (1, 293, (-2147483648), 2147483647) := by decide +kernel
theorem tl_11_94 : (tf_ 111)[Int.toNat 94]? = some (1, 294, (-2147483648), 2147483647) := by decide +kernel
theorem tl_11_95 : (tf_ 111)[Int.toNat 95]? = some (0, 0, (-2147483648), 2147483647) := by decide +kernel
theorem tl_11_96 : (tf_ 111)[Int.toNat 96]? = some (1, 296, (-2147483648), 2147483647) := by decide +kernel
theorem tl_11_97 : (tf_ 111)[Int.toNat 97]? = some (1, 297, (-2147483648), 2147483647) := by decide +kernel
theorem tl_11_98 : (tf_ 111)[Int.toNat 98]? = some (0, 0, 0, 1) := by decide +kernel
theorem tl_11_99 : (tf_ 111)[Int.toNat 99]? = some (0, 0, 0, 4) := by decide +kernel
theorem tl_11_100 : (tf_ 111)[Int.toNat 100]? = some (0, 0, 0, 3) := by decide +kernel
theorem tl_11_101 : (tf_ 111)[Int.toNat 101]? = some (1, 301, (-2147483648), 2147483647) := by decide +kernel
theorem tl_11_102 : (tf_ 111)[Int.toNat 102]? = some (1, 302, (-2147483648), 2147483647) := by decide +kernel
theorem tl_11_103 : (tf_ 111)[Int.toNat 103]? = some (0, 0, (-2147483648), 2147483647) := by decide +kernel
theorem tl_11_104 : (tf_ 111)[Int.toNat 104]? = some (1, 304, (-2147483648), 2147483647) := by decide +kernel
theorem tl_11_105 : (tf_ 111)[Int.toNat 105]? = some (1, 305, (-2147483648), 2147483647) := by decide +kernel
theorem tl_11_106 : (tf_ 111)[Int.toNat 106]? = some (1, 306, (-2147483648), 2147483647) := by decide +kernel
theorem tl_11_107 : (tf_ 111)[Int.toNat 107]? = some (0, 0, 0, 400) := by decide +kernel
theorem tl_11_108 : (tf_ 111)[Int.toNat 108]? = some (1, 308, (-2147483648), 2147483647) := by decide +kernel
theorem tl_11_109 : (tf_ 111)[Int.toNat 109]? = some (1, 309, (-2147483648), 2147483647) := by decide +kernel
theorem tl_11_110 : (tf_ 111)[Int.toNat 110]? = some (1, 310, (-2147483648), 2147483647) := by decide +kernel
theorem tl_11_111 : (tf_ 111)[Int.toNat 111]? = some (1, 311, (-2147483648), 2147483647) := by decide +kernel
theorem tl_11_112 : (tf_ 111)[Int.toNat 112]? = some (0, 0, (-2147483648), 2147483647) := by decide +kernel
theorem tl_11_113 : (tf_ 111)[Int.toNat 113]? = some (0, 0, (-2147483648), 2147483647) := by decide +kernel
/-- a number is not below 0 -/
theorem nn_ (n : Nat) : (0 : Int) ≤ @OfNat.ofNat Int n _ := Int.natCast_nonneg n
def rfb_ (Yc Y : Zm) : Bool := Nat.ble (Yc.2.2.2.2.frames + 1) Y.2.2.2.2.frames && Nat.ble (8 + (Yc.2.2.1 + 11) + Yc.2.2.2.2.locals) Y.2.2.2.2.locals
theorem rf_of {Yc Y : Zm} (h : rfb_ Yc Y = true) : rf_ Yc Y = true := by
  unfold rfb_ at h
  rw [Bool.and_eq_true] at h
  unfold rf_
  rw [Bool.and_eq_true]
  exact ⟨decide_eq_true (Nat.le_of_ble_eq_true h.1), decide_eq_true (Nat.le_of_ble_eq_true h.2)⟩
theorem ni_ {a b : Nat} (h : Nat.beq a b = false) : (@OfNat.ofNat Int a _) ≠ @OfNat.ofNat Int b _ := fun e => Nat.ne_of_beq_eq_false h (Int.ofNat.inj e)
theorem pn_0 : plainName RX0 = true := by decide
theorem pn_1 : plainName RX1 = true := by decide
theorem pn_2 : plainName RX2 = true := by decide
theorem pn_3 : plainName RX3 = true := by decide
theorem pn_4 : plainName RX4 = true := by decide
theorem pn_5 : plainName RX5 = true := by decide
theorem pn_6 : plainName RX6 = true := by decide
theorem pn_7 : plainName RX7 = true := by decide
theorem pn_8 : plainName RX8 = true := by decide
theorem pn_9 : plainName RX9 = true := by decide
theorem pn_10 : plainName RX10 = true := by decide
theorem pn_11 : plainName RX11 = true := by decide
abbrev cX11_in : ByteArray := prog_13_method_3_code
def yX11_in : MethodName := ⟨RX11, "in", "(III)Z"⟩
def zX11_in : Zm := (RX11, cX11_in, 3, (some .boolean), { frames := 0, cells := 0, slots := 0, locals := 0 })
theorem bk_X11_in_0 : ck_ fX11 (some .boolean) cX11_in 0 [.iload 0, .iload 1, .if_icmp .lt 14, .iload 0, .iload 2, .if_icmp .gt 14, .iconst 1, .goto 15] 14 = true := qck_r (nn_ _) (by decide +kernel)
theorem bs_X11_in_0 {P : Zt → Option Zv → Prop} (K : Int → Zl → List Zv → Zt → Prop) : sx_ K P [.iload 0, .iload 1, .if_icmp .lt 14, .iload 0, .iload 2, .if_icmp .gt 14, .iconst 1, .goto 15] 14 = x_iload 0 (x_iload 1 (x_if_icmp .lt 14 K (x_iload 0 (x_iload 2 (x_if_icmp .gt 14 K (x_iconst 1 (x_goto 15 K))))))) := ((xe_iload 0).trans (congrArg (x_iload 0) ((xe_iload 1).trans (congrArg (x_iload 1) ((xe_if_icmp .lt 14).trans (congrArg (x_if_icmp .lt 14 K) ((xe_iload 0).trans (congrArg (x_iload 0) ((xe_iload 2).trans (congrArg (x_iload 2) ((xe_if_icmp .gt 14).trans (congrArg (x_if_icmp .gt 14 K) ((xe_iconst 1).trans (congrArg (x_iconst 1) (xe_goto 15)))))))))))))))
theorem bk_X11_in_14 : ck_ fX11 (some .boolean) cX11_in 14 [.iconst 0, .ireturn] 16 = true := qck_r (nn_ _) (by decide +kernel)
theorem bs_X11_in_14 {P : Zt → Option Zv → Prop} (K : Int → Zl → List Zv → Zt → Prop) : sx_ K P [.iconst 0, .ireturn] 16 = x_iconst 0 (x_ireturn P) := ((xe_iconst 0).trans (congrArg (x_iconst 0) (xe_ireturn)))
theorem bk_X11_in_15 : ck_ fX11 (some .boolean) cX11_in 15 [.ireturn] 16 = true := qck_r (nn_ _) (by decide +kernel)
theorem bs_X11_in_15 {P : Zt → Option Zv → Prop} (K : Int → Zl → List Zv → Zt → Prop) : sx_ K P [.ireturn] 16 = x_ireturn P := (xe_ireturn)
abbrev po_X11_in (T : Zt) (v lo hi : Int) : Zt → Option Zv → Prop := fun T' r => T = T' ∧ ∃ x : Int, r = some (vI x) ∧ (x = 1 ∧ lo ≤ v ∧ v ≤ hi ∨ x = 0 ∧ ¬ (lo ≤ v ∧ v ≤ hi))
set_option maxHeartbeats 4000000 in
theorem ct_X11_in {T : Zt} {v lo hi : Int} : Ct_ yX11_in zX11_in T [vI v, vI lo, vI hi] (po_X11_in T v lo hi) := by
  refine ct_of pn_11 rfl rfl (Nat.le_of_ble_eq_true rfl) (fun hT hav => ?_)
  have hr_v : -2147483648 ≤ v ∧ v ≤ 2147483647 := hav (vI v) List.mem_cons_self
  have hr_lo : -2147483648 ≤ lo ∧ lo ≤ 2147483647 := hav (vI lo) (List.mem_cons_of_mem _ List.mem_cons_self)
  have hr_hi : -2147483648 ≤ hi ∧ hi ≤ 2147483647 := hav (vI hi) (List.mem_cons_of_mem _ (List.mem_cons_of_mem _ List.mem_cons_self))
  have hz : zX11_in.2.2.2.1 = some .boolean → ∀ (T' : Zt) (x : Int), po_X11_in T v lo hi T' (some (vI x)) → 0 ≤ x ∧ x ≤ 1 := fun _ T' x h => by obtain ⟨-, y, e, hy⟩ := h; cases e; omega
  show J_ zX11_in T (po_X11_in T v lo hi) 0 0 0 [some (vI v), some (vI lo), some (vI hi)] [] T
  refine j_blx (F := fX11) tb_X11 (nn_ _) bk_X11_in_0 bs_X11_in_0 hz (fun K hK => ?_)
  refine And.intro (fun c1 => ?_) (fun c1 => ?_)
  · refine hK 14 _ [] T ?_
    refine j_blx (F := fX11) tb_X11 (nn_ _) bk_X11_in_14 bs_X11_in_14 hz (fun K hK => ?_)
    refine (show po_X11_in T v lo hi T (some (vI 0)) from ?_)
    exact ⟨rfl, _, rfl, Or.inr ⟨rfl, by omega⟩⟩
  · refine And.intro (fun c2 => ?_) (fun c2 => ?_)
    · refine hK 14 _ [] T ?_
      refine j_blx (F := fX11) tb_X11 (nn_ _) bk_X11_in_14 bs_X11_in_14 hz (fun K hK => ?_)
      refine (show po_X11_in T v lo hi T (some (vI 0)) from ?_)
      exact ⟨rfl, _, rfl, Or.inr ⟨rfl, by omega⟩⟩
    · refine hK 15 _ [vI 1] T ?_
      refine j_blx (F := fX11) tb_X11 (nn_ _) bk_X11_in_15 bs_X11_in_15 hz (fun K hK => ?_)
      refine (show po_X11_in T v lo hi T (some (vI 1)) from ?_)
      exact ⟨rfl, _, rfl, Or.inl ⟨rfl, by omega⟩⟩
abbrev cX11_isOf : ByteArray := prog_13_method_4_code
def yX11_isOf : MethodName := ⟨RX11, "isOf", "(II)Z"⟩
def zX11_isOf : Zm := (RX11, cX11_isOf, 2, (some .boolean), { frames := 1, cells := 0, slots := 0, locals := 22 })
theorem bk_X11_isOf_0 : ck_ fX11 (some .boolean) cX11_isOf 0 [.iload 0, .iconst 0, .iload 1, .iconst 1, .isub] 5 = true := qck_r (nn_ _) (by decide +kernel)
theorem bs_X11_isOf_0 {P : Zt → Option Zv → Prop} (K : Int → Zl → List Zv → Zt → Prop) : sx_ K P [.iload 0, .iconst 0, .iload 1, .iconst 1, .isub] 5 = x_iload 0 (x_iconst 0 (x_iload 1 (x_iconst 1 (x_isub (K 5))))) := ((xe_iload 0).trans (congrArg (x_iload 0) ((xe_iconst 0).trans (congrArg (x_iconst 0) ((xe_iload 1).trans (congrArg (x_iload 1) ((xe_iconst 1).trans (congrArg (x_iconst 1) ((xe_isub).trans (congrArg (x_isub) xe_nil))))))))))
set_option maxRecDepth 100000 in
theorem cl_X11_255 : cs_ RX11 255 yX11_in zX11_in 3 := ⟨gi_S (lwq_8 (dqc_m (dqc_m (dqa_m (dqa_m (dqa_m (List.mem_of_getElem? (i := 7) rfl)))))) rfl : Cond.methodLink RX11 255 yX11_in ∈ lw_g) (lwq_8 (dqc_m (dqc_m (dqc_m (List.mem_of_getElem? (i := 0) rfl)))) rfl : Cond.static yX11_in ∈ lw_g) (lwq_1 (dqa_m (List.mem_of_getElem? (i := 2) rfl)) rfl : Cond.initialized yX11_in.cls ∈ lw_g) (lwq_8 (dqc_m (dqc_m (dqc_m (List.mem_of_getElem? (i := 1) rfl)))) rfl : Cond.code yX11_in cX11_in 3 (some .boolean) ∈ lw_g), ⟨by decide, by decide, by decide +kernel⟩⟩
theorem bk_X11_isOf_8 : ck_ fX11 (some .boolean) cX11_isOf 8 [.ireturn] 9 = true := qck_r (nn_ _) (by decide +kernel)
theorem bs_X11_isOf_8 {P : Zt → Option Zv → Prop} (K : Int → Zl → List Zv → Zt → Prop) : sx_ K P [.ireturn] 9 = x_ireturn P := (xe_ireturn)
abbrev po_X11_isOf (T : Zt) (v n : Int) : Zt → Option Zv → Prop := fun T' r => T = T' ∧ ∃ x : Int, r = some (vI x) ∧ (x = 1 ∧ 0 ≤ v ∧ v < n ∨ x = 0 ∧ ¬ (0 ≤ v ∧ v < n))
set_option maxHeartbeats 4000000 in
theorem ct_X11_isOf {T : Zt} {v n : Int} (hn : -1 ≤ n) : Ct_ yX11_isOf zX11_isOf T [vI v, vI n] (po_X11_isOf T v n) := by
  refine ct_of pn_11 rfl rfl (Nat.le_of_ble_eq_true rfl) (fun hT hav => ?_)
  have hr_v : -2147483648 ≤ v ∧ v ≤ 2147483647 := hav (vI v) List.mem_cons_self
  have hr_n : -2147483648 ≤ n ∧ n ≤ 2147483647 := hav (vI n) (List.mem_cons_of_mem _ List.mem_cons_self)
  have hz : zX11_isOf.2.2.2.1 = some .boolean → ∀ (T' : Zt) (x : Int), po_X11_isOf T v n T' (some (vI x)) → 0 ≤ x ∧ x ≤ 1 := fun _ T' x h => by obtain ⟨-, y, e, hy⟩ := h; cases e; omega
  show J_ zX11_isOf T (po_X11_isOf T v n) 0 0 0 [some (vI v), some (vI n)] [] T
  refine j_blx (F := fX11) tb_X11 (nn_ _) bk_X11_isOf_0 bs_X11_isOf_0 hz (fun K hK => ?_)
  refine rg_i (by omega) ?_
  refine hK 5 _ [vI (n - 1), vI 0, vI v] T ?_
  refine j_callS (y := yX11_in) (Yc := zX11_in) (rest := []) [vI v, vI 0, vI (n - 1)] (ct_X11_in (T := T)) cl_X11_255 (qd_c (by decide +kernel)) (nn_ _) rfl (rf_of rfl) (Nat.le_of_ble_eq_true rfl) (Nat.le_of_ble_eq_true rfl) (Nat.le_of_ble_eq_true rfl) rfl ?_
  rintro _ _ ⟨rfl, x1, rfl, hx1⟩
  show J_ zX11_isOf T (po_X11_isOf T v n) 0 0 8 _ [vI x1] T
  refine j_blx (F := fX11) tb_X11 (nn_ _) bk_X11_isOf_8 bs_X11_isOf_8 hz (fun K hK => ?_)
  refine (show po_X11_isOf T v n T (some (vI x1)) from ?_)
  exact ⟨rfl, _, rfl, by omega⟩
abbrev cX11_isLetter : ByteArray := prog_13_method_9_code
def yX11_isLetter : MethodName := ⟨RX11, "isLetter", "(I)Z"⟩
def zX11_isLetter : Zm := (RX11, cX11_isLetter, 1, (some .boolean), { frames := 1, cells := 0, slots := 0, locals := 22 })
theorem bk_X11_isLetter_0 : ck_ fX11 (some .boolean) cX11_isLetter 0 [.iload 0, .iconst 97, .iconst 122] 5 = true := qck_r (nn_ _) (by decide +kernel)
theorem bs_X11_isLetter_0 {P : Zt → Option Zv → Prop} (K : Int → Zl → List Zv → Zt → Prop) : sx_ K P [.iload 0, .iconst 97, .iconst 122] 5 = x_iload 0 (x_iconst 97 (x_iconst 122 (K 5))) := ((xe_iload 0).trans (congrArg (x_iload 0) ((xe_iconst 97).trans (congrArg (x_iconst 97) ((xe_iconst 122).trans (congrArg (x_iconst 122) xe_nil))))))
theorem bk_X11_isLetter_8 : ck_ fX11 (some .boolean) cX11_isLetter 8 [.ireturn] 9 = true := qck_r (nn_ _) (by decide +kernel)
theorem bs_X11_isLetter_8 {P : Zt → Option Zv → Prop} (K : Int → Zl → List Zv → Zt → Prop) : sx_ K P [.ireturn] 9 = x_ireturn P := (xe_ireturn)
abbrev po_X11_isLetter (T : Zt) (c : Int) : Zt → Option Zv → Prop := fun T' r => T = T' ∧ ∃ x : Int, r = some (vI x) ∧ (x = 1 ∧ 97 ≤ c ∧ c ≤ 122 ∨ x = 0 ∧ ¬ (97 ≤ c ∧ c ≤ 122))
set_option maxHeartbeats 4000000 in
theorem ct_X11_isLetter {T : Zt} {c : Int} : Ct_ yX11_isLetter zX11_isLetter T [vI c] (po_X11_isLetter T c) := by
  refine ct_of pn_11 rfl rfl (Nat.le_of_ble_eq_true rfl) (fun hT hav => ?_)
  have hr_c : -2147483648 ≤ c ∧ c ≤ 2147483647 := hav (vI c) List.mem_cons_self
  have hz : zX11_isLetter.2.2.2.1 = some .boolean → ∀ (T' : Zt) (x : Int), po_X11_isLetter T c T' (some (vI x)) → 0 ≤ x ∧ x ≤ 1 := fun _ T' x h => by obtain ⟨-, y, e, hy⟩ := h; cases e; omega
  show J_ zX11_isLetter T (po_X11_isLetter T c) 0 0 0 [some (vI c)] [] T
  refine j_blx (F := fX11) tb_X11 (nn_ _) bk_X11_isLetter_0 bs_X11_isLetter_0 hz (fun K hK => ?_)
  refine hK 5 _ [vI 122, vI 97, vI c] T ?_
  refine j_callS (y := yX11_in) (Yc := zX11_in) (rest := []) [vI c, vI 97, vI 122] (ct_X11_in (T := T)) cl_X11_255 (qd_c (by decide +kernel)) (nn_ _) rfl (rf_of rfl) (Nat.le_of_ble_eq_true rfl) (Nat.le_of_ble_eq_true rfl) (Nat.le_of_ble_eq_true rfl) rfl ?_
  rintro _ _ ⟨rfl, x1, rfl, hx1⟩
  show J_ zX11_isLetter T (po_X11_isLetter T c) 0 0 8 _ [vI x1] T
  refine j_blx (F := fX11) tb_X11 (nn_ _) bk_X11_isLetter_8 bs_X11_isLetter_8 hz (fun K hK => ?_)
  refine (show po_X11_isLetter T c T (some (vI x1)) from ?_)
  exact ⟨rfl, _, rfl, by omega⟩
abbrev cX11_isDigit : ByteArray := prog_13_method_10_code
def yX11_isDigit : MethodName := ⟨RX11, "isDigit", "(I)Z"⟩
def zX11_isDigit : Zm := (RX11, cX11_isDigit, 1, (some .boolean), { frames := 1, cells := 0, slots := 0, locals := 22 })
theorem bk_X11_isDigit_0 : ck_ fX11 (some .boolean) cX11_isDigit 0 [.iload 0, .iconst 48, .iconst 57] 5 = true := qck_r (nn_ _) (by decide +kernel)
theorem bs_X11_isDigit_0 {P : Zt → Option Zv → Prop} (K : Int → Zl → List Zv → Zt → Prop) : sx_ K P [.iload 0, .iconst 48, .iconst 57] 5 = x_iload 0 (x_iconst 48 (x_iconst 57 (K 5))) := ((xe_iload 0).trans (congrArg (x_iload 0) ((xe_iconst 48).trans (congrArg (x_iconst 48) ((xe_iconst 57).trans (congrArg (x_iconst 57) xe_nil))))))
theorem bk_X11_isDigit_8 : ck_ fX11 (some .boolean) cX11_isDigit 8 [.ireturn] 9 = true := qck_r (nn_ _) (by decide +kernel)
theorem bs_X11_isDigit_8 {P : Zt → Option Zv → Prop} (K : Int → Zl → List Zv → Zt → Prop) : sx_ K P [.ireturn] 9 = x_ireturn P := (xe_ireturn)
abbrev po_X11_isDigit (T : Zt) (c : Int) : Zt → Option Zv → Prop := fun T' r => T = T' ∧ ∃ x : Int, r = some (vI x) ∧ (x = 1 ∧ 48 ≤ c ∧ c ≤ 57 ∨ x = 0 ∧ ¬ (48 ≤ c ∧ c ≤ 57))
set_option maxHeartbeats 4000000 in
theorem ct_X11_isDigit {T : Zt} {c : Int} : Ct_ yX11_isDigit zX11_isDigit T [vI c] (po_X11_isDigit T c) := by
  refine ct_of pn_11 rfl rfl (Nat.le_of_ble_eq_true rfl) (fun hT hav => ?_)
  have hr_c : -2147483648 ≤ c ∧ c ≤ 2147483647 := hav (vI c) List.mem_cons_self
  have hz : zX11_isDigit.2.2.2.1 = some .boolean → ∀ (T' : Zt) (x : Int), po_X11_isDigit T c T' (some (vI x)) → 0 ≤ x ∧ x ≤ 1 := fun _ T' x h => by obtain ⟨-, y, e, hy⟩ := h; cases e; omega
  show J_ zX11_isDigit T (po_X11_isDigit T c) 0 0 0 [some (vI c)] [] T
  refine j_blx (F := fX11) tb_X11 (nn_ _) bk_X11_isDigit_0 bs_X11_isDigit_0 hz (fun K hK => ?_)
  refine hK 5 _ [vI 57, vI 48, vI c] T ?_
  refine j_callS (y := yX11_in) (Yc := zX11_in) (rest := []) [vI c, vI 48, vI 57] (ct_X11_in (T := T)) cl_X11_255 (qd_c (by decide +kernel)) (nn_ _) rfl (rf_of rfl) (Nat.le_of_ble_eq_true rfl) (Nat.le_of_ble_eq_true rfl) (Nat.le_of_ble_eq_true rfl) rfl ?_
  rintro _ _ ⟨rfl, x1, rfl, hx1⟩
  show J_ zX11_isDigit T (po_X11_isDigit T c) 0 0 8 _ [vI x1] T
  refine j_blx (F := fX11) tb_X11 (nn_ _) bk_X11_isDigit_8 bs_X11_isDigit_8 hz (fun K hK => ?_)
  refine (show po_X11_isDigit T c T (some (vI x1)) from ?_)
  exact ⟨rfl, _, rfl, by omega⟩
abbrev cX11_rule0 : ByteArray := prog_13_method_5_code
def yX11_rule0 : MethodName := ⟨RX11, "rule0", "(II)I"⟩
def zX11_rule0 : Zm := (RX11, cX11_rule0, 3, (some .int), { frames := 0, cells := 0, slots := 0, locals := 0 })
theorem bk_X11_rule0_0 : ck_ fX11 (some .int) cX11_rule0 0 [.aload 0, .tableswitch 0 11 5 #[], .iconst 23, .iload 1, .imul, .iload 2, .iadd, .iaload, .ireturn] 12 = true := qck_r (nn_ _) (by decide +kernel)
theorem bs_X11_rule0_0 {P : Zt → Option Zv → Prop} (K : Int → Zl → List Zv → Zt → Prop) : sx_ K P [.aload 0, .tableswitch 0 11 5 #[], .iconst 23, .iload 1, .imul, .iload 2, .iadd, .iaload, .ireturn] 12 = x_aload 0 (x_g1 111 205 (x_iconst 23 (x_iload 1 (x_imul (x_iload 2 (x_iadd (x_iaload (x_ireturn P)))))))) := ((xe_aload 0).trans (congrArg (x_aload 0) ((xe_g1 (kk := 111) rfl tl_11_5).trans (congrArg (x_g1 111 205) ((xe_iconst 23).trans (congrArg (x_iconst 23) ((xe_iload 1).trans (congrArg (x_iload 1) ((xe_imul).trans (congrArg (x_imul) ((xe_iload 2).trans (congrArg (x_iload 2) ((xe_iadd).trans (congrArg (x_iadd) ((xe_iaload).trans (congrArg (x_iaload) (xe_ireturn)))))))))))))))))
abbrev po_X11_rule0 (T : Zt) (c w : Int) : Zt → Option Zv → Prop := fun T' r => T = T' ∧ r = some (vI (T 205 0 (23 * c + w)))
set_option maxHeartbeats 4000000 in
theorem ct_X11_rule0 {T : Zt} {c w : Int} (h1 : 0 ≤ c ∧ c < 4) (h2 : 0 ≤ w ∧ w < 23) : Ct_ yX11_rule0 zX11_rule0 T [vR 111 0, vI c, vI w] (po_X11_rule0 T c w) := by
  refine ct_of pn_11 rfl rfl (Nat.le_of_ble_eq_true rfl) (fun hT hav => ?_)
  have hr_c : -2147483648 ≤ c ∧ c ≤ 2147483647 := hav (vI c) (List.mem_cons_of_mem _ List.mem_cons_self)
  have hr_w : -2147483648 ≤ w ∧ w ≤ 2147483647 := hav (vI w) (List.mem_cons_of_mem _ (List.mem_cons_of_mem _ List.mem_cons_self))
  have hz : zX11_rule0.2.2.2.1 = some .boolean → ∀ (T' : Zt) (x : Int), po_X11_rule0 T c w T' (some (vI x)) → 0 ≤ x ∧ x ≤ 1 := fun h => by cases h
  show J_ zX11_rule0 T (po_X11_rule0 T c w) 0 0 0 [some (vR 111 0), some (vI c), some (vI w)] [] T
  refine j_blx (F := fX11) tb_X11 (nn_ _) bk_X11_rule0_0 bs_X11_rule0_0 hz (fun K hK => ?_)
  refine rg_i (by omega) ?_
  refine rg_i (by omega) ?_
  refine ix_i (by omega) ?_
  intro b1 b1b
  refine (show po_X11_rule0 T c w T (some (vI (T 205 0 ((23 * c) + w)))) from ?_)
  exact ⟨rfl, rfl⟩
abbrev cX11_liveOf : ByteArray := prog_13_method_50_code
def yX11_liveOf : MethodName := ⟨RX11, "liveOf", "(II)I"⟩
def zX11_liveOf : Zm := (RX11, cX11_liveOf, 3, (some .int), { frames := 0, cells := 0, slots := 0, locals := 0 })
theorem bk_X11_liveOf_0 : ck_ fX11 (some .int) cX11_liveOf 0 [.aload 0, .tableswitch 0 11 46 #[], .iconst 8, .iload 1, .imul, .iload 2, .iadd, .iaload, .ireturn] 12 = true := qck_r (nn_ _) (by decide +kernel)
theorem bs_X11_liveOf_0 {P : Zt → Option Zv → Prop} (K : Int → Zl → List Zv → Zt → Prop) : sx_ K P [.aload 0, .tableswitch 0 11 46 #[], .iconst 8, .iload 1, .imul, .iload 2, .iadd, .iaload, .ireturn] 12 = x_aload 0 (x_g1 111 246 (x_iconst 8 (x_iload 1 (x_imul (x_iload 2 (x_iadd (x_iaload (x_ireturn P)))))))) := ((xe_aload 0).trans (congrArg (x_aload 0) ((xe_g1 (kk := 111) rfl tl_11_46).trans (congrArg (x_g1 111 246) ((xe_iconst 8).trans (congrArg (x_iconst 8) ((xe_iload 1).trans (congrArg (x_iload 1) ((xe_imul).trans (congrArg (x_imul) ((xe_iload 2).trans (congrArg (x_iload 2) ((xe_iadd).trans (congrArg (x_iadd) ((xe_iaload).trans (congrArg (x_iaload) (xe_ireturn)))))))))))))))))
abbrev po_X11_liveOf (T : Zt) (m k : Int) : Zt → Option Zv → Prop := fun T' r => T = T' ∧ r = some (vI (T 246 0 (8 * m + k)))
set_option maxHeartbeats 4000000 in
theorem ct_X11_liveOf {T : Zt} {m k : Int} (h1 : 0 ≤ m ∧ m < 400) (h2 : 0 ≤ k ∧ k < 8) : Ct_ yX11_liveOf zX11_liveOf T [vR 111 0, vI m, vI k] (po_X11_liveOf T m k) := by
  refine ct_of pn_11 rfl rfl (Nat.le_of_ble_eq_true rfl) (fun hT hav => ?_)
  have hr_m : -2147483648 ≤ m ∧ m ≤ 2147483647 := hav (vI m) (List.mem_cons_of_mem _ List.mem_cons_self)
  have hr_k : -2147483648 ≤ k ∧ k ≤ 2147483647 := hav (vI k) (List.mem_cons_of_mem _ (List.mem_cons_of_mem _ List.mem_cons_self))
  have hz : zX11_liveOf.2.2.2.1 = some .boolean → ∀ (T' : Zt) (x : Int), po_X11_liveOf T m k T' (some (vI x)) → 0 ≤ x ∧ x ≤ 1 := fun h => by cases h
  show J_ zX11_liveOf T (po_X11_liveOf T m k) 0 0 0 [some (vR 111 0), some (vI m), some (vI k)] [] T
  refine j_blx (F := fX11) tb_X11 (nn_ _) bk_X11_liveOf_0 bs_X11_liveOf_0 hz (fun K hK => ?_)
  refine rg_i (by omega) ?_
  refine rg_i (by omega) ?_
  refine ix_i (by omega) ?_
  intro b1 b1b
  refine (show po_X11_liveOf T m k T (some (vI (T 246 0 ((8 * m) + k)))) from ?_)
  exact ⟨rfl, rfl⟩
abbrev cX11_wipe : ByteArray := prog_13_method_7_code
def yX11_wipe : MethodName := ⟨RX11, "wipe", "()I"⟩
def zX11_wipe : Zm := (RX11, cX11_wipe, 2, (some .int), { frames := 0, cells := 0, slots := 0, locals := 0 })
theorem bk_X11_wipe_0 : ck_ fX11 (some .int) cX11_wipe 0 [.aload 0, .tableswitch 0 11 1 #[], .istore 1, .aload 0, .iconst 0, .tableswitch 1 11 1 #[], .iload 1, .ireturn] 12 = true := qck_r (nn_ _) (by decide +kernel)
theorem bs_X11_wipe_0 {P : Zt → Option Zv → Prop} (K : Int → Zl → List Zv → Zt → Prop) : sx_ K P [.aload 0, .tableswitch 0 11 1 #[], .istore 1, .aload 0, .iconst 0, .tableswitch 1 11 1 #[], .iload 1, .ireturn] 12 = x_aload 0 (x_g0 111 1 0 400 (x_istore 1 (x_aload 0 (x_iconst 0 (x_p 111 1 0 400 (x_iload 1 (x_ireturn P))))))) := ((xe_aload 0).trans (congrArg (x_aload 0) ((xe_g0 (kk := 111) rfl tl_11_1).trans (congrArg (x_g0 111 1 0 400) ((xe_istore 1).trans (congrArg (x_istore 1) ((xe_aload 0).trans (congrArg (x_aload 0) ((xe_iconst 0).trans (congrArg (x_iconst 0) ((xe_p (kk := 111) rfl tl_11_1).trans (congrArg (x_p 111 1 0 400) ((xe_iload 1).trans (congrArg (x_iload 1) (xe_ireturn)))))))))))))))
abbrev po_X11_wipe (T : Zt) : Zt → Option Zv → Prop := fun T' r => ∃ x : Int, r = some (vI x) ∧ fr_ [(111, [1])] T T' ∧ (T' 111 0 1 = 0 ∧ x = T 111 0 1)
set_option maxHeartbeats 4000000 in
theorem ct_X11_wipe {T : Zt} : Ct_ yX11_wipe zX11_wipe T [vR 111 0] (po_X11_wipe T) := by
  refine ct_of pn_11 rfl rfl (Nat.le_of_ble_eq_true rfl) (fun hT hav => ?_)
  have hz : zX11_wipe.2.2.2.1 = some .boolean → ∀ (T' : Zt) (x : Int), po_X11_wipe T T' (some (vI x)) → 0 ≤ x ∧ x ≤ 1 := fun h => by cases h
  show J_ zX11_wipe T (po_X11_wipe T) 0 0 0 [some (vR 111 0), none] [] T
  refine j_blx (F := fX11) tb_X11 (nn_ _) bk_X11_wipe_0 bs_X11_wipe_0 hz (fun K hK => ?_)
  intro b1 b1b
  refine bd_i (by omega) ?_
  refine x_nm (fun U2 hU2 => ?_)
  have e3 := up_f hU2
  refine (show po_X11_wipe T U2 (some (vI (T 111 0 1))) from ?_)
  have e4 : U2 111 0 1 = 0 := up_f hU2
  exact ⟨_, rfl, fr_u (fr_0 _ _) hU2 rfl, by exact ⟨by omega, rfl⟩⟩
abbrev cX11_sign : ByteArray := prog_13_method_6_code
def yX11_sign : MethodName := ⟨RX11, "sign", "(I)I"⟩
def zX11_sign : Zm := (RX11, cX11_sign, 2, (some .int), { frames := 1, cells := 0, slots := 0, locals := 22 })
abbrev po_X11_sign (T : Zt) (c : Int) : Zt → Option Zv → Prop := fun T' r => ∃ x : Int, r = some (vI x) ∧ fr_ [(111, [1]), (200, [])] T T' ∧ ((x = -3 ∧ T' 111 0 1 = T 111 0 1 ∧ ¬ (c = 10 ∨ 32 ≤ c ∧ c ≤ 126)) ∨ ((c = 10 ∨ 32 ≤ c ∧ c ≤ 126) ∧ (T 111 0 1 = 400 ∧ x = -5 ∧ T' 111 0 1 = 400 ∨ T 111 0 1 < 400 ∧ x = T 111 0 1 + 1 ∧ T' 111 0 1 = x)))
def wl_264 : List Int := [115, 112, 111, 114, 116, 32, 112, 111, 105, 110, 116, 115, 32, 111, 114, 100, 101, 114, 32, 114, 101, 100, 111, 32, 108, 101, 103, 115, 32, 101, 118, 101, 114, 121, 32, 114, 101, 115, 116, 32, 102, 105, 101, 108, 100, 32, 115, 117, 98, 115, 32, 116, 97, 114, 103, 101, 116, 32, 119, 97, 108, 107, 111, 118, 101, 114, 32, 99, 97, 114, 100, 115, 32, 114, 101, 100, 32, 115, 101, 101, 100, 32]
def wl_265 : List Int := [102, 111, 111, 116, 98, 97, 108, 108, 32, 118, 111, 108, 108, 101, 121, 98, 97, 108, 108, 32, 116, 101, 110, 110, 105, 115, 32, 98, 97, 115, 101, 98, 97, 108, 108, 32]
def wl_266 : List Int := [100, 105, 102, 102, 32, 115, 99, 111, 114, 101, 100, 32, 119, 105, 110, 115, 32, 97, 119, 97, 121, 32, 104, 101, 97, 100, 32, 102, 97, 105, 114, 32, 108, 111, 116, 115, 32]
def wl_267 : List Int := [1, 1, 1, 1, 0, 2, 1, 1, 1, 0]
def wl_268 : List Int := [4, 30, 9, 6, 5, 25, 9, 9, 9, 999]
/-- the reference's constant rows hold their words -/
def CW_ (T : Zt) : Prop := (∀ i : Int, 0 ≤ i → i < 82 → T 264 0 i = wl_264.getD i.toNat 0) ∧ (∀ i : Int, 0 ≤ i → i < 36 → T 265 0 i = wl_265.getD i.toNat 0) ∧ (∀ i : Int, 0 ≤ i → i < 37 → T 266 0 i = wl_266.getD i.toNat 0) ∧ (∀ i : Int, 0 ≤ i → i < 10 → T 267 0 i = wl_267.getD i.toNat 0) ∧ (∀ i : Int, 0 ≤ i → i < 10 → T 268 0 i = wl_268.getD i.toNat 0)
theorem CW_f {ws : List (Nat × List Int)} {T T' : Zt} (h : CW_ T) (f : fr_ ws T T') (w : (∀ j, fw_ ws 264 j = false) ∧ (∀ j, fw_ ws 265 j = false) ∧ (∀ j, fw_ ws 266 j = false) ∧ (∀ j, fw_ ws 267 j = false) ∧ (∀ j, fw_ ws 268 j = false)) : CW_ T' := ⟨fun i a b => (f 264 0 i (w.1 i)).trans (h.1 i a b), fun i a b => (f 265 0 i (w.2.1 i)).trans (h.2.1 i a b), fun i a b => (f 266 0 i (w.2.2.1 i)).trans (h.2.2.1 i a b), fun i a b => (f 267 0 i (w.2.2.2.1 i)).trans (h.2.2.2.1 i a b), fun i a b => (f 268 0 i (w.2.2.2.2 i)).trans (h.2.2.2.2 i a b)⟩
def ws_ok (w : List Int) (ts : List (Int × Int × Int)) : Bool := ts.all fun q => decide (0 ≤ q.1) && decide (q.1 ≤ q.2.2) && decide (q.2.2 < w.length) && ((List.range w.length).all fun i => if q.1 ≤ (i : Int) ∧ (i : Int) < q.2.2 then w.getD i 0 != 32 else true) && (w.getD q.2.2.toNat 0 == 32)
def wt_264 : List (Int × Int × Int) := [(0, 0, 5), (6, 1, 12), (13, 2, 18), (19, 3, 23), (24, 4, 28), (29, 5, 34), (35, 6, 39), (40, 7, 45), (46, 8, 50), (51, 9, 57), (58, 10, 66), (67, 11, 72), (73, 12, 76), (77, 13, 81)]
/-- at the start of word nr, or behind the last -/
def wp_264 (k nr : Int) : Prop := (∃ e, (k, nr, e) ∈ wt_264) ∨ (k = 82 ∧ nr = 14)
theorem wn_264 : ∀ q ∈ wt_264, 0 ≤ q.2.1 ∧ q.2.1 < 14 ∧ ((∃ e, (q.2.2 + 1, q.2.1 + 1, e) ∈ wt_264) ∨ (q.2.2 + 1 = 82 ∧ q.2.1 + 1 = 14)) := by
  have h : ∀ q ∈ wt_264, 0 ≤ q.2.1 ∧ q.2.1 < 14 ∧ ((wt_264.any fun z => z.1 == q.2.2 + 1 && z.2.1 == q.2.1 + 1) = true ∨ (q.2.2 + 1 = 82 ∧ q.2.1 + 1 = 14)) := by decide +kernel
  intro q hq
  refine ⟨(h q hq).1, (h q hq).2.1, (h q hq).2.2.imp (fun z => ?_) id⟩
  obtain ⟨⟨a, b, e⟩, h1, h2⟩ := List.any_eq_true.mp z
  simp only [Bool.and_eq_true, beq_iff_eq] at h2
  obtain ⟨rfl, rfl⟩ := h2
  exact ⟨e, h1⟩
theorem wc_264 : ws_ok wl_264 wt_264 = true := by decide +kernel
def wt_265 : List (Int × Int × Int) := [(0, 0, 8), (9, 1, 19), (20, 2, 26), (27, 3, 35)]
/-- at the start of word nr, or behind the last -/
def wp_265 (k nr : Int) : Prop := (∃ e, (k, nr, e) ∈ wt_265) ∨ (k = 36 ∧ nr = 4)
theorem wn_265 : ∀ q ∈ wt_265, 0 ≤ q.2.1 ∧ q.2.1 < 4 ∧ ((∃ e, (q.2.2 + 1, q.2.1 + 1, e) ∈ wt_265) ∨ (q.2.2 + 1 = 36 ∧ q.2.1 + 1 = 4)) := by
  have h : ∀ q ∈ wt_265, 0 ≤ q.2.1 ∧ q.2.1 < 4 ∧ ((wt_265.any fun z => z.1 == q.2.2 + 1 && z.2.1 == q.2.1 + 1) = true ∨ (q.2.2 + 1 = 36 ∧ q.2.1 + 1 = 4)) := by decide +kernel
  intro q hq
  refine ⟨(h q hq).1, (h q hq).2.1, (h q hq).2.2.imp (fun z => ?_) id⟩
  obtain ⟨⟨a, b, e⟩, h1, h2⟩ := List.any_eq_true.mp z
  simp only [Bool.and_eq_true, beq_iff_eq] at h2
  obtain ⟨rfl, rfl⟩ := h2
  exact ⟨e, h1⟩
theorem wc_265 : ws_ok wl_265 wt_265 = true := by decide +kernel
def wt_266 : List (Int × Int × Int) := [(0, 0, 4), (5, 1, 11), (12, 2, 16), (17, 3, 21), (22, 4, 26), (27, 5, 31), (32, 6, 36)]
/-- at the start of word nr, or behind the last -/
def wp_266 (k nr : Int) : Prop := (∃ e, (k, nr, e) ∈ wt_266) ∨ (k = 37 ∧ nr = 7)
theorem wn_266 : ∀ q ∈ wt_266, 0 ≤ q.2.1 ∧ q.2.1 < 7 ∧ ((∃ e, (q.2.2 + 1, q.2.1 + 1, e) ∈ wt_266) ∨ (q.2.2 + 1 = 37 ∧ q.2.1 + 1 = 7)) := by
  have h : ∀ q ∈ wt_266, 0 ≤ q.2.1 ∧ q.2.1 < 7 ∧ ((wt_266.any fun z => z.1 == q.2.2 + 1 && z.2.1 == q.2.1 + 1) = true ∨ (q.2.2 + 1 = 37 ∧ q.2.1 + 1 = 7)) := by decide +kernel
  intro q hq
  refine ⟨(h q hq).1, (h q hq).2.1, (h q hq).2.2.imp (fun z => ?_) id⟩
  obtain ⟨⟨a, b, e⟩, h1, h2⟩ := List.any_eq_true.mp z
  simp only [Bool.and_eq_true, beq_iff_eq] at h2
  obtain ⟨rfl, rfl⟩ := h2
  exact ⟨e, h1⟩
theorem wc_266 : ws_ok wl_266 wt_266 = true := by decide +kernel
abbrev cX11_bad : ByteArray := prog_13_method_8_code
def yX11_bad : MethodName := ⟨RX11, "bad", "(II)V"⟩
def zX11_bad : Zm := (RX11, cX11_bad, 3, none, { frames := 0, cells := 0, slots := 0, locals := 0 })
theorem bk_X11_bad_0 : ck_ fX11 none cX11_bad 0 [.aload 0, .tableswitch 0 11 62 #[], .ifCond .ne 17, .aload 0, .iload 1, .tableswitch 1 11 62 #[], .aload 0, .iload 2, .tableswitch 1 11 63 #[], .return_] 18 = true := qck_r (nn_ _) (by decide +kernel)
theorem bs_X11_bad_0 {P : Zt → Option Zv → Prop} (K : Int → Zl → List Zv → Zt → Prop) : sx_ K P [.aload 0, .tableswitch 0 11 62 #[], .ifCond .ne 17, .aload 0, .iload 1, .tableswitch 1 11 62 #[], .aload 0, .iload 2, .tableswitch 1 11 63 #[], .return_] 18 = x_aload 0 (x_g0 111 62 0 5 (x_ifCond .ne 17 K (x_aload 0 (x_iload 1 (x_p 111 62 0 5 (x_aload 0 (x_iload 2 (x_p 111 63 (-1) 400 (x_return_ P))))))))) := ((xe_aload 0).trans (congrArg (x_aload 0) ((xe_g0 (kk := 111) rfl tl_11_62).trans (congrArg (x_g0 111 62 0 5) ((xe_ifCond .ne 17).trans (congrArg (x_ifCond .ne 17 K) ((xe_aload 0).trans (congrArg (x_aload 0) ((xe_iload 1).trans (congrArg (x_iload 1) ((xe_p (kk := 111) rfl tl_11_62).trans (congrArg (x_p 111 62 0 5) ((xe_aload 0).trans (congrArg (x_aload 0) ((xe_iload 2).trans (congrArg (x_iload 2) ((xe_p (kk := 111) rfl tl_11_63).trans (congrArg (x_p 111 63 (-1) 400) (xe_return_)))))))))))))))))))
theorem bk_X11_bad_17 : ck_ fX11 none cX11_bad 17 [.return_] 18 = true := qck_r (nn_ _) (by decide +kernel)
theorem bs_X11_bad_17 {P : Zt → Option Zv → Prop} (K : Int → Zl → List Zv → Zt → Prop) : sx_ K P [.return_] 18 = x_return_ P := (xe_return_)
abbrev cX11_take : ByteArray := prog_13_method_11_code
def yX11_take : MethodName := ⟨RX11, "take", "()V"⟩
def zX11_take : Zm := (RX11, cX11_take, 2, none, { frames := 2, cells := 0, slots := 0, locals := 42 })
set_option maxRecDepth 100000 in
theorem cl_X11_281 : cv_ RX11 281 yX11_bad zX11_bad 11 2 := ⟨gi_V (lwq_8 (dqc_m (dqc_m (dqc_m (dqa_m (dqa_m (List.mem_of_getElem? (i := 5) rfl)))))) rfl : Cond.methodLink RX11 281 yX11_bad ∈ lw_g) (lwq_8 (dqc_m (dqc_m (dqc_m (dqa_m (dqa_m (List.mem_of_getElem? (i := 7) rfl)))))) rfl : Cond.instanceMethod yX11_bad ∈ lw_g) (lw_sel 7 rfl : Cond.selects yX11_bad.cls yX11_bad yX11_bad ∈ lw_g) (lwq_1 (dqa_m (List.mem_of_getElem? (i := 2) rfl)) rfl : Cond.initialized yX11_bad.cls ∈ lw_g) (lwq_8 (dqc_m (dqc_m (dqc_m (dqa_m (dqa_m (dqa_m (List.mem_of_getElem? (i := 0) rfl))))))) rfl : Cond.code yX11_bad cX11_bad 3 none ∈ lw_g), ⟨nmh_1.1, nmh_1.2, pdq_0⟩, ⟨_, _, rfl⟩⟩
set_option maxRecDepth 100000 in
theorem cl_X11_277 : cs_ RX11 277 yX11_isLetter zX11_isLetter 1 := ⟨gi_S (lwq_8 (dqc_m (dqc_m (dqc_m (dqa_m (dqa_m (List.mem_of_getElem? (i := 2) rfl)))))) rfl : Cond.methodLink RX11 277 yX11_isLetter ∈ lw_g) (lwq_8 (dqc_m (dqc_m (dqc_m (dqa_m (dqa_m (List.mem_of_getElem? (i := 3) rfl)))))) rfl : Cond.static yX11_isLetter ∈ lw_g) (lwq_1 (dqa_m (List.mem_of_getElem? (i := 2) rfl)) rfl : Cond.initialized yX11_isLetter.cls ∈ lw_g) (lwq_8 (dqc_m (dqc_m (dqc_m (dqa_m (dqa_m (List.mem_of_getElem? (i := 4) rfl)))))) rfl : Cond.code yX11_isLetter cX11_isLetter 1 (some .boolean) ∈ lw_g), ⟨by decide, by decide, by decide +kernel⟩⟩
set_option maxRecDepth 100000 in
theorem cl_X11_285 : cs_ RX11 285 yX11_isDigit zX11_isDigit 1 := ⟨gi_S (lwq_8 (dqc_m (dqc_m (dqc_m (dqa_m (dqa_m (dqa_m (List.mem_of_getElem? (i := 1) rfl))))))) rfl : Cond.methodLink RX11 285 yX11_isDigit ∈ lw_g) (lwq_8 (dqc_m (dqc_m (dqc_m (dqa_m (dqa_m (dqa_m (List.mem_of_getElem? (i := 2) rfl))))))) rfl : Cond.static yX11_isDigit ∈ lw_g) (lwq_1 (dqa_m (List.mem_of_getElem? (i := 2) rfl)) rfl : Cond.initialized yX11_isDigit.cls ∈ lw_g) (lwq_8 (dqc_m (dqc_m (dqc_m (dqa_m (dqa_m (dqa_m (List.mem_of_getElem? (i := 3) rfl))))))) rfl : Cond.code yX11_isDigit cX11_isDigit 1 (some .boolean) ∈ lw_g), ⟨by decide, by decide, by decide +kernel⟩⟩
-- whichOf over the row 264
abbrev cX11_whichOf : ByteArray := prog_13_method_12_code
def yX11_whichOf : MethodName := ⟨RX11, "whichOf", "([I)I"⟩
def zX11_whichOf : Zm := (RX11, cX11_whichOf, 7, (some .int), { frames := 0, cells := 0, slots := 0, locals := 0 })
theorem bk_X11_whichOf_7 : ck_ fX11 (some .int) cX11_whichOf 7 [.iload 4, .aload 1, .arraylength, .if_icmp .ge 126, .iconst 0, .istore 5, .iconst 1, .istore 6] 20 = true := qck_r (nn_ _) (by decide +kernel)
theorem bs_X11_whichOf_7 {P : Zt → Option Zv → Prop} (K : Int → Zl → List Zv → Zt → Prop) : sx_ K P [.iload 4, .aload 1, .arraylength, .if_icmp .ge 126, .iconst 0, .istore 5, .iconst 1, .istore 6] 20 = x_iload 4 (x_aload 1 (x_arraylength (x_if_icmp .ge 126 K (x_iconst 0 (x_istore 5 (x_iconst 1 (x_istore 6 (K 20)))))))) := ((xe_iload 4).trans (congrArg (x_iload 4) ((xe_aload 1).trans (congrArg (x_aload 1) ((xe_arraylength).trans (congrArg (x_arraylength) ((xe_if_icmp .ge 126).trans (congrArg (x_if_icmp .ge 126 K) ((xe_iconst 0).trans (congrArg (x_iconst 0) ((xe_istore 5).trans (congrArg (x_istore 5) ((xe_iconst 1).trans (congrArg (x_iconst 1) ((xe_istore 6).trans (congrArg (x_istore 6) xe_nil))))))))))))))))
theorem bk_X11_whichOf_126 : ck_ fX11 (some .int) cX11_whichOf 126 [.iload 2, .ireturn] 128 = true := qck_r (nn_ _) (by decide +kernel)
theorem bs_X11_whichOf_126 {P : Zt → Option Zv → Prop} (K : Int → Zl → List Zv → Zt → Prop) : sx_ K P [.iload 2, .ireturn] 128 = x_iload 2 (x_ireturn P) := ((xe_iload 2).trans (congrArg (x_iload 2) (xe_ireturn)))
theorem bk_X11_whichOf_78 : ck_ fX11 (some .int) cX11_whichOf 78 [.istore 6, .iinc 5 1, .goto 20] 86 = true := qck_r (nn_ _) (by decide +kernel)
theorem bs_X11_whichOf_78 {P : Zt → Option Zv → Prop} (K : Int → Zl → List Zv → Zt → Prop) : sx_ K P [.istore 6, .iinc 5 1, .goto 20] 86 = x_istore 6 (x_iinc 5 1 (x_goto 20 K)) := ((xe_istore 6).trans (congrArg (x_istore 6) ((xe_iinc 5 1).trans (congrArg (x_iinc 5 1) (xe_goto 20)))))
theorem bk_X11_whichOf_110 : ck_ fX11 (some .int) cX11_whichOf 110 [.istore 2, .iinc 3 1, .iload 4, .iload 5, .iconst 1, .iadd, .iadd, .istore 4, .goto 7] 126 = true := qck_r (nn_ _) (by decide +kernel)
theorem bs_X11_whichOf_110 {P : Zt → Option Zv → Prop} (K : Int → Zl → List Zv → Zt → Prop) : sx_ K P [.istore 2, .iinc 3 1, .iload 4, .iload 5, .iconst 1, .iadd, .iadd, .istore 4, .goto 7] 126 = x_istore 2 (x_iinc 3 1 (x_iload 4 (x_iload 5 (x_iconst 1 (x_iadd (x_iadd (x_istore 4 (x_goto 7 K)))))))) := ((xe_istore 2).trans (congrArg (x_istore 2) ((xe_iinc 3 1).trans (congrArg (x_iinc 3 1) ((xe_iload 4).trans (congrArg (x_iload 4) ((xe_iload 5).trans (congrArg (x_iload 5) ((xe_iconst 1).trans (congrArg (x_iconst 1) ((xe_iadd).trans (congrArg (x_iadd) ((xe_iadd).trans (congrArg (x_iadd) ((xe_istore 4).trans (congrArg (x_istore 4) (xe_goto 7)))))))))))))))))
theorem bk_X11_whichOf_20 : ck_ fX11 (some .int) cX11_whichOf 20 [.aload 1, .iload 4, .iload 5, .iadd, .iaload, .iconst 32, .if_icmp .eq 86, .iload 6, .ifCond .eq 77, .aload 0, .tableswitch 0 11 59 #[], .iload 5, .iadd, .aload 0, .tableswitch 0 11 60 #[], .if_icmp .ge 77, .aload 0, .tableswitch 0 11 0 #[], .aload 0, .tableswitch 0 11 59 #[], .iload 5, .iadd, .iaload, .aload 1, .iload 4, .iload 5, .iadd, .iaload, .if_icmp .ne 77, .iconst 1, .goto 78] 77 = true := qck_r (nn_ _) (by decide +kernel)
theorem bs_X11_whichOf_20 {P : Zt → Option Zv → Prop} (K : Int → Zl → List Zv → Zt → Prop) : sx_ K P [.aload 1, .iload 4, .iload 5, .iadd, .iaload, .iconst 32, .if_icmp .eq 86, .iload 6, .ifCond .eq 77, .aload 0, .tableswitch 0 11 59 #[], .iload 5, .iadd, .aload 0, .tableswitch 0 11 60 #[], .if_icmp .ge 77, .aload 0, .tableswitch 0 11 0 #[], .aload 0, .tableswitch 0 11 59 #[], .iload 5, .iadd, .iaload, .aload 1, .iload 4, .iload 5, .iadd, .iaload, .if_icmp .ne 77, .iconst 1, .goto 78] 77 = x_aload 1 (x_iload 4 (x_iload 5 (x_iadd (x_iaload (x_iconst 32 (x_if_icmp .eq 86 K (x_iload 6 (x_ifCond .eq 77 K (x_aload 0 (x_g0 111 59 0 400 (x_iload 5 (x_iadd (x_aload 0 (x_g0 111 60 0 400 (x_if_icmp .ge 77 K (x_aload 0 (x_g1 111 200 (x_aload 0 (x_g0 111 59 0 400 (x_iload 5 (x_iadd (x_iaload (x_aload 1 (x_iload 4 (x_iload 5 (x_iadd (x_iaload (x_if_icmp .ne 77 K (x_iconst 1 (x_goto 78 K)))))))))))))))))))))))))))))) := ((xe_aload 1).trans (congrArg (x_aload 1) ((xe_iload 4).trans (congrArg (x_iload 4) ((xe_iload 5).trans (congrArg (x_iload 5) ((xe_iadd).trans (congrArg (x_iadd) ((xe_iaload).trans (congrArg (x_iaload) ((xe_iconst 32).trans (congrArg (x_iconst 32) ((xe_if_icmp .eq 86).trans (congrArg (x_if_icmp .eq 86 K) ((xe_iload 6).trans (congrArg (x_iload 6) ((xe_ifCond .eq 77).trans (congrArg (x_ifCond .eq 77 K) ((xe_aload 0).trans (congrArg (x_aload 0) ((xe_g0 (kk := 111) rfl tl_11_59).trans (congrArg (x_g0 111 59 0 400) ((xe_iload 5).trans (congrArg (x_iload 5) ((xe_iadd).trans (congrArg (x_iadd) ((xe_aload 0).trans (congrArg (x_aload 0) ((xe_g0 (kk := 111) rfl tl_11_60).trans (congrArg (x_g0 111 60 0 400) ((xe_if_icmp .ge 77).trans (congrArg (x_if_icmp .ge 77 K) ((xe_aload 0).trans (congrArg (x_aload 0) ((xe_g1 (kk := 111) rfl tl_11_0).trans (congrArg (x_g1 111 200) ((xe_aload 0).trans (congrArg (x_aload 0) ((xe_g0 (kk := 111) rfl tl_11_59).trans (congrArg (x_g0 111 59 0 400) ((xe_iload 5).trans (congrArg (x_iload 5) ((xe_iadd).trans (congrArg (x_iadd) ((xe_iaload).trans (congrArg (x_iaload) ((xe_aload 1).trans (congrArg (x_aload 1) ((xe_iload 4).trans (congrArg (x_iload 4) ((xe_iload 5).trans (congrArg (x_iload 5) ((xe_iadd).trans (congrArg (x_iadd) ((xe_iaload).trans (congrArg (x_iaload) ((xe_if_icmp .ne 77).trans (congrArg (x_if_icmp .ne 77 K) ((xe_iconst 1).trans (congrArg (x_iconst 1) (xe_goto 78)))))))))))))))))))))))))))))))))))))))))))))))))))))))))))))
theorem bk_X11_whichOf_86 : ck_ fX11 (some .int) cX11_whichOf 86 [.iload 6, .ifCond .eq 109, .iload 5, .aload 0, .tableswitch 0 11 60 #[], .aload 0, .tableswitch 0 11 59 #[], .isub, .if_icmp .ne 109, .iload 3, .goto 110] 109 = true := qck_r (nn_ _) (by decide +kernel)
theorem bs_X11_whichOf_86 {P : Zt → Option Zv → Prop} (K : Int → Zl → List Zv → Zt → Prop) : sx_ K P [.iload 6, .ifCond .eq 109, .iload 5, .aload 0, .tableswitch 0 11 60 #[], .aload 0, .tableswitch 0 11 59 #[], .isub, .if_icmp .ne 109, .iload 3, .goto 110] 109 = x_iload 6 (x_ifCond .eq 109 K (x_iload 5 (x_aload 0 (x_g0 111 60 0 400 (x_aload 0 (x_g0 111 59 0 400 (x_isub (x_if_icmp .ne 109 K (x_iload 3 (x_goto 110 K)))))))))) := ((xe_iload 6).trans (congrArg (x_iload 6) ((xe_ifCond .eq 109).trans (congrArg (x_ifCond .eq 109 K) ((xe_iload 5).trans (congrArg (x_iload 5) ((xe_aload 0).trans (congrArg (x_aload 0) ((xe_g0 (kk := 111) rfl tl_11_60).trans (congrArg (x_g0 111 60 0 400) ((xe_aload 0).trans (congrArg (x_aload 0) ((xe_g0 (kk := 111) rfl tl_11_59).trans (congrArg (x_g0 111 59 0 400) ((xe_isub).trans (congrArg (x_isub) ((xe_if_icmp .ne 109).trans (congrArg (x_if_icmp .ne 109 K) ((xe_iload 3).trans (congrArg (x_iload 3) (xe_goto 110)))))))))))))))))))))
theorem bk_X11_whichOf_109 : ck_ fX11 (some .int) cX11_whichOf 109 [.iload 2] 110 = true := qck_r (nn_ _) (by decide +kernel)
theorem bs_X11_whichOf_109 {P : Zt → Option Zv → Prop} (K : Int → Zl → List Zv → Zt → Prop) : sx_ K P [.iload 2] 110 = x_iload 2 (K 110) := ((xe_iload 2).trans (congrArg (x_iload 2) xe_nil))
theorem bk_X11_whichOf_77 : ck_ fX11 (some .int) cX11_whichOf 77 [.iconst 0] 78 = true := qck_r (nn_ _) (by decide +kernel)
theorem bs_X11_whichOf_77 {P : Zt → Option Zv → Prop} (K : Int → Zl → List Zv → Zt → Prop) : sx_ K P [.iconst 0] 78 = x_iconst 0 (K 78) := ((xe_iconst 0).trans (congrArg (x_iconst 0) xe_nil))
theorem bk_X11_whichOf_0 : ck_ fX11 (some .int) cX11_whichOf 0 [.iconst (-1), .istore 2, .iconst 0, .istore 3, .iconst 0, .istore 4] 7 = true := qck_r (nn_ _) (by decide +kernel)
theorem bs_X11_whichOf_0 {P : Zt → Option Zv → Prop} (K : Int → Zl → List Zv → Zt → Prop) : sx_ K P [.iconst (-1), .istore 2, .iconst 0, .istore 3, .iconst 0, .istore 4] 7 = x_iconst (-1) (x_istore 2 (x_iconst 0 (x_istore 3 (x_iconst 0 (x_istore 4 (K 7)))))) := ((xe_iconst (-1)).trans (congrArg (x_iconst (-1)) ((xe_istore 2).trans (congrArg (x_istore 2) ((xe_iconst 0).trans (congrArg (x_iconst 0) ((xe_istore 3).trans (congrArg (x_istore 3) ((xe_iconst 0).trans (congrArg (x_iconst 0) ((xe_istore 4).trans (congrArg (x_istore 4) xe_nil))))))))))))
def rb_l : List (Int × Int) := [(0, 3), (0, 9), (0, 9), (0, 9), (0, 7), (0, 1), (1, 4), (1, 30), (1, 9), (1, 6), (0, 5), (2, 25), (1, 9), (1, 9), (1, 9), (0, 999), ((-1), 6), ((-1), 6), ((-1), 6), ((-1), 6), ((-1), 6), ((-1), 6), ((-1), 6)]
/-- the bounds of a rule -/
def rb_ (w : Int) : Int × Int := rb_l.getD w.toNat (-1, 999)
def RI_ (T : Zt) : Prop := ∀ c w : Int, 0 ≤ c → c < T 111 0 6 → 0 ≤ w → w < 23 → (rb_ w).1 ≤ T 205 0 (23 * c + w) ∧ T 205 0 (23 * c + w) ≤ (rb_ w).2
theorem RI__f {ws : List (Nat × List Int)} {T T' : Zt} (h : RI_ T) (f : fr_ ws T T') (w : (∀ j, fw_ ws 205 j = false) ∧ fw_ ws 111 6 = false ∧ True) : RI_ T' := by
  have e0 : ∀ i j, T' 205 i j = T 205 i j := fun i j => f 205 i j (w.1 j)
  have e1 : ∀ i, T' 111 i 6 = T 111 i 6 := fun i => f 111 i 6 w.2.1
  simp only [RI_, e0, e1] at h ⊢
  exact h
def RW_ (T : Zt) : Prop := ∀ c : Int, 0 ≤ c → c < T 111 0 6 → T 205 0 (23 * c + 2) ≤ T 205 0 (23 * c + 1) ∧ T 205 0 (23 * c + 3) ≤ T 205 0 (23 * c + 2)
theorem RW__f {ws : List (Nat × List Int)} {T T' : Zt} (h : RW_ T) (f : fr_ ws T T') (w : (∀ j, fw_ ws 205 j = false) ∧ fw_ ws 111 6 = false ∧ True) : RW_ T' := by
  have e0 : ∀ i j, T' 205 i j = T 205 i j := fun i j => f 205 i j (w.1 j)
  have e1 : ∀ i, T' 111 i 6 = T 111 i 6 := fun i => f 111 i 6 w.2.1
  simp only [RW_, e0, e1] at h ⊢
  exact h
theorem CX_f {ws : List (Nat × List Int)} {T T' : Zt} (h : CW_ T) (f : fr_ ws T T') (w : (∀ j, fw_ ws 264 j = false) ∧ (∀ j, fw_ ws 265 j = false) ∧ (∀ j, fw_ ws 266 j = false) ∧ (∀ j, fw_ ws 267 j = false) ∧ (∀ j, fw_ ws 268 j = false) ∧ True) : CW_ T' := CW_f h f ⟨w.1, w.2.1, w.2.2.1, w.2.2.2.1, w.2.2.2.2.1⟩
abbrev cX11_layDefaults : ByteArray := prog_13_method_13_code
def yX11_layDefaults : MethodName := ⟨RX11, "layDefaults", "()V"⟩
def zX11_layDefaults : Zm := (RX11, cX11_layDefaults, 2, none, { frames := 0, cells := 0, slots := 0, locals := 0 })
abbrev cX11_wantNumber : ByteArray := prog_13_method_14_code
def yX11_wantNumber : MethodName := ⟨RX11, "wantNumber", "(III)V"⟩
def zX11_wantNumber : Zm := (RX11, cX11_wantNumber, 4, none, { frames := 3, cells := 0, slots := 0, locals := 63 })
set_option maxRecDepth 100000 in
theorem cl_X11_291 : cv_ RX11 291 yX11_take zX11_take 11 0 := ⟨gi_V (lwq_8 (dqc_m (dqc_m (dqc_m (dqa_m (List.mem_of_getElem? (i := 6) rfl))))) rfl : Cond.methodLink RX11 291 yX11_take ∈ lw_g) (lwq_8 (dqc_m (dqc_m (dqc_m (dqa_m (dqa_m (List.mem_of_getElem? (i := 0) rfl)))))) rfl : Cond.instanceMethod yX11_take ∈ lw_g) (lw_sel 72 rfl : Cond.selects yX11_take.cls yX11_take yX11_take ∈ lw_g) (lwq_1 (dqa_m (List.mem_of_getElem? (i := 2) rfl)) rfl : Cond.initialized yX11_take.cls ∈ lw_g) (lwq_8 (dqc_m (dqc_m (dqc_m (dqa_m (dqa_m (List.mem_of_getElem? (i := 1) rfl)))))) rfl : Cond.code yX11_take cX11_take 2 none ∈ lw_g), ⟨nmh_1.1, nmh_1.2, pdq_1⟩, ⟨_, _, rfl⟩⟩
abbrev cX11_readSport : ByteArray := prog_13_method_15_code
def yX11_readSport : MethodName := ⟨RX11, "readSport", "()V"⟩
def zX11_readSport : Zm := (RX11, cX11_readSport, 2, none, { frames := 3, cells := 0, slots := 0, locals := 63 })
set_option maxRecDepth 100000 in
theorem cl_X11_294 : cv_ RX11 294 yX11_whichOf zX11_whichOf 11 1 := ⟨gi_V (lwq_8 (dqc_m (dqc_m (dqc_m (dqc_m (List.mem_of_getElem? (i := 0) rfl))))) rfl : Cond.methodLink RX11 294 yX11_whichOf ∈ lw_g) (lwq_8 (dqc_m (dqc_m (dqc_m (dqc_m (List.mem_of_getElem? (i := 2) rfl))))) rfl : Cond.instanceMethod yX11_whichOf ∈ lw_g) (lw_sel 79 rfl : Cond.selects yX11_whichOf.cls yX11_whichOf yX11_whichOf ∈ lw_g) (lwq_1 (dqa_m (List.mem_of_getElem? (i := 2) rfl)) rfl : Cond.initialized yX11_whichOf.cls ∈ lw_g) (lwq_8 (dqc_m (dqc_m (dqc_m (dqc_m (List.mem_of_getElem? (i := 3) rfl))))) rfl : Cond.code yX11_whichOf cX11_whichOf 7 (some .int) ∈ lw_g), ⟨nmh_1.1, nmh_1.2, pdq_2⟩, ⟨_, _, rfl⟩⟩
abbrev cX11_readOrder : ByteArray := prog_13_method_16_code
def yX11_readOrder : MethodName := ⟨RX11, "readOrder", "()V"⟩
def zX11_readOrder : Zm := (RX11, cX11_readOrder, 3, none, { frames := 3, cells := 0, slots := 0, locals := 63 })
abbrev cX11_readStatement : ByteArray := prog_13_method_17_code
def yX11_readStatement : MethodName := ⟨RX11, "readStatement", "()V"⟩
def zX11_readStatement : Zm := (RX11, cX11_readStatement, 2, none, { frames := 4, cells := 0, slots := 0, locals := 86 })
set_option maxRecDepth 100000 in
theorem cl_X11_304 : cv_ RX11 304 yX11_wantNumber zX11_wantNumber 11 3 := ⟨gi_V (lwq_8 (dqc_m (dqc_m (dqc_m (dqc_m (dqa_m (List.mem_of_getElem? (i := 4) rfl)))))) rfl : Cond.methodLink RX11 304 yX11_wantNumber ∈ lw_g) (lwq_8 (dqc_m (dqc_m (dqc_m (dqc_m (dqa_m (List.mem_of_getElem? (i := 6) rfl)))))) rfl : Cond.instanceMethod yX11_wantNumber ∈ lw_g) (lw_sel 78 rfl : Cond.selects yX11_wantNumber.cls yX11_wantNumber yX11_wantNumber ∈ lw_g) (lwq_1 (dqa_m (List.mem_of_getElem? (i := 2) rfl)) rfl : Cond.initialized yX11_wantNumber.cls ∈ lw_g) (lwq_8 (dqc_m (dqc_m (dqc_m (dqc_m (dqa_m (List.mem_of_getElem? (i := 7) rfl)))))) rfl : Cond.code yX11_wantNumber cX11_wantNumber 4 none ∈ lw_g), ⟨nmh_1.1, nmh_1.2, pdq_3⟩, ⟨_, _, rfl⟩⟩
set_option maxRecDepth 100000 in
theorem cl_X11_301 : cv_ RX11 301 yX11_readSport zX11_readSport 11 0 := ⟨gi_V (lwq_8 (dqc_m (dqc_m (dqc_m (dqc_m (dqa_m (List.mem_of_getElem? (i := 0) rfl)))))) rfl : Cond.methodLink RX11 301 yX11_readSport ∈ lw_g) (lwq_8 (dqc_m (dqc_m (dqc_m (dqc_m (dqa_m (List.mem_of_getElem? (i := 2) rfl)))))) rfl : Cond.instanceMethod yX11_readSport ∈ lw_g) (lw_sel 55 rfl : Cond.selects yX11_readSport.cls yX11_readSport yX11_readSport ∈ lw_g) (lwq_1 (dqa_m (List.mem_of_getElem? (i := 2) rfl)) rfl : Cond.initialized yX11_readSport.cls ∈ lw_g) (lwq_8 (dqc_m (dqc_m (dqc_m (dqc_m (dqa_m (List.mem_of_getElem? (i := 3) rfl)))))) rfl : Cond.code yX11_readSport cX11_readSport 2 none ∈ lw_g), ⟨nmh_1.1, nmh_1.2, pdq_1⟩, ⟨_, _, rfl⟩⟩
set_option maxRecDepth 100000 in
theorem cl_X11_298 : cv_ RX11 298 yX11_readOrder zX11_readOrder 11 0 := ⟨gi_V (lwq_8 (dqc_m (dqc_m (dqc_m (dqc_m (List.mem_of_getElem? (i := 4) rfl))))) rfl : Cond.methodLink RX11 298 yX11_readOrder ∈ lw_g) (lwq_8 (dqc_m (dqc_m (dqc_m (dqc_m (List.mem_of_getElem? (i := 6) rfl))))) rfl : Cond.instanceMethod yX11_readOrder ∈ lw_g) (lw_sel 54 rfl : Cond.selects yX11_readOrder.cls yX11_readOrder yX11_readOrder ∈ lw_g) (lwq_1 (dqa_m (List.mem_of_getElem? (i := 2) rfl)) rfl : Cond.initialized yX11_readOrder.cls ∈ lw_g) (lwq_8 (dqc_m (dqc_m (dqc_m (dqc_m (List.mem_of_getElem? (i := 7) rfl))))) rfl : Cond.code yX11_readOrder cX11_readOrder 3 none ∈ lw_g), ⟨nmh_1.1, nmh_1.2, pdq_1⟩, ⟨_, _, rfl⟩⟩
abbrev cX11_competition : ByteArray := prog_13_method_18_code
def yX11_competition : MethodName := ⟨RX11, "competition", "()I"⟩
def zX11_competition : Zm := (RX11, cX11_competition, 3, (some .int), { frames := 5, cells := 0, slots := 0, locals := 107 })
set_option maxRecDepth 100000 in
theorem cl_X11_314 : cv_ RX11 314 yX11_readStatement zX11_readStatement 11 0 := ⟨gi_V (lwq_8 (dqc_m (dqc_m (dqc_m (dqa_m (dqa_m (dqa_m (List.mem_of_getElem? (i := 4) rfl))))))) rfl : Cond.methodLink RX11 314 yX11_readStatement ∈ lw_g) (lwq_8 (dqc_m (dqc_m (dqc_m (dqa_m (dqa_m (dqa_m (List.mem_of_getElem? (i := 6) rfl))))))) rfl : Cond.instanceMethod yX11_readStatement ∈ lw_g) (lw_sel 56 rfl : Cond.selects yX11_readStatement.cls yX11_readStatement yX11_readStatement ∈ lw_g) (lwq_1 (dqa_m (List.mem_of_getElem? (i := 2) rfl)) rfl : Cond.initialized yX11_readStatement.cls ∈ lw_g) (lwq_8 (dqc_m (dqc_m (dqc_m (dqa_m (dqa_m (dqa_m (List.mem_of_getElem? (i := 7) rfl))))))) rfl : Cond.code yX11_readStatement cX11_readStatement 2 none ∈ lw_g), ⟨nmh_1.1, nmh_1.2, pdq_1⟩, ⟨_, _, rfl⟩⟩
set_option maxRecDepth 100000 in
theorem cl_X11_311 : cv_ RX11 311 yX11_layDefaults zX11_layDefaults 11 0 := ⟨gi_V (lwq_8 (dqc_m (dqc_m (dqc_m (dqa_m (List.mem_of_getElem? (i := 2) rfl))))) rfl : Cond.methodLink RX11 311 yX11_layDefaults ∈ lw_g) (lwq_8 (dqc_m (dqc_m (dqc_m (dqa_m (List.mem_of_getElem? (i := 4) rfl))))) rfl : Cond.instanceMethod yX11_layDefaults ∈ lw_g) (lw_sel 33 rfl : Cond.selects yX11_layDefaults.cls yX11_layDefaults yX11_layDefaults ∈ lw_g) (lwq_1 (dqa_m (List.mem_of_getElem? (i := 2) rfl)) rfl : Cond.initialized yX11_layDefaults.cls ∈ lw_g) (lwq_8 (dqc_m (dqc_m (dqc_m (dqa_m (List.mem_of_getElem? (i := 5) rfl))))) rfl : Cond.code yX11_layDefaults cX11_layDefaults 2 none ∈ lw_g), ⟨nmh_1.1, nmh_1.2, pdq_1⟩, ⟨_, _, rfl⟩⟩
abbrev cX11_fault : ByteArray := prog_13_method_19_code
def yX11_fault : MethodName := ⟨RX11, "fault", "()I"⟩
def zX11_fault : Zm := (RX11, cX11_fault, 1, (some .int), { frames := 0, cells := 0, slots := 0, locals := 0 })
abbrev cX11_rule : ByteArray := prog_13_method_20_code
def yX11_rule : MethodName := ⟨RX11, "rule", "(II)I"⟩
def zX11_rule : Zm := (RX11, cX11_rule, 3, (some .int), { frames := 2, cells := 0, slots := 0, locals := 43 })
set_option maxRecDepth 100000 in
theorem cl_X11_317 : cs_ RX11 317 yX11_isOf zX11_isOf 2 := ⟨gi_S (lwq_8 (dqc_m (dqc_m (dqc_m (dqc_m (dqa_m (dqa_m (dqa_m (List.mem_of_getElem? (i := 0) rfl)))))))) rfl : Cond.methodLink RX11 317 yX11_isOf ∈ lw_g) (lwq_8 (dqc_m (dqc_m (dqc_m (dqc_m (dqa_m (dqa_m (dqa_m (List.mem_of_getElem? (i := 1) rfl)))))))) rfl : Cond.static yX11_isOf ∈ lw_g) (lwq_1 (dqa_m (List.mem_of_getElem? (i := 2) rfl)) rfl : Cond.initialized yX11_isOf.cls ∈ lw_g) (lwq_8 (dqc_m (dqc_m (dqc_m (dqc_m (dqa_m (dqa_m (dqa_m (List.mem_of_getElem? (i := 2) rfl)))))))) rfl : Cond.code yX11_isOf cX11_isOf 2 (some .boolean) ∈ lw_g), ⟨by decide, by decide, by decide +kernel⟩⟩
set_option maxRecDepth 100000 in
theorem cl_X11_321 : cv_ RX11 321 yX11_rule0 zX11_rule0 11 2 := ⟨gi_V (lwq_8 (dqc_m (dqc_m (dqc_m (dqc_m (dqa_m (dqa_m (dqa_m (List.mem_of_getElem? (i := 3) rfl)))))))) rfl : Cond.methodLink RX11 321 yX11_rule0 ∈ lw_g) (lwq_8 (dqc_m (dqc_m (dqc_m (dqc_m (dqa_m (dqa_m (dqa_m (List.mem_of_getElem? (i := 5) rfl)))))))) rfl : Cond.instanceMethod yX11_rule0 ∈ lw_g) (lw_sel 59 rfl : Cond.selects yX11_rule0.cls yX11_rule0 yX11_rule0 ∈ lw_g) (lwq_1 (dqa_m (List.mem_of_getElem? (i := 2) rfl)) rfl : Cond.initialized yX11_rule0.cls ∈ lw_g) (lwq_8 (dqc_m (dqc_m (dqc_m (dqc_m (dqa_m (dqa_m (dqa_m (List.mem_of_getElem? (i := 6) rfl)))))))) rfl : Cond.code yX11_rule0 cX11_rule0 3 (some .int) ∈ lw_g), ⟨nmh_1.1, nmh_1.2, pdq_4⟩, ⟨_, _, rfl⟩⟩
