noncomputable def q1_ (P : Prop) (v : Nat) : Nat := @ite Nat P (Classical.propDecidable P) v 0
theorem q1_t {P : Prop} {v : Nat} (h : P) : q1_ P v = v := by unfold q1_; exact if_pos h
theorem q1_f {P : Prop} {v : Nat} (h : ¬ P) : q1_ P v = 0 := by unfold q1_; exact if_neg h
theorem q1_e {P Q : Prop} {v w : Nat} (h : P ↔ Q) (e : P → v = w) : q1_ P v = q1_ Q w := by
  by_cases p : P
  · rw [q1_t p, q1_t (h.mp p), e p]
  · rw [q1_f p, q1_f (fun q => p (h.mpr q))]
/-- a sum over the groups behind t that a condition names -/
noncomputable def qs_ (C : Int → Prop) (V : Int → Nat) (t : Int) : Nat := q1_ (t < 0 ∧ C 0) (V 0) + q1_ (t < 1 ∧ C 1) (V 1) + q1_ (t < 2 ∧ C 2) (V 2) + q1_ (t < 3 ∧ C 3) (V 3)
theorem qs_n {C : Int → Prop} {V : Int → Nat} {t : Int} (h : ∀ g, t < g → 0 ≤ g → g < 4 → ¬ C g) : qs_ C V t = 0 := by
  unfold qs_
  rw [q1_f (fun q => h 0 q.1 (by decide) (by decide) q.2), q1_f (fun q => h 1 q.1 (by decide) (by decide) q.2), q1_f (fun q => h 2 q.1 (by decide) (by decide) q.2), q1_f (fun q => h 3 q.1 (by decide) (by decide) q.2)]
theorem qs_f {C : Int → Prop} {V : Int → Nat} {t g : Int} (h0 : 0 ≤ g) (h4 : g < 4) (ht : t < g) (c : C g) (no : ∀ u, t < u → 0 ≤ u → u < g → ¬ C u) : qs_ C V t = V g + qs_ C V g := by
  have lo : ∀ u, 0 ≤ u → u < g → q1_ (t < u ∧ C u) (V u) = 0 := fun u a b => q1_f (fun q => no u q.1 a b q.2)
  have lo2 : ∀ u, u ≤ g → q1_ (g < u ∧ C u) (V u) = 0 := fun u b => q1_f (fun q => by omega)
  have hi : ∀ u, g < u → q1_ (t < u ∧ C u) (V u) = q1_ (g < u ∧ C u) (V u) := fun u b => q1_e ⟨fun q => ⟨b, q.2⟩, fun q => ⟨by omega, q.2⟩⟩ (fun _ => rfl)
  have me : q1_ (t < g ∧ C g) (V g) = V g := q1_t ⟨ht, c⟩
  unfold qs_
  rcases (by omega : g = 0 ∨ g = 1 ∨ g = 2 ∨ g = 3) with z | z | z | z
  · subst z; rw [me, lo2 0 (by decide), hi 1 (by decide), hi 2 (by decide), hi 3 (by decide)]; omega
  · subst z; rw [me, lo 0 (by decide) (by decide), lo2 0 (by decide), lo2 1 (by decide), hi 2 (by decide), hi 3 (by decide)]; omega
  · subst z; rw [me, lo 0 (by decide) (by decide), lo 1 (by decide) (by decide), lo2 0 (by decide), lo2 1 (by decide), lo2 2 (by decide), hi 3 (by decide)]; omega
  · subst z; rw [me, lo 0 (by decide) (by decide), lo 1 (by decide) (by decide), lo 2 (by decide) (by decide), lo2 0 (by decide), lo2 1 (by decide), lo2 2 (by decide), lo2 3 (by decide)]; omega
theorem qs_e {C C' : Int → Prop} {V V' : Int → Nat} {t : Int} (h : ∀ g, 0 ≤ g → g < 4 → (C g ↔ C' g)) (hv : ∀ g, 0 ≤ g → g < 4 → C g → V g = V' g) : qs_ C V t = qs_ C' V' t := by
  have e : ∀ g, 0 ≤ g → g < 4 → q1_ (t < g ∧ C g) (V g) = q1_ (t < g ∧ C' g) (V' g) := fun g a b => q1_e ⟨fun q => ⟨q.1, (h g a b).mp q.2⟩, fun q => ⟨q.1, (h g a b).mpr q.2⟩⟩ (fun q => hv g a b q.2)
  unfold qs_
  rw [e 0 (by decide) (by decide), e 1 (by decide) (by decide), e 2 (by decide) (by decide), e 3 (by decide) (by decide)]
theorem q1_z {P : Prop} : q1_ P 0 = 0 := by
  by_cases p : P
  · exact q1_t p
  · exact q1_f p
theorem qs_1 {C : Int → Prop} {V : Int → Nat} {h : Int} (a : 0 ≤ h) (b : h < 4) : qs_ (fun g => g = h ∧ C g) V (-1) = qs_ (fun g => C g) (fun g => if g = h then V g else 0) (-1) := by
  have e : ∀ g, q1_ ((-1 : Int) < g ∧ g = h ∧ C g) (V g) = q1_ ((-1 : Int) < g ∧ C g) (if g = h then V g else 0) := fun g => by
    by_cases z : g = h
    · rw [if_pos z]; exact q1_e ⟨fun q => ⟨q.1, q.2.2⟩, fun q => ⟨q.1, z, q.2⟩⟩ (fun _ => rfl)
    · rw [if_neg z, q1_z]; exact q1_f (fun q => z q.2.1)
  unfold qs_
  rw [e 0, e 1, e 2, e 3]
theorem qs_a {C : Int → Prop} {V W : Int → Nat} {t : Int} : qs_ C (fun g => V g + W g) t = qs_ C V t + qs_ C W t := by
  have e : ∀ g, q1_ (t < g ∧ C g) (V g + W g) = q1_ (t < g ∧ C g) (V g) + q1_ (t < g ∧ C g) (W g) := fun g => by
    by_cases z : t < g ∧ C g
    · rw [q1_t z, q1_t z, q1_t z]
    · rw [q1_f z, q1_f z, q1_f z]
  unfold qs_
  rw [e 0, e 1, e 2, e 3]; omega
theorem qs_b {C F : Int → Prop} {V : Int → Nat} {M : Nat} (h : ∀ g, 0 ≤ g → g < 4 → C g → F g ∧ V g ≤ M) : qs_ C V (-1) ≤ qs_ F (fun _ => 1) (-1) * M := by
  have e : ∀ g : Int, 0 ≤ g → g < 4 → q1_ ((-1 : Int) < g ∧ C g) (V g) ≤ q1_ ((-1 : Int) < g ∧ F g) 1 * M := fun g a b => by
    by_cases c : C g
    · have := h g a b c
      rw [q1_t ⟨by omega, c⟩, q1_t ⟨by omega, this.1⟩]; omega
    · rw [q1_f (fun q => c q.2)]; omega
  have a0 := e 0 (by decide) (by decide)
  have a1 := e 1 (by decide) (by decide)
  have a2 := e 2 (by decide) (by decide)
  have a3 := e 3 (by decide) (by decide)
  unfold qs_
  rw [Nat.add_mul, Nat.add_mul, Nat.add_mul]
  exact Nat.add_le_add (Nat.add_le_add (Nat.add_le_add a0 a1) a2) a3
/-- one place changed -/
def fu_ (f : Int → Int) (x g : Int) : Int → Int := fun k => if k = x then g else f k
/-- how many in the group, of the clubs below k, are of the club's country -/
def alk_ (E C f : Int → Int) (x g : Int) : Nat → Int
  | 0 => 0
  | k + 1 => alk_ E C f x g k + (if (k : Int) ≠ x ∧ E k ≠ -1 ∧ f k = g ∧ C k = C x then 1 else 0)
/-- a draw: pots, countries, how many clubs, groups, the limit -/
abbrev Dr_ : Type := (Int → Int) × (Int → Int) × Int × Int × Int
def Dr_.E (d : Dr_) : Int → Int := d.1
def Dr_.C (d : Dr_) : Int → Int := d.2.1
def Dr_.n (d : Dr_) : Int := d.2.2.1
def Dr_.G (d : Dr_) : Int := d.2.2.2.1
def Dr_.L (d : Dr_) : Int := d.2.2.2.2
def ms_ (d : Dr_) (f : Int → Int) (x g : Int) : Prop := (∀ k, 0 ≤ k → k < d.n → k ≠ x → d.E k ≠ -1 → f k = g → d.E k ≠ d.E x) ∧ alk_ d.E d.C f x g d.n.toNat < d.L
def ok_ (d : Dr_) (fx gp : Int) (f : Int → Int) (x g : Int) : Prop := g < d.G ∧ (x = fx → g = gp) ∧ ms_ d f x g
/-- the ways to place the clubs of a list -/
noncomputable def nw_ (d : Dr_) (fx gp : Int) : List Int → (Int → Int) → Nat
  | [], _ => 1
  | x :: l, f => qs_ (ok_ d fx gp f x) (fun g => nw_ d fx gp l (fu_ f x g)) (-1)
theorem nw_o {d : Dr_} {c g : Int} : ∀ (l : List Int) (f : Int → Int), (∀ x ∈ l, x ≠ c ∧ x ≠ -1) → nw_ d c g l f = nw_ d (-1) (-1) l f
  | [], _, _ => rfl
  | x :: l, f, h => by
      have hx := h x List.mem_cons_self
      unfold nw_
      exact qs_e (fun u _ _ => ⟨fun q => ⟨q.1, fun z => absurd z hx.2, q.2.2⟩, fun q => ⟨q.1, fun z => absurd z hx.1, q.2.2⟩⟩) (fun u _ _ _ => nw_o l _ (fun y hy => h y (List.mem_cons_of_mem _ hy)))
/-- the ways, by where one club goes -/
theorem nw_s {d : Dr_} {c : Int} (hc : c ≠ -1) : ∀ (l : List Int) (f : Int → Int), c ∈ l → l.Nodup → (∀ x ∈ l, x ≠ -1) → nw_ d c 0 l f + nw_ d c 1 l f + nw_ d c 2 l f + nw_ d c 3 l f = nw_ d (-1) (-1) l f
  | [], _, h, _, _ => absurd h List.not_mem_nil
  | x :: l, f, h, nd, hn => by
      have hx := hn x List.mem_cons_self
      rw [List.nodup_cons] at nd
      by_cases z : x = c
      · subst z
        have o : ∀ g f', nw_ d x g l f' = nw_ d (-1) (-1) l f' := fun g f' => nw_o l f' (fun y hy => ⟨fun e => nd.1 (e ▸ hy), hn y (List.mem_cons_of_mem _ hy)⟩)
        have e : ∀ g, 0 ≤ g → g < 4 → nw_ d x g (x :: l) f = qs_ (ok_ d (-1) (-1) f x) (fun u => if u = g then nw_ d (-1) (-1) l (fu_ f x u) else 0) (-1) := fun g a b => by
          show qs_ (ok_ d x g f x) (fun u => nw_ d x g l (fu_ f x u)) (-1) = _
          rw [← qs_1 a b]
          exact qs_e (fun u _ _ => ⟨fun q => ⟨q.2.1 rfl, q.1, fun z => absurd z hx, q.2.2⟩, fun q => ⟨q.2.1, fun _ => q.1, q.2.2.2⟩⟩) (fun u _ _ _ => o g _)
        rw [e 0 (by decide) (by decide), e 1 (by decide) (by decide), e 2 (by decide) (by decide), e 3 (by decide) (by decide), ← qs_a, ← qs_a, ← qs_a]
        show _ = qs_ (ok_ d (-1) (-1) f x) (fun u => nw_ d (-1) (-1) l (fu_ f x u)) (-1)
        refine qs_e (fun _ _ _ => Iff.rfl) (fun u a b _ => ?_)
        rcases (by omega : u = 0 ∨ u = 1 ∨ u = 2 ∨ u = 3) with z | z | z | z <;> subst z <;> simp
      · have hcl : c ∈ l := by
          rcases List.mem_cons.mp h with q | q
          · exact absurd q.symm z
          · exact q
        have e : ∀ g, nw_ d c g (x :: l) f = qs_ (ok_ d (-1) (-1) f x) (fun u => nw_ d c g l (fu_ f x u)) (-1) := fun g =>
          qs_e (fun u _ _ => ⟨fun q => ⟨q.1, fun z => absurd z hx, q.2.2⟩, fun q => ⟨q.1, fun y => absurd y z, q.2.2⟩⟩) (fun _ _ _ _ => rfl)
        rw [e 0, e 1, e 2, e 3, ← qs_a, ← qs_a, ← qs_a]
        exact qs_e (fun _ _ _ => Iff.rfl) (fun u _ _ _ => nw_s hc l _ hcl nd.2 (fun y hy => hn y (List.mem_cons_of_mem _ hy)))
def fc_ : Nat → Nat
  | 0 => 1
  | n + 1 => (n + 1) * fc_ n
theorem fc_p : ∀ n, 1 ≤ fc_ n
  | 0 => Nat.le_refl 1
  | n + 1 => Nat.mul_pos (Nat.succ_pos n) (fc_p n)
theorem fc_m {a b : Nat} (h : a ≤ b) : fc_ a ≤ fc_ b := by
  induction b with
  | zero => rw [show a = 0 by omega]; exact Nat.le_refl _
  | succ b i =>
    by_cases z : a = b + 1
    · rw [z]; exact Nat.le_refl _
    · exact Nat.le_trans (i (by omega)) (Nat.le_mul_of_pos_left _ (Nat.succ_pos b))
/-- how many groups have no club of pot p -/
noncomputable def ff_ (d : Dr_) (f : Int → Int) (p : Int) : Nat := qs_ (fun g => ∀ k, 0 ≤ k → k < d.n → d.E k = p → f k ≠ g) (fun _ => 1) (-1)
theorem q1_1 {P : Prop} : q1_ P 1 ≤ 1 := by
  by_cases p : P
  · rw [q1_t p]; exact Nat.le_refl _
  · rw [q1_f p]; exact Nat.zero_le _
theorem ff_4 (d : Dr_) (f : Int → Int) (p : Int) : ff_ d f p ≤ 4 := by
  unfold ff_ qs_
  exact Nat.add_le_add (Nat.add_le_add (Nat.add_le_add q1_1 q1_1) q1_1) q1_1
theorem ff_o {d : Dr_} {f : Int → Int} {x g p : Int} (h : d.E x ≠ p) : ff_ d (fu_ f x g) p = ff_ d f p := by
  unfold ff_
  refine qs_e (fun u _ _ => ?_) (fun _ _ _ _ => rfl)
  have e : ∀ k, d.E k = p → fu_ f x g k = f k := fun k hk => by
    unfold fu_; rw [if_neg (fun z => h (by rw [← z]; exact hk))]
  exact ⟨fun q k a b c => e k c ▸ q k a b c, fun q k a b c => by rw [e k c]; exact q k a b c⟩
theorem ff_s {d : Dr_} {f : Int → Int} {x g : Int} (hx : 0 ≤ x ∧ x < d.n) (hf : f x = -1) (h0 : 0 ≤ g) (h4 : g < 4) (fr : ∀ k, 0 ≤ k → k < d.n → d.E k = d.E x → f k ≠ g) : ff_ d (fu_ f x g) (d.E x) + 1 ≤ ff_ d f (d.E x) := by
  have ex : fu_ f x g x = g := by unfold fu_; rw [if_pos rfl]
  have e : ∀ u, 0 ≤ u → ((∀ k, 0 ≤ k → k < d.n → d.E k = d.E x → fu_ f x g k ≠ u) ↔ (u ≠ g ∧ ∀ k, 0 ≤ k → k < d.n → d.E k = d.E x → f k ≠ u)) := fun u hu => by
    constructor
    · intro q
      refine ⟨fun z => q x hx.1 hx.2 rfl (ex.trans z.symm), fun k a b c => ?_⟩
      by_cases y : k = x
      · rw [y, hf]; omega
      · have := q k a b c
        unfold fu_ at this
        rw [if_neg y] at this
        exact this
    · intro q k a b c
      by_cases y : k = x
      · rw [y, ex]; exact fun z => q.1 z.symm
      · unfold fu_; rw [if_neg y]; exact q.2 k a b c
  have k : ∀ u, 0 ≤ u → u < 4 → q1_ ((-1 : Int) < u ∧ ∀ k, 0 ≤ k → k < d.n → d.E k = d.E x → fu_ f x g k ≠ u) 1 + (if u = g then 1 else 0) ≤ q1_ ((-1 : Int) < u ∧ ∀ k, 0 ≤ k → k < d.n → d.E k = d.E x → f k ≠ u) 1 := fun u a b => by
    by_cases z : u = g
    · rw [if_pos z, q1_f (fun q => ((e u a).mp q.2).1 z), q1_t ⟨by omega, z ▸ fr⟩]; exact Nat.le_refl _
    · rw [if_neg z]
      refine Nat.le_of_eq (q1_e ⟨fun q => ⟨q.1, ((e u a).mp q.2).2⟩, fun q => ⟨q.1, (e u a).mpr ⟨z, q.2⟩⟩⟩ (fun _ => rfl))
  have k0 := k 0 (by decide) (by decide)
  have k1 := k 1 (by decide) (by decide)
  have k2 := k 2 (by decide) (by decide)
  have k3 := k 3 (by decide) (by decide)
  unfold ff_ qs_
  dsimp only
  rcases (by omega : g = 0 ∨ g = 1 ∨ g = 2 ∨ g = 3) with z | z | z | z <;> rw [z] at k0 k1 k2 k3 ⊢ <;> simp only [if_true, if_false, Nat.add_zero, show ((0 : Int) = 1) = False by simp, show ((0 : Int) = 2) = False by simp, show ((0 : Int) = 3) = False by simp, show ((1 : Int) = 0) = False by simp, show ((1 : Int) = 2) = False by simp, show ((1 : Int) = 3) = False by simp, show ((2 : Int) = 0) = False by simp, show ((2 : Int) = 1) = False by simp, show ((2 : Int) = 3) = False by simp, show ((3 : Int) = 0) = False by simp, show ((3 : Int) = 1) = False by simp, show ((3 : Int) = 2) = False by simp] at k0 k1 k2 k3 <;> omega
theorem nw_b {d : Dr_} {fx gp : Int} : ∀ (l : List Int) (f : Int → Int), l.Nodup → (∀ x ∈ l, 0 ≤ x ∧ x < d.n ∧ f x = -1 ∧ 0 ≤ d.E x ∧ d.E x ≤ 2) → nw_ d fx gp l f ≤ fc_ (ff_ d f 0) * fc_ (ff_ d f 1) * fc_ (ff_ d f 2)
  | [], f, _, _ => by
      show 1 ≤ _
      exact Nat.mul_pos (Nat.mul_pos (fc_p _) (fc_p _)) (fc_p _)
  | x :: l, f, nd, h => by
      have hx := h x List.mem_cons_self
      rw [List.nodup_cons] at nd
      have ih : ∀ g, nw_ d fx gp l (fu_ f x g) ≤ fc_ (ff_ d (fu_ f x g) 0) * fc_ (ff_ d (fu_ f x g) 1) * fc_ (ff_ d (fu_ f x g) 2) := fun g => nw_b l _ nd.2 (fun y hy => by
        have q := h y (List.mem_cons_of_mem _ hy)
        refine ⟨q.1, q.2.1, ?_, q.2.2.2⟩
        unfold fu_; rw [if_neg (fun z => nd.1 (by rw [← z]; exact hy))]; exact q.2.2.1)
      have fr : ∀ g, 0 ≤ g → ok_ d fx gp f x g → ∀ k, 0 ≤ k → k < d.n → d.E k = d.E x → f k ≠ g := fun g hg q k a b c => by
        by_cases y : k = x
        · rw [y, hx.2.2.1]; omega
        · exact fun z => q.2.2.1 k a b y (by omega) z c
      show qs_ (ok_ d fx gp f x) _ (-1) ≤ _
      rcases (by omega : d.E x = 0 ∨ d.E x = 1 ∨ d.E x = 2) with z | z | z
      · refine Nat.le_trans (qs_b (F := fun g => ∀ k, 0 ≤ k → k < d.n → d.E k = d.E x → f k ≠ g) (M := fc_ (ff_ d f 0 - 1) * fc_ (ff_ d f 1) * fc_ (ff_ d f 2)) (fun g a b c => ⟨fr g a c, ?_⟩)) ?_
        · refine Nat.le_trans (ih g) ?_
          rw [ff_o (by omega : d.E x ≠ 1), ff_o (by omega : d.E x ≠ 2)]
          have s := ff_s (d := d) (f := f) (x := x) (g := g) ⟨hx.1, hx.2.1⟩ hx.2.2.1 a b (fr g a c)
          rw [z] at s
          exact Nat.mul_le_mul_right _ (Nat.mul_le_mul_right _ (fc_m (by omega)))
        · rw [z]
          show ff_ d f 0 * _ ≤ _
          rw [← Nat.mul_assoc, ← Nat.mul_assoc]
          refine Nat.mul_le_mul_right _ (Nat.mul_le_mul_right _ ?_)
          cases ff_ d f 0 with
          | zero => rw [Nat.zero_mul]; exact Nat.zero_le _
          | succ m => exact Nat.le_refl _
      · refine Nat.le_trans (qs_b (F := fun g => ∀ k, 0 ≤ k → k < d.n → d.E k = d.E x → f k ≠ g) (M := fc_ (ff_ d f 0) * fc_ (ff_ d f 1 - 1) * fc_ (ff_ d f 2)) (fun g a b c => ⟨fr g a c, ?_⟩)) ?_
        · refine Nat.le_trans (ih g) ?_
          rw [ff_o (by omega : d.E x ≠ 0), ff_o (by omega : d.E x ≠ 2)]
          have s := ff_s (d := d) (f := f) (x := x) (g := g) ⟨hx.1, hx.2.1⟩ hx.2.2.1 a b (fr g a c)
          rw [z] at s
          exact Nat.mul_le_mul_right _ (Nat.mul_le_mul_left _ (fc_m (by omega)))
        · rw [z]
          show ff_ d f 1 * _ ≤ _
          rw [← Nat.mul_assoc, Nat.mul_left_comm]
          refine Nat.mul_le_mul_right _ (Nat.mul_le_mul_left _ ?_)
          cases ff_ d f 1 with
          | zero => rw [Nat.zero_mul]; exact Nat.zero_le _
          | succ m => exact Nat.le_refl _
      · refine Nat.le_trans (qs_b (F := fun g => ∀ k, 0 ≤ k → k < d.n → d.E k = d.E x → f k ≠ g) (M := fc_ (ff_ d f 0) * fc_ (ff_ d f 1) * fc_ (ff_ d f 2 - 1)) (fun g a b c => ⟨fr g a c, ?_⟩)) ?_
        · refine Nat.le_trans (ih g) ?_
          rw [ff_o (by omega : d.E x ≠ 0), ff_o (by omega : d.E x ≠ 1)]
          have s := ff_s (d := d) (f := f) (x := x) (g := g) ⟨hx.1, hx.2.1⟩ hx.2.2.1 a b (fr g a c)
          rw [z] at s
          exact Nat.mul_le_mul_left _ (fc_m (by omega))
        · rw [z]
          show ff_ d f 2 * _ ≤ _
          rw [Nat.mul_left_comm]
          refine Nat.mul_le_mul_left _ ?_
          cases ff_ d f 2 with
          | zero => rw [Nat.zero_mul]; exact Nat.zero_le _
          | succ m => exact Nat.le_refl _
theorem nw_m {d : Dr_} {fx gp : Int} {l : List Int} {f : Int → Int} (nd : l.Nodup) (h : ∀ x ∈ l, 0 ≤ x ∧ x < d.n ∧ f x = -1 ∧ 0 ≤ d.E x ∧ d.E x ≤ 2) : nw_ d fx gp l f ≤ 13824 := by
  refine Nat.le_trans (nw_b l f nd h) ?_
  have e : ∀ p, fc_ (ff_ d f p) ≤ 24 := fun p => fc_m (ff_4 d f p)
  exact Nat.mul_le_mul (Nat.mul_le_mul (e 0) (e 1)) (e 2)
noncomputable def pr_ (d : Dr_) (fx gp : Int) (l : List Int) (f : Int → Int) (x t : Int) : Nat := qs_ (ok_ d fx gp f x) (fun g => nw_ d fx gp l (fu_ f x g)) t
/-- where the clubs of a pile stand -/
def cf_ (b : Int → Int) : List (Int × Int) → Int → Int
  | [] => b
  | p :: st => fu_ (cf_ b st) p.1 p.2
/-- the ways still to come below a pile -/
noncomputable def rs_ (d : Dr_) (fx gp : Int) (b : Int → Int) : List (Int × Int) → List Int → Nat
  | [], _ => 0
  | p :: st, ys => pr_ d fx gp ys (cf_ b st) p.1 p.2 + rs_ d fx gp b st (p.1 :: ys)
/-- how far the search is from its end -/
def mz_ : List (Int × Int) → Nat
  | [] => 0
  | p :: st => (4 - p.2).toNat * 6 ^ (13 - st.length) + mz_ st
/-- the rows hold the pile -/
def RP_ (T : Zt) (G : Int) (b : Int → Int) : List (Int × Int) → Prop
  | [] => True
  | p :: st => T 304 0 (st.length : Int) = p.1 ∧ T 305 0 (st.length : Int) = p.2 ∧ (0 ≤ p.1 ∧ p.1 < 12) ∧ (0 ≤ p.2 ∧ p.2 < G) ∧ cf_ b st p.1 = -1 ∧ RP_ T G b st
def RQ_ (T : Zt) : Nat → List Int → Prop
  | _, [] => True
  | i, y :: ys => T 304 0 (i : Int) = y ∧ T 305 0 (i : Int) = -1 ∧ RQ_ T (i + 1) ys
theorem rp_e {T T1 : Zt} {G : Int} {b : Int → Int} : ∀ {st : List (Int × Int)}, RP_ T G b st → (∀ j, j < (st.length : Int) → T1 304 0 j = T 304 0 j ∧ T1 305 0 j = T 305 0 j) → RP_ T1 G b st
  | [], _, _ => trivial
  | p :: st, h, e => by
      have k := e (st.length : Int) (by rw [List.length_cons]; omega)
      exact ⟨k.1.trans h.1, k.2.trans h.2.1, h.2.2.1, h.2.2.2.1, h.2.2.2.2.1, rp_e h.2.2.2.2.2 (fun j hj => e j (by rw [List.length_cons]; omega))⟩
theorem rq_e {T T1 : Zt} : ∀ {i : Nat} {ys : List Int}, RQ_ T i ys → (∀ j : Int, (i : Int) ≤ j → T1 304 0 j = T 304 0 j ∧ T1 305 0 j = T 305 0 j) → RQ_ T1 i ys
  | _, [], _, _ => trivial
  | i, y :: ys, h, e => ⟨(e i (by omega)).1.trans h.1, (e i (by omega)).2.trans h.2.1, rq_e h.2.2 (fun j hj => e j (by omega))⟩
theorem rq_s {T : Zt} {x : Int} : ∀ {i : Nat} {ys : List Int}, RQ_ T i ys → T 304 0 ((i : Int) + ys.length) = x → T 305 0 ((i : Int) + ys.length) = -1 → RQ_ T i (ys ++ [x])
  | i, [], _, a, c => by
      rw [List.length_nil, show (i : Int) + ((0 : Nat) : Int) = i by omega] at a c
      exact ⟨a, c, trivial⟩
  | i, y :: ys, h, a, c => by
      rw [List.length_cons, show (i : Int) + ((ys.length + 1 : Nat) : Int) = ((i + 1 : Nat) : Int) + ys.length by omega] at a c
      exact ⟨h.1, h.2.1, rq_s h.2.2 a c⟩
theorem rq_l {T T1 : Zt} : ∀ {i : Nat} {ys : List Int}, RQ_ T i ys → (∀ j : Int, (i : Int) ≤ j → j < (i : Int) + ys.length → T1 304 0 j = T 304 0 j ∧ T1 305 0 j = T 305 0 j) → RQ_ T1 i ys
  | _, [], _, _ => trivial
  | i, y :: ys, h, e => by
      have k := e i (by omega) (by rw [List.length_cons]; omega)
      exact ⟨k.1.trans h.1, k.2.trans h.2.1, rq_l h.2.2 (fun j hj hk => e j (by omega) (by rw [List.length_cons]; omega))⟩
/-- the search's state -/
def WH_ (T : Zt) (d : Dr_) (fx gp : Int) (b : Int → Int) (n i w : Int) (N : Nat) (st : List (Int × Int)) (zs : List Int) (t : Int) : Prop :=
  (i = -1 ∧ w = N ∧ ∀ k, T 302 0 k = b k) ∨
  (i = st.length ∧ (st.length : Int) + zs.length = n ∧ RP_ T d.G b st ∧ 0 ≤ w ∧
    match zs with
    | [] => t = -1 ∧ (∀ k, T 302 0 k = cf_ b st k) ∧ w + 1 + (rs_ d fx gp b st [] : Nat) = N
    | x :: ys => T 304 0 i = x ∧ T 305 0 i = t ∧ (-1 ≤ t ∧ t < d.G) ∧ RQ_ T (st.length + 1) ys ∧ (∀ k, k ≠ x → T 302 0 k = cf_ b st k) ∧ (∀ z ∈ x :: ys, (0 ≤ z ∧ z < 12) ∧ cf_ b st z = -1) ∧ (x :: ys).Nodup ∧ w + (pr_ d fx gp ys (cf_ b st) x t : Nat) + (rs_ d fx gp b st (x :: ys) : Nat) = N)
def wm_ (i t : Int) (st : List (Int × Int)) : Nat := if i < 0 then 0 else 1 + mz_ ((0, t) :: st)
theorem fu_s (f : Int → Int) (x g : Int) : fu_ f x g x = g := if_pos rfl
theorem fu_n {f : Int → Int} {x g k : Int} (h : k ≠ x) : fu_ f x g k = f k := if_neg h
/-- from a pile back to the one below -/
theorem wh_p {T : Zt} {d : Dr_} {fx gp w : Int} {b : Int → Int} {n : Int} {N : Nat} {st : List (Int × Int)} {zs : List Int} {tt : Int} (hG : d.G ≤ 4) (hT : -1 ≤ tt ∧ tt < 4) (hn : (st.length : Int) + zs.length = n) (rp : RP_ T d.G b st) (hw : 0 ≤ w) (go : ∀ k, T 302 0 k = cf_ b st k) (rq : RQ_ T st.length zs) (fz : ∀ z ∈ zs, (0 ≤ z ∧ z < 12) ∧ cf_ b st z = -1) (nd : zs.Nodup) (e : w + (rs_ d fx gp b st zs : Nat) = N) :
    ∃ st' zs' t', WH_ T d fx gp b n ((st.length : Int) - 1) w N st' zs' t' ∧ wm_ ((st.length : Int) - 1) t' st' < wm_ (st.length : Int) tt st := by
  have hm : wm_ (st.length : Int) tt st = 1 + ((4 - tt).toNat * 6 ^ (13 - st.length) + mz_ st) := by unfold wm_; rw [if_neg (by omega)]; rfl
  have pp : 0 < (4 - tt).toNat * 6 ^ (13 - st.length) := Nat.mul_pos (by omega) (Nat.pow_pos (by decide))
  cases st with
  | nil =>
    refine ⟨[], [], -1, Or.inl ⟨rfl, ?_, go⟩, ?_⟩
    · have : (rs_ d fx gp b [] zs : Nat) = 0 := rfl
      omega
    · have : wm_ (((([] : List (Int × Int)).length : Nat) : Int) - 1) (-1) [] = 0 := rfl
      rw [this, hm]; omega
  | cons p st =>
    obtain ⟨r1, r2, r3, r4, r5, r6⟩ := rp
    have hp : ∀ z ∈ zs, z ≠ p.1 := fun z hz q => by
      have := (fz z hz).2
      rw [q] at this
      have k : cf_ b (p :: st) p.1 = p.2 := fu_s _ _ _
      omega
    have li : (((p :: st).length : Nat) : Int) - 1 = (st.length : Int) := by rw [List.length_cons]; omega
    refine ⟨st, p.1 :: zs, p.2, Or.inr ⟨li, ?_, r6, hw, ?_⟩, ?_⟩
    · rw [List.length_cons] at hn ⊢; omega
    · rw [li]
      refine ⟨r1, r2, by omega, rq, fun k hk => (go k).trans (fu_n hk), fun z hz => ?_, List.nodup_cons.mpr ⟨fun q => hp _ q rfl, nd⟩, ?_⟩
      · rcases List.mem_cons.mp hz with q | q
        · rw [q]; exact ⟨r3, r5⟩
        · have := fz z q
          refine ⟨this.1, ?_⟩
          have k : cf_ b (p :: st) z = cf_ b st z := fu_n (hp z q)
          rw [← k]; exact this.2
      · have k : rs_ d fx gp b (p :: st) zs = pr_ d fx gp zs (cf_ b st) p.1 p.2 + rs_ d fx gp b st (p.1 :: zs) := rfl
        rw [k] at e
        omega
    · rw [li, hm]
      have k : wm_ (st.length : Int) p.2 st = 1 + ((4 - p.2).toNat * 6 ^ (13 - st.length) + mz_ st) := by unfold wm_; rw [if_neg (by omega)]; rfl
      have k2 : mz_ (p :: st) = (4 - p.2).toNat * 6 ^ (13 - st.length) + mz_ st := rfl
      rw [k, k2]; omega
theorem wh_b {T : Zt} {d : Dr_} {fx gp i w n t : Int} {b : Int → Int} {N : Nat} {st : List (Int × Int)} {zs : List Int} (hG : d.G ≤ 4) (h : WH_ T d fx gp b n i w N st zs t) (hi : 0 ≤ i) (e : i = n) :
    w + 1 ≤ N ∧ 0 ≤ w ∧ ∃ st' zs' t', WH_ T d fx gp b n (i - 1) (w + 1) N st' zs' t' ∧ wm_ (i - 1) t' st' < wm_ i t st := by
  rcases h with h | ⟨h1, h2, h3, h4, h5⟩
  · omega
  · cases zs with
    | cons x ys => rw [List.length_cons] at h2; omega
    | nil =>
      obtain ⟨q1, q2, q3⟩ := h5
      refine ⟨by omega, h4, ?_⟩
      subst h1
      exact wh_p hG (by omega) h2 h3 (by omega) q2 trivial (fun z hz => absurd hz List.not_mem_nil) List.nodup_nil q3
theorem wh_x {T : Zt} {d : Dr_} {fx gp i w n t : Int} {b : Int → Int} {N : Nat} {st : List (Int × Int)} {zs : List Int} (h : WH_ T d fx gp b n i w N st zs t) (hi : 0 ≤ i) (e : i ≠ n) :
    ∃ x ys, zs = x :: ys ∧ T 304 0 i = x ∧ T 305 0 i = t ∧ (0 ≤ x ∧ x < 12) ∧ (-1 ≤ t ∧ t < d.G) ∧ i < n ∧ i = st.length := by
  rcases h with h | ⟨h1, h2, h3, h4, h5⟩
  · omega
  · cases zs with
    | nil => rw [List.length_nil] at h2; omega
    | cons x ys =>
      obtain ⟨q1, q2, q3, q4, q5, q6, q7, q8⟩ := h5
      exact ⟨x, ys, rfl, q1, q2, (q6 x List.mem_cons_self).1, q3, by rw [List.length_cons] at h2; omega, h1⟩
theorem wh_c {T T1 : Zt} {d : Dr_} {fx gp i w n t x : Int} {b : Int → Int} {N : Nat} {st : List (Int × Int)} {ys : List Int} (h : WH_ T d fx gp b n i w N st (x :: ys) t) (hi : 0 ≤ i) (e1 : T1 302 0 x = -1) (e2 : ∀ k, k ≠ x → T1 302 0 k = T 302 0 k) : (fun k => T1 302 0 k) = cf_ b st := by
  rcases h with h | ⟨h1, h2, h3, h4, h5⟩
  · omega
  · obtain ⟨q1, q2, q3, q4, q5, q6, q7, q8⟩ := h5
    funext k
    by_cases z : k = x
    · rw [z, e1]; exact ((q6 x List.mem_cons_self).2).symm
    · rw [e2 k z]; exact q5 k z
theorem wh_n {T T2 : Zt} {d : Dr_} {fx gp i w n t x : Int} {b : Int → Int} {N : Nat} {st : List (Int × Int)} {ys : List Int} (hG : d.G ≤ 4) (h : WH_ T d fx gp b n i w N st (x :: ys) t) (hi : 0 ≤ i)
    (go : (fun k => T2 302 0 k) = cf_ b st) (tr : ∀ j, T2 304 0 j = T 304 0 j) (ti : ∀ j, j ≠ i → T2 305 0 j = T 305 0 j) (t2 : T2 305 0 i = -1) (no : ∀ u, t < u → 0 ≤ u → u < d.G → ¬ ((x = fx → u = gp) ∧ ms_ d (cf_ b st) x u)) :
    ∃ st' zs' t', WH_ T2 d fx gp b n (i - 1) w N st' zs' t' ∧ wm_ (i - 1) t' st' < wm_ i t st := by
  rcases h with h | ⟨h1, h2, h3, h4, h5⟩
  · omega
  · obtain ⟨q1, q2, q3, q4, q5, q6, q7, q8⟩ := h5
    have z : pr_ d fx gp ys (cf_ b st) x t = 0 := qs_n (fun g a c _ k => no g a c k.1 k.2)
    subst h1
    refine wh_p hG (by omega) h2 (rp_e h3 (fun j hj => ⟨tr j, ti j (by omega)⟩)) h4 (fun k => congrFun go k) ⟨(tr _).trans q1, t2, rq_e q4 (fun j hj => ⟨tr j, ti j (by omega)⟩)⟩ q6 q7 (by omega)
theorem wh_g {T T2 : Zt} {d : Dr_} {fx gp i w n t x g : Int} {b : Int → Int} {N : Nat} {st : List (Int × Int)} {ys : List Int} (hG : d.G ≤ 4) (hn : n ≤ 12) (h : WH_ T d fx gp b n i w N st (x :: ys) t) (hi : 0 ≤ i)
    (go : ∀ k, T2 302 0 k = fu_ (cf_ b st) x g k) (tr : ∀ j, T2 304 0 j = T 304 0 j) (ti : ∀ j, j ≠ i → T2 305 0 j = T 305 0 j) (t2 : T2 305 0 i = g) (hg : t < g ∧ 0 ≤ g ∧ g < d.G) (ok : (x = fx → g = gp) ∧ ms_ d (cf_ b st) x g) (no : ∀ u, t < u → 0 ≤ u → u < g → ¬ ((x = fx → u = gp) ∧ ms_ d (cf_ b st) x u)) :
    ∃ st' zs' t', WH_ T2 d fx gp b n (i + 1) w N st' zs' t' ∧ wm_ (i + 1) t' st' < wm_ i t st := by
  rcases h with h | ⟨h1, h2, h3, h4, h5⟩
  · omega
  · obtain ⟨q1, q2, q3, q4, q5, q6, q7, q8⟩ := h5
    have z : pr_ d fx gp ys (cf_ b st) x t = nw_ d fx gp ys (fu_ (cf_ b st) x g) + pr_ d fx gp ys (cf_ b st) x g := qs_f (by omega) (by omega) hg.1 ⟨hg.2.2, ok⟩ (fun u a c k q => no u a c k q.2)
    have r : rs_ d fx gp b ((x, g) :: st) ys = pr_ d fx gp ys (cf_ b st) x g + rs_ d fx gp b st (x :: ys) := rfl
    have hx := q6 x List.mem_cons_self
    have li : i + 1 = ((((x, g) :: st).length : Nat) : Int) := by rw [List.length_cons]; omega
    have rp : RP_ T2 d.G b ((x, g) :: st) := ⟨by rw [← h1]; exact (tr _).trans q1, by rw [← h1]; exact t2, hx.1, ⟨hg.2.1, hg.2.2⟩, hx.2, rp_e h3 (fun j hj => ⟨tr j, ti j (by omega)⟩)⟩
    rw [List.length_cons] at h2
    have M : ∀ t', t' = -1 → wm_ (i + 1) t' ((x, g) :: st) < wm_ i t st := fun t' ht => by
      subst ht
      have a1 : wm_ (i + 1) (-1) ((x, g) :: st) = 1 + (5 * 6 ^ (13 - (st.length + 1)) + ((4 - g).toNat * 6 ^ (13 - st.length) + mz_ st)) := by unfold wm_; rw [if_neg (by omega)]; rfl
      have a2 : wm_ i t st = 1 + ((4 - t).toNat * 6 ^ (13 - st.length) + mz_ st) := by unfold wm_; rw [if_neg (by omega)]; rfl
      have a3 : (6 : Nat) ^ (13 - st.length) = 6 ^ (13 - (st.length + 1)) * 6 := by
        rw [← Nat.pow_succ]; congr 1; omega
      have a4 : 0 < 6 ^ (13 - (st.length + 1)) := Nat.pow_pos (by decide)
      have a5 : ((4 - g).toNat + 1) * 6 ^ (13 - st.length) ≤ (4 - t).toNat * 6 ^ (13 - st.length) := Nat.mul_le_mul_right _ (by omega)
      rw [a1, a2]
      rw [Nat.add_mul] at a5
      omega
    cases ys with
    | nil =>
      have o1 : nw_ d fx gp [] (fu_ (cf_ b st) x g) = 1 := rfl
      exact ⟨(x, g) :: st, [], -1, Or.inr ⟨li, by rw [List.length_cons]; rw [List.length_nil] at h2 ⊢; omega, rp, h4, rfl, go, by omega⟩, M _ rfl⟩
    | cons y zs =>
      obtain ⟨c1, c2, c3⟩ := q4
      have nd := List.nodup_cons.mp q7
      have o1 : nw_ d fx gp (y :: zs) (fu_ (cf_ b st) x g) = pr_ d fx gp zs (cf_ b ((x, g) :: st)) y (-1) := rfl
      have ei : i + 1 = ((st.length + 1 : Nat) : Int) := by omega
      refine ⟨(x, g) :: st, y :: zs, -1, Or.inr ⟨li, by rw [List.length_cons, List.length_cons]; rw [List.length_cons] at h2; omega, rp, h4, ?_⟩, M _ rfl⟩
      refine ⟨by rw [ei]; exact (tr _).trans c1, by rw [ei]; exact (ti _ (by omega)).trans c2, by omega, rq_e c3 (fun j hj => ⟨tr j, ti j (by omega)⟩), fun k _ => go k, fun z hz => ?_, nd.2, by omega⟩
      have := q6 z (List.mem_cons_of_mem _ hz)
      refine ⟨this.1, ?_⟩
      have k : cf_ b ((x, g) :: st) z = cf_ b st z := fu_n (show z ≠ x from fun q => nd.1 (by rw [← q]; exact hz))
      rw [k]; exact this.2
/-- the search's beginning -/
theorem wh_0 {T : Zt} {d : Dr_} {fx gp n : Int} {b : Int → Int} {l : List Int} (hG : 0 ≤ d.G) (hn : (l.length : Int) = n) (go : ∀ k, T 302 0 k = b k) (rq : RQ_ T 0 l) (fz : ∀ z ∈ l, (0 ≤ z ∧ z < 12) ∧ b z = -1) (nd : l.Nodup) : ∃ t, WH_ T d fx gp b n 0 0 (nw_ d fx gp l b) [] l t := by
  refine ⟨-1, Or.inr ⟨rfl, by rw [List.length_nil]; omega, trivial, by decide, ?_⟩⟩
  cases l with
  | nil => exact ⟨rfl, go, rfl⟩
  | cons x ys =>
    obtain ⟨a, c, e⟩ := rq
    have : nw_ d fx gp (x :: ys) b = pr_ d fx gp ys b x (-1) := rfl
    have k : (rs_ d fx gp b [] (x :: ys) : Nat) = 0 := rfl
    exact ⟨a, c, by omega, e, fun k _ => go k, fz, nd, by rw [k, this]; show 0 + _ + _ = _; simp [cf_]⟩
/-- the clubs of a pot, below k, that have no group -/
def lpk_ (E b : Int → Int) (p : Int) : Nat → List Int
  | 0 => []
  | k + 1 => lpk_ E b p k ++ (if E k = p ∧ b k = -1 then [(k : Int)] else [])
/-- the pots before the p-th -/
def lq_ (E b : Int → Int) (n : Nat) : Nat → List Int
  | 0 => []
  | p + 1 => lq_ E b n p ++ lpk_ E b p n
theorem lpk_m {E b : Int → Int} {p x : Int} : ∀ {k : Nat}, x ∈ lpk_ E b p k → 0 ≤ x ∧ x < k ∧ E x = p ∧ b x = -1
  | 0, h => absurd h List.not_mem_nil
  | k + 1, h => by
      unfold lpk_ at h
      rcases List.mem_append.mp h with q | q
      · have := lpk_m q
        omega
      · split at q
        · rename_i c
          rw [List.mem_singleton] at q
          subst q
          exact ⟨by omega, by omega, c.1, c.2⟩
        · exact absurd q List.not_mem_nil
theorem lpk_i {E b : Int → Int} {p x : Int} (h0 : 0 ≤ x) (he : E x = p) (hb : b x = -1) : ∀ {k : Nat}, x < k → x ∈ lpk_ E b p k
  | 0, h => by omega
  | k + 1, h => by
      unfold lpk_
      by_cases z : x = k
      · rw [← z, if_pos ⟨he, hb⟩]; exact List.mem_append.mpr (Or.inr List.mem_cons_self)
      · exact List.mem_append.mpr (Or.inl (lpk_i h0 he hb (by omega)))
theorem lpk_d (E b : Int → Int) (p : Int) : ∀ k : Nat, (lpk_ E b p k).Nodup
  | 0 => List.nodup_nil
  | k + 1 => by
      unfold lpk_
      rw [List.nodup_append]
      refine ⟨lpk_d E b p k, ?_, fun x hx y hy => ?_⟩
      · split
        · exact List.nodup_cons.mpr ⟨List.not_mem_nil, List.nodup_nil⟩
        · exact List.nodup_nil
      · have := lpk_m hx
        split at hy
        · rw [List.mem_singleton] at hy; omega
        · exact absurd hy List.not_mem_nil
theorem lq_m {E b : Int → Int} {n : Nat} {x : Int} : ∀ {p : Nat}, x ∈ lq_ E b n p → 0 ≤ x ∧ x < n ∧ 0 ≤ E x ∧ E x < p ∧ b x = -1
  | 0, h => absurd h List.not_mem_nil
  | p + 1, h => by
      unfold lq_ at h
      rcases List.mem_append.mp h with q | q
      · have := lq_m q
        omega
      · have := lpk_m q
        omega
theorem lq_i {E b : Int → Int} {n : Nat} {x : Int} (h0 : 0 ≤ x) (hn : x < n) (he : 0 ≤ E x) (hb : b x = -1) : ∀ {p : Nat}, E x < p → x ∈ lq_ E b n p
  | 0, h => by omega
  | p + 1, h => by
      unfold lq_
      by_cases z : E x = p
      · exact List.mem_append.mpr (Or.inr (lpk_i h0 z hb hn))
      · exact List.mem_append.mpr (Or.inl (lq_i h0 hn he hb (by omega)))
theorem lq_d (E b : Int → Int) (n : Nat) : ∀ p k : Nat, (lq_ E b n p ++ lpk_ E b p k).Nodup
  | 0, k => by
      show ([] ++ lpk_ E b _ k).Nodup
      rw [List.nil_append]; exact lpk_d _ _ _ _
  | p + 1, k => by
      rw [List.nodup_append]
      refine ⟨lq_d E b n p n, lpk_d _ _ _ _, fun x hx y hy => ?_⟩
      have a := lq_m hx
      have c := lpk_m hy
      intro q
      subst q
      omega
theorem lpk_t {E b : Int → Int} {p k : Int} (hk : 0 ≤ k) (c : E k = p ∧ b k = -1) : lpk_ E b p (k + 1).toNat = lpk_ E b p k.toNat ++ [k] := by
  rw [show (k + 1).toNat = k.toNat + 1 by omega]
  show lpk_ E b p k.toNat ++ _ = _
  rw [show ((k.toNat : Nat) : Int) = k by omega, if_pos c]
theorem lpk_f {E b : Int → Int} {p k : Int} (hk : 0 ≤ k) (c : ¬ (E k = p ∧ b k = -1)) : lpk_ E b p (k + 1).toNat = lpk_ E b p k.toNat := by
  rw [show (k + 1).toNat = k.toNat + 1 by omega]
  show lpk_ E b p k.toNat ++ _ = _
  rw [show ((k.toNat : Nat) : Int) = k by omega, if_neg c, List.append_nil]
theorem lq_t {E b : Int → Int} {n : Nat} {p : Int} (hp : 0 ≤ p) : lq_ E b n (p + 1).toNat = lq_ E b n p.toNat ++ lpk_ E b p n := by
  rw [show (p + 1).toNat = p.toNat + 1 by omega]
  show lq_ E b n p.toNat ++ lpk_ E b (p.toNat : Int) n = _
  rw [show ((p.toNat : Nat) : Int) = p by omega]
theorem lx_m {E b : Int → Int} {n : Nat} {p k x : Int} (hp : 0 ≤ p ∧ p ≤ 2) (hk : 0 ≤ k ∧ k ≤ n) (h : x ∈ lq_ E b n p.toNat ++ lpk_ E b p k.toNat) : 0 ≤ x ∧ x < n ∧ b x = -1 := by
  rcases List.mem_append.mp h with q | q
  · have := lq_m q
    omega
  · have := lpk_m q
    omega
theorem lx_d {E b : Int → Int} {n : Nat} {p k : Int} (hp : 0 ≤ p) : (lq_ E b n p.toNat ++ lpk_ E b p k.toNat).Nodup := by
  have := lq_d E b n p.toNat k.toNat
  rwa [show ((p.toNat : Nat) : Int) = p by omega] at this
theorem rq_m {T : Zt} {P : Int → Prop} : ∀ {i : Nat} {l : List Int}, RQ_ T i l → (∀ x ∈ l, P x) → ∀ j : Int, (i : Int) ≤ j → j < (i : Int) + l.length → P (T 304 0 j)
  | i, [], _, _, j, a, c => by rw [List.length_nil] at c; omega
  | i, y :: ys, h, hp, j, a, c => by
      by_cases z : j = i
      · rw [z, h.1]; exact hp y List.mem_cons_self
      · exact rq_m h.2.2 (fun x hx => hp x (List.mem_cons_of_mem _ hx)) j (by omega) (by rw [List.length_cons] at c; omega)
/-- the draw as it stands -/
def drw_ (T : Zt) : Dr_ := ⟨fun k => T 301 0 k, fun k => T 214 0 k, T 111 0 12, T 111 0 99, T 111 0 100⟩
def gf_ (T : Zt) : Int → Int := fun k => T 302 0 k
def ll_ (T : Zt) : List Int := lq_ (fun k => T 301 0 k) (gf_ T) (T 111 0 12).toNat 3
theorem drw_e {T T1 : Zt} (a : ∀ k, T1 301 0 k = T 301 0 k) (b : ∀ k, T1 214 0 k = T 214 0 k) (c : T1 111 0 12 = T 111 0 12) (d : T1 111 0 99 = T 111 0 99) (e : T1 111 0 100 = T 111 0 100) : drw_ T1 = drw_ T := by
  unfold drw_
  rw [c, d, e, show (fun k => T1 301 0 k) = (fun k => T 301 0 k) from funext a, show (fun k => T1 214 0 k) = (fun k => T 214 0 k) from funext b]
theorem gf_e {T T1 : Zt} (a : ∀ k, T1 302 0 k = T 302 0 k) : gf_ T1 = gf_ T := funext a
theorem ll_e {T T1 : Zt} (a : ∀ k, T1 301 0 k = T 301 0 k) (b : ∀ k, T1 302 0 k = T 302 0 k) (c : T1 111 0 12 = T 111 0 12) : ll_ T1 = ll_ T := by
  unfold ll_
  rw [c, gf_e b, show (fun k => T1 301 0 k) = (fun k => T 301 0 k) from funext a]
theorem ll_m {T : Zt} {x : Int} (h0 : 0 ≤ T 111 0 12) (h : x ∈ ll_ T) : 0 ≤ x ∧ x < T 111 0 12 ∧ T 302 0 x = -1 ∧ 0 ≤ T 301 0 x ∧ T 301 0 x ≤ 2 := by
  have q := lq_m h
  have r : T 302 0 x = -1 := q.2.2.2.2
  have r2 : T 301 0 x < ((3 : Nat) : Int) := q.2.2.2.1
  have r3 := q.2.1
  exact ⟨q.1, by omega, r, q.2.2.1, by omega⟩
theorem ll_d (T : Zt) : (ll_ T).Nodup := by
  have := lq_d (fun k => T 301 0 k) (gf_ T) (T 111 0 12).toNat 3 0
  have e : lpk_ (fun k => T 301 0 k) (gf_ T) ((3 : Nat) : Int) 0 = [] := rfl
  rw [e, List.append_nil] at this
  exact this
theorem ll_i {T : Zt} {x : Int} (h0 : 0 ≤ x) (hn : x < T 111 0 12) (hg : T 302 0 x = -1) (h1 : 0 ≤ T 301 0 x) (h2 : T 301 0 x ≤ 2) : x ∈ ll_ T := lq_i h0 (by omega) h1 hg (by show T 301 0 x < 3; omega)
theorem ll_b {T : Zt} {fx gp : Int} (h0 : 0 ≤ T 111 0 12) : nw_ (drw_ T) fx gp (ll_ T) (gf_ T) ≤ 13824 := nw_m (ll_d T) (fun x hx => by
  have q := ll_m h0 hx
  exact ⟨q.1, q.2.1, q.2.2.1, q.2.2.2.1, q.2.2.2.2⟩)
abbrev cX11_pot : ByteArray := prog_13_method_113_code
def yX11_pot : MethodName := ⟨RX11, "pot", "(II)I"⟩
def zX11_pot : Zm := (RX11, cX11_pot, 6, (some .int), { frames := 2, cells := 0, slots := 0, locals := 43 })
theorem bk_X11_pot_34 : ck_ fX11 (some .int) cX11_pot 34 [.iload 5, .iconst 12, .if_icmp .ge 96, .aload 0, .tableswitch 0 11 98 #[], .ifCond .eq 96, .iload 3, .aload 0, .tableswitch 0 11 101 #[], .iload 5, .iaload, .iload 2, .if_icmp .ne 64, .iconst 1, .goto 65] 64 = true := qck_r (nn_ _) (by decide +kernel)
theorem bs_X11_pot_34 {P : Zt → Option Zv → Prop} (K : Int → Zl → List Zv → Zt → Prop) : sx_ K P [.iload 5, .iconst 12, .if_icmp .ge 96, .aload 0, .tableswitch 0 11 98 #[], .ifCond .eq 96, .iload 3, .aload 0, .tableswitch 0 11 101 #[], .iload 5, .iaload, .iload 2, .if_icmp .ne 64, .iconst 1, .goto 65] 64 = x_iload 5 (x_iconst 12 (x_if_icmp .ge 96 K (x_aload 0 (x_g0 111 98 0 1 (x_ifCond .eq 96 K (x_iload 3 (x_aload 0 (x_g1 111 301 (x_iload 5 (x_iaload (x_iload 2 (x_if_icmp .ne 64 K (x_iconst 1 (x_goto 65 K)))))))))))))) := ((xe_iload 5).trans (congrArg (x_iload 5) ((xe_iconst 12).trans (congrArg (x_iconst 12) ((xe_if_icmp .ge 96).trans (congrArg (x_if_icmp .ge 96 K) ((xe_aload 0).trans (congrArg (x_aload 0) ((xe_g0 (kk := 111) rfl tl_11_98).trans (congrArg (x_g0 111 98 0 1) ((xe_ifCond .eq 96).trans (congrArg (x_ifCond .eq 96 K) ((xe_iload 3).trans (congrArg (x_iload 3) ((xe_aload 0).trans (congrArg (x_aload 0) ((xe_g1 (kk := 111) rfl tl_11_101).trans (congrArg (x_g1 111 301) ((xe_iload 5).trans (congrArg (x_iload 5) ((xe_iaload).trans (congrArg (x_iaload) ((xe_iload 2).trans (congrArg (x_iload 2) ((xe_if_icmp .ne 64).trans (congrArg (x_if_icmp .ne 64 K) ((xe_iconst 1).trans (congrArg (x_iconst 1) (xe_goto 65)))))))))))))))))))))))))))))
theorem bk_X11_pot_96 : ck_ fX11 (some .int) cX11_pot 96 [.aload 0, .tableswitch 0 11 98 #[], .ifCond .eq 116, .aload 0, .iload 1] 105 = true := qck_r (nn_ _) (by decide +kernel)
theorem bs_X11_pot_96 {P : Zt → Option Zv → Prop} (K : Int → Zl → List Zv → Zt → Prop) : sx_ K P [.aload 0, .tableswitch 0 11 98 #[], .ifCond .eq 116, .aload 0, .iload 1] 105 = x_aload 0 (x_g0 111 98 0 1 (x_ifCond .eq 116 K (x_aload 0 (x_iload 1 (K 105))))) := ((xe_aload 0).trans (congrArg (x_aload 0) ((xe_g0 (kk := 111) rfl tl_11_98).trans (congrArg (x_g0 111 98 0 1) ((xe_ifCond .eq 116).trans (congrArg (x_ifCond .eq 116 K) ((xe_aload 0).trans (congrArg (x_aload 0) ((xe_iload 1).trans (congrArg (x_iload 1) xe_nil))))))))))
theorem bk_X11_pot_116 : ck_ fX11 (some .int) cX11_pot 116 [.iconst (-4), .ireturn] 119 = true := qck_r (nn_ _) (by decide +kernel)
theorem bs_X11_pot_116 {P : Zt → Option Zv → Prop} (K : Int → Zl → List Zv → Zt → Prop) : sx_ K P [.iconst (-4), .ireturn] 119 = x_iconst (-4) (x_ireturn P) := ((xe_iconst (-4)).trans (congrArg (x_iconst (-4)) (xe_ireturn)))
set_option maxRecDepth 100000 in
theorem cl_X11_585 : cv_ RX11 585 yX11_isInDraw zX11_isInDraw 11 1 := ⟨gi_V (lwq_10 (dqc_m (dqa_m (List.mem_of_getElem? (i := 7) rfl))) rfl : Cond.methodLink RX11 585 yX11_isInDraw ∈ lw_g) (lwq_10 (dqc_m (dqa_m (dqa_m (List.mem_of_getElem? (i := 1) rfl)))) rfl : Cond.instanceMethod yX11_isInDraw ∈ lw_g) (lw_sel 24 rfl : Cond.selects yX11_isInDraw.cls yX11_isInDraw yX11_isInDraw ∈ lw_g) (lwq_1 (dqa_m (List.mem_of_getElem? (i := 2) rfl)) rfl : Cond.initialized yX11_isInDraw.cls ∈ lw_g) (lwq_10 (dqc_m (dqa_m (dqa_m (List.mem_of_getElem? (i := 2) rfl)))) rfl : Cond.code yX11_isInDraw cX11_isInDraw 2 (some .boolean) ∈ lw_g), ⟨nmh_1.1, nmh_1.2, pdq_7⟩, ⟨_, _, rfl⟩⟩
theorem bk_X11_pot_108 : ck_ fX11 (some .int) cX11_pot 108 [.ifCond .ne 116, .iload 4, .ifCond .eq 119, .iconst (-4), .ireturn] 119 = true := qck_r (nn_ _) (by decide +kernel)
theorem bs_X11_pot_108 {P : Zt → Option Zv → Prop} (K : Int → Zl → List Zv → Zt → Prop) : sx_ K P [.ifCond .ne 116, .iload 4, .ifCond .eq 119, .iconst (-4), .ireturn] 119 = x_ifCond .ne 116 K (x_iload 4 (x_ifCond .eq 119 K (x_iconst (-4) (x_ireturn P)))) := ((xe_ifCond .ne 116).trans (congrArg (x_ifCond .ne 116 K) ((xe_iload 4).trans (congrArg (x_iload 4) ((xe_ifCond .eq 119).trans (congrArg (x_ifCond .eq 119 K) ((xe_iconst (-4)).trans (congrArg (x_iconst (-4)) (xe_ireturn)))))))))
theorem bk_X11_pot_119 : ck_ fX11 (some .int) cX11_pot 119 [.iload 3, .aload 0, .tableswitch 0 11 99 #[], .if_icmp .ne 130, .iconst (-5), .ireturn] 130 = true := qck_r (nn_ _) (by decide +kernel)
theorem bs_X11_pot_119 {P : Zt → Option Zv → Prop} (K : Int → Zl → List Zv → Zt → Prop) : sx_ K P [.iload 3, .aload 0, .tableswitch 0 11 99 #[], .if_icmp .ne 130, .iconst (-5), .ireturn] 130 = x_iload 3 (x_aload 0 (x_g0 111 99 0 4 (x_if_icmp .ne 130 K (x_iconst (-5) (x_ireturn P))))) := ((xe_iload 3).trans (congrArg (x_iload 3) ((xe_aload 0).trans (congrArg (x_aload 0) ((xe_g0 (kk := 111) rfl tl_11_99).trans (congrArg (x_g0 111 99 0 4) ((xe_if_icmp .ne 130).trans (congrArg (x_if_icmp .ne 130 K) ((xe_iconst (-5)).trans (congrArg (x_iconst (-5)) (xe_ireturn)))))))))))
theorem bk_X11_pot_130 : ck_ fX11 (some .int) cX11_pot 130 [.aload 0, .tableswitch 0 11 101 #[], .iload 1, .iload 2, .iastore, .iload 3, .iconst 1, .fadd, .ireturn] 141 = true := qck_r (nn_ _) (by decide +kernel)
theorem bs_X11_pot_130 {P : Zt → Option Zv → Prop} (K : Int → Zl → List Zv → Zt → Prop) : sx_ K P [.aload 0, .tableswitch 0 11 101 #[], .iload 1, .iload 2, .iastore, .iload 3, .iconst 1, .fadd, .ireturn] 141 = x_aload 0 (x_g1 111 301 (x_iload 1 (x_iload 2 (x_iastore (x_iload 3 (x_iconst 1 (x_fadd (x_ireturn P)))))))) := ((xe_aload 0).trans (congrArg (x_aload 0) ((xe_g1 (kk := 111) rfl tl_11_101).trans (congrArg (x_g1 111 301) ((xe_iload 1).trans (congrArg (x_iload 1) ((xe_iload 2).trans (congrArg (x_iload 2) ((xe_iastore).trans (congrArg (x_iastore) ((xe_iload 3).trans (congrArg (x_iload 3) ((xe_iconst 1).trans (congrArg (x_iconst 1) ((xe_fadd).trans (congrArg (x_fadd) (xe_ireturn)))))))))))))))))
theorem bk_X11_pot_64 : ck_ fX11 (some .int) cX11_pot 64 [.iconst 0, .fadd, .istore 3, .iload 4, .ifCond .ne 83, .aload 0, .tableswitch 0 11 102 #[], .iload 5, .iaload, .iconst (-1), .if_icmp .eq 87, .iconst 1, .goto 88] 87 = true := qck_r (nn_ _) (by decide +kernel)
theorem bs_X11_pot_64 {P : Zt → Option Zv → Prop} (K : Int → Zl → List Zv → Zt → Prop) : sx_ K P [.iconst 0, .fadd, .istore 3, .iload 4, .ifCond .ne 83, .aload 0, .tableswitch 0 11 102 #[], .iload 5, .iaload, .iconst (-1), .if_icmp .eq 87, .iconst 1, .goto 88] 87 = x_iconst 0 (x_fadd (x_istore 3 (x_iload 4 (x_ifCond .ne 83 K (x_aload 0 (x_g1 111 302 (x_iload 5 (x_iaload (x_iconst (-1) (x_if_icmp .eq 87 K (x_iconst 1 (x_goto 88 K)))))))))))) := ((xe_iconst 0).trans (congrArg (x_iconst 0) ((xe_fadd).trans (congrArg (x_fadd) ((xe_istore 3).trans (congrArg (x_istore 3) ((xe_iload 4).trans (congrArg (x_iload 4) ((xe_ifCond .ne 83).trans (congrArg (x_ifCond .ne 83 K) ((xe_aload 0).trans (congrArg (x_aload 0) ((xe_g1 (kk := 111) rfl tl_11_102).trans (congrArg (x_g1 111 302) ((xe_iload 5).trans (congrArg (x_iload 5) ((xe_iaload).trans (congrArg (x_iaload) ((xe_iconst (-1)).trans (congrArg (x_iconst (-1)) ((xe_if_icmp .eq 87).trans (congrArg (x_if_icmp .eq 87 K) ((xe_iconst 1).trans (congrArg (x_iconst 1) (xe_goto 88)))))))))))))))))))))))))
theorem bk_X11_pot_83 : ck_ fX11 (some .int) cX11_pot 83 [.iconst 1, .goto 88] 87 = true := qck_r (nn_ _) (by decide +kernel)
theorem bs_X11_pot_83 {P : Zt → Option Zv → Prop} (K : Int → Zl → List Zv → Zt → Prop) : sx_ K P [.iconst 1, .goto 88] 87 = x_iconst 1 (x_goto 88 K) := ((xe_iconst 1).trans (congrArg (x_iconst 1) (xe_goto 88)))
theorem bk_X11_pot_88 : ck_ fX11 (some .int) cX11_pot 88 [.istore 4, .iinc 5 1, .goto 34] 96 = true := qck_r (nn_ _) (by decide +kernel)
theorem bs_X11_pot_88 {P : Zt → Option Zv → Prop} (K : Int → Zl → List Zv → Zt → Prop) : sx_ K P [.istore 4, .iinc 5 1, .goto 34] 96 = x_istore 4 (x_iinc 5 1 (x_goto 34 K)) := ((xe_istore 4).trans (congrArg (x_istore 4) ((xe_iinc 5 1).trans (congrArg (x_iinc 5 1) (xe_goto 34)))))
theorem bk_X11_pot_87 : ck_ fX11 (some .int) cX11_pot 87 [.iconst 0, .istore 4, .iinc 5 1, .goto 34] 96 = true := qck_r (nn_ _) (by decide +kernel)
theorem bs_X11_pot_87 {P : Zt → Option Zv → Prop} (K : Int → Zl → List Zv → Zt → Prop) : sx_ K P [.iconst 0, .istore 4, .iinc 5 1, .goto 34] 96 = x_iconst 0 (x_istore 4 (x_iinc 5 1 (x_goto 34 K))) := ((xe_iconst 0).trans (congrArg (x_iconst 0) ((xe_istore 4).trans (congrArg (x_istore 4) ((xe_iinc 5 1).trans (congrArg (x_iinc 5 1) (xe_goto 34)))))))
theorem bk_X11_pot_65 : ck_ fX11 (some .int) cX11_pot 65 [.fadd, .istore 3, .iload 4, .ifCond .ne 83, .aload 0, .tableswitch 0 11 102 #[], .iload 5, .iaload, .iconst (-1), .if_icmp .eq 87, .iconst 1, .goto 88] 87 = true := qck_r (nn_ _) (by decide +kernel)
theorem bs_X11_pot_65 {P : Zt → Option Zv → Prop} (K : Int → Zl → List Zv → Zt → Prop) : sx_ K P [.fadd, .istore 3, .iload 4, .ifCond .ne 83, .aload 0, .tableswitch 0 11 102 #[], .iload 5, .iaload, .iconst (-1), .if_icmp .eq 87, .iconst 1, .goto 88] 87 = x_fadd (x_istore 3 (x_iload 4 (x_ifCond .ne 83 K (x_aload 0 (x_g1 111 302 (x_iload 5 (x_iaload (x_iconst (-1) (x_if_icmp .eq 87 K (x_iconst 1 (x_goto 88 K))))))))))) := ((xe_fadd).trans (congrArg (x_fadd) ((xe_istore 3).trans (congrArg (x_istore 3) ((xe_iload 4).trans (congrArg (x_iload 4) ((xe_ifCond .ne 83).trans (congrArg (x_ifCond .ne 83 K) ((xe_aload 0).trans (congrArg (x_aload 0) ((xe_g1 (kk := 111) rfl tl_11_102).trans (congrArg (x_g1 111 302) ((xe_iload 5).trans (congrArg (x_iload 5) ((xe_iaload).trans (congrArg (x_iaload) ((xe_iconst (-1)).trans (congrArg (x_iconst (-1)) ((xe_if_icmp .eq 87).trans (congrArg (x_if_icmp .eq 87 K) ((xe_iconst 1).trans (congrArg (x_iconst 1) (xe_goto 88)))))))))))))))))))))))
theorem bk_X11_pot_0 : ck_ fX11 (some .int) cX11_pot 0 [.iload 1, .aload 0, .tableswitch 0 11 12 #[]] 5 = true := qck_r (nn_ _) (by decide +kernel)
theorem bs_X11_pot_0 {P : Zt → Option Zv → Prop} (K : Int → Zl → List Zv → Zt → Prop) : sx_ K P [.iload 1, .aload 0, .tableswitch 0 11 12 #[]] 5 = x_iload 1 (x_aload 0 (x_g0 111 12 0 12 (K 5))) := ((xe_iload 1).trans (congrArg (x_iload 1) ((xe_aload 0).trans (congrArg (x_aload 0) ((xe_g0 (kk := 111) rfl tl_11_12).trans (congrArg (x_g0 111 12 0 12) xe_nil))))))
theorem bk_X11_pot_8 : ck_ fX11 (some .int) cX11_pot 8 [.ifCond .ne 14, .iconst (-2), .ireturn] 14 = true := qck_r (nn_ _) (by decide +kernel)
theorem bs_X11_pot_8 {P : Zt → Option Zv → Prop} (K : Int → Zl → List Zv → Zt → Prop) : sx_ K P [.ifCond .ne 14, .iconst (-2), .ireturn] 14 = x_ifCond .ne 14 K (x_iconst (-2) (x_ireturn P)) := ((xe_ifCond .ne 14).trans (congrArg (x_ifCond .ne 14 K) ((xe_iconst (-2)).trans (congrArg (x_iconst (-2)) (xe_ireturn)))))
theorem bk_X11_pot_14 : ck_ fX11 (some .int) cX11_pot 14 [.iload 2, .iconst 0, .iconst 2] 17 = true := qck_r (nn_ _) (by decide +kernel)
theorem bs_X11_pot_14 {P : Zt → Option Zv → Prop} (K : Int → Zl → List Zv → Zt → Prop) : sx_ K P [.iload 2, .iconst 0, .iconst 2] 17 = x_iload 2 (x_iconst 0 (x_iconst 2 (K 17))) := ((xe_iload 2).trans (congrArg (x_iload 2) ((xe_iconst 0).trans (congrArg (x_iconst 0) ((xe_iconst 2).trans (congrArg (x_iconst 2) xe_nil))))))
theorem bk_X11_pot_20 : ck_ fX11 (some .int) cX11_pot 20 [.ifCond .ne 26, .iconst (-3), .ireturn] 26 = true := qck_r (nn_ _) (by decide +kernel)
theorem bs_X11_pot_20 {P : Zt → Option Zv → Prop} (K : Int → Zl → List Zv → Zt → Prop) : sx_ K P [.ifCond .ne 26, .iconst (-3), .ireturn] 26 = x_ifCond .ne 26 K (x_iconst (-3) (x_ireturn P)) := ((xe_ifCond .ne 26).trans (congrArg (x_ifCond .ne 26 K) ((xe_iconst (-3)).trans (congrArg (x_iconst (-3)) (xe_ireturn)))))
theorem bk_X11_pot_26 : ck_ fX11 (some .int) cX11_pot 26 [.iconst 0, .istore 3, .iconst 0, .istore 4, .iconst 0, .istore 5] 34 = true := qck_r (nn_ _) (by decide +kernel)
theorem bs_X11_pot_26 {P : Zt → Option Zv → Prop} (K : Int → Zl → List Zv → Zt → Prop) : sx_ K P [.iconst 0, .istore 3, .iconst 0, .istore 4, .iconst 0, .istore 5] 34 = x_iconst 0 (x_istore 3 (x_iconst 0 (x_istore 4 (x_iconst 0 (x_istore 5 (K 34)))))) := ((xe_iconst 0).trans (congrArg (x_iconst 0) ((xe_istore 3).trans (congrArg (x_istore 3) ((xe_iconst 0).trans (congrArg (x_iconst 0) ((xe_istore 4).trans (congrArg (x_istore 4) ((xe_iconst 0).trans (congrArg (x_iconst 0) ((xe_istore 5).trans (congrArg (x_istore 5) xe_nil))))))))))))
abbrev po_X11_pot (T : Zt) (cl p : Int) : Zt → Option Zv → Prop := fun T' r => ∃ x : Int, r = some (vI x) ∧ fr_ [(301, [])] T T' ∧ (x = x)
set_option maxHeartbeats 4000000 in
theorem ct_X11_pot {T : Zt} {cl p : Int} : Ct_ yX11_pot zX11_pot T [vR 111 0, vI cl, vI p] (po_X11_pot T cl p) := by
  refine ct_of pn_11 rfl rfl (Nat.le_of_ble_eq_true rfl) (fun hT hav => ?_)
  have hr_cl : -2147483648 ≤ cl ∧ cl ≤ 2147483647 := hav (vI cl) (List.mem_cons_of_mem _ List.mem_cons_self)
  have hr_p : -2147483648 ≤ p ∧ p ≤ 2147483647 := hav (vI p) (List.mem_cons_of_mem _ (List.mem_cons_of_mem _ List.mem_cons_self))
  have hz : zX11_pot.2.2.2.1 = some .boolean → ∀ (T' : Zt) (x : Int), po_X11_pot T cl p T' (some (vI x)) → 0 ≤ x ∧ x ≤ 1 := fun h => by cases h
  have hb_12 : 0 ≤ T 111 0 12 ∧ T 111 0 12 ≤ 12 := bd_f hT 111 12 tl_11_12 0
  show J_ zX11_pot T (po_X11_pot T cl p) 0 0 0 [some (vR 111 0), some (vI cl), some (vI p), none, none, none] [] T
  have c_34 : ∀ (nn : Nat) (n : Int) (g : Int) (k : Int), ((12 - k).toNat) ≤ nn → (0 ≤ k ∧ 0 ≤ cl ∧ cl < T 111 0 12 ∧ 0 ≤ p ∧ p ≤ 2) → J_ zX11_pot T (po_X11_pot T cl p) 0 0 34 [some (vR 111 0), some (vI cl), some (vI p), some (vI n), some (vI g), some (vI k)] [] T := by
    intro nn
    induction nn using Nat.strongRecOn with
    | _ nn ih_34 =>
      intro n g k hm_34 i1
      replace hm_34 := fun (_ : Unit) => hm_34
      refine j_blx (F := fX11) tb_X11 (nn_ _) bk_X11_pot_34 bs_X11_pot_34 hz (fun K hK => ?_)
      refine And.intro (fun c1 => ?_) (fun c1 => ?_)
      · refine hK 96 _ [] T ?_
        refine j_blx (F := fX11) tb_X11 (nn_ _) bk_X11_pot_96 bs_X11_pot_96 hz (fun K hK => ?_)
        intro b2 b2b
        refine And.intro (fun c3 => ?_) (fun c3 => ?_)
        · refine hK 116 _ [] T ?_
          refine j_blx (F := fX11) tb_X11 (nn_ _) bk_X11_pot_116 bs_X11_pot_116 hz (fun K hK => ?_)
          refine (show po_X11_pot T cl p T (some (vI (-4))) from ?_)
          exact ⟨_, rfl, fr_0 _ _, by rfl⟩
        · refine hK 105 _ [vI cl, vR 111 0] T ?_
          refine j_callV (y := yX11_isInDraw) (Yc := zX11_isInDraw) (rest := []) [vI cl] (ct_X11_isInDraw (T := T) (by omega)) cl_X11_585 (qd_c (by decide +kernel)) (nn_ _) rfl (rf_of rfl) (Nat.le_of_ble_eq_true rfl) (Nat.le_of_ble_eq_true rfl) (Nat.le_of_ble_eq_true rfl) rfl ?_
          rintro _ _ ⟨rfl, x4, rfl, hx4⟩
          show J_ zX11_pot T (po_X11_pot T cl p) 0 0 108 _ [vI x4] T
          refine j_blx (F := fX11) tb_X11 (nn_ _) bk_X11_pot_108 bs_X11_pot_108 hz (fun K hK => ?_)
          refine And.intro (fun c5 => ?_) (fun c5 => ?_)
          · replace hx4 := hx4.resolve_right (fun z => c5 z.1)
            clear c5
            refine hK 116 _ [] T ?_
            refine j_blx (F := fX11) tb_X11 (nn_ _) bk_X11_pot_116 bs_X11_pot_116 hz (fun K hK => ?_)
            refine (show po_X11_pot T cl p T (some (vI (-4))) from ?_)
            exact ⟨_, rfl, fr_0 _ _, by rfl⟩
          · replace hx4 := hx4.resolve_left (fun z => absurd (c5.symm.trans z.1) (by decide))
            clear c5
            refine And.intro (fun c6 => ?_) (fun c6 => ?_)
            · refine hK 119 _ [] T ?_
              refine j_blx (F := fX11) tb_X11 (nn_ _) bk_X11_pot_119 bs_X11_pot_119 hz (fun K hK => ?_)
              intro b7 b7b
              refine And.intro (fun c8 => ?_) (fun c8 => ?_)
              · refine hK 130 _ [] T ?_
                refine j_blx (F := fX11) tb_X11 (nn_ _) bk_X11_pot_130 bs_X11_pot_130 hz (fun K hK => ?_)
                refine iy_i (by omega) (by omega) ?_
                refine x_nm (fun U9 hU9 => ?_)
                have e10 := up_f hU9
                intro w11 w11b
                refine (show po_X11_pot T cl p U9 (some (vI (wr_ (n + 1)))) from ?_)
                exact ⟨_, rfl, fr_u (fr_0 _ _) hU9 rfl, by rfl⟩
              · refine (show po_X11_pot T cl p T (some (vI (-5))) from ?_)
                exact ⟨_, rfl, fr_0 _ _, by rfl⟩
            · refine (show po_X11_pot T cl p T (some (vI (-4))) from ?_)
              exact ⟨_, rfl, fr_0 _ _, by rfl⟩
      · intro b12 b12b
        refine And.intro (fun c13 => ?_) (fun c13 => ?_)
        · refine hK 96 _ [] T ?_
          refine j_blx (F := fX11) tb_X11 (nn_ _) bk_X11_pot_96 bs_X11_pot_96 hz (fun K hK => ?_)
          intro b14 b14b
          refine And.intro (fun c15 => ?_) (fun c15 => ?_)
          · refine hK 116 _ [] T ?_
            refine j_blx (F := fX11) tb_X11 (nn_ _) bk_X11_pot_116 bs_X11_pot_116 hz (fun K hK => ?_)
            refine (show po_X11_pot T cl p T (some (vI (-4))) from ?_)
            exact ⟨_, rfl, fr_0 _ _, by rfl⟩
          · refine hK 105 _ [vI cl, vR 111 0] T ?_
            refine j_callV (y := yX11_isInDraw) (Yc := zX11_isInDraw) (rest := []) [vI cl] (ct_X11_isInDraw (T := T) (by omega)) cl_X11_585 (qd_c (by decide +kernel)) (nn_ _) rfl (rf_of rfl) (Nat.le_of_ble_eq_true rfl) (Nat.le_of_ble_eq_true rfl) (Nat.le_of_ble_eq_true rfl) rfl ?_
            rintro _ _ ⟨rfl, x16, rfl, hx16⟩
            show J_ zX11_pot T (po_X11_pot T cl p) 0 0 108 _ [vI x16] T
            refine j_blx (F := fX11) tb_X11 (nn_ _) bk_X11_pot_108 bs_X11_pot_108 hz (fun K hK => ?_)
            refine And.intro (fun c17 => ?_) (fun c17 => ?_)
            · replace hx16 := hx16.resolve_right (fun z => c17 z.1)
              clear c17
              refine hK 116 _ [] T ?_
              refine j_blx (F := fX11) tb_X11 (nn_ _) bk_X11_pot_116 bs_X11_pot_116 hz (fun K hK => ?_)
              refine (show po_X11_pot T cl p T (some (vI (-4))) from ?_)
              exact ⟨_, rfl, fr_0 _ _, by rfl⟩
            · replace hx16 := hx16.resolve_left (fun z => absurd (c17.symm.trans z.1) (by decide))
              clear c17
              refine And.intro (fun c18 => ?_) (fun c18 => ?_)
              · refine hK 119 _ [] T ?_
                refine j_blx (F := fX11) tb_X11 (nn_ _) bk_X11_pot_119 bs_X11_pot_119 hz (fun K hK => ?_)
                intro b19 b19b
                refine And.intro (fun c20 => ?_) (fun c20 => ?_)
                · refine hK 130 _ [] T ?_
                  refine j_blx (F := fX11) tb_X11 (nn_ _) bk_X11_pot_130 bs_X11_pot_130 hz (fun K hK => ?_)
                  refine iy_i (by omega) (by omega) ?_
                  refine x_nm (fun U21 hU21 => ?_)
                  have e22 := up_f hU21
                  intro w23 w23b
                  refine (show po_X11_pot T cl p U21 (some (vI (wr_ (n + 1)))) from ?_)
                  exact ⟨_, rfl, fr_u (fr_0 _ _) hU21 rfl, by rfl⟩
                · refine (show po_X11_pot T cl p T (some (vI (-5))) from ?_)
                  exact ⟨_, rfl, fr_0 _ _, by rfl⟩
              · refine (show po_X11_pot T cl p T (some (vI (-4))) from ?_)
                exact ⟨_, rfl, fr_0 _ _, by rfl⟩
        · refine ix_i (by omega) ?_
          intro b24 b24b
          refine And.intro (fun c25 => ?_) (fun c25 => ?_)
          · refine hK 64 _ [vI n] T ?_
            refine j_blx (F := fX11) tb_X11 (nn_ _) bk_X11_pot_64 bs_X11_pot_64 hz (fun K hK => ?_)
            intro w26 w26b
            refine And.intro (fun c27 => ?_) (fun c27 => ?_)
            · refine hK 83 [some (vR 111 0), some (vI cl), some (vI p), some (vI (wr_ (n + 0))), some (vI g), some (vI k)] [] T ?_
              refine j_blx (F := fX11) tb_X11 (nn_ _) bk_X11_pot_83 bs_X11_pot_83 hz (fun K hK => ?_)
              refine hK 88 _ [vI 1] T ?_
              refine j_blx (F := fX11) tb_X11 (nn_ _) bk_X11_pot_88 bs_X11_pot_88 hz (fun K hK => ?_)
              refine rg_i (by omega) ?_
              refine hK 34 [some (vR 111 0), some (vI cl), some (vI p), some (vI (wr_ (n + 0))), some (vI 1), some (vI (k + 1))] [] T ?_
              refine ih_34 _ ?_ (wr_ (n + 0)) 1 (k + 1) (Nat.le_refl _) ?_
              · have hm_34 := hm_34 (); omega
              · omega
            · refine ix_i (by omega) ?_
              intro b28 b28b
              refine And.intro (fun c29 => ?_) (fun c29 => ?_)
              · refine hK 87 [some (vR 111 0), some (vI cl), some (vI p), some (vI (wr_ (n + 0))), some (vI g), some (vI k)] [] T ?_
                refine j_blx (F := fX11) tb_X11 (nn_ _) bk_X11_pot_87 bs_X11_pot_87 hz (fun K hK => ?_)
                refine rg_i (by omega) ?_
                refine hK 34 [some (vR 111 0), some (vI cl), some (vI p), some (vI (wr_ (n + 0))), some (vI 0), some (vI (k + 1))] [] T ?_
                refine ih_34 _ ?_ (wr_ (n + 0)) 0 (k + 1) (Nat.le_refl _) ?_
                · have hm_34 := hm_34 (); omega
                · omega
              · refine hK 88 [some (vR 111 0), some (vI cl), some (vI p), some (vI (wr_ (n + 0))), some (vI g), some (vI k)] [vI 1] T ?_
                refine j_blx (F := fX11) tb_X11 (nn_ _) bk_X11_pot_88 bs_X11_pot_88 hz (fun K hK => ?_)
                refine rg_i (by omega) ?_
                refine hK 34 [some (vR 111 0), some (vI cl), some (vI p), some (vI (wr_ (n + 0))), some (vI 1), some (vI (k + 1))] [] T ?_
                refine ih_34 _ ?_ (wr_ (n + 0)) 1 (k + 1) (Nat.le_refl _) ?_
                · have hm_34 := hm_34 (); omega
                · omega
          · refine hK 65 _ [vI 1, vI n] T ?_
            refine j_blx (F := fX11) tb_X11 (nn_ _) bk_X11_pot_65 bs_X11_pot_65 hz (fun K hK => ?_)
            intro w30 w30b
            refine And.intro (fun c31 => ?_) (fun c31 => ?_)
            · refine hK 83 [some (vR 111 0), some (vI cl), some (vI p), some (vI (wr_ (n + 1))), some (vI g), some (vI k)] [] T ?_
              refine j_blx (F := fX11) tb_X11 (nn_ _) bk_X11_pot_83 bs_X11_pot_83 hz (fun K hK => ?_)
              refine hK 88 _ [vI 1] T ?_
              refine j_blx (F := fX11) tb_X11 (nn_ _) bk_X11_pot_88 bs_X11_pot_88 hz (fun K hK => ?_)
              refine rg_i (by omega) ?_
              refine hK 34 [some (vR 111 0), some (vI cl), some (vI p), some (vI (wr_ (n + 1))), some (vI 1), some (vI (k + 1))] [] T ?_
              refine ih_34 _ ?_ (wr_ (n + 1)) 1 (k + 1) (Nat.le_refl _) ?_
              · have hm_34 := hm_34 (); omega
              · omega
            · refine ix_i (by omega) ?_
              intro b32 b32b
              refine And.intro (fun c33 => ?_) (fun c33 => ?_)
              · refine hK 87 [some (vR 111 0), some (vI cl), some (vI p), some (vI (wr_ (n + 1))), some (vI g), some (vI k)] [] T ?_
                refine j_blx (F := fX11) tb_X11 (nn_ _) bk_X11_pot_87 bs_X11_pot_87 hz (fun K hK => ?_)
                refine rg_i (by omega) ?_
                refine hK 34 [some (vR 111 0), some (vI cl), some (vI p), some (vI (wr_ (n + 1))), some (vI 0), some (vI (k + 1))] [] T ?_
                refine ih_34 _ ?_ (wr_ (n + 1)) 0 (k + 1) (Nat.le_refl _) ?_
                · have hm_34 := hm_34 (); omega
                · omega
              · refine hK 88 [some (vR 111 0), some (vI cl), some (vI p), some (vI (wr_ (n + 1))), some (vI g), some (vI k)] [vI 1] T ?_
                refine j_blx (F := fX11) tb_X11 (nn_ _) bk_X11_pot_88 bs_X11_pot_88 hz (fun K hK => ?_)
                refine rg_i (by omega) ?_
                refine hK 34 [some (vR 111 0), some (vI cl), some (vI p), some (vI (wr_ (n + 1))), some (vI 1), some (vI (k + 1))] [] T ?_
                refine ih_34 _ ?_ (wr_ (n + 1)) 1 (k + 1) (Nat.le_refl _) ?_
                · have hm_34 := hm_34 (); omega
                · omega
  refine j_blx (F := fX11) tb_X11 (nn_ _) bk_X11_pot_0 bs_X11_pot_0 hz (fun K hK => ?_)
  intro b34 b34b
  refine hK 5 _ [vI (T 111 0 12), vI cl] T ?_
  refine j_callS (y := yX11_isOf) (Yc := zX11_isOf) (rest := []) [vI cl, vI (T 111 0 12)] (ct_X11_isOf (T := T) (by omega)) cl_X11_317 (qd_c (by decide +kernel)) (nn_ _) rfl (rf_of rfl) (Nat.le_of_ble_eq_true rfl) (Nat.le_of_ble_eq_true rfl) (Nat.le_of_ble_eq_true rfl) rfl ?_
  rintro _ _ ⟨rfl, x35, rfl, hx35⟩
  show J_ zX11_pot T (po_X11_pot T cl p) 0 0 8 _ [vI x35] T
  refine j_blx (F := fX11) tb_X11 (nn_ _) bk_X11_pot_8 bs_X11_pot_8 hz (fun K hK => ?_)
  refine And.intro (fun c36 => ?_) (fun c36 => ?_)
  · replace hx35 := hx35.resolve_right (fun z => c36 z.1)
    clear c36
    refine hK 14 _ [] T ?_
    refine j_blx (F := fX11) tb_X11 (nn_ _) bk_X11_pot_14 bs_X11_pot_14 hz (fun K hK => ?_)
    refine hK 17 _ [vI 2, vI 0, vI p] T ?_
    refine j_callS (y := yX11_in) (Yc := zX11_in) (rest := []) [vI p, vI 0, vI 2] (ct_X11_in (T := T)) cl_X11_255 (qd_c (by decide +kernel)) (nn_ _) rfl (rf_of rfl) (Nat.le_of_ble_eq_true rfl) (Nat.le_of_ble_eq_true rfl) (Nat.le_of_ble_eq_true rfl) rfl ?_
    rintro _ _ ⟨rfl, x37, rfl, hx37⟩
    show J_ zX11_pot T (po_X11_pot T cl p) 0 0 20 _ [vI x37] T
    refine j_blx (F := fX11) tb_X11 (nn_ _) bk_X11_pot_20 bs_X11_pot_20 hz (fun K hK => ?_)
    refine And.intro (fun c38 => ?_) (fun c38 => ?_)
    · replace hx37 := hx37.resolve_right (fun z => c38 z.1)
      clear c38
      refine hK 26 _ [] T ?_
      refine j_blx (F := fX11) tb_X11 (nn_ _) bk_X11_pot_26 bs_X11_pot_26 hz (fun K hK => ?_)
      refine hK 34 [some (vR 111 0), some (vI cl), some (vI p), some (vI 0), some (vI 0), some (vI 0)] [] T ?_
      refine c_34 _ 0 0 0 (Nat.le_refl _) ?_
      · omega
    · replace hx37 := hx37.resolve_left (fun z => absurd (c38.symm.trans z.1) (by decide))
      clear c38
      refine (show po_X11_pot T cl p T (some (vI (-3))) from ?_)
      exact ⟨_, rfl, fr_0 _ _, by rfl⟩
  · replace hx35 := hx35.resolve_left (fun z => absurd (c36.symm.trans z.1) (by decide))
    clear c36
    refine (show po_X11_pot T cl p T (some (vI (-2))) from ?_)
    exact ⟨_, rfl, fr_0 _ _, by rfl⟩
/-- what mayStand has seen, below k -/
def MT_ (T : Zt) (x g k : Int) : Prop := ∃ j, 0 ≤ j ∧ j < k ∧ j ≠ x ∧ T 301 0 j ≠ -1 ∧ T 302 0 j = g ∧ T 301 0 j = T 301 0 x
theorem mt_s {T : Zt} {x g k : Int} (hk : 0 ≤ k) : MT_ T x g (k + 1) ↔ MT_ T x g k ∨ (k ≠ x ∧ T 301 0 k ≠ -1 ∧ T 302 0 k = g ∧ T 301 0 k = T 301 0 x) := by
  constructor
  · rintro ⟨j, a, b, c⟩
    by_cases z : j = k
    · exact Or.inr (z ▸ c)
    · exact Or.inl ⟨j, a, by omega, c⟩
  · rintro (⟨j, a, b, c⟩ | c)
    · exact ⟨j, a, by omega, c⟩
    · exact ⟨k, hk, by omega, c⟩
def ma_ (T : Zt) (x g k : Int) : Int := alk_ (fun k => T 301 0 k) (fun k => T 214 0 k) (gf_ T) x g k.toNat
theorem ma_t {T : Zt} {x g k : Int} (hk : 0 ≤ k) (c : k ≠ x ∧ T 301 0 k ≠ -1 ∧ T 302 0 k = g ∧ T 214 0 k = T 214 0 x) : ma_ T x g (k + 1) = ma_ T x g k + 1 := by
  unfold ma_
  rw [show (k + 1).toNat = k.toNat + 1 by omega]
  show _ + (if ((k.toNat : Nat) : Int) ≠ x ∧ T 301 0 ((k.toNat : Nat) : Int) ≠ -1 ∧ T 302 0 ((k.toNat : Nat) : Int) = g ∧ T 214 0 ((k.toNat : Nat) : Int) = T 214 0 x then (1 : Int) else 0) = _
  rw [show ((k.toNat : Nat) : Int) = k by omega, if_pos c]
theorem ma_f {T : Zt} {x g k : Int} (hk : 0 ≤ k) (c : ¬ (k ≠ x ∧ T 301 0 k ≠ -1 ∧ T 302 0 k = g ∧ T 214 0 k = T 214 0 x)) : ma_ T x g (k + 1) = ma_ T x g k := by
  unfold ma_
  rw [show (k + 1).toNat = k.toNat + 1 by omega]
  show _ + (if ((k.toNat : Nat) : Int) ≠ x ∧ T 301 0 ((k.toNat : Nat) : Int) ≠ -1 ∧ T 302 0 ((k.toNat : Nat) : Int) = g ∧ T 214 0 ((k.toNat : Nat) : Int) = T 214 0 x then (1 : Int) else 0) = _
  rw [show ((k.toNat : Nat) : Int) = k by omega, if_neg c, Int.add_zero]
theorem ms_i {T : Zt} {x g k a t : Int} (e : k = T 111 0 12) (ht : (t = 1 ∧ MT_ T x g k) ∨ (t = 0 ∧ ¬ MT_ T x g k)) (ha : a = ma_ T x g k) : ms_ (drw_ T) (gf_ T) x g ↔ (t = 0 ∧ a < T 111 0 100) := by
  subst e
  constructor
  · intro h
    refine ⟨?_, by rw [ha]; exact h.2⟩
    rcases ht with ⟨_, j, p, q, r, s, u, v⟩ | z
    · exact absurd v (h.1 j p q r s u)
    · exact z.1
  · intro h
    refine ⟨fun j p q r s u v => ?_, by rw [ha] at h; exact h.2⟩
    rcases ht with z | z
    · omega
    · exact z.2 ⟨j, p, q, r, s, u, v⟩
abbrev cX11_mayStand : ByteArray := prog_13_method_114_code
def yX11_mayStand : MethodName := ⟨RX11, "mayStand", "(II)Z"⟩
def zX11_mayStand : Zm := (RX11, cX11_mayStand, 6, (some .boolean), { frames := 0, cells := 0, slots := 0, locals := 0 })
theorem bk_X11_mayStand_8 : ck_ fX11 (some .boolean) cX11_mayStand 8 [.iload 5, .aload 0, .tableswitch 0 11 12 #[], .if_icmp .ge 103, .iload 5, .iload 1, .if_icmp .eq 97, .aload 0, .tableswitch 0 11 101 #[], .iload 5, .iaload, .iconst (-1), .if_icmp .eq 97, .aload 0, .tableswitch 0 11 102 #[], .iload 5, .iaload, .iload 2, .if_icmp .ne 97, .iload 4, .ifCond .ne 66, .aload 0, .tableswitch 0 11 101 #[], .iload 5, .iaload, .aload 0, .tableswitch 0 11 101 #[], .iload 1, .iaload, .if_icmp .ne 70, .iconst 1, .goto 71] 70 = true := qck_r (nn_ _) (by decide +kernel)
theorem bs_X11_mayStand_8 {P : Zt → Option Zv → Prop} (K : Int → Zl → List Zv → Zt → Prop) : sx_ K P [.iload 5, .aload 0, .tableswitch 0 11 12 #[], .if_icmp .ge 103, .iload 5, .iload 1, .if_icmp .eq 97, .aload 0, .tableswitch 0 11 101 #[], .iload 5, .iaload, .iconst (-1), .if_icmp .eq 97, .aload 0, .tableswitch 0 11 102 #[], .iload 5, .iaload, .iload 2, .if_icmp .ne 97, .iload 4, .ifCond .ne 66, .aload 0, .tableswitch 0 11 101 #[], .iload 5, .iaload, .aload 0, .tableswitch 0 11 101 #[], .iload 1, .iaload, .if_icmp .ne 70, .iconst 1, .goto 71] 70 = x_iload 5 (x_aload 0 (x_g0 111 12 0 12 (x_if_icmp .ge 103 K (x_iload 5 (x_iload 1 (x_if_icmp .eq 97 K (x_aload 0 (x_g1 111 301 (x_iload 5 (x_iaload (x_iconst (-1) (x_if_icmp .eq 97 K (x_aload 0 (x_g1 111 302 (x_iload 5 (x_iaload (x_iload 2 (x_if_icmp .ne 97 K (x_iload 4 (x_ifCond .ne 66 K (x_aload 0 (x_g1 111 301 (x_iload 5 (x_iaload (x_aload 0 (x_g1 111 301 (x_iload 1 (x_iaload (x_if_icmp .ne 70 K (x_iconst 1 (x_goto 71 K))))))))))))))))))))))))))))))) := ((xe_iload 5).trans (congrArg (x_iload 5) ((xe_aload 0).trans (congrArg (x_aload 0) ((xe_g0 (kk := 111) rfl tl_11_12).trans (congrArg (x_g0 111 12 0 12) ((xe_if_icmp .ge 103).trans (congrArg (x_if_icmp .ge 103 K) ((xe_iload 5).trans (congrArg (x_iload 5) ((xe_iload 1).trans (congrArg (x_iload 1) ((xe_if_icmp .eq 97).trans (congrArg (x_if_icmp .eq 97 K) ((xe_aload 0).trans (congrArg (x_aload 0) ((xe_g1 (kk := 111) rfl tl_11_101).trans (congrArg (x_g1 111 301) ((xe_iload 5).trans (congrArg (x_iload 5) ((xe_iaload).trans (congrArg (x_iaload) ((xe_iconst (-1)).trans (congrArg (x_iconst (-1)) ((xe_if_icmp .eq 97).trans (congrArg (x_if_icmp .eq 97 K) ((xe_aload 0).trans (congrArg (x_aload 0) ((xe_g1 (kk := 111) rfl tl_11_102).trans (congrArg (x_g1 111 302) ((xe_iload 5).trans (congrArg (x_iload 5) ((xe_iaload).trans (congrArg (x_iaload) ((xe_iload 2).trans (congrArg (x_iload 2) ((xe_if_icmp .ne 97).trans (congrArg (x_if_icmp .ne 97 K) ((xe_iload 4).trans (congrArg (x_iload 4) ((xe_ifCond .ne 66).trans (congrArg (x_ifCond .ne 66 K) ((xe_aload 0).trans (congrArg (x_aload 0) ((xe_g1 (kk := 111) rfl tl_11_101).trans (congrArg (x_g1 111 301) ((xe_iload 5).trans (congrArg (x_iload 5) ((xe_iaload).trans (congrArg (x_iaload) ((xe_aload 0).trans (congrArg (x_aload 0) ((xe_g1 (kk := 111) rfl tl_11_101).trans (congrArg (x_g1 111 301) ((xe_iload 1).trans (congrArg (x_iload 1) ((xe_iaload).trans (congrArg (x_iaload) ((xe_if_icmp .ne 70).trans (congrArg (x_if_icmp .ne 70 K) ((xe_iconst 1).trans (congrArg (x_iconst 1) (xe_goto 71)))))))))))))))))))))))))))))))))))))))))))))))))))))))))))))))
theorem bk_X11_mayStand_103 : ck_ fX11 (some .boolean) cX11_mayStand 103 [.iload 4, .ifCond .ne 120, .iload 3, .aload 0, .tableswitch 0 11 100 #[], .if_icmp .ge 120, .iconst 1, .goto 121] 120 = true := qck_r (nn_ _) (by decide +kernel)
theorem bs_X11_mayStand_103 {P : Zt → Option Zv → Prop} (K : Int → Zl → List Zv → Zt → Prop) : sx_ K P [.iload 4, .ifCond .ne 120, .iload 3, .aload 0, .tableswitch 0 11 100 #[], .if_icmp .ge 120, .iconst 1, .goto 121] 120 = x_iload 4 (x_ifCond .ne 120 K (x_iload 3 (x_aload 0 (x_g0 111 100 0 3 (x_if_icmp .ge 120 K (x_iconst 1 (x_goto 121 K))))))) := ((xe_iload 4).trans (congrArg (x_iload 4) ((xe_ifCond .ne 120).trans (congrArg (x_ifCond .ne 120 K) ((xe_iload 3).trans (congrArg (x_iload 3) ((xe_aload 0).trans (congrArg (x_aload 0) ((xe_g0 (kk := 111) rfl tl_11_100).trans (congrArg (x_g0 111 100 0 3) ((xe_if_icmp .ge 120).trans (congrArg (x_if_icmp .ge 120 K) ((xe_iconst 1).trans (congrArg (x_iconst 1) (xe_goto 121)))))))))))))))
theorem bk_X11_mayStand_120 : ck_ fX11 (some .boolean) cX11_mayStand 120 [.iconst 0, .ireturn] 122 = true := qck_r (nn_ _) (by decide +kernel)
theorem bs_X11_mayStand_120 {P : Zt → Option Zv → Prop} (K : Int → Zl → List Zv → Zt → Prop) : sx_ K P [.iconst 0, .ireturn] 122 = x_iconst 0 (x_ireturn P) := ((xe_iconst 0).trans (congrArg (x_iconst 0) (xe_ireturn)))
theorem bk_X11_mayStand_121 : ck_ fX11 (some .boolean) cX11_mayStand 121 [.ireturn] 122 = true := qck_r (nn_ _) (by decide +kernel)
theorem bs_X11_mayStand_121 {P : Zt → Option Zv → Prop} (K : Int → Zl → List Zv → Zt → Prop) : sx_ K P [.ireturn] 122 = x_ireturn P := (xe_ireturn)
theorem bk_X11_mayStand_97 : ck_ fX11 (some .boolean) cX11_mayStand 97 [.iinc 5 1, .goto 8] 103 = true := qck_r (nn_ _) (by decide +kernel)
theorem bs_X11_mayStand_97 {P : Zt → Option Zv → Prop} (K : Int → Zl → List Zv → Zt → Prop) : sx_ K P [.iinc 5 1, .goto 8] 103 = x_iinc 5 1 (x_goto 8 K) := ((xe_iinc 5 1).trans (congrArg (x_iinc 5 1) (xe_goto 8)))
theorem bk_X11_mayStand_66 : ck_ fX11 (some .boolean) cX11_mayStand 66 [.iconst 1, .goto 71] 70 = true := qck_r (nn_ _) (by decide +kernel)
theorem bs_X11_mayStand_66 {P : Zt → Option Zv → Prop} (K : Int → Zl → List Zv → Zt → Prop) : sx_ K P [.iconst 1, .goto 71] 70 = x_iconst 1 (x_goto 71 K) := ((xe_iconst 1).trans (congrArg (x_iconst 1) (xe_goto 71)))
theorem bk_X11_mayStand_71 : ck_ fX11 (some .boolean) cX11_mayStand 71 [.istore 4, .iload 3, .aload 0, .tableswitch 0 11 14 #[], .iload 5, .iaload, .aload 0, .tableswitch 0 11 14 #[], .iload 1, .iaload, .if_icmp .ne 94, .iconst 1, .goto 95] 94 = true := qck_r (nn_ _) (by decide +kernel)
theorem bs_X11_mayStand_71 {P : Zt → Option Zv → Prop} (K : Int → Zl → List Zv → Zt → Prop) : sx_ K P [.istore 4, .iload 3, .aload 0, .tableswitch 0 11 14 #[], .iload 5, .iaload, .aload 0, .tableswitch 0 11 14 #[], .iload 1, .iaload, .if_icmp .ne 94, .iconst 1, .goto 95] 94 = x_istore 4 (x_iload 3 (x_aload 0 (x_g1 111 214 (x_iload 5 (x_iaload (x_aload 0 (x_g1 111 214 (x_iload 1 (x_iaload (x_if_icmp .ne 94 K (x_iconst 1 (x_goto 95 K)))))))))))) := ((xe_istore 4).trans (congrArg (x_istore 4) ((xe_iload 3).trans (congrArg (x_iload 3) ((xe_aload 0).trans (congrArg (x_aload 0) ((xe_g1 (kk := 111) rfl tl_11_14).trans (congrArg (x_g1 111 214) ((xe_iload 5).trans (congrArg (x_iload 5) ((xe_iaload).trans (congrArg (x_iaload) ((xe_aload 0).trans (congrArg (x_aload 0) ((xe_g1 (kk := 111) rfl tl_11_14).trans (congrArg (x_g1 111 214) ((xe_iload 1).trans (congrArg (x_iload 1) ((xe_iaload).trans (congrArg (x_iaload) ((xe_if_icmp .ne 94).trans (congrArg (x_if_icmp .ne 94 K) ((xe_iconst 1).trans (congrArg (x_iconst 1) (xe_goto 95)))))))))))))))))))))))))
theorem bk_X11_mayStand_94 : ck_ fX11 (some .boolean) cX11_mayStand 94 [.iconst 0, .iadd, .istore 3, .iinc 5 1, .goto 8] 103 = true := qck_r (nn_ _) (by decide +kernel)
theorem bs_X11_mayStand_94 {P : Zt → Option Zv → Prop} (K : Int → Zl → List Zv → Zt → Prop) : sx_ K P [.iconst 0, .iadd, .istore 3, .iinc 5 1, .goto 8] 103 = x_iconst 0 (x_iadd (x_istore 3 (x_iinc 5 1 (x_goto 8 K)))) := ((xe_iconst 0).trans (congrArg (x_iconst 0) ((xe_iadd).trans (congrArg (x_iadd) ((xe_istore 3).trans (congrArg (x_istore 3) ((xe_iinc 5 1).trans (congrArg (x_iinc 5 1) (xe_goto 8)))))))))
theorem bk_X11_mayStand_95 : ck_ fX11 (some .boolean) cX11_mayStand 95 [.iadd, .istore 3, .iinc 5 1, .goto 8] 103 = true := qck_r (nn_ _) (by decide +kernel)
theorem bs_X11_mayStand_95 {P : Zt → Option Zv → Prop} (K : Int → Zl → List Zv → Zt → Prop) : sx_ K P [.iadd, .istore 3, .iinc 5 1, .goto 8] 103 = x_iadd (x_istore 3 (x_iinc 5 1 (x_goto 8 K))) := ((xe_iadd).trans (congrArg (x_iadd) ((xe_istore 3).trans (congrArg (x_istore 3) ((xe_iinc 5 1).trans (congrArg (x_iinc 5 1) (xe_goto 8)))))))
theorem bk_X11_mayStand_70 : ck_ fX11 (some .boolean) cX11_mayStand 70 [.iconst 0, .istore 4, .iload 3, .aload 0, .tableswitch 0 11 14 #[], .iload 5, .iaload, .aload 0, .tableswitch 0 11 14 #[], .iload 1, .iaload, .if_icmp .ne 94, .iconst 1, .goto 95] 94 = true := qck_r (nn_ _) (by decide +kernel)
theorem bs_X11_mayStand_70 {P : Zt → Option Zv → Prop} (K : Int → Zl → List Zv → Zt → Prop) : sx_ K P [.iconst 0, .istore 4, .iload 3, .aload 0, .tableswitch 0 11 14 #[], .iload 5, .iaload, .aload 0, .tableswitch 0 11 14 #[], .iload 1, .iaload, .if_icmp .ne 94, .iconst 1, .goto 95] 94 = x_iconst 0 (x_istore 4 (x_iload 3 (x_aload 0 (x_g1 111 214 (x_iload 5 (x_iaload (x_aload 0 (x_g1 111 214 (x_iload 1 (x_iaload (x_if_icmp .ne 94 K (x_iconst 1 (x_goto 95 K))))))))))))) := ((xe_iconst 0).trans (congrArg (x_iconst 0) ((xe_istore 4).trans (congrArg (x_istore 4) ((xe_iload 3).trans (congrArg (x_iload 3) ((xe_aload 0).trans (congrArg (x_aload 0) ((xe_g1 (kk := 111) rfl tl_11_14).trans (congrArg (x_g1 111 214) ((xe_iload 5).trans (congrArg (x_iload 5) ((xe_iaload).trans (congrArg (x_iaload) ((xe_aload 0).trans (congrArg (x_aload 0) ((xe_g1 (kk := 111) rfl tl_11_14).trans (congrArg (x_g1 111 214) ((xe_iload 1).trans (congrArg (x_iload 1) ((xe_iaload).trans (congrArg (x_iaload) ((xe_if_icmp .ne 94).trans (congrArg (x_if_icmp .ne 94 K) ((xe_iconst 1).trans (congrArg (x_iconst 1) (xe_goto 95)))))))))))))))))))))))))))
theorem bk_X11_mayStand_0 : ck_ fX11 (some .boolean) cX11_mayStand 0 [.iconst 0, .istore 3, .iconst 0, .istore 4, .iconst 0, .istore 5] 8 = true := qck_r (nn_ _) (by decide +kernel)
theorem bs_X11_mayStand_0 {P : Zt → Option Zv → Prop} (K : Int → Zl → List Zv → Zt → Prop) : sx_ K P [.iconst 0, .istore 3, .iconst 0, .istore 4, .iconst 0, .istore 5] 8 = x_iconst 0 (x_istore 3 (x_iconst 0 (x_istore 4 (x_iconst 0 (x_istore 5 (K 8)))))) := ((xe_iconst 0).trans (congrArg (x_iconst 0) ((xe_istore 3).trans (congrArg (x_istore 3) ((xe_iconst 0).trans (congrArg (x_iconst 0) ((xe_istore 4).trans (congrArg (x_istore 4) ((xe_iconst 0).trans (congrArg (x_iconst 0) ((xe_istore 5).trans (congrArg (x_istore 5) xe_nil))))))))))))
abbrev po_X11_mayStand (T : Zt) (cl g : Int) : Zt → Option Zv → Prop := fun T' r => T = T' ∧ ∃ x : Int, r = some (vI x) ∧ ((x = 1 ∧ ms_ (drw_ T) (gf_ T) cl g) ∨ (x = 0 ∧ ¬ ms_ (drw_ T) (gf_ T) cl g))
set_option maxHeartbeats 4000000 in
theorem ct_X11_mayStand {T : Zt} {cl g : Int} (h1 : 0 ≤ cl ∧ cl < 12) : Ct_ yX11_mayStand zX11_mayStand T [vR 111 0, vI cl, vI g] (po_X11_mayStand T cl g) := by
  refine ct_of pn_11 rfl rfl (Nat.le_of_ble_eq_true rfl) (fun hT hav => ?_)
  have hr_cl : -2147483648 ≤ cl ∧ cl ≤ 2147483647 := hav (vI cl) (List.mem_cons_of_mem _ List.mem_cons_self)
  have hr_g : -2147483648 ≤ g ∧ g ≤ 2147483647 := hav (vI g) (List.mem_cons_of_mem _ (List.mem_cons_of_mem _ List.mem_cons_self))
  have hz : zX11_mayStand.2.2.2.1 = some .boolean → ∀ (T' : Zt) (x : Int), po_X11_mayStand T cl g T' (some (vI x)) → 0 ≤ x ∧ x ≤ 1 := fun _ T' x h => by obtain ⟨-, y, e, hy⟩ := h; cases e; rcases hy with z | z <;> omega
  have hb_12 : 0 ≤ T 111 0 12 ∧ T 111 0 12 ≤ 12 := bd_f hT 111 12 tl_11_12 0
  show J_ zX11_mayStand T (po_X11_mayStand T cl g) 0 0 0 [some (vR 111 0), some (vI cl), some (vI g), none, none, none] [] T
  have c_8 : ∀ (nn : Nat) (a : Int) (t : Int) (k : Int), ((12 - k).toNat) ≤ nn → (0 ≤ k ∧ k ≤ T 111 0 12 ∧ 0 ≤ a ∧ a ≤ k) → ((t = 1 ∧ MT_ T cl g k) ∨ (t = 0 ∧ ¬ MT_ T cl g k)) → (a = ma_ T cl g k) → J_ zX11_mayStand T (po_X11_mayStand T cl g) 0 0 8 [some (vR 111 0), some (vI cl), some (vI g), some (vI a), some (vI t), some (vI k)] [] T := by
    intro nn
    induction nn using Nat.strongRecOn with
    | _ nn ih_8 =>
      intro a t k hm_8 i1 ht ha
      replace hm_8 := fun (_ : Unit) => hm_8
      refine j_blx (F := fX11) tb_X11 (nn_ _) bk_X11_mayStand_8 bs_X11_mayStand_8 hz (fun K hK => ?_)
      intro b1 b1b
      refine And.intro (fun c2 => ?_) (fun c2 => ?_)
      · refine hK 103 _ [] T ?_
        refine j_blx (F := fX11) tb_X11 (nn_ _) bk_X11_mayStand_103 bs_X11_mayStand_103 hz (fun K hK => ?_)
        refine And.intro (fun c3 => ?_) (fun c3 => ?_)
        · refine hK 120 _ [] T ?_
          refine j_blx (F := fX11) tb_X11 (nn_ _) bk_X11_mayStand_120 bs_X11_mayStand_120 hz (fun K hK => ?_)
          refine (show po_X11_mayStand T cl g T (some (vI 0)) from ?_)
          refine ⟨rfl, _, rfl, ?_⟩
          have hm := ms_i (show k = T 111 0 12 by omega) ht ha
          exact Or.inr ⟨rfl, fun h9 => by have := hm.mp h9; omega⟩
        · intro b4 b4b
          refine And.intro (fun c5 => ?_) (fun c5 => ?_)
          · refine hK 120 _ [] T ?_
            refine j_blx (F := fX11) tb_X11 (nn_ _) bk_X11_mayStand_120 bs_X11_mayStand_120 hz (fun K hK => ?_)
            refine (show po_X11_mayStand T cl g T (some (vI 0)) from ?_)
            refine ⟨rfl, _, rfl, ?_⟩
            have hm := ms_i (show k = T 111 0 12 by omega) ht ha
            exact Or.inr ⟨rfl, fun h9 => by have := hm.mp h9; omega⟩
          · refine hK 121 _ [vI 1] T ?_
            refine j_blx (F := fX11) tb_X11 (nn_ _) bk_X11_mayStand_121 bs_X11_mayStand_121 hz (fun K hK => ?_)
            refine (show po_X11_mayStand T cl g T (some (vI 1)) from ?_)
            refine ⟨rfl, _, rfl, ?_⟩
            have hm := ms_i (show k = T 111 0 12 by omega) ht ha
            exact Or.inl ⟨rfl, hm.mpr (by rcases ht with z | z <;> omega)⟩
      · refine And.intro (fun c6 => ?_) (fun c6 => ?_)
        · refine hK 97 _ [] T ?_
          refine j_blx (F := fX11) tb_X11 (nn_ _) bk_X11_mayStand_97 bs_X11_mayStand_97 hz (fun K hK => ?_)
          refine rg_i (by omega) ?_
          refine hK 8 [some (vR 111 0), some (vI cl), some (vI g), some (vI a), some (vI t), some (vI (k + 1))] [] T ?_
          refine ih_8 _ ?_ a t (k + 1) (Nat.le_refl _) ?_ ?_ ?_
          · have hm_8 := hm_8 (); omega
          · omega
          · rw [mt_s (by omega)]
            rcases ht with ⟨z1, z2⟩ | ⟨z1, z2⟩
            · first
              | exact Or.inl ⟨rfl, Or.inl z2⟩
              | exact Or.inl ⟨z1, Or.inl z2⟩
              | (exfalso; omega)
            · first
              | exact Or.inl ⟨rfl, Or.inr ⟨by omega, by omega, by omega, by omega⟩⟩
              | exact Or.inr ⟨rfl, fun q => q.elim z2 (fun q => by omega)⟩
              | exact Or.inr ⟨z1, fun q => q.elim z2 (fun q => by omega)⟩
              | (exfalso; omega)
          · first
            | (rw [ma_f (by omega) (by omega)]; omega)
            | (rw [ma_t (by omega) (by omega)]; omega)
        · refine ix_i (by omega) ?_
          intro b7 b7b
          refine And.intro (fun c8 => ?_) (fun c8 => ?_)
          · refine hK 97 [some (vR 111 0), some (vI cl), some (vI g), some (vI a), some (vI t), some (vI k)] [] T ?_
            refine j_blx (F := fX11) tb_X11 (nn_ _) bk_X11_mayStand_97 bs_X11_mayStand_97 hz (fun K hK => ?_)
            refine rg_i (by omega) ?_
            refine hK 8 [some (vR 111 0), some (vI cl), some (vI g), some (vI a), some (vI t), some (vI (k + 1))] [] T ?_
            refine ih_8 _ ?_ a t (k + 1) (Nat.le_refl _) ?_ ?_ ?_
            · have hm_8 := hm_8 (); omega
            · omega
            · rw [mt_s (by omega)]
              rcases ht with ⟨z1, z2⟩ | ⟨z1, z2⟩
              · first
                | exact Or.inl ⟨rfl, Or.inl z2⟩
                | exact Or.inl ⟨z1, Or.inl z2⟩
                | (exfalso; omega)
              · first
                | exact Or.inl ⟨rfl, Or.inr ⟨by omega, by omega, by omega, by omega⟩⟩
                | exact Or.inr ⟨rfl, fun q => q.elim z2 (fun q => by omega)⟩
                | exact Or.inr ⟨z1, fun q => q.elim z2 (fun q => by omega)⟩
                | (exfalso; omega)
            · first
              | (rw [ma_f (by omega) (by omega)]; omega)
              | (rw [ma_t (by omega) (by omega)]; omega)
          · refine ix_i (by omega) ?_
            intro b9 b9b
            refine And.intro (fun c10 => ?_) (fun c10 => ?_)
            · refine hK 97 [some (vR 111 0), some (vI cl), some (vI g), some (vI a), some (vI t), some (vI k)] [] T ?_
              refine j_blx (F := fX11) tb_X11 (nn_ _) bk_X11_mayStand_97 bs_X11_mayStand_97 hz (fun K hK => ?_)
              refine rg_i (by omega) ?_
              refine hK 8 [some (vR 111 0), some (vI cl), some (vI g), some (vI a), some (vI t), some (vI (k + 1))] [] T ?_
              refine ih_8 _ ?_ a t (k + 1) (Nat.le_refl _) ?_ ?_ ?_
              · have hm_8 := hm_8 (); omega
              · omega
              · rw [mt_s (by omega)]
                rcases ht with ⟨z1, z2⟩ | ⟨z1, z2⟩
                · first
                  | exact Or.inl ⟨rfl, Or.inl z2⟩
                  | exact Or.inl ⟨z1, Or.inl z2⟩
                  | (exfalso; omega)
                · first
                  | exact Or.inl ⟨rfl, Or.inr ⟨by omega, by omega, by omega, by omega⟩⟩
                  | exact Or.inr ⟨rfl, fun q => q.elim z2 (fun q => by omega)⟩
                  | exact Or.inr ⟨z1, fun q => q.elim z2 (fun q => by omega)⟩
                  | (exfalso; omega)
              · first
                | (rw [ma_f (by omega) (by omega)]; omega)
                | (rw [ma_t (by omega) (by omega)]; omega)
            · refine And.intro (fun c11 => ?_) (fun c11 => ?_)
              · refine hK 66 [some (vR 111 0), some (vI cl), some (vI g), some (vI a), some (vI t), some (vI k)] [] T ?_
                refine j_blx (F := fX11) tb_X11 (nn_ _) bk_X11_mayStand_66 bs_X11_mayStand_66 hz (fun K hK => ?_)
                refine hK 71 _ [vI 1] T ?_
                refine j_blx (F := fX11) tb_X11 (nn_ _) bk_X11_mayStand_71 bs_X11_mayStand_71 hz (fun K hK => ?_)
                refine ix_i (by omega) ?_
                intro b12 b12b
                refine ix_i (by omega) ?_
                intro b13 b13b
                refine And.intro (fun c14 => ?_) (fun c14 => ?_)
                · refine hK 94 [some (vR 111 0), some (vI cl), some (vI g), some (vI a), some (vI 1), some (vI k)] [vI a] T ?_
                  refine j_blx (F := fX11) tb_X11 (nn_ _) bk_X11_mayStand_94 bs_X11_mayStand_94 hz (fun K hK => ?_)
                  refine rg_i (by omega) ?_
                  refine rg_i (by omega) ?_
                  refine hK 8 [some (vR 111 0), some (vI cl), some (vI g), some (vI (a + 0)), some (vI 1), some (vI (k + 1))] [] T ?_
                  refine ih_8 _ ?_ (a + 0) 1 (k + 1) (Nat.le_refl _) ?_ ?_ ?_
                  · have hm_8 := hm_8 (); omega
                  · omega
                  · rw [mt_s (by omega)]
                    rcases ht with ⟨z1, z2⟩ | ⟨z1, z2⟩
                    · first
                      | exact Or.inl ⟨rfl, Or.inl z2⟩
                      | exact Or.inl ⟨z1, Or.inl z2⟩
                      | (exfalso; omega)
                    · first
                      | exact Or.inl ⟨rfl, Or.inr ⟨by omega, by omega, by omega, by omega⟩⟩
                      | exact Or.inr ⟨rfl, fun q => q.elim z2 (fun q => by omega)⟩
                      | exact Or.inr ⟨z1, fun q => q.elim z2 (fun q => by omega)⟩
                      | (exfalso; omega)
                  · first
                    | (rw [ma_f (by omega) (by omega)]; omega)
                    | (rw [ma_t (by omega) (by omega)]; omega)
                · refine hK 95 [some (vR 111 0), some (vI cl), some (vI g), some (vI a), some (vI 1), some (vI k)] [vI 1, vI a] T ?_
                  refine j_blx (F := fX11) tb_X11 (nn_ _) bk_X11_mayStand_95 bs_X11_mayStand_95 hz (fun K hK => ?_)
                  refine rg_i (by omega) ?_
                  refine rg_i (by omega) ?_
                  refine hK 8 [some (vR 111 0), some (vI cl), some (vI g), some (vI (a + 1)), some (vI 1), some (vI (k + 1))] [] T ?_
                  refine ih_8 _ ?_ (a + 1) 1 (k + 1) (Nat.le_refl _) ?_ ?_ ?_
                  · have hm_8 := hm_8 (); omega
                  · omega
                  · rw [mt_s (by omega)]
                    rcases ht with ⟨z1, z2⟩ | ⟨z1, z2⟩
                    · first
                      | exact Or.inl ⟨rfl, Or.inl z2⟩
                      | exact Or.inl ⟨z1, Or.inl z2⟩
                      | (exfalso; omega)
                    · first
                      | exact Or.inl ⟨rfl, Or.inr ⟨by omega, by omega, by omega, by omega⟩⟩
                      | exact Or.inr ⟨rfl, fun q => q.elim z2 (fun q => by omega)⟩
                      | exact Or.inr ⟨z1, fun q => q.elim z2 (fun q => by omega)⟩
                      | (exfalso; omega)
                  · first
                    | (rw [ma_f (by omega) (by omega)]; omega)
                    | (rw [ma_t (by omega) (by omega)]; omega)
              · refine ix_i (by omega) ?_
                intro b15 b15b
                refine ix_i (by omega) ?_
                intro b16 b16b
                refine And.intro (fun c17 => ?_) (fun c17 => ?_)
                · refine hK 70 _ [] T ?_
                  refine j_blx (F := fX11) tb_X11 (nn_ _) bk_X11_mayStand_70 bs_X11_mayStand_70 hz (fun K hK => ?_)
                  refine ix_i (by omega) ?_
                  intro b18 b18b
                  refine ix_i (by omega) ?_
                  intro b19 b19b
                  refine And.intro (fun c20 => ?_) (fun c20 => ?_)
                  · refine hK 94 [some (vR 111 0), some (vI cl), some (vI g), some (vI a), some (vI 0), some (vI k)] [vI a] T ?_
                    refine j_blx (F := fX11) tb_X11 (nn_ _) bk_X11_mayStand_94 bs_X11_mayStand_94 hz (fun K hK => ?_)
                    refine rg_i (by omega) ?_
                    refine rg_i (by omega) ?_
                    refine hK 8 [some (vR 111 0), some (vI cl), some (vI g), some (vI (a + 0)), some (vI 0), some (vI (k + 1))] [] T ?_
                    refine ih_8 _ ?_ (a + 0) 0 (k + 1) (Nat.le_refl _) ?_ ?_ ?_
                    · have hm_8 := hm_8 (); omega
                    · omega
                    · rw [mt_s (by omega)]
                      rcases ht with ⟨z1, z2⟩ | ⟨z1, z2⟩
                      · first
                        | exact Or.inl ⟨rfl, Or.inl z2⟩
                        | exact Or.inl ⟨z1, Or.inl z2⟩
                        | (exfalso; omega)
                      · first
                        | exact Or.inl ⟨rfl, Or.inr ⟨by omega, by omega, by omega, by omega⟩⟩
                        | exact Or.inr ⟨rfl, fun q => q.elim z2 (fun q => by omega)⟩
                        | exact Or.inr ⟨z1, fun q => q.elim z2 (fun q => by omega)⟩
                        | (exfalso; omega)
                    · first
                      | (rw [ma_f (by omega) (by omega)]; omega)
                      | (rw [ma_t (by omega) (by omega)]; omega)
                  · refine hK 95 [some (vR 111 0), some (vI cl), some (vI g), some (vI a), some (vI 0), some (vI k)] [vI 1, vI a] T ?_
                    refine j_blx (F := fX11) tb_X11 (nn_ _) bk_X11_mayStand_95 bs_X11_mayStand_95 hz (fun K hK => ?_)
                    refine rg_i (by omega) ?_
                    refine rg_i (by omega) ?_
                    refine hK 8 [some (vR 111 0), some (vI cl), some (vI g), some (vI (a + 1)), some (vI 0), some (vI (k + 1))] [] T ?_
                    refine ih_8 _ ?_ (a + 1) 0 (k + 1) (Nat.le_refl _) ?_ ?_ ?_
                    · have hm_8 := hm_8 (); omega
                    · omega
                    · rw [mt_s (by omega)]
                      rcases ht with ⟨z1, z2⟩ | ⟨z1, z2⟩
                      · first
                        | exact Or.inl ⟨rfl, Or.inl z2⟩
                        | exact Or.inl ⟨z1, Or.inl z2⟩
                        | (exfalso; omega)
                      · first
                        | exact Or.inl ⟨rfl, Or.inr ⟨by omega, by omega, by omega, by omega⟩⟩
                        | exact Or.inr ⟨rfl, fun q => q.elim z2 (fun q => by omega)⟩
                        | exact Or.inr ⟨z1, fun q => q.elim z2 (fun q => by omega)⟩
                        | (exfalso; omega)
                    · first
                      | (rw [ma_f (by omega) (by omega)]; omega)
                      | (rw [ma_t (by omega) (by omega)]; omega)
                · refine hK 71 _ [vI 1] T ?_
                  refine j_blx (F := fX11) tb_X11 (nn_ _) bk_X11_mayStand_71 bs_X11_mayStand_71 hz (fun K hK => ?_)
                  refine ix_i (by omega) ?_
                  intro b21 b21b
                  refine ix_i (by omega) ?_
                  intro b22 b22b
                  refine And.intro (fun c23 => ?_) (fun c23 => ?_)
                  · refine hK 94 [some (vR 111 0), some (vI cl), some (vI g), some (vI a), some (vI 1), some (vI k)] [vI a] T ?_
                    refine j_blx (F := fX11) tb_X11 (nn_ _) bk_X11_mayStand_94 bs_X11_mayStand_94 hz (fun K hK => ?_)
                    refine rg_i (by omega) ?_
                    refine rg_i (by omega) ?_
                    refine hK 8 [some (vR 111 0), some (vI cl), some (vI g), some (vI (a + 0)), some (vI 1), some (vI (k + 1))] [] T ?_
                    refine ih_8 _ ?_ (a + 0) 1 (k + 1) (Nat.le_refl _) ?_ ?_ ?_
                    · have hm_8 := hm_8 (); omega
                    · omega
                    · rw [mt_s (by omega)]
                      rcases ht with ⟨z1, z2⟩ | ⟨z1, z2⟩
                      · first
                        | exact Or.inl ⟨rfl, Or.inl z2⟩
                        | exact Or.inl ⟨z1, Or.inl z2⟩
                        | (exfalso; omega)
                      · first
                        | exact Or.inl ⟨rfl, Or.inr ⟨by omega, by omega, by omega, by omega⟩⟩
                        | exact Or.inr ⟨rfl, fun q => q.elim z2 (fun q => by omega)⟩
                        | exact Or.inr ⟨z1, fun q => q.elim z2 (fun q => by omega)⟩
                        | (exfalso; omega)
                    · first
                      | (rw [ma_f (by omega) (by omega)]; omega)
                      | (rw [ma_t (by omega) (by omega)]; omega)
                  · refine hK 95 [some (vR 111 0), some (vI cl), some (vI g), some (vI a), some (vI 1), some (vI k)] [vI 1, vI a] T ?_
                    refine j_blx (F := fX11) tb_X11 (nn_ _) bk_X11_mayStand_95 bs_X11_mayStand_95 hz (fun K hK => ?_)
                    refine rg_i (by omega) ?_
                    refine rg_i (by omega) ?_
                    refine hK 8 [some (vR 111 0), some (vI cl), some (vI g), some (vI (a + 1)), some (vI 1), some (vI (k + 1))] [] T ?_
                    refine ih_8 _ ?_ (a + 1) 1 (k + 1) (Nat.le_refl _) ?_ ?_ ?_
                    · have hm_8 := hm_8 (); omega
                    · omega
                    · rw [mt_s (by omega)]
                      rcases ht with ⟨z1, z2⟩ | ⟨z1, z2⟩
                      · first
                        | exact Or.inl ⟨rfl, Or.inl z2⟩
                        | exact Or.inl ⟨z1, Or.inl z2⟩
                        | (exfalso; omega)
                      · first
                        | exact Or.inl ⟨rfl, Or.inr ⟨by omega, by omega, by omega, by omega⟩⟩
                        | exact Or.inr ⟨rfl, fun q => q.elim z2 (fun q => by omega)⟩
                        | exact Or.inr ⟨z1, fun q => q.elim z2 (fun q => by omega)⟩
                        | (exfalso; omega)
                    · first
                      | (rw [ma_f (by omega) (by omega)]; omega)
                      | (rw [ma_t (by omega) (by omega)]; omega)
  refine j_blx (F := fX11) tb_X11 (nn_ _) bk_X11_mayStand_0 bs_X11_mayStand_0 hz (fun K hK => ?_)
  refine hK 8 [some (vR 111 0), some (vI cl), some (vI g), some (vI 0), some (vI 0), some (vI 0)] [] T ?_
  refine c_8 _ 0 0 0 (Nat.le_refl _) ?_ ?_ ?_
  · omega
  · exact Or.inr ⟨rfl, fun ⟨j, a, b, _⟩ => by omega⟩
  · rfl
theorem wh_z {T : Zt} {d : Dr_} {fx gp i w n t : Int} {b : Int → Int} {N : Nat} {st : List (Int × Int)} {zs : List Int} (h : WH_ T d fx gp b n i w N st zs t) (hi : i < 0) : w = N ∧ ∀ k, T 302 0 k = b k := by
  rcases h with h | ⟨h1, _⟩
  · exact h.2
  · omega
abbrev cX11_countWays : ByteArray := prog_13_method_115_code
def yX11_countWays : MethodName := ⟨RX11, "countWays", "(II)I"⟩
def zX11_countWays : Zm := (RX11, cX11_countWays, 8, (some .int), { frames := 1, cells := 0, slots := 0, locals := 25 })
theorem bk_X11_countWays_223 : ck_ fX11 (some .int) cX11_countWays 223 [.iload 6, .iload 3, .if_icmp .ge 248, .aload 0, .tableswitch 0 11 102 #[], .aload 0, .tableswitch 0 11 104 #[], .iload 6, .iaload, .iconst (-1), .iastore, .iinc 6 1, .goto 223] 248 = true := qck_r (nn_ _) (by decide +kernel)
theorem bs_X11_countWays_223 {P : Zt → Option Zv → Prop} (K : Int → Zl → List Zv → Zt → Prop) : sx_ K P [.iload 6, .iload 3, .if_icmp .ge 248, .aload 0, .tableswitch 0 11 102 #[], .aload 0, .tableswitch 0 11 104 #[], .iload 6, .iaload, .iconst (-1), .iastore, .iinc 6 1, .goto 223] 248 = x_iload 6 (x_iload 3 (x_if_icmp .ge 248 K (x_aload 0 (x_g1 111 302 (x_aload 0 (x_g1 111 304 (x_iload 6 (x_iaload (x_iconst (-1) (x_iastore (x_iinc 6 1 (x_goto 223 K)))))))))))) := ((xe_iload 6).trans (congrArg (x_iload 6) ((xe_iload 3).trans (congrArg (x_iload 3) ((xe_if_icmp .ge 248).trans (congrArg (x_if_icmp .ge 248 K) ((xe_aload 0).trans (congrArg (x_aload 0) ((xe_g1 (kk := 111) rfl tl_11_102).trans (congrArg (x_g1 111 302) ((xe_aload 0).trans (congrArg (x_aload 0) ((xe_g1 (kk := 111) rfl tl_11_104).trans (congrArg (x_g1 111 304) ((xe_iload 6).trans (congrArg (x_iload 6) ((xe_iaload).trans (congrArg (x_iaload) ((xe_iconst (-1)).trans (congrArg (x_iconst (-1)) ((xe_iastore).trans (congrArg (x_iastore) ((xe_iinc 6 1).trans (congrArg (x_iinc 6 1) (xe_goto 223)))))))))))))))))))))))))
theorem bk_X11_countWays_248 : ck_ fX11 (some .int) cX11_countWays 248 [.iload 4, .ireturn] 251 = true := qck_r (nn_ _) (by decide +kernel)
theorem bs_X11_countWays_248 {P : Zt → Option Zv → Prop} (K : Int → Zl → List Zv → Zt → Prop) : sx_ K P [.iload 4, .ireturn] 251 = x_iload 4 (x_ireturn P) := ((xe_iload 4).trans (congrArg (x_iload 4) (xe_ireturn)))
theorem bk_X11_countWays_130 : ck_ fX11 (some .int) cX11_countWays 130 [.iload 7, .aload 0, .tableswitch 0 11 99 #[], .if_icmp .ge 168, .iload 6, .iload 1, .if_icmp .ne 151, .iload 7, .iload 2, .if_icmp .ne 162, .aload 0, .iload 6, .iload 7] 156 = true := qck_r (nn_ _) (by decide +kernel)
theorem bs_X11_countWays_130 {P : Zt → Option Zv → Prop} (K : Int → Zl → List Zv → Zt → Prop) : sx_ K P [.iload 7, .aload 0, .tableswitch 0 11 99 #[], .if_icmp .ge 168, .iload 6, .iload 1, .if_icmp .ne 151, .iload 7, .iload 2, .if_icmp .ne 162, .aload 0, .iload 6, .iload 7] 156 = x_iload 7 (x_aload 0 (x_g0 111 99 0 4 (x_if_icmp .ge 168 K (x_iload 6 (x_iload 1 (x_if_icmp .ne 151 K (x_iload 7 (x_iload 2 (x_if_icmp .ne 162 K (x_aload 0 (x_iload 6 (x_iload 7 (K 156))))))))))))) := ((xe_iload 7).trans (congrArg (x_iload 7) ((xe_aload 0).trans (congrArg (x_aload 0) ((xe_g0 (kk := 111) rfl tl_11_99).trans (congrArg (x_g0 111 99 0 4) ((xe_if_icmp .ge 168).trans (congrArg (x_if_icmp .ge 168 K) ((xe_iload 6).trans (congrArg (x_iload 6) ((xe_iload 1).trans (congrArg (x_iload 1) ((xe_if_icmp .ne 151).trans (congrArg (x_if_icmp .ne 151 K) ((xe_iload 7).trans (congrArg (x_iload 7) ((xe_iload 2).trans (congrArg (x_iload 2) ((xe_if_icmp .ne 162).trans (congrArg (x_if_icmp .ne 162 K) ((xe_aload 0).trans (congrArg (x_aload 0) ((xe_iload 6).trans (congrArg (x_iload 6) ((xe_iload 7).trans (congrArg (x_iload 7) xe_nil))))))))))))))))))))))))))
theorem bk_X11_countWays_168 : ck_ fX11 (some .int) cX11_countWays 168 [.aload 0, .tableswitch 0 11 105 #[], .iload 5, .iload 7, .aload 0, .tableswitch 0 11 99 #[], .if_icmp .ge 188, .iload 7, .goto 189] 188 = true := qck_r (nn_ _) (by decide +kernel)
theorem bs_X11_countWays_168 {P : Zt → Option Zv → Prop} (K : Int → Zl → List Zv → Zt → Prop) : sx_ K P [.aload 0, .tableswitch 0 11 105 #[], .iload 5, .iload 7, .aload 0, .tableswitch 0 11 99 #[], .if_icmp .ge 188, .iload 7, .goto 189] 188 = x_aload 0 (x_g1 111 305 (x_iload 5 (x_iload 7 (x_aload 0 (x_g0 111 99 0 4 (x_if_icmp .ge 188 K (x_iload 7 (x_goto 189 K)))))))) := ((xe_aload 0).trans (congrArg (x_aload 0) ((xe_g1 (kk := 111) rfl tl_11_105).trans (congrArg (x_g1 111 305) ((xe_iload 5).trans (congrArg (x_iload 5) ((xe_iload 7).trans (congrArg (x_iload 7) ((xe_aload 0).trans (congrArg (x_aload 0) ((xe_g0 (kk := 111) rfl tl_11_99).trans (congrArg (x_g0 111 99 0 4) ((xe_if_icmp .ge 188).trans (congrArg (x_if_icmp .ge 188 K) ((xe_iload 7).trans (congrArg (x_iload 7) (xe_goto 189)))))))))))))))))
theorem bk_X11_countWays_188 : ck_ fX11 (some .int) cX11_countWays 188 [.iconst (-1), .iastore, .iload 7, .aload 0, .tableswitch 0 11 99 #[], .if_icmp .ge 214, .aload 0, .tableswitch 0 11 102 #[], .iload 6, .iload 7, .iastore, .iinc 5 1, .goto 217] 214 = true := qck_r (nn_ _) (by decide +kernel)
theorem bs_X11_countWays_188 {P : Zt → Option Zv → Prop} (K : Int → Zl → List Zv → Zt → Prop) : sx_ K P [.iconst (-1), .iastore, .iload 7, .aload 0, .tableswitch 0 11 99 #[], .if_icmp .ge 214, .aload 0, .tableswitch 0 11 102 #[], .iload 6, .iload 7, .iastore, .iinc 5 1, .goto 217] 214 = x_iconst (-1) (x_iastore (x_iload 7 (x_aload 0 (x_g0 111 99 0 4 (x_if_icmp .ge 214 K (x_aload 0 (x_g1 111 302 (x_iload 6 (x_iload 7 (x_iastore (x_iinc 5 1 (x_goto 217 K)))))))))))) := ((xe_iconst (-1)).trans (congrArg (x_iconst (-1)) ((xe_iastore).trans (congrArg (x_iastore) ((xe_iload 7).trans (congrArg (x_iload 7) ((xe_aload 0).trans (congrArg (x_aload 0) ((xe_g0 (kk := 111) rfl tl_11_99).trans (congrArg (x_g0 111 99 0 4) ((xe_if_icmp .ge 214).trans (congrArg (x_if_icmp .ge 214 K) ((xe_aload 0).trans (congrArg (x_aload 0) ((xe_g1 (kk := 111) rfl tl_11_102).trans (congrArg (x_g1 111 302) ((xe_iload 6).trans (congrArg (x_iload 6) ((xe_iload 7).trans (congrArg (x_iload 7) ((xe_iastore).trans (congrArg (x_iastore) ((xe_iinc 5 1).trans (congrArg (x_iinc 5 1) (xe_goto 217)))))))))))))))))))))))))
theorem bk_X11_countWays_214 : ck_ fX11 (some .int) cX11_countWays 214 [.iinc 5 (-1), .goto 82] 220 = true := qck_r (nn_ _) (by decide +kernel)
theorem bs_X11_countWays_214 {P : Zt → Option Zv → Prop} (K : Int → Zl → List Zv → Zt → Prop) : sx_ K P [.iinc 5 (-1), .goto 82] 220 = x_iinc 5 (-1) (x_goto 82 K) := ((xe_iinc 5 (-1)).trans (congrArg (x_iinc 5 (-1)) (xe_goto 82)))
theorem bk_X11_countWays_151 : ck_ fX11 (some .int) cX11_countWays 151 [.aload 0, .iload 6, .iload 7] 156 = true := qck_r (nn_ _) (by decide +kernel)
theorem bs_X11_countWays_151 {P : Zt → Option Zv → Prop} (K : Int → Zl → List Zv → Zt → Prop) : sx_ K P [.aload 0, .iload 6, .iload 7] 156 = x_aload 0 (x_iload 6 (x_iload 7 (K 156))) := ((xe_aload 0).trans (congrArg (x_aload 0) ((xe_iload 6).trans (congrArg (x_iload 6) ((xe_iload 7).trans (congrArg (x_iload 7) xe_nil))))))
set_option maxRecDepth 100000 in
theorem cl_X11_588 : cv_ RX11 588 yX11_mayStand zX11_mayStand 11 2 := ⟨gi_V (lwq_10 (dqc_m (dqa_m (dqa_m (dqa_m (List.mem_of_getElem? (i := 3) rfl))))) rfl : Cond.methodLink RX11 588 yX11_mayStand ∈ lw_g) (lwq_10 (dqc_m (dqa_m (dqa_m (dqa_m (List.mem_of_getElem? (i := 5) rfl))))) rfl : Cond.instanceMethod yX11_mayStand ∈ lw_g) (lw_sel 38 rfl : Cond.selects yX11_mayStand.cls yX11_mayStand yX11_mayStand ∈ lw_g) (lwq_1 (dqa_m (List.mem_of_getElem? (i := 2) rfl)) rfl : Cond.initialized yX11_mayStand.cls ∈ lw_g) (lwq_10 (dqc_m (dqa_m (dqa_m (dqa_m (List.mem_of_getElem? (i := 6) rfl))))) rfl : Cond.code yX11_mayStand cX11_mayStand 6 (some .boolean) ∈ lw_g), ⟨nmh_1.1, nmh_1.2, pdq_5⟩, ⟨_, _, rfl⟩⟩
theorem bk_X11_countWays_159 : ck_ fX11 (some .int) cX11_countWays 159 [.ifCond .ne 168, .iinc 7 1, .goto 130] 168 = true := qck_r (nn_ _) (by decide +kernel)
theorem bs_X11_countWays_159 {P : Zt → Option Zv → Prop} (K : Int → Zl → List Zv → Zt → Prop) : sx_ K P [.ifCond .ne 168, .iinc 7 1, .goto 130] 168 = x_ifCond .ne 168 K (x_iinc 7 1 (x_goto 130 K)) := ((xe_ifCond .ne 168).trans (congrArg (x_ifCond .ne 168 K) ((xe_iinc 7 1).trans (congrArg (x_iinc 7 1) (xe_goto 130)))))
theorem bk_X11_countWays_189 : ck_ fX11 (some .int) cX11_countWays 189 [.iastore, .iload 7, .aload 0, .tableswitch 0 11 99 #[], .if_icmp .ge 214, .aload 0, .tableswitch 0 11 102 #[], .iload 6, .iload 7, .iastore, .iinc 5 1, .goto 217] 214 = true := qck_r (nn_ _) (by decide +kernel)
theorem bs_X11_countWays_189 {P : Zt → Option Zv → Prop} (K : Int → Zl → List Zv → Zt → Prop) : sx_ K P [.iastore, .iload 7, .aload 0, .tableswitch 0 11 99 #[], .if_icmp .ge 214, .aload 0, .tableswitch 0 11 102 #[], .iload 6, .iload 7, .iastore, .iinc 5 1, .goto 217] 214 = x_iastore (x_iload 7 (x_aload 0 (x_g0 111 99 0 4 (x_if_icmp .ge 214 K (x_aload 0 (x_g1 111 302 (x_iload 6 (x_iload 7 (x_iastore (x_iinc 5 1 (x_goto 217 K))))))))))) := ((xe_iastore).trans (congrArg (x_iastore) ((xe_iload 7).trans (congrArg (x_iload 7) ((xe_aload 0).trans (congrArg (x_aload 0) ((xe_g0 (kk := 111) rfl tl_11_99).trans (congrArg (x_g0 111 99 0 4) ((xe_if_icmp .ge 214).trans (congrArg (x_if_icmp .ge 214 K) ((xe_aload 0).trans (congrArg (x_aload 0) ((xe_g1 (kk := 111) rfl tl_11_102).trans (congrArg (x_g1 111 302) ((xe_iload 6).trans (congrArg (x_iload 6) ((xe_iload 7).trans (congrArg (x_iload 7) ((xe_iastore).trans (congrArg (x_iastore) ((xe_iinc 5 1).trans (congrArg (x_iinc 5 1) (xe_goto 217)))))))))))))))))))))))
theorem bk_X11_countWays_217 : ck_ fX11 (some .int) cX11_countWays 217 [.goto 82] 220 = true := qck_r (nn_ _) (by decide +kernel)
theorem bs_X11_countWays_217 {P : Zt → Option Zv → Prop} (K : Int → Zl → List Zv → Zt → Prop) : sx_ K P [.goto 82] 220 = x_goto 82 K := (xe_goto 82)
theorem bk_X11_countWays_162 : ck_ fX11 (some .int) cX11_countWays 162 [.iinc 7 1, .goto 130] 168 = true := qck_r (nn_ _) (by decide +kernel)
theorem bs_X11_countWays_162 {P : Zt → Option Zv → Prop} (K : Int → Zl → List Zv → Zt → Prop) : sx_ K P [.iinc 7 1, .goto 130] 168 = x_iinc 7 1 (x_goto 130 K) := ((xe_iinc 7 1).trans (congrArg (x_iinc 7 1) (xe_goto 130)))
theorem bk_X11_countWays_82 : ck_ fX11 (some .int) cX11_countWays 82 [.iload 5, .ifCond .lt 220, .iload 5, .iload 3, .if_icmp .ne 102, .iinc 4 1, .iinc 5 (-1), .goto 82] 102 = true := qck_r (nn_ _) (by decide +kernel)
theorem bs_X11_countWays_82 {P : Zt → Option Zv → Prop} (K : Int → Zl → List Zv → Zt → Prop) : sx_ K P [.iload 5, .ifCond .lt 220, .iload 5, .iload 3, .if_icmp .ne 102, .iinc 4 1, .iinc 5 (-1), .goto 82] 102 = x_iload 5 (x_ifCond .lt 220 K (x_iload 5 (x_iload 3 (x_if_icmp .ne 102 K (x_iinc 4 1 (x_iinc 5 (-1) (x_goto 82 K))))))) := ((xe_iload 5).trans (congrArg (x_iload 5) ((xe_ifCond .lt 220).trans (congrArg (x_ifCond .lt 220 K) ((xe_iload 5).trans (congrArg (x_iload 5) ((xe_iload 3).trans (congrArg (x_iload 3) ((xe_if_icmp .ne 102).trans (congrArg (x_if_icmp .ne 102 K) ((xe_iinc 4 1).trans (congrArg (x_iinc 4 1) ((xe_iinc 5 (-1)).trans (congrArg (x_iinc 5 (-1)) (xe_goto 82)))))))))))))))
theorem bk_X11_countWays_220 : ck_ fX11 (some .int) cX11_countWays 220 [.iconst 0, .istore 6] 223 = true := qck_r (nn_ _) (by decide +kernel)
theorem bs_X11_countWays_220 {P : Zt → Option Zv → Prop} (K : Int → Zl → List Zv → Zt → Prop) : sx_ K P [.iconst 0, .istore 6] 223 = x_iconst 0 (x_istore 6 (K 223)) := ((xe_iconst 0).trans (congrArg (x_iconst 0) ((xe_istore 6).trans (congrArg (x_istore 6) xe_nil))))
theorem bk_X11_countWays_102 : ck_ fX11 (some .int) cX11_countWays 102 [.aload 0, .tableswitch 0 11 104 #[], .iload 5, .iaload, .istore 6, .aload 0, .tableswitch 0 11 102 #[], .iload 6, .iconst (-1), .iastore, .aload 0, .tableswitch 0 11 105 #[], .iload 5, .iaload, .iconst 1, .iadd, .istore 7] 130 = true := qck_r (nn_ _) (by decide +kernel)
theorem bs_X11_countWays_102 {P : Zt → Option Zv → Prop} (K : Int → Zl → List Zv → Zt → Prop) : sx_ K P [.aload 0, .tableswitch 0 11 104 #[], .iload 5, .iaload, .istore 6, .aload 0, .tableswitch 0 11 102 #[], .iload 6, .iconst (-1), .iastore, .aload 0, .tableswitch 0 11 105 #[], .iload 5, .iaload, .iconst 1, .iadd, .istore 7] 130 = x_aload 0 (x_g1 111 304 (x_iload 5 (x_iaload (x_istore 6 (x_aload 0 (x_g1 111 302 (x_iload 6 (x_iconst (-1) (x_iastore (x_aload 0 (x_g1 111 305 (x_iload 5 (x_iaload (x_iconst 1 (x_iadd (x_istore 7 (K 130))))))))))))))))) := ((xe_aload 0).trans (congrArg (x_aload 0) ((xe_g1 (kk := 111) rfl tl_11_104).trans (congrArg (x_g1 111 304) ((xe_iload 5).trans (congrArg (x_iload 5) ((xe_iaload).trans (congrArg (x_iaload) ((xe_istore 6).trans (congrArg (x_istore 6) ((xe_aload 0).trans (congrArg (x_aload 0) ((xe_g1 (kk := 111) rfl tl_11_102).trans (congrArg (x_g1 111 302) ((xe_iload 6).trans (congrArg (x_iload 6) ((xe_iconst (-1)).trans (congrArg (x_iconst (-1)) ((xe_iastore).trans (congrArg (x_iastore) ((xe_aload 0).trans (congrArg (x_aload 0) ((xe_g1 (kk := 111) rfl tl_11_105).trans (congrArg (x_g1 111 305) ((xe_iload 5).trans (congrArg (x_iload 5) ((xe_iaload).trans (congrArg (x_iaload) ((xe_iconst 1).trans (congrArg (x_iconst 1) ((xe_iadd).trans (congrArg (x_iadd) ((xe_istore 7).trans (congrArg (x_istore 7) xe_nil))))))))))))))))))))))))))))))))))
theorem bk_X11_countWays_14 : ck_ fX11 (some .int) cX11_countWays 14 [.iload 5, .aload 0, .tableswitch 0 11 12 #[], .if_icmp .ge 70, .aload 0, .tableswitch 0 11 101 #[], .iload 5, .iaload, .iload 4, .if_icmp .ne 64, .aload 0, .tableswitch 0 11 102 #[], .iload 5, .iaload, .iconst (-1), .if_icmp .ne 64, .aload 0, .tableswitch 0 11 104 #[], .iload 3, .iload 5, .iastore, .aload 0, .tableswitch 0 11 105 #[], .iload 3, .iconst (-1), .iastore, .iinc 3 1, .iinc 5 1, .goto 14] 70 = true := qck_r (nn_ _) (by decide +kernel)
theorem bs_X11_countWays_14 {P : Zt → Option Zv → Prop} (K : Int → Zl → List Zv → Zt → Prop) : sx_ K P [.iload 5, .aload 0, .tableswitch 0 11 12 #[], .if_icmp .ge 70, .aload 0, .tableswitch 0 11 101 #[], .iload 5, .iaload, .iload 4, .if_icmp .ne 64, .aload 0, .tableswitch 0 11 102 #[], .iload 5, .iaload, .iconst (-1), .if_icmp .ne 64, .aload 0, .tableswitch 0 11 104 #[], .iload 3, .iload 5, .iastore, .aload 0, .tableswitch 0 11 105 #[], .iload 3, .iconst (-1), .iastore, .iinc 3 1, .iinc 5 1, .goto 14] 70 = x_iload 5 (x_aload 0 (x_g0 111 12 0 12 (x_if_icmp .ge 70 K (x_aload 0 (x_g1 111 301 (x_iload 5 (x_iaload (x_iload 4 (x_if_icmp .ne 64 K (x_aload 0 (x_g1 111 302 (x_iload 5 (x_iaload (x_iconst (-1) (x_if_icmp .ne 64 K (x_aload 0 (x_g1 111 304 (x_iload 3 (x_iload 5 (x_iastore (x_aload 0 (x_g1 111 305 (x_iload 3 (x_iconst (-1) (x_iastore (x_iinc 3 1 (x_iinc 5 1 (x_goto 14 K)))))))))))))))))))))))))))) := ((xe_iload 5).trans (congrArg (x_iload 5) ((xe_aload 0).trans (congrArg (x_aload 0) ((xe_g0 (kk := 111) rfl tl_11_12).trans (congrArg (x_g0 111 12 0 12) ((xe_if_icmp .ge 70).trans (congrArg (x_if_icmp .ge 70 K) ((xe_aload 0).trans (congrArg (x_aload 0) ((xe_g1 (kk := 111) rfl tl_11_101).trans (congrArg (x_g1 111 301) ((xe_iload 5).trans (congrArg (x_iload 5) ((xe_iaload).trans (congrArg (x_iaload) ((xe_iload 4).trans (congrArg (x_iload 4) ((xe_if_icmp .ne 64).trans (congrArg (x_if_icmp .ne 64 K) ((xe_aload 0).trans (congrArg (x_aload 0) ((xe_g1 (kk := 111) rfl tl_11_102).trans (congrArg (x_g1 111 302) ((xe_iload 5).trans (congrArg (x_iload 5) ((xe_iaload).trans (congrArg (x_iaload) ((xe_iconst (-1)).trans (congrArg (x_iconst (-1)) ((xe_if_icmp .ne 64).trans (congrArg (x_if_icmp .ne 64 K) ((xe_aload 0).trans (congrArg (x_aload 0) ((xe_g1 (kk := 111) rfl tl_11_104).trans (congrArg (x_g1 111 304) ((xe_iload 3).trans (congrArg (x_iload 3) ((xe_iload 5).trans (congrArg (x_iload 5) ((xe_iastore).trans (congrArg (x_iastore) ((xe_aload 0).trans (congrArg (x_aload 0) ((xe_g1 (kk := 111) rfl tl_11_105).trans (congrArg (x_g1 111 305) ((xe_iload 3).trans (congrArg (x_iload 3) ((xe_iconst (-1)).trans (congrArg (x_iconst (-1)) ((xe_iastore).trans (congrArg (x_iastore) ((xe_iinc 3 1).trans (congrArg (x_iinc 3 1) ((xe_iinc 5 1).trans (congrArg (x_iinc 5 1) (xe_goto 14)))))))))))))))))))))))))))))))))))))))))))))))))))))))))
theorem bk_X11_countWays_70 : ck_ fX11 (some .int) cX11_countWays 70 [.iinc 4 1, .goto 5] 76 = true := qck_r (nn_ _) (by decide +kernel)
theorem bs_X11_countWays_70 {P : Zt → Option Zv → Prop} (K : Int → Zl → List Zv → Zt → Prop) : sx_ K P [.iinc 4 1, .goto 5] 76 = x_iinc 4 1 (x_goto 5 K) := ((xe_iinc 4 1).trans (congrArg (x_iinc 4 1) (xe_goto 5)))
theorem bk_X11_countWays_64 : ck_ fX11 (some .int) cX11_countWays 64 [.iinc 5 1, .goto 14] 70 = true := qck_r (nn_ _) (by decide +kernel)
theorem bs_X11_countWays_64 {P : Zt → Option Zv → Prop} (K : Int → Zl → List Zv → Zt → Prop) : sx_ K P [.iinc 5 1, .goto 14] 70 = x_iinc 5 1 (x_goto 14 K) := ((xe_iinc 5 1).trans (congrArg (x_iinc 5 1) (xe_goto 14)))
theorem bk_X11_countWays_5 : ck_ fX11 (some .int) cX11_countWays 5 [.iload 4, .iconst 2, .if_icmp .gt 76, .iconst 0, .istore 5] 14 = true := qck_r (nn_ _) (by decide +kernel)
theorem bs_X11_countWays_5 {P : Zt → Option Zv → Prop} (K : Int → Zl → List Zv → Zt → Prop) : sx_ K P [.iload 4, .iconst 2, .if_icmp .gt 76, .iconst 0, .istore 5] 14 = x_iload 4 (x_iconst 2 (x_if_icmp .gt 76 K (x_iconst 0 (x_istore 5 (K 14))))) := ((xe_iload 4).trans (congrArg (x_iload 4) ((xe_iconst 2).trans (congrArg (x_iconst 2) ((xe_if_icmp .gt 76).trans (congrArg (x_if_icmp .gt 76 K) ((xe_iconst 0).trans (congrArg (x_iconst 0) ((xe_istore 5).trans (congrArg (x_istore 5) xe_nil))))))))))
theorem bk_X11_countWays_76 : ck_ fX11 (some .int) cX11_countWays 76 [.iconst 0, .istore 4, .iconst 0, .istore 5] 82 = true := qck_r (nn_ _) (by decide +kernel)
theorem bs_X11_countWays_76 {P : Zt → Option Zv → Prop} (K : Int → Zl → List Zv → Zt → Prop) : sx_ K P [.iconst 0, .istore 4, .iconst 0, .istore 5] 82 = x_iconst 0 (x_istore 4 (x_iconst 0 (x_istore 5 (K 82)))) := ((xe_iconst 0).trans (congrArg (x_iconst 0) ((xe_istore 4).trans (congrArg (x_istore 4) ((xe_iconst 0).trans (congrArg (x_iconst 0) ((xe_istore 5).trans (congrArg (x_istore 5) xe_nil))))))))
theorem bk_X11_countWays_0 : ck_ fX11 (some .int) cX11_countWays 0 [.iconst 0, .istore 3, .iconst 0, .istore 4] 5 = true := qck_r (nn_ _) (by decide +kernel)
theorem bs_X11_countWays_0 {P : Zt → Option Zv → Prop} (K : Int → Zl → List Zv → Zt → Prop) : sx_ K P [.iconst 0, .istore 3, .iconst 0, .istore 4] 5 = x_iconst 0 (x_istore 3 (x_iconst 0 (x_istore 4 (K 5)))) := ((xe_iconst 0).trans (congrArg (x_iconst 0) ((xe_istore 3).trans (congrArg (x_istore 3) ((xe_iconst 0).trans (congrArg (x_iconst 0) ((xe_istore 4).trans (congrArg (x_istore 4) xe_nil))))))))
abbrev po_X11_countWays (T : Zt) (fx gp : Int) : Zt → Option Zv → Prop := fun T' r => ∃ x : Int, r = some (vI x) ∧ fr_ [(304, []), (305, []), (302, [])] T T' ∧ (x = (nw_ (drw_ T) fx gp (ll_ T) (gf_ T) : Nat) ∧ (∀ k, T' 302 0 k = T 302 0 k) ∧ 0 ≤ x ∧ x ≤ 13824)
set_option maxHeartbeats 4000000 in
theorem ct_X11_countWays {T : Zt} {fx gp : Int} : Ct_ yX11_countWays zX11_countWays T [vR 111 0, vI fx, vI gp] (po_X11_countWays T fx gp) := by
  refine ct_of pn_11 rfl rfl (Nat.le_of_ble_eq_true rfl) (fun hT hav => ?_)
  have hr_fx : -2147483648 ≤ fx ∧ fx ≤ 2147483647 := hav (vI fx) (List.mem_cons_of_mem _ List.mem_cons_self)
  have hr_gp : -2147483648 ≤ gp ∧ gp ≤ 2147483647 := hav (vI gp) (List.mem_cons_of_mem _ (List.mem_cons_of_mem _ List.mem_cons_self))
  have hz : zX11_countWays.2.2.2.1 = some .boolean → ∀ (T' : Zt) (x : Int), po_X11_countWays T fx gp T' (some (vI x)) → 0 ≤ x ∧ x ≤ 1 := fun h => by cases h
  have hb_12 : 0 ≤ T 111 0 12 ∧ T 111 0 12 ≤ 12 := bd_f hT 111 12 tl_11_12 0
  have hb_99 : 0 ≤ T 111 0 99 ∧ T 111 0 99 ≤ 4 := bd_f hT 111 99 tl_11_99 0
  have hN := ll_b (T := T) (fx := fx) (gp := gp) (by omega)
  have hG : (drw_ T).G ≤ 4 := show T 111 0 99 ≤ 4 by omega
  show J_ zX11_countWays T (po_X11_countWays T fx gp) 0 0 0 [some (vR 111 0), some (vI fx), some (vI gp), none, none, none, none, none] [] T
  have c_223 : ∀ (nn : Nat) (k : Int) (mn : Int) (w : Int) (T5 : Zt), ((mn - k).toNat) ≤ nn → (fr_ [(304, []), (305, []), (302, [])] T T5) → (0 ≤ k ∧ mn ≤ 12 ∧ w = (nw_ (drw_ T) fx gp (ll_ T) (gf_ T) : Nat)) → (∀ k, T5 302 0 k = T 302 0 k) → (∀ j, 0 ≤ j → j < mn → (0 ≤ T5 304 0 j ∧ T5 304 0 j < 12) ∧ T 302 0 (T5 304 0 j) = -1) → J_ zX11_countWays T (po_X11_countWays T fx gp) 0 0 223 [some (vR 111 0), some (vI fx), some (vI gp), some (vI mn), some (vI w), none, some (vI k), none] [] T5 := by
    intro nn
    induction nn using Nat.strongRecOn with
    | _ nn ih_223 =>
      intro k mn w T5 hm_223 hf_223 i5 go5 ta5
      replace hm_223 := fun (_ : Unit) => hm_223
      refine j_blx (F := fX11) tb_X11 (nn_ _) bk_X11_countWays_223 bs_X11_countWays_223 hz (fun K hK => ?_)
      refine And.intro (fun c1 => ?_) (fun c1 => ?_)
      · refine hK 248 _ [] T5 ?_
        refine j_blx (F := fX11) tb_X11 (nn_ _) bk_X11_countWays_248 bs_X11_countWays_248 hz (fun K hK => ?_)
        refine (show po_X11_countWays T fx gp T5 (some (vI w)) from ?_)
        exact ⟨_, rfl, fr_t (fr_0 _ _) (fr_s hf_223 rfl), i5.2.2, go5, by omega, by omega⟩
      · refine ix_i (by omega) ?_
        intro b2 b2b
        refine iy_i (by omega) (by omega) ?_
        refine x_nm (fun U3 hU3 => ?_)
        have e4 := up_f hU3
        refine rg_i (by omega) ?_
        refine hK 223 [some (vR 111 0), some (vI fx), some (vI gp), some (vI mn), some (vI w), none, some (vI (k + 1)), none] [] U3 ?_
        refine ih_223 _ ?_ (k + 1) mn w U3 (Nat.le_refl _) ?_ ?_ ?_ ?_
        · have hm_223 := hm_223 (); omega
        · exact fr_u (fr_t (fr_0 _ _) (fr_s hf_223 rfl)) hU3 rfl
        · exact ⟨by omega, i5.2⟩
        · intro j
          by_cases z : j = T5 304 0 k
          · rw [z, up_f hU3]; exact ((ta5 k (by omega) (by omega)).2).symm
          · rw [up_g hU3 (fun q => z q.2.2)]; exact go5 j
        · intro j a b
          rw [up_k hU3 (by exact Nat.ne_of_beq_eq_false rfl)]
          exact ta5 j a b
  have c_82 : ∀ (nn : Nat) (w : Int) (i : Int) (mn : Int) (st : List (Int × Int)) (zs : List Int) (t : Int) (T3 : Zt), (wm_ i t st) ≤ nn → (fr_ [(304, []), (305, []), (302, [])] T T3) → (-1 ≤ i ∧ i ≤ mn ∧ 0 ≤ mn ∧ mn ≤ 12) → (WH_ T3 (drw_ T) fx gp (gf_ T) mn i w (nw_ (drw_ T) fx gp (ll_ T) (gf_ T)) st zs t) → (∀ j, 0 ≤ j → j < mn → (0 ≤ T3 304 0 j ∧ T3 304 0 j < 12) ∧ T 302 0 (T3 304 0 j) = -1) → J_ zX11_countWays T (po_X11_countWays T fx gp) 0 0 82 [some (vR 111 0), some (vI fx), some (vI gp), some (vI mn), some (vI w), some (vI i), none, none] [] T3 := by
    intro nn
    induction nn using Nat.strongRecOn with
    | _ nn ih_82 =>
      intro w i mn st zs t T3 hm_82 hf_82 i3 wh ta
      replace hm_82 := fun (_ : Unit) => hm_82
      have c_130 : ∀ (nn : Nat) (g : Int) (ys : List Int) (T4 : Zt), ((T 111 0 99 - g).toNat) ≤ nn → (fr_ [(302, [])] T3 T4) → (zs = (T3 304 0 i) :: ys) → (0 ≤ i ∧ i < mn ∧ t < g ∧ -1 ≤ t ∧ g ≤ T 111 0 99 ∧ 0 ≤ T3 304 0 i ∧ T3 304 0 i < 12 ∧ T3 305 0 i = t) → ((fun k => T4 302 0 k) = cf_ (gf_ T) st) → (∀ u, t < u → 0 ≤ u → u < g → ¬ (((T3 304 0 i) = fx → u = gp) ∧ ms_ (drw_ T) (cf_ (gf_ T) st) (T3 304 0 i) u)) → J_ zX11_countWays T (po_X11_countWays T fx gp) 0 0 130 [some (vR 111 0), some (vI fx), some (vI gp), some (vI mn), some (vI w), some (vI i), some (vI (T3 304 0 i)), some (vI g)] [] T4 := by
        intro nn
        induction nn using Nat.strongRecOn with
        | _ nn ih_130 =>
          intro g ys T4 hm_130 hf_130 ez hc go4 no4
          replace hm_130 := fun (_ : Unit) => hm_130
          refine j_blx (F := fX11) tb_X11 (nn_ _) bk_X11_countWays_130 bs_X11_countWays_130 hz (fun K hK => ?_)
          intro b5 b5b
          have e6 : T4 111 0 99 = T 111 0 99 := (hf_130 111 0 99 rfl).trans (hf_82 111 0 99 rfl)
          rw [e6] at b5 b5b ⊢
          refine And.intro (fun c7 => ?_) (fun c7 => ?_)
          · refine hK 168 _ [] T4 ?_
            refine j_blx (F := fX11) tb_X11 (nn_ _) bk_X11_countWays_168 bs_X11_countWays_168 hz (fun K hK => ?_)
            intro b8 b8b
            have e9 : T4 111 0 99 = T 111 0 99 := (hf_130 111 0 99 rfl).trans (hf_82 111 0 99 rfl)
            rw [e9] at b8 b8b ⊢
            refine And.intro (fun c10 => ?_) (fun c10 => ?_)
            · refine hK 188 _ [vI i, vR 305 0] T4 ?_
              refine j_blx (F := fX11) tb_X11 (nn_ _) bk_X11_countWays_188 bs_X11_countWays_188 hz (fun K hK => ?_)
              refine iy_i (by omega) (by omega) ?_
              refine x_nm (fun U11 hU11 => ?_)
              have e12 := up_f hU11
              intro b13 b13b
              have e14 : U11 111 0 99 = T 111 0 99 := (up_k hU11 (by exact Nat.ne_of_beq_eq_false rfl) 0 99).trans ((hf_130 111 0 99 rfl).trans (hf_82 111 0 99 rfl))
              rw [e14] at b13 b13b ⊢
              refine And.intro (fun c15 => ?_) (fun c15 => ?_)
              · refine hK 214 _ [] U11 ?_
                refine j_blx (F := fX11) tb_X11 (nn_ _) bk_X11_countWays_214 bs_X11_countWays_214 hz (fun K hK => ?_)
                have eg : (fun k => U11 302 0 k) = cf_ (gf_ T) st := by rw [show (fun k => U11 302 0 k) = (fun k => T4 302 0 k) from funext (fun k => up_k hU11 (by exact Nat.ne_of_beq_eq_false rfl) 0 k)]; exact go4
                obtain ⟨st', zs', t', wh', hm'⟩ := wh_n (T2 := U11) (n := mn) hG (by rw [ez] at wh; exact wh) (by omega) eg (fun j => (up_k hU11 (by exact Nat.ne_of_beq_eq_false rfl) 0 j).trans (hf_130 304 0 j rfl)) (fun j hj => (up_g hU11 (by omega)).trans (hf_130 305 0 j rfl)) (up_f hU11) (fun u a b (c : u < T 111 0 99) => no4 u a b (by omega))
                refine rg_i (by omega) ?_
                refine hK 82 [some (vR 111 0), some (vI fx), some (vI gp), some (vI mn), some (vI w), some (vI (i + (-1))), some (vI (T3 304 0 i)), some (vI g)] [] U11 ?_
                refine j_drq [some (vR 111 0), some (vI fx), some (vI gp), some (vI mn), some (vI w), some (vI (i + (-1))), none, none] (drq_s (drq_s (drq_s (drq_s (drq_s (drq_s (drq_n (drq_n drq_0)))))))) ?_
                refine ih_82 _ ?_ w (i + (-1)) mn (st') (zs') (t') U11 (Nat.le_refl _) ?_ ?_ ?_ ?_
                · have hm_82 := hm_82 (); exact Nat.lt_of_lt_of_le hm' hm_82
                · exact fr_u (fr_t (fr_t (fr_0 _ _) (fr_s hf_82 rfl)) (fr_s hf_130 rfl)) hU11 rfl
                · omega
                · exact wh'
                · intro j a b
                  rw [(up_k hU11 (by exact Nat.ne_of_beq_eq_false rfl) 0 j).trans (hf_130 304 0 j rfl)]
                  exact ta j a b
              · exfalso; omega
            · exfalso; omega
          · refine And.intro (fun c16 => ?_) (fun c16 => ?_)
            · refine hK 151 _ [] T4 ?_
              refine j_blx (F := fX11) tb_X11 (nn_ _) bk_X11_countWays_151 bs_X11_countWays_151 hz (fun K hK => ?_)
              refine hK 156 _ [vI g, vI (T3 304 0 i), vR 111 0] T4 ?_
              refine j_callV (y := yX11_mayStand) (Yc := zX11_mayStand) (rest := []) [vI (T3 304 0 i), vI g] (ct_X11_mayStand (T := T4) (by omega)) cl_X11_588 (qd_c (by decide +kernel)) (nn_ _) rfl (rf_of rfl) (Nat.le_of_ble_eq_true rfl) (Nat.le_of_ble_eq_true rfl) (Nat.le_of_ble_eq_true rfl) rfl ?_
              rintro _ _ ⟨rfl, x17, rfl, hx17⟩
              show J_ zX11_countWays T (po_X11_countWays T fx gp) 0 0 159 _ [vI x17] T4
              have ed : drw_ T4 = drw_ T := drw_e (fun k => (hf_130 301 0 k rfl).trans (hf_82 301 0 k rfl)) (fun k => (hf_130 214 0 k rfl).trans (hf_82 214 0 k rfl)) ((hf_130 111 0 12 rfl).trans (hf_82 111 0 12 rfl)) ((hf_130 111 0 99 rfl).trans (hf_82 111 0 99 rfl)) ((hf_130 111 0 100 rfl).trans (hf_82 111 0 100 rfl))
              have hms := hx17
              rw [ed, show gf_ T4 = cf_ (gf_ T) st from go4] at hms
              refine j_blx (F := fX11) tb_X11 (nn_ _) bk_X11_countWays_159 bs_X11_countWays_159 hz (fun K hK => ?_)
              refine And.intro (fun c18 => ?_) (fun c18 => ?_)
              · refine hK 168 _ [] T4 ?_
                refine j_blx (F := fX11) tb_X11 (nn_ _) bk_X11_countWays_168 bs_X11_countWays_168 hz (fun K hK => ?_)
                intro b19 b19b
                have e20 : T4 111 0 99 = T 111 0 99 := (hf_130 111 0 99 rfl).trans (hf_82 111 0 99 rfl)
                rw [e20] at b19 b19b ⊢
                refine And.intro (fun c21 => ?_) (fun c21 => ?_)
                · exfalso; omega
                · refine hK 189 _ [vI g, vI i, vR 305 0] T4 ?_
                  refine j_blx (F := fX11) tb_X11 (nn_ _) bk_X11_countWays_189 bs_X11_countWays_189 hz (fun K hK => ?_)
                  refine iy_i (by omega) (by omega) ?_
                  refine x_nm (fun U22 hU22 => ?_)
                  have e23 := up_f hU22
                  intro b24 b24b
                  have e25 : U22 111 0 99 = T 111 0 99 := (up_k hU22 (by exact Nat.ne_of_beq_eq_false rfl) 0 99).trans ((hf_130 111 0 99 rfl).trans (hf_82 111 0 99 rfl))
                  rw [e25] at b24 b24b ⊢
                  refine And.intro (fun c26 => ?_) (fun c26 => ?_)
                  · exfalso; omega
                  · refine iy_i (by omega) (by omega) ?_
                    refine x_nm (fun U27 hU27 => ?_)
                    have e28 := up_f hU27
                    refine rg_i (by omega) ?_
                    have eg : ∀ k, U27 302 0 k = fu_ (cf_ (gf_ T) st) (T3 304 0 i) g k := fun k => by
                      by_cases z : k = (T3 304 0 i)
                      · rw [z, up_f hU27]; exact (fu_s _ _ _).symm
                      · rw [up_g hU27 (fun q => z q.2.2), up_k hU22 (by exact Nat.ne_of_beq_eq_false rfl), fu_n z]; exact congrFun go4 k
                    obtain ⟨st', zs', t', wh', hm'⟩ := wh_g (T2 := U27) (g := g) (n := mn) hG (by omega) (by rw [ez] at wh; exact wh) (by omega) eg (fun j => (up_k hU27 (by exact Nat.ne_of_beq_eq_false rfl) 0 j).trans ((up_k hU22 (by exact Nat.ne_of_beq_eq_false rfl) 0 j).trans (hf_130 304 0 j rfl))) (fun j hj => (up_k hU27 (by exact Nat.ne_of_beq_eq_false rfl) 0 j).trans ((up_g hU22 (by omega)).trans (hf_130 305 0 j rfl))) ((up_k hU27 (by exact Nat.ne_of_beq_eq_false rfl) 0 i).trans (up_f hU22)) (show t < g ∧ 0 ≤ g ∧ g < T 111 0 99 by omega) ⟨fun z => by omega, (hms.resolve_right (fun z => absurd z.1 (by omega))).2⟩ no4
                    refine hK 217 [some (vR 111 0), some (vI fx), some (vI gp), some (vI mn), some (vI w), some (vI (i + 1)), some (vI (T3 304 0 i)), some (vI g)] [] U27 ?_
                    refine j_blx (F := fX11) tb_X11 (nn_ _) bk_X11_countWays_217 bs_X11_countWays_217 hz (fun K hK => ?_)
                    refine hK 82 _ [] U27 ?_
                    refine j_drq [some (vR 111 0), some (vI fx), some (vI gp), some (vI mn), some (vI w), some (vI (i + 1)), none, none] (drq_s (drq_s (drq_s (drq_s (drq_s (drq_s (drq_n (drq_n drq_0)))))))) ?_
                    refine ih_82 _ ?_ w (i + 1) mn (st') (zs') (t') U27 (Nat.le_refl _) ?_ ?_ ?_ ?_
                    · have hm_82 := hm_82 (); exact Nat.lt_of_lt_of_le hm' hm_82
                    · exact fr_u (fr_u (fr_t (fr_t (fr_0 _ _) (fr_s hf_82 rfl)) (fr_s hf_130 rfl)) hU22 rfl) hU27 rfl
                    · omega
                    · exact wh'
                    · intro j a b
                      rw [(up_k hU27 (by exact Nat.ne_of_beq_eq_false rfl) 0 j).trans ((up_k hU22 (by exact Nat.ne_of_beq_eq_false rfl) 0 j).trans (hf_130 304 0 j rfl))]
                      exact ta j a b
              · refine rg_i (by omega) ?_
                refine hK 130 [some (vR 111 0), some (vI fx), some (vI gp), some (vI mn), some (vI w), some (vI i), some (vI (T3 304 0 i)), some (vI (g + 1))] [] T4 ?_
                refine ih_130 _ ?_ (g + 1) ys T4 (Nat.le_refl _) ?_ ?_ ?_ ?_ ?_
                · have hm_130 := hm_130 (); omega
                · exact fr_t (fr_0 _ _) (fr_s hf_130 rfl)
                · first
                  | exact ez
                  | rfl
                · omega
                · exact go4
                · intro u a b c q
                  by_cases z : u = g
                  · rw [z] at q
                    first
                    | exact absurd (q.1 (by omega)) (by omega)
                    | (rcases hms with y | y
                       · exact absurd y.1 (by omega)
                       · exact y.2 q.2)
                  · exact no4 u a b (by omega) q
            · refine And.intro (fun c29 => ?_) (fun c29 => ?_)
              · refine hK 162 _ [] T4 ?_
                refine j_blx (F := fX11) tb_X11 (nn_ _) bk_X11_countWays_162 bs_X11_countWays_162 hz (fun K hK => ?_)
                refine rg_i (by omega) ?_
                refine hK 130 [some (vR 111 0), some (vI fx), some (vI gp), some (vI mn), some (vI w), some (vI i), some (vI (T3 304 0 i)), some (vI (g + 1))] [] T4 ?_
                refine ih_130 _ ?_ (g + 1) ys T4 (Nat.le_refl _) ?_ ?_ ?_ ?_ ?_
                · have hm_130 := hm_130 (); omega
                · exact fr_t (fr_0 _ _) (fr_s hf_130 rfl)
                · first
                  | exact ez
                  | rfl
                · omega
                · exact go4
                · intro u a b c q
                  by_cases z : u = g
                  · rw [z] at q
                    first
                    | exact absurd (q.1 (by omega)) (by omega)
                    | (rcases hms with y | y
                       · exact absurd y.1 (by omega)
                       · exact y.2 q.2)
                  · exact no4 u a b (by omega) q
              · refine hK 156 [some (vR 111 0), some (vI fx), some (vI gp), some (vI mn), some (vI w), some (vI i), some (vI (T3 304 0 i)), some (vI g)] [vI g, vI (T3 304 0 i), vR 111 0] T4 ?_
                refine j_callV (y := yX11_mayStand) (Yc := zX11_mayStand) (rest := []) [vI (T3 304 0 i), vI g] (ct_X11_mayStand (T := T4) (by omega)) cl_X11_588 (qd_c (by decide +kernel)) (nn_ _) rfl (rf_of rfl) (Nat.le_of_ble_eq_true rfl) (Nat.le_of_ble_eq_true rfl) (Nat.le_of_ble_eq_true rfl) rfl ?_
                rintro _ _ ⟨rfl, x30, rfl, hx30⟩
                show J_ zX11_countWays T (po_X11_countWays T fx gp) 0 0 159 _ [vI x30] T4
                have ed : drw_ T4 = drw_ T := drw_e (fun k => (hf_130 301 0 k rfl).trans (hf_82 301 0 k rfl)) (fun k => (hf_130 214 0 k rfl).trans (hf_82 214 0 k rfl)) ((hf_130 111 0 12 rfl).trans (hf_82 111 0 12 rfl)) ((hf_130 111 0 99 rfl).trans (hf_82 111 0 99 rfl)) ((hf_130 111 0 100 rfl).trans (hf_82 111 0 100 rfl))
                have hms := hx30
                rw [ed, show gf_ T4 = cf_ (gf_ T) st from go4] at hms
                refine j_blx (F := fX11) tb_X11 (nn_ _) bk_X11_countWays_159 bs_X11_countWays_159 hz (fun K hK => ?_)
                refine And.intro (fun c31 => ?_) (fun c31 => ?_)
                · refine hK 168 _ [] T4 ?_
                  refine j_blx (F := fX11) tb_X11 (nn_ _) bk_X11_countWays_168 bs_X11_countWays_168 hz (fun K hK => ?_)
                  intro b32 b32b
                  have e33 : T4 111 0 99 = T 111 0 99 := (hf_130 111 0 99 rfl).trans (hf_82 111 0 99 rfl)
                  rw [e33] at b32 b32b ⊢
                  refine And.intro (fun c34 => ?_) (fun c34 => ?_)
                  · exfalso; omega
                  · refine hK 189 _ [vI g, vI i, vR 305 0] T4 ?_
                    refine j_blx (F := fX11) tb_X11 (nn_ _) bk_X11_countWays_189 bs_X11_countWays_189 hz (fun K hK => ?_)
                    refine iy_i (by omega) (by omega) ?_
                    refine x_nm (fun U35 hU35 => ?_)
                    have e36 := up_f hU35
                    intro b37 b37b
                    have e38 : U35 111 0 99 = T 111 0 99 := (up_k hU35 (by exact Nat.ne_of_beq_eq_false rfl) 0 99).trans ((hf_130 111 0 99 rfl).trans (hf_82 111 0 99 rfl))
                    rw [e38] at b37 b37b ⊢
                    refine And.intro (fun c39 => ?_) (fun c39 => ?_)
                    · exfalso; omega
                    · refine iy_i (by omega) (by omega) ?_
                      refine x_nm (fun U40 hU40 => ?_)
                      have e41 := up_f hU40
                      refine rg_i (by omega) ?_
                      have eg : ∀ k, U40 302 0 k = fu_ (cf_ (gf_ T) st) (T3 304 0 i) g k := fun k => by
                        by_cases z : k = (T3 304 0 i)
                        · rw [z, up_f hU40]; exact (fu_s _ _ _).symm
                        · rw [up_g hU40 (fun q => z q.2.2), up_k hU35 (by exact Nat.ne_of_beq_eq_false rfl), fu_n z]; exact congrFun go4 k
                      obtain ⟨st', zs', t', wh', hm'⟩ := wh_g (T2 := U40) (g := g) (n := mn) hG (by omega) (by rw [ez] at wh; exact wh) (by omega) eg (fun j => (up_k hU40 (by exact Nat.ne_of_beq_eq_false rfl) 0 j).trans ((up_k hU35 (by exact Nat.ne_of_beq_eq_false rfl) 0 j).trans (hf_130 304 0 j rfl))) (fun j hj => (up_k hU40 (by exact Nat.ne_of_beq_eq_false rfl) 0 j).trans ((up_g hU35 (by omega)).trans (hf_130 305 0 j rfl))) ((up_k hU40 (by exact Nat.ne_of_beq_eq_false rfl) 0 i).trans (up_f hU35)) (show t < g ∧ 0 ≤ g ∧ g < T 111 0 99 by omega) ⟨fun z => by omega, (hms.resolve_right (fun z => absurd z.1 (by omega))).2⟩ no4
                      refine hK 217 [some (vR 111 0), some (vI fx), some (vI gp), some (vI mn), some (vI w), some (vI (i + 1)), some (vI (T3 304 0 i)), some (vI g)] [] U40 ?_
                      refine j_blx (F := fX11) tb_X11 (nn_ _) bk_X11_countWays_217 bs_X11_countWays_217 hz (fun K hK => ?_)
                      refine hK 82 _ [] U40 ?_
                      refine j_drq [some (vR 111 0), some (vI fx), some (vI gp), some (vI mn), some (vI w), some (vI (i + 1)), none, none] (drq_s (drq_s (drq_s (drq_s (drq_s (drq_s (drq_n (drq_n drq_0)))))))) ?_
                      refine ih_82 _ ?_ w (i + 1) mn (st') (zs') (t') U40 (Nat.le_refl _) ?_ ?_ ?_ ?_
                      · have hm_82 := hm_82 (); exact Nat.lt_of_lt_of_le hm' hm_82
                      · exact fr_u (fr_u (fr_t (fr_t (fr_0 _ _) (fr_s hf_82 rfl)) (fr_s hf_130 rfl)) hU35 rfl) hU40 rfl
                      · omega
                      · exact wh'
                      · intro j a b
                        rw [(up_k hU40 (by exact Nat.ne_of_beq_eq_false rfl) 0 j).trans ((up_k hU35 (by exact Nat.ne_of_beq_eq_false rfl) 0 j).trans (hf_130 304 0 j rfl))]
                        exact ta j a b
                · refine rg_i (by omega) ?_
                  refine hK 130 [some (vR 111 0), some (vI fx), some (vI gp), some (vI mn), some (vI w), some (vI i), some (vI (T3 304 0 i)), some (vI (g + 1))] [] T4 ?_
                  refine ih_130 _ ?_ (g + 1) ys T4 (Nat.le_refl _) ?_ ?_ ?_ ?_ ?_
                  · have hm_130 := hm_130 (); omega
                  · exact fr_t (fr_0 _ _) (fr_s hf_130 rfl)
                  · first
                    | exact ez
                    | rfl
                  · omega
                  · exact go4
                  · intro u a b c q
                    by_cases z : u = g
                    · rw [z] at q
                      first
                      | exact absurd (q.1 (by omega)) (by omega)
                      | (rcases hms with y | y
                         · exact absurd y.1 (by omega)
                         · exact y.2 q.2)
                    · exact no4 u a b (by omega) q
      refine j_blx (F := fX11) tb_X11 (nn_ _) bk_X11_countWays_82 bs_X11_countWays_82 hz (fun K hK => ?_)
      refine And.intro (fun c42 => ?_) (fun c42 => ?_)
      · have hen := wh_z wh (by omega)
        refine hK 220 _ [] T3 ?_
        refine j_blx (F := fX11) tb_X11 (nn_ _) bk_X11_countWays_220 bs_X11_countWays_220 hz (fun K hK => ?_)
        refine hK 223 [some (vR 111 0), some (vI fx), some (vI gp), some (vI mn), some (vI w), some (vI i), some (vI 0), none] [] T3 ?_
        refine j_drq [some (vR 111 0), some (vI fx), some (vI gp), some (vI mn), some (vI w), none, some (vI 0), none] (drq_s (drq_s (drq_s (drq_s (drq_s (drq_n (drq_s (drq_n drq_0)))))))) ?_
        refine c_223 _ 0 mn w T3 (Nat.le_refl _) ?_ ?_ ?_ ?_
        · exact fr_t (fr_0 _ _) (fr_s hf_82 rfl)
        · exact ⟨by omega, by omega, hen.1⟩
        · exact hen.2
        · exact ta
      · refine And.intro (fun c43 => ?_) (fun c43 => ?_)
        · refine hK 102 [some (vR 111 0), some (vI fx), some (vI gp), some (vI mn), some (vI w), some (vI i), none, none] [] T3 ?_
          obtain ⟨x0, ys, ez, tx, tt, hx0, ht, hin, hil⟩ := wh_x wh (by omega) (by omega)
          have ht2 : t < T 111 0 99 := ht.2
          subst tx
          subst ez
          refine j_blx (F := fX11) tb_X11 (nn_ _) bk_X11_countWays_102 bs_X11_countWays_102 hz (fun K hK => ?_)
          refine ix_i (by omega) ?_
          intro b44 b44b
          refine iy_i (by omega) (by omega) ?_
          refine x_nm (fun U45 hU45 => ?_)
          have e46 := up_f hU45
          refine ix_i (by omega) ?_
          intro b47 b47b
          have e48 : U45 305 0 i = T3 305 0 i := up_k hU45 (by exact Nat.ne_of_beq_eq_false rfl) 0 i
          rw [e48] at b47 b47b ⊢
          refine rg_i (by omega) ?_
          refine hK 130 [some (vR 111 0), some (vI fx), some (vI gp), some (vI mn), some (vI w), some (vI i), some (vI (T3 304 0 i)), some (vI ((T3 305 0 i) + 1))] [] U45 ?_
          refine c_130 _ ((T3 305 0 i) + 1) ys U45 (Nat.le_refl _) ?_ ?_ ?_ ?_ ?_
          · exact fr_u (fr_0 _ _) hU45 rfl
          · first
            | exact ez
            | rfl
          · omega
          · exact wh_c wh (by omega) (up_f hU45) (fun k hk => up_g hU45 (fun q => hk q.2.2))
          · intro u a b c; omega
        · have hwb := wh_b hG wh (by omega) (by omega)
          have hw1 := hwb.1
          have hw0 := hwb.2.1
          refine rg_i (by omega) ?_
          refine rg_i (by omega) ?_
          obtain ⟨hw1, hw0, st', zs', t', wh', hm'⟩ := wh_b hG wh (by omega) (by omega)
          refine hK 82 [some (vR 111 0), some (vI fx), some (vI gp), some (vI mn), some (vI (w + 1)), some (vI (i + (-1))), none, none] [] T3 ?_
          refine ih_82 _ ?_ (w + 1) (i + (-1)) mn (st') (zs') (t') T3 (Nat.le_refl _) ?_ ?_ ?_ ?_
          · have hm_82 := hm_82 (); exact Nat.lt_of_lt_of_le hm' hm_82
          · exact fr_t (fr_0 _ _) (fr_s hf_82 rfl)
          · omega
          · exact wh'
          · exact ta
  have c_5 : ∀ (nn : Nat) (p : Int) (mn : Int) (T1 : Zt), ((3 - p).toNat) ≤ nn → (fr_ [(304, []), (305, [])] T T1) → (0 ≤ p ∧ p ≤ 3 ∧ mn = ((lq_ (fun k => T 301 0 k) (gf_ T) (T 111 0 12).toNat p.toNat).length : Int)) → (RQ_ T1 0 (lq_ (fun k => T 301 0 k) (gf_ T) (T 111 0 12).toNat p.toNat)) → J_ zX11_countWays T (po_X11_countWays T fx gp) 0 0 5 [some (vR 111 0), some (vI fx), some (vI gp), some (vI mn), some (vI p), none, none, none] [] T1 := by
    intro nn
    induction nn using Nat.strongRecOn with
    | _ nn ih_5 =>
      intro p mn T1 hm_5 hf_5 i1 rq1
      replace hm_5 := fun (_ : Unit) => hm_5
      have c_14 : ∀ (nn : Nat) (k : Int) (mn2 : Int) (T2 : Zt), ((12 - k).toNat) ≤ nn → (fr_ [(304, []), (305, [])] T T2) → (0 ≤ k ∧ k ≤ T 111 0 12 ∧ p ≤ 2 ∧ mn2 = ((lq_ (fun k => T 301 0 k) (gf_ T) (T 111 0 12).toNat p.toNat ++ lpk_ (fun k => T 301 0 k) (gf_ T) p k.toNat).length : Int)) → (RQ_ T2 0 (lq_ (fun k => T 301 0 k) (gf_ T) (T 111 0 12).toNat p.toNat ++ lpk_ (fun k => T 301 0 k) (gf_ T) p k.toNat)) → J_ zX11_countWays T (po_X11_countWays T fx gp) 0 0 14 [some (vR 111 0), some (vI fx), some (vI gp), some (vI mn2), some (vI p), some (vI k), none, none] [] T2 := by
        intro nn
        induction nn using Nat.strongRecOn with
        | _ nn ih_14 =>
          intro k mn2 T2 hm_14 hf_14 i2 rq2
          replace hm_14 := fun (_ : Unit) => hm_14
          refine j_blx (F := fX11) tb_X11 (nn_ _) bk_X11_countWays_14 bs_X11_countWays_14 hz (fun K hK => ?_)
          intro b49 b49b
          have e50 : T2 111 0 12 = T 111 0 12 := hf_14 111 0 12 rfl
          rw [e50] at b49 b49b ⊢
          refine And.intro (fun c51 => ?_) (fun c51 => ?_)
          · refine hK 70 _ [] T2 ?_
            refine j_blx (F := fX11) tb_X11 (nn_ _) bk_X11_countWays_70 bs_X11_countWays_70 hz (fun K hK => ?_)
            refine rg_i (by omega) ?_
            refine hK 5 [some (vR 111 0), some (vI fx), some (vI gp), some (vI mn2), some (vI (p + 1)), some (vI k), none, none] [] T2 ?_
            refine j_drq [some (vR 111 0), some (vI fx), some (vI gp), some (vI mn2), some (vI (p + 1)), none, none, none] (drq_s (drq_s (drq_s (drq_s (drq_s (drq_n (drq_n (drq_n drq_0)))))))) ?_
            refine ih_5 _ ?_ (p + 1) mn2 T2 (Nat.le_refl _) ?_ ?_ ?_
            · have hm_5 := hm_5 (); omega
            · exact fr_t (fr_0 _ _) (fr_s hf_14 rfl)
            · refine ⟨by omega, by omega, ?_⟩
              rw [lq_t (by omega)]
              have h9 := i2.2.2.2
              rw [show k.toNat = (T 111 0 12).toNat by omega] at h9
              exact h9
            · rw [lq_t (by omega)]
              have h9 := rq2
              rw [show k.toNat = (T 111 0 12).toNat by omega] at h9
              exact h9
          · refine ix_i (by omega) ?_
            intro b52 b52b
            have e53 : T2 301 0 k = T 301 0 k := hf_14 301 0 k rfl
            rw [e53] at b52 b52b ⊢
            refine And.intro (fun c54 => ?_) (fun c54 => ?_)
            · refine hK 64 [some (vR 111 0), some (vI fx), some (vI gp), some (vI mn2), some (vI p), some (vI k), none, none] [] T2 ?_
              refine j_blx (F := fX11) tb_X11 (nn_ _) bk_X11_countWays_64 bs_X11_countWays_64 hz (fun K hK => ?_)
              refine rg_i (by omega) ?_
              refine hK 14 [some (vR 111 0), some (vI fx), some (vI gp), some (vI mn2), some (vI p), some (vI (k + 1)), none, none] [] T2 ?_
              refine ih_14 _ ?_ (k + 1) mn2 T2 (Nat.le_refl _) ?_ ?_ ?_
              · have hm_14 := hm_14 (); omega
              · exact fr_t (fr_0 _ _) (fr_s hf_14 rfl)
              · refine ⟨by omega, by omega, by omega, ?_⟩
                rw [lpk_f (E := fun k => T 301 0 k) (b := gf_ T) (by omega) (show ¬ (T 301 0 k = p ∧ T 302 0 k = -1) by omega)]
                exact i2.2.2.2
              · rw [lpk_f (E := fun k => T 301 0 k) (b := gf_ T) (by omega) (show ¬ (T 301 0 k = p ∧ T 302 0 k = -1) by omega)]
                exact rq2
            · refine ix_i (by omega) ?_
              intro b55 b55b
              have e56 : T2 302 0 k = T 302 0 k := hf_14 302 0 k rfl
              rw [e56] at b55 b55b ⊢
              refine And.intro (fun c57 => ?_) (fun c57 => ?_)
              · refine hK 64 [some (vR 111 0), some (vI fx), some (vI gp), some (vI mn2), some (vI p), some (vI k), none, none] [] T2 ?_
                refine j_blx (F := fX11) tb_X11 (nn_ _) bk_X11_countWays_64 bs_X11_countWays_64 hz (fun K hK => ?_)
                refine rg_i (by omega) ?_
                refine hK 14 [some (vR 111 0), some (vI fx), some (vI gp), some (vI mn2), some (vI p), some (vI (k + 1)), none, none] [] T2 ?_
                refine ih_14 _ ?_ (k + 1) mn2 T2 (Nat.le_refl _) ?_ ?_ ?_
                · have hm_14 := hm_14 (); omega
                · exact fr_t (fr_0 _ _) (fr_s hf_14 rfl)
                · refine ⟨by omega, by omega, by omega, ?_⟩
                  rw [lpk_f (E := fun k => T 301 0 k) (b := gf_ T) (by omega) (show ¬ (T 301 0 k = p ∧ T 302 0 k = -1) by omega)]
                  exact i2.2.2.2
                · rw [lpk_f (E := fun k => T 301 0 k) (b := gf_ T) (by omega) (show ¬ (T 301 0 k = p ∧ T 302 0 k = -1) by omega)]
                  exact rq2
              · have hnd := lx_d (E := (fun k => T 301 0 k)) (b := gf_ T) (n := (T 111 0 12).toNat) (p := p) (k := k + 1) (by omega)
                have hnm : ∀ x ∈ lq_ (fun k => T 301 0 k) (gf_ T) (T 111 0 12).toNat p.toNat ++ lpk_ (fun k => T 301 0 k) (gf_ T) p (k + 1).toNat, 0 ≤ x ∧ x < 12 := fun x hx => by have := lx_m (by omega) (by omega) hx; omega
                have hnl := nd_len (by decide) hnm hnd
                rw [lpk_t (E := fun k => T 301 0 k) (b := gf_ T) (by omega) (show T 301 0 k = p ∧ T 302 0 k = -1 by omega), ← List.append_assoc, List.length_append, List.length_singleton] at hnl
                refine iy_i (by omega) (by omega) ?_
                refine x_nm (fun U58 hU58 => ?_)
                have e59 := up_f hU58
                refine iy_i (by omega) (by omega) ?_
                refine x_nm (fun U60 hU60 => ?_)
                have e61 := up_f hU60
                refine rg_i (by omega) ?_
                refine rg_i (by omega) ?_
                refine hK 14 [some (vR 111 0), some (vI fx), some (vI gp), some (vI (mn2 + 1)), some (vI p), some (vI (k + 1)), none, none] [] U60 ?_
                refine ih_14 _ ?_ (k + 1) (mn2 + 1) U60 (Nat.le_refl _) ?_ ?_ ?_
                · have hm_14 := hm_14 (); omega
                · exact fr_u (fr_u (fr_t (fr_0 _ _) (fr_s hf_14 rfl)) hU58 rfl) hU60 rfl
                · refine ⟨by omega, by omega, by omega, ?_⟩
                  rw [lpk_t (E := fun k => T 301 0 k) (b := gf_ T) (by omega) (show T 301 0 k = p ∧ T 302 0 k = -1 by omega), ← List.append_assoc, List.length_append, List.length_singleton]
                  omega
                · rw [lpk_t (E := fun k => T 301 0 k) (b := gf_ T) (by omega) (show T 301 0 k = p ∧ T 302 0 k = -1 by omega), ← List.append_assoc]
                  refine rq_s (rq_l rq2 (fun j a b => ⟨(up_k hU60 (by exact Nat.ne_of_beq_eq_false rfl) 0 j).trans (up_g hU58 (by omega)), (up_g hU60 (by omega)).trans (up_k hU58 (by exact Nat.ne_of_beq_eq_false rfl) 0 j)⟩)) ?_ ?_
                  · rw [show ((0 : Nat) : Int) + ((lq_ (fun k => T 301 0 k) (gf_ T) (T 111 0 12).toNat p.toNat ++ lpk_ (fun k => T 301 0 k) (gf_ T) p k.toNat).length : Int) = mn2 by omega]
                    exact (up_k hU60 (by exact Nat.ne_of_beq_eq_false rfl) 0 _).trans (up_f hU58)
                  · rw [show ((0 : Nat) : Int) + ((lq_ (fun k => T 301 0 k) (gf_ T) (T 111 0 12).toNat p.toNat ++ lpk_ (fun k => T 301 0 k) (gf_ T) p k.toNat).length : Int) = mn2 by omega]
                    exact up_f hU60
      refine j_blx (F := fX11) tb_X11 (nn_ _) bk_X11_countWays_5 bs_X11_countWays_5 hz (fun K hK => ?_)
      refine And.intro (fun c62 => ?_) (fun c62 => ?_)
      · refine hK 76 _ [] T1 ?_
        have ep : p = 3 := by omega
        subst ep
        have hll : lq_ (fun k => T 301 0 k) (gf_ T) (T 111 0 12).toNat (3 : Int).toNat = ll_ T := rfl
        rw [hll] at rq1 i1
        have hlm : ∀ x ∈ ll_ T, (0 ≤ x ∧ x < 12) ∧ gf_ T x = -1 := fun x hx => by
          have := ll_m (T := T) (by omega) hx
          exact ⟨by omega, this.2.2.1⟩
        have hnl := nd_len (n := 12) (by decide) (fun x hx => (hlm x hx).1) (ll_d T)
        obtain ⟨t0, wh0⟩ := wh_0 (T := T1) (d := drw_ T) (fx := fx) (gp := gp) (n := mn) (b := gf_ T) (l := ll_ T) (show 0 ≤ T 111 0 99 by omega) (by omega) (fun k => hf_5 302 0 k rfl) rq1 hlm (ll_d T)
        refine j_blx (F := fX11) tb_X11 (nn_ _) bk_X11_countWays_76 bs_X11_countWays_76 hz (fun K hK => ?_)
        refine hK 82 [some (vR 111 0), some (vI fx), some (vI gp), some (vI mn), some (vI 0), some (vI 0), none, none] [] T1 ?_
        refine c_82 _ 0 0 mn ([]) (ll_ T) t0 T1 (Nat.le_refl _) ?_ ?_ ?_ ?_
        · exact fr_t (fr_0 _ _) (fr_s hf_5 rfl)
        · omega
        · exact wh0
        · intro j a b
          have h9 := rq_m (P := fun x => (0 ≤ x ∧ x < 12) ∧ gf_ T x = -1) rq1 hlm j (by omega) (by omega)
          exact h9
      · refine hK 14 [some (vR 111 0), some (vI fx), some (vI gp), some (vI mn), some (vI p), some (vI 0), none, none] [] T1 ?_
        refine c_14 _ 0 mn T1 (Nat.le_refl _) ?_ ?_ ?_
        · exact fr_t (fr_0 _ _) (fr_s hf_5 rfl)
        · refine ⟨by omega, by omega, by omega, ?_⟩
          show _ = ((lq_ (fun k => T 301 0 k) (gf_ T) (T 111 0 12).toNat p.toNat ++ []).length : Int)
          rw [List.append_nil]
          exact i1.2.2
        · show RQ_ T1 0 (lq_ (fun k => T 301 0 k) (gf_ T) (T 111 0 12).toNat p.toNat ++ [])
          rw [List.append_nil]
          exact rq1
  refine j_blx (F := fX11) tb_X11 (nn_ _) bk_X11_countWays_0 bs_X11_countWays_0 hz (fun K hK => ?_)
  refine hK 5 [some (vR 111 0), some (vI fx), some (vI gp), some (vI 0), some (vI 0), none, none, none] [] T ?_
  refine c_5 _ 0 0 T (Nat.le_refl _) ?_ ?_ ?_
  · exact fr_0 _ _
  · exact ⟨by decide, by decide, rfl⟩
  · exact trivial
theorem us_1 {x : Int} (h : -2147483648 ≤ x ∧ x ≤ 2147483647) : us_ x 1 = x % 4294967296 / 2 := by
  have a : ((Int32.ofInt x).toUInt32.toBitVec).toNat = (x % 4294967296).toNat := by
    show (BitVec.ofInt 32 x).toNat = _
    rw [BitVec.toNat_ofInt]; rfl
  have s : ((Int32.ofInt 1).toUInt32 &&& Int32.toUInt32 31) = 1 := by decide
  unfold us_
  rw [s]
  have b : (((Int32.ofInt x).toUInt32 >>> (1 : UInt32)).toBitVec).toNat = (x % 4294967296).toNat / 2 := by
    show ((Int32.ofInt x).toUInt32.toBitVec >>> (1 : BitVec 32)).toNat = _
    rw [BitVec.ushiftRight_eq', BitVec.toNat_ushiftRight, a]
    show (x % 4294967296).toNat >>> 1 = _
    rw [Nat.shiftRight_eq_div_pow]
  show (((Int32.ofInt x).toUInt32 >>> (1 : UInt32)).toBitVec).toInt = _
  rw [BitVec.toInt_eq_toNat_cond, b]
  split <;> omega
theorem tk_d : ∀ a : Fin 216, ∀ b : Fin 128, (4294967296 * 1664525 + 1013904223 - (128 * a.val + b.val + 1) * 1664525) % 4294967296 / 2 < 2147469824 := by decide +kernel
theorem tk_2 {s : Int} (h : -2147483648 ≤ s ∧ s ≤ 2147483647) (t : 2147469824 ≤ us_ s 1) : us_ (wr_ (wr_ (s * 1664525) + 1013904223)) 1 < 2147469824 := by
  rw [us_1 h] at t
  obtain ⟨n, hn, e⟩ : ∃ n : Nat, n < 27648 ∧ s = -((n : Int) + 1) := ⟨(-s - 1).toNat, by omega, by omega⟩
  have k := tk_d ⟨n / 128, by omega⟩ ⟨n % 128, by omega⟩
  have k' : (4294967296 * 1664525 + 1013904223 - (n + 1) * 1664525) % 4294967296 / 2 < 2147469824 := by
    have e2 : 128 * (n / 128) + n % 128 + 1 = n + 1 := by omega
    simp only [e2] at k
    exact k
  have w : wr_ (wr_ (s * 1664525) + 1013904223) = wr_ (s * 1664525 + 1013904223) := by unfold wr_; omega
  rw [w, us_1 (by unfold wr_; omega)]
  have m : wr_ (s * 1664525 + 1013904223) % 4294967296 = (s * 1664525 + 1013904223) % 4294967296 := by unfold wr_; omega
  rw [m, e]
  generalize hX : 4294967296 * 1664525 + 1013904223 - (n + 1) * 1664525 = X at k'
  have q : -((n : Int) + 1) * 1664525 + 1013904223 = (X : Int) + 4294967296 * (-1664525) := by omega
  rw [q, Int.add_mul_emod_self_left]
  omega
/-- there is a club of pot p, below k, without a group -/
def EL_ (T : Zt) (p k : Int) : Prop := (0 ≤ p ∧ p ≤ 2) ∧ ∃ j, 0 ≤ j ∧ j < k ∧ T 301 0 j = p ∧ T 302 0 j = -1
theorem el_m {T : Zt} {p k : Int} (h : EL_ T p k) : EL_ T p (k + 1) := by
  obtain ⟨a, j, b, c, d⟩ := h
  exact ⟨a, j, b, by omega, d⟩
theorem el_n {T : Zt} {p k : Int} (hk : 0 ≤ k) (hp : 0 ≤ p ∧ p ≤ 2) (h : T 301 0 k = p) (g : T 302 0 k = -1) : EL_ T p (k + 1) := ⟨hp, k, hk, by omega, h, g⟩
/-- how many clubs of pot p, below k, have no group -/
def cen_ (T : Zt) (p : Int) : Nat → Int
  | 0 => 0
  | k + 1 => cen_ T p k + (if T 301 0 (k : Int) = p ∧ T 302 0 (k : Int) = -1 then 1 else 0)
def cel_ (T : Zt) (p k : Int) : Int := cen_ T p k.toNat
theorem cel_t {T : Zt} {p k : Int} (hk : 0 ≤ k) (c : T 301 0 k = p ∧ T 302 0 k = -1) : cel_ T p (k + 1) = cel_ T p k + 1 := by
  unfold cel_
  rw [show (k + 1).toNat = k.toNat + 1 by omega]
  show _ + _ = _
  rw [show ((k.toNat : Nat) : Int) = k by omega, if_pos c]
theorem cel_f {T : Zt} {p k : Int} (hk : 0 ≤ k) (c : ¬ (T 301 0 k = p ∧ T 302 0 k = -1)) : cel_ T p (k + 1) = cel_ T p k := by
  unfold cel_
  rw [show (k + 1).toNat = k.toNat + 1 by omega]
  show _ + _ = _
  rw [show ((k.toNat : Nat) : Int) = k by omega, if_neg c, Int.add_zero]
theorem cen_b (T : Zt) (p : Int) : ∀ k : Nat, 0 ≤ cen_ T p k ∧ cen_ T p k ≤ k
  | 0 => by simp [cen_]
  | k + 1 => by
      have i := cen_b T p k
      unfold cen_
      split <;> omega
theorem cel_b {T : Zt} {p k : Int} (hk : 0 ≤ k) : 0 ≤ cel_ T p k ∧ cel_ T p k ≤ k := by
  have := cen_b T p k.toNat
  unfold cel_; omega
theorem cen_p {T : Zt} {p j : Int} (h0 : 0 ≤ j) (c : T 301 0 j = p ∧ T 302 0 j = -1) : ∀ k : Nat, j < k → 0 < cen_ T p k
  | 0, h => by omega
  | k + 1, h => by
      have b := cen_b T p k
      unfold cen_
      by_cases z : j = k
      · rw [← z, if_pos c]; omega
      · have := cen_p h0 c k (by omega)
        split <;> omega
theorem cel_p {T : Zt} {p k : Int} (h : EL_ T p k) : 0 < cel_ T p k := by
  obtain ⟨_, j, a, b, c⟩ := h
  exact cen_p a c _ (by omega)
/-- the ways with the club in one of the groups up to g -/
noncomputable def sgm_ (T : Zt) (c g : Int) : Int := (if 0 ≤ g then (nw_ (drw_ T) c 0 (ll_ T) (gf_ T) : Int) else 0) + (if 1 ≤ g then (nw_ (drw_ T) c 1 (ll_ T) (gf_ T) : Int) else 0) + (if 2 ≤ g then (nw_ (drw_ T) c 2 (ll_ T) (gf_ T) : Int) else 0) + (if 3 ≤ g then (nw_ (drw_ T) c 3 (ll_ T) (gf_ T) : Int) else 0)
theorem sgm_s {T : Zt} {c g : Int} (h : -1 ≤ g ∧ g < 3) : sgm_ T c (g + 1) = sgm_ T c g + (nw_ (drw_ T) c (g + 1) (ll_ T) (gf_ T) : Int) := by
  unfold sgm_
  rcases (by omega : g = -1 ∨ g = 0 ∨ g = 1 ∨ g = 2) with z | z | z | z <;> subst z <;> simp <;> omega
theorem sgm_3 {T : Zt} {c : Int} (h0 : 0 ≤ T 111 0 12) (hc : 0 ≤ c ∧ c < T 111 0 12) (hg : T 302 0 c = -1) (hp : 0 ≤ T 301 0 c ∧ T 301 0 c ≤ 2) : sgm_ T c 3 = (nw_ (drw_ T) (-1) (-1) (ll_ T) (gf_ T) : Int) := by
  have k := nw_s (d := drw_ T) (c := c) (by omega) (ll_ T) (gf_ T) (ll_i hc.1 hc.2 hg hp.1 hp.2) (ll_d T) (fun x hx => by have := ll_m h0 hx; omega)
  unfold sgm_
  simp
  omega
theorem sgm_0 {T : Zt} {c : Int} : sgm_ T c (-1) = 0 := by unfold sgm_; simp
abbrev cX11_ways : ByteArray := prog_13_method_116_code
def yX11_ways : MethodName := ⟨RX11, "ways", "()I"⟩
def zX11_ways : Zm := (RX11, cX11_ways, 1, (some .int), { frames := 2, cells := 0, slots := 0, locals := 52 })
theorem bk_X11_ways_0 : ck_ fX11 (some .int) cX11_ways 0 [.aload 0, .tableswitch 0 11 98 #[], .ifCond .eq 16, .aload 0, .iconst (-1), .iconst (-1)] 10 = true := qck_r (nn_ _) (by decide +kernel)
theorem bs_X11_ways_0 {P : Zt → Option Zv → Prop} (K : Int → Zl → List Zv → Zt → Prop) : sx_ K P [.aload 0, .tableswitch 0 11 98 #[], .ifCond .eq 16, .aload 0, .iconst (-1), .iconst (-1)] 10 = x_aload 0 (x_g0 111 98 0 1 (x_ifCond .eq 16 K (x_aload 0 (x_iconst (-1) (x_iconst (-1) (K 10)))))) := ((xe_aload 0).trans (congrArg (x_aload 0) ((xe_g0 (kk := 111) rfl tl_11_98).trans (congrArg (x_g0 111 98 0 1) ((xe_ifCond .eq 16).trans (congrArg (x_ifCond .eq 16 K) ((xe_aload 0).trans (congrArg (x_aload 0) ((xe_iconst (-1)).trans (congrArg (x_iconst (-1)) ((xe_iconst (-1)).trans (congrArg (x_iconst (-1)) xe_nil))))))))))))
theorem bk_X11_ways_16 : ck_ fX11 (some .int) cX11_ways 16 [.iconst (-4), .ireturn] 19 = true := qck_r (nn_ _) (by decide +kernel)
theorem bs_X11_ways_16 {P : Zt → Option Zv → Prop} (K : Int → Zl → List Zv → Zt → Prop) : sx_ K P [.iconst (-4), .ireturn] 19 = x_iconst (-4) (x_ireturn P) := ((xe_iconst (-4)).trans (congrArg (x_iconst (-4)) (xe_ireturn)))
set_option maxRecDepth 100000 in
theorem cl_X11_591 : cv_ RX11 591 yX11_countWays zX11_countWays 11 2 := ⟨gi_V (lwq_10 (dqc_m (dqa_m (dqa_m (List.mem_of_getElem? (i := 7) rfl)))) rfl : Cond.methodLink RX11 591 yX11_countWays ∈ lw_g) (lwq_10 (dqc_m (dqa_m (dqa_m (dqa_m (List.mem_of_getElem? (i := 1) rfl))))) rfl : Cond.instanceMethod yX11_countWays ∈ lw_g) (lw_sel 14 rfl : Cond.selects yX11_countWays.cls yX11_countWays yX11_countWays ∈ lw_g) (lwq_1 (dqa_m (List.mem_of_getElem? (i := 2) rfl)) rfl : Cond.initialized yX11_countWays.cls ∈ lw_g) (lwq_10 (dqc_m (dqa_m (dqa_m (dqa_m (List.mem_of_getElem? (i := 2) rfl))))) rfl : Cond.code yX11_countWays cX11_countWays 8 (some .int) ∈ lw_g), ⟨nmh_1.1, nmh_1.2, pdq_4⟩, ⟨_, _, rfl⟩⟩
theorem bk_X11_ways_13 : ck_ fX11 (some .int) cX11_ways 13 [.goto 18] 16 = true := qck_r (nn_ _) (by decide +kernel)
theorem bs_X11_ways_13 {P : Zt → Option Zv → Prop} (K : Int → Zl → List Zv → Zt → Prop) : sx_ K P [.goto 18] 16 = x_goto 18 K := (xe_goto 18)
theorem bk_X11_ways_18 : ck_ fX11 (some .int) cX11_ways 18 [.ireturn] 19 = true := qck_r (nn_ _) (by decide +kernel)
theorem bs_X11_ways_18 {P : Zt → Option Zv → Prop} (K : Int → Zl → List Zv → Zt → Prop) : sx_ K P [.ireturn] 19 = x_ireturn P := (xe_ireturn)
abbrev po_X11_ways (T : Zt) : Zt → Option Zv → Prop := fun T' r => ∃ x : Int, r = some (vI x) ∧ fr_ [(304, []), (305, []), (302, [])] T T' ∧ (x = x)
set_option maxHeartbeats 4000000 in
theorem ct_X11_ways {T : Zt} : Ct_ yX11_ways zX11_ways T [vR 111 0] (po_X11_ways T) := by
  refine ct_of pn_11 rfl rfl (Nat.le_of_ble_eq_true rfl) (fun hT hav => ?_)
  have hz : zX11_ways.2.2.2.1 = some .boolean → ∀ (T' : Zt) (x : Int), po_X11_ways T T' (some (vI x)) → 0 ≤ x ∧ x ≤ 1 := fun h => by cases h
  show J_ zX11_ways T (po_X11_ways T) 0 0 0 [some (vR 111 0)] [] T
  refine j_blx (F := fX11) tb_X11 (nn_ _) bk_X11_ways_0 bs_X11_ways_0 hz (fun K hK => ?_)
  intro b1 b1b
  refine And.intro (fun c2 => ?_) (fun c2 => ?_)
  · refine hK 16 _ [] T ?_
    refine j_blx (F := fX11) tb_X11 (nn_ _) bk_X11_ways_16 bs_X11_ways_16 hz (fun K hK => ?_)
    refine (show po_X11_ways T T (some (vI (-4))) from ?_)
    exact ⟨_, rfl, fr_0 _ _, by rfl⟩
  · refine hK 10 _ [vI (-1), vI (-1), vR 111 0] T ?_
    refine j_callV (y := yX11_countWays) (Yc := zX11_countWays) (rest := []) [vI (-1), vI (-1)] (ct_X11_countWays (T := T)) cl_X11_591 (qd_c (by decide +kernel)) (nn_ _) rfl (rf_of rfl) (Nat.le_of_ble_eq_true rfl) (Nat.le_of_ble_eq_true rfl) (Nat.le_of_ble_eq_true rfl) rfl ?_
    rintro U3 _ ⟨x4, rfl, fU3, qU3⟩
    have bU3 := qU3.2.2
    show J_ zX11_ways T (po_X11_ways T) 0 0 13 _ [vI x4] U3
    refine j_blx (F := fX11) tb_X11 (nn_ _) bk_X11_ways_13 bs_X11_ways_13 hz (fun K hK => ?_)
    refine hK 18 _ [vI x4] U3 ?_
    refine j_blx (F := fX11) tb_X11 (nn_ _) bk_X11_ways_18 bs_X11_ways_18 hz (fun K hK => ?_)
    refine (show po_X11_ways T U3 (some (vI x4)) from ?_)
    exact ⟨_, rfl, fr_t (fr_0 _ _) (fr_s fU3 rfl), by rfl⟩
abbrev cX11_chanceOf : ByteArray := prog_13_method_117_code
def yX11_chanceOf : MethodName := ⟨RX11, "chanceOf", "(II)I"⟩
def zX11_chanceOf : Zm := (RX11, cX11_chanceOf, 3, (some .int), { frames := 2, cells := 0, slots := 0, locals := 52 })
theorem bk_X11_chanceOf_0 : ck_ fX11 (some .int) cX11_chanceOf 0 [.aload 0, .tableswitch 0 11 102 #[], .iload 1, .iaload, .iconst (-1), .if_icmp .eq 31, .aload 0, .tableswitch 0 11 102 #[], .iload 1, .iaload, .iload 2, .if_icmp .ne 29, .aload 0, .iconst (-1), .iconst (-1)] 23 = true := qck_r (nn_ _) (by decide +kernel)
theorem bs_X11_chanceOf_0 {P : Zt → Option Zv → Prop} (K : Int → Zl → List Zv → Zt → Prop) : sx_ K P [.aload 0, .tableswitch 0 11 102 #[], .iload 1, .iaload, .iconst (-1), .if_icmp .eq 31, .aload 0, .tableswitch 0 11 102 #[], .iload 1, .iaload, .iload 2, .if_icmp .ne 29, .aload 0, .iconst (-1), .iconst (-1)] 23 = x_aload 0 (x_g1 111 302 (x_iload 1 (x_iaload (x_iconst (-1) (x_if_icmp .eq 31 K (x_aload 0 (x_g1 111 302 (x_iload 1 (x_iaload (x_iload 2 (x_if_icmp .ne 29 K (x_aload 0 (x_iconst (-1) (x_iconst (-1) (K 23))))))))))))))) := ((xe_aload 0).trans (congrArg (x_aload 0) ((xe_g1 (kk := 111) rfl tl_11_102).trans (congrArg (x_g1 111 302) ((xe_iload 1).trans (congrArg (x_iload 1) ((xe_iaload).trans (congrArg (x_iaload) ((xe_iconst (-1)).trans (congrArg (x_iconst (-1)) ((xe_if_icmp .eq 31).trans (congrArg (x_if_icmp .eq 31 K) ((xe_aload 0).trans (congrArg (x_aload 0) ((xe_g1 (kk := 111) rfl tl_11_102).trans (congrArg (x_g1 111 302) ((xe_iload 1).trans (congrArg (x_iload 1) ((xe_iaload).trans (congrArg (x_iaload) ((xe_iload 2).trans (congrArg (x_iload 2) ((xe_if_icmp .ne 29).trans (congrArg (x_if_icmp .ne 29 K) ((xe_aload 0).trans (congrArg (x_aload 0) ((xe_iconst (-1)).trans (congrArg (x_iconst (-1)) ((xe_iconst (-1)).trans (congrArg (x_iconst (-1)) xe_nil))))))))))))))))))))))))))))))
theorem bk_X11_chanceOf_31 : ck_ fX11 (some .int) cX11_chanceOf 31 [.aload 0, .iload 1, .iload 2] 34 = true := qck_r (nn_ _) (by decide +kernel)
theorem bs_X11_chanceOf_31 {P : Zt → Option Zv → Prop} (K : Int → Zl → List Zv → Zt → Prop) : sx_ K P [.aload 0, .iload 1, .iload 2] 34 = x_aload 0 (x_iload 1 (x_iload 2 (K 34))) := ((xe_aload 0).trans (congrArg (x_aload 0) ((xe_iload 1).trans (congrArg (x_iload 1) ((xe_iload 2).trans (congrArg (x_iload 2) xe_nil))))))
theorem bk_X11_chanceOf_37 : ck_ fX11 (some .int) cX11_chanceOf 37 [.ireturn] 38 = true := qck_r (nn_ _) (by decide +kernel)
theorem bs_X11_chanceOf_37 {P : Zt → Option Zv → Prop} (K : Int → Zl → List Zv → Zt → Prop) : sx_ K P [.ireturn] 38 = x_ireturn P := (xe_ireturn)
theorem bk_X11_chanceOf_29 : ck_ fX11 (some .int) cX11_chanceOf 29 [.iconst 0, .ireturn] 31 = true := qck_r (nn_ _) (by decide +kernel)
theorem bs_X11_chanceOf_29 {P : Zt → Option Zv → Prop} (K : Int → Zl → List Zv → Zt → Prop) : sx_ K P [.iconst 0, .ireturn] 31 = x_iconst 0 (x_ireturn P) := ((xe_iconst 0).trans (congrArg (x_iconst 0) (xe_ireturn)))
theorem bk_X11_chanceOf_26 : ck_ fX11 (some .int) cX11_chanceOf 26 [.goto 30] 29 = true := qck_r (nn_ _) (by decide +kernel)
theorem bs_X11_chanceOf_26 {P : Zt → Option Zv → Prop} (K : Int → Zl → List Zv → Zt → Prop) : sx_ K P [.goto 30] 29 = x_goto 30 K := (xe_goto 30)
theorem bk_X11_chanceOf_30 : ck_ fX11 (some .int) cX11_chanceOf 30 [.ireturn] 31 = true := qck_r (nn_ _) (by decide +kernel)
theorem bs_X11_chanceOf_30 {P : Zt → Option Zv → Prop} (K : Int → Zl → List Zv → Zt → Prop) : sx_ K P [.ireturn] 31 = x_ireturn P := (xe_ireturn)
abbrev po_X11_chanceOf (T : Zt) (cl g : Int) : Zt → Option Zv → Prop := fun T' r => ∃ x : Int, r = some (vI x) ∧ fr_ [(304, []), (305, []), (302, [])] T T' ∧ (x = x)
set_option maxHeartbeats 4000000 in
theorem ct_X11_chanceOf {T : Zt} {cl g : Int} (h1 : 0 ≤ cl ∧ cl < 12) : Ct_ yX11_chanceOf zX11_chanceOf T [vR 111 0, vI cl, vI g] (po_X11_chanceOf T cl g) := by
  refine ct_of pn_11 rfl rfl (Nat.le_of_ble_eq_true rfl) (fun hT hav => ?_)
  have hr_cl : -2147483648 ≤ cl ∧ cl ≤ 2147483647 := hav (vI cl) (List.mem_cons_of_mem _ List.mem_cons_self)
  have hr_g : -2147483648 ≤ g ∧ g ≤ 2147483647 := hav (vI g) (List.mem_cons_of_mem _ (List.mem_cons_of_mem _ List.mem_cons_self))
  have hz : zX11_chanceOf.2.2.2.1 = some .boolean → ∀ (T' : Zt) (x : Int), po_X11_chanceOf T cl g T' (some (vI x)) → 0 ≤ x ∧ x ≤ 1 := fun h => by cases h
  show J_ zX11_chanceOf T (po_X11_chanceOf T cl g) 0 0 0 [some (vR 111 0), some (vI cl), some (vI g)] [] T
  refine j_blx (F := fX11) tb_X11 (nn_ _) bk_X11_chanceOf_0 bs_X11_chanceOf_0 hz (fun K hK => ?_)
  refine ix_i (by omega) ?_
  intro b1 b1b
  refine And.intro (fun c2 => ?_) (fun c2 => ?_)
  · refine hK 31 _ [] T ?_
    refine j_blx (F := fX11) tb_X11 (nn_ _) bk_X11_chanceOf_31 bs_X11_chanceOf_31 hz (fun K hK => ?_)
    refine hK 34 _ [vI g, vI cl, vR 111 0] T ?_
    refine j_callV (y := yX11_countWays) (Yc := zX11_countWays) (rest := []) [vI cl, vI g] (ct_X11_countWays (T := T)) cl_X11_591 (qd_c (by decide +kernel)) (nn_ _) rfl (rf_of rfl) (Nat.le_of_ble_eq_true rfl) (Nat.le_of_ble_eq_true rfl) (Nat.le_of_ble_eq_true rfl) rfl ?_
    rintro U3 _ ⟨x4, rfl, fU3, qU3⟩
    have bU3 := qU3.2.2
    show J_ zX11_chanceOf T (po_X11_chanceOf T cl g) 0 0 37 _ [vI x4] U3
    refine j_blx (F := fX11) tb_X11 (nn_ _) bk_X11_chanceOf_37 bs_X11_chanceOf_37 hz (fun K hK => ?_)
    refine (show po_X11_chanceOf T cl g U3 (some (vI x4)) from ?_)
    exact ⟨_, rfl, fr_t (fr_0 _ _) (fr_s fU3 rfl), by rfl⟩
  · refine ix_i (by omega) ?_
    intro b5 b5b
    refine And.intro (fun c6 => ?_) (fun c6 => ?_)
    · refine hK 29 _ [] T ?_
      refine j_blx (F := fX11) tb_X11 (nn_ _) bk_X11_chanceOf_29 bs_X11_chanceOf_29 hz (fun K hK => ?_)
      refine (show po_X11_chanceOf T cl g T (some (vI 0)) from ?_)
      exact ⟨_, rfl, fr_0 _ _, by rfl⟩
    · refine hK 23 _ [vI (-1), vI (-1), vR 111 0] T ?_
      refine j_callV (y := yX11_countWays) (Yc := zX11_countWays) (rest := []) [vI (-1), vI (-1)] (ct_X11_countWays (T := T)) cl_X11_591 (qd_c (by decide +kernel)) (nn_ _) rfl (rf_of rfl) (Nat.le_of_ble_eq_true rfl) (Nat.le_of_ble_eq_true rfl) (Nat.le_of_ble_eq_true rfl) rfl ?_
      rintro U7 _ ⟨x8, rfl, fU7, qU7⟩
      have bU7 := qU7.2.2
      show J_ zX11_chanceOf T (po_X11_chanceOf T cl g) 0 0 26 _ [vI x8] U7
      refine j_blx (F := fX11) tb_X11 (nn_ _) bk_X11_chanceOf_26 bs_X11_chanceOf_26 hz (fun K hK => ?_)
      refine hK 30 _ [vI x8] U7 ?_
      refine j_blx (F := fX11) tb_X11 (nn_ _) bk_X11_chanceOf_30 bs_X11_chanceOf_30 hz (fun K hK => ?_)
      refine (show po_X11_chanceOf T cl g U7 (some (vI x8)) from ?_)
      exact ⟨_, rfl, fr_t (fr_0 _ _) (fr_s fU7 rfl), by rfl⟩
abbrev cX11_chance : ByteArray := prog_13_method_118_code
def yX11_chance : MethodName := ⟨RX11, "chance", "(II)I"⟩
def zX11_chance : Zm := (RX11, cX11_chance, 3, (some .int), { frames := 3, cells := 0, slots := 0, locals := 74 })
theorem bk_X11_chance_0 : ck_ fX11 (some .int) cX11_chance 0 [.iload 1, .aload 0, .tableswitch 0 11 12 #[]] 5 = true := qck_r (nn_ _) (by decide +kernel)
theorem bs_X11_chance_0 {P : Zt → Option Zv → Prop} (K : Int → Zl → List Zv → Zt → Prop) : sx_ K P [.iload 1, .aload 0, .tableswitch 0 11 12 #[]] 5 = x_iload 1 (x_aload 0 (x_g0 111 12 0 12 (K 5))) := ((xe_iload 1).trans (congrArg (x_iload 1) ((xe_aload 0).trans (congrArg (x_aload 0) ((xe_g0 (kk := 111) rfl tl_11_12).trans (congrArg (x_g0 111 12 0 12) xe_nil))))))
theorem bk_X11_chance_8 : ck_ fX11 (some .int) cX11_chance 8 [.ifCond .eq 19, .aload 0, .iload 1] 13 = true := qck_r (nn_ _) (by decide +kernel)
theorem bs_X11_chance_8 {P : Zt → Option Zv → Prop} (K : Int → Zl → List Zv → Zt → Prop) : sx_ K P [.ifCond .eq 19, .aload 0, .iload 1] 13 = x_ifCond .eq 19 K (x_aload 0 (x_iload 1 (K 13))) := ((xe_ifCond .eq 19).trans (congrArg (x_ifCond .eq 19 K) ((xe_aload 0).trans (congrArg (x_aload 0) ((xe_iload 1).trans (congrArg (x_iload 1) xe_nil))))))
theorem bk_X11_chance_19 : ck_ fX11 (some .int) cX11_chance 19 [.iconst (-2), .ireturn] 22 = true := qck_r (nn_ _) (by decide +kernel)
theorem bs_X11_chance_19 {P : Zt → Option Zv → Prop} (K : Int → Zl → List Zv → Zt → Prop) : sx_ K P [.iconst (-2), .ireturn] 22 = x_iconst (-2) (x_ireturn P) := ((xe_iconst (-2)).trans (congrArg (x_iconst (-2)) (xe_ireturn)))
theorem bk_X11_chance_16 : ck_ fX11 (some .int) cX11_chance 16 [.ifCond .ne 22, .iconst (-2), .ireturn] 22 = true := qck_r (nn_ _) (by decide +kernel)
theorem bs_X11_chance_16 {P : Zt → Option Zv → Prop} (K : Int → Zl → List Zv → Zt → Prop) : sx_ K P [.ifCond .ne 22, .iconst (-2), .ireturn] 22 = x_ifCond .ne 22 K (x_iconst (-2) (x_ireturn P)) := ((xe_ifCond .ne 22).trans (congrArg (x_ifCond .ne 22 K) ((xe_iconst (-2)).trans (congrArg (x_iconst (-2)) (xe_ireturn)))))
theorem bk_X11_chance_22 : ck_ fX11 (some .int) cX11_chance 22 [.iload 2, .aload 0, .tableswitch 0 11 99 #[]] 27 = true := qck_r (nn_ _) (by decide +kernel)
theorem bs_X11_chance_22 {P : Zt → Option Zv → Prop} (K : Int → Zl → List Zv → Zt → Prop) : sx_ K P [.iload 2, .aload 0, .tableswitch 0 11 99 #[]] 27 = x_iload 2 (x_aload 0 (x_g0 111 99 0 4 (K 27))) := ((xe_iload 2).trans (congrArg (x_iload 2) ((xe_aload 0).trans (congrArg (x_aload 0) ((xe_g0 (kk := 111) rfl tl_11_99).trans (congrArg (x_g0 111 99 0 4) xe_nil))))))
theorem bk_X11_chance_30 : ck_ fX11 (some .int) cX11_chance 30 [.ifCond .eq 42, .aload 0, .iload 1, .iload 2] 36 = true := qck_r (nn_ _) (by decide +kernel)
theorem bs_X11_chance_30 {P : Zt → Option Zv → Prop} (K : Int → Zl → List Zv → Zt → Prop) : sx_ K P [.ifCond .eq 42, .aload 0, .iload 1, .iload 2] 36 = x_ifCond .eq 42 K (x_aload 0 (x_iload 1 (x_iload 2 (K 36)))) := ((xe_ifCond .eq 42).trans (congrArg (x_ifCond .eq 42 K) ((xe_aload 0).trans (congrArg (x_aload 0) ((xe_iload 1).trans (congrArg (x_iload 1) ((xe_iload 2).trans (congrArg (x_iload 2) xe_nil))))))))
theorem bk_X11_chance_42 : ck_ fX11 (some .int) cX11_chance 42 [.iconst (-3), .ireturn] 45 = true := qck_r (nn_ _) (by decide +kernel)
theorem bs_X11_chance_42 {P : Zt → Option Zv → Prop} (K : Int → Zl → List Zv → Zt → Prop) : sx_ K P [.iconst (-3), .ireturn] 45 = x_iconst (-3) (x_ireturn P) := ((xe_iconst (-3)).trans (congrArg (x_iconst (-3)) (xe_ireturn)))
set_option maxRecDepth 100000 in
theorem cl_X11_594 : cv_ RX11 594 yX11_chanceOf zX11_chanceOf 11 2 := ⟨gi_V (lwq_10 (dqc_m (dqc_m (List.mem_of_getElem? (i := 3) rfl))) rfl : Cond.methodLink RX11 594 yX11_chanceOf ∈ lw_g) (lwq_10 (dqc_m (dqc_m (List.mem_of_getElem? (i := 5) rfl))) rfl : Cond.instanceMethod yX11_chanceOf ∈ lw_g) (lw_sel 10 rfl : Cond.selects yX11_chanceOf.cls yX11_chanceOf yX11_chanceOf ∈ lw_g) (lwq_1 (dqa_m (List.mem_of_getElem? (i := 2) rfl)) rfl : Cond.initialized yX11_chanceOf.cls ∈ lw_g) (lwq_10 (dqc_m (dqc_m (List.mem_of_getElem? (i := 6) rfl))) rfl : Cond.code yX11_chanceOf cX11_chanceOf 3 (some .int) ∈ lw_g), ⟨nmh_1.1, nmh_1.2, pdq_4⟩, ⟨_, _, rfl⟩⟩
theorem bk_X11_chance_39 : ck_ fX11 (some .int) cX11_chance 39 [.goto 44] 42 = true := qck_r (nn_ _) (by decide +kernel)
theorem bs_X11_chance_39 {P : Zt → Option Zv → Prop} (K : Int → Zl → List Zv → Zt → Prop) : sx_ K P [.goto 44] 42 = x_goto 44 K := (xe_goto 44)
theorem bk_X11_chance_44 : ck_ fX11 (some .int) cX11_chance 44 [.ireturn] 45 = true := qck_r (nn_ _) (by decide +kernel)
theorem bs_X11_chance_44 {P : Zt → Option Zv → Prop} (K : Int → Zl → List Zv → Zt → Prop) : sx_ K P [.ireturn] 45 = x_ireturn P := (xe_ireturn)
abbrev po_X11_chance (T : Zt) (cl g : Int) : Zt → Option Zv → Prop := fun T' r => ∃ x : Int, r = some (vI x) ∧ fr_ [(304, []), (305, []), (302, [])] T T' ∧ (x = x)
set_option maxHeartbeats 4000000 in
theorem ct_X11_chance {T : Zt} {cl g : Int} : Ct_ yX11_chance zX11_chance T [vR 111 0, vI cl, vI g] (po_X11_chance T cl g) := by
  refine ct_of pn_11 rfl rfl (Nat.le_of_ble_eq_true rfl) (fun hT hav => ?_)
  have hr_cl : -2147483648 ≤ cl ∧ cl ≤ 2147483647 := hav (vI cl) (List.mem_cons_of_mem _ List.mem_cons_self)
  have hr_g : -2147483648 ≤ g ∧ g ≤ 2147483647 := hav (vI g) (List.mem_cons_of_mem _ (List.mem_cons_of_mem _ List.mem_cons_self))
  have hz : zX11_chance.2.2.2.1 = some .boolean → ∀ (T' : Zt) (x : Int), po_X11_chance T cl g T' (some (vI x)) → 0 ≤ x ∧ x ≤ 1 := fun h => by cases h
  have hb_12 : 0 ≤ T 111 0 12 ∧ T 111 0 12 ≤ 12 := bd_f hT 111 12 tl_11_12 0
  have hb_99 : 0 ≤ T 111 0 99 ∧ T 111 0 99 ≤ 4 := bd_f hT 111 99 tl_11_99 0
  show J_ zX11_chance T (po_X11_chance T cl g) 0 0 0 [some (vR 111 0), some (vI cl), some (vI g)] [] T
  refine j_blx (F := fX11) tb_X11 (nn_ _) bk_X11_chance_0 bs_X11_chance_0 hz (fun K hK => ?_)
  intro b1 b1b
  refine hK 5 _ [vI (T 111 0 12), vI cl] T ?_
  refine j_callS (y := yX11_isOf) (Yc := zX11_isOf) (rest := []) [vI cl, vI (T 111 0 12)] (ct_X11_isOf (T := T) (by omega)) cl_X11_317 (qd_c (by decide +kernel)) (nn_ _) rfl (rf_of rfl) (Nat.le_of_ble_eq_true rfl) (Nat.le_of_ble_eq_true rfl) (Nat.le_of_ble_eq_true rfl) rfl ?_
  rintro _ _ ⟨rfl, x2, rfl, hx2⟩
  show J_ zX11_chance T (po_X11_chance T cl g) 0 0 8 _ [vI x2] T
  refine j_blx (F := fX11) tb_X11 (nn_ _) bk_X11_chance_8 bs_X11_chance_8 hz (fun K hK => ?_)
  refine And.intro (fun c3 => ?_) (fun c3 => ?_)
  · replace hx2 := hx2.resolve_left (fun z => absurd (c3.symm.trans z.1) (by decide))
    clear c3
    refine hK 19 _ [] T ?_
    refine j_blx (F := fX11) tb_X11 (nn_ _) bk_X11_chance_19 bs_X11_chance_19 hz (fun K hK => ?_)
    refine (show po_X11_chance T cl g T (some (vI (-2))) from ?_)
    exact ⟨_, rfl, fr_0 _ _, by rfl⟩
  · replace hx2 := hx2.resolve_right (fun z => c3 z.1)
    clear c3
    refine hK 13 _ [vI cl, vR 111 0] T ?_
    refine j_callV (y := yX11_isInDraw) (Yc := zX11_isInDraw) (rest := []) [vI cl] (ct_X11_isInDraw (T := T) (by omega)) cl_X11_585 (qd_c (by decide +kernel)) (nn_ _) rfl (rf_of rfl) (Nat.le_of_ble_eq_true rfl) (Nat.le_of_ble_eq_true rfl) (Nat.le_of_ble_eq_true rfl) rfl ?_
    rintro _ _ ⟨rfl, x4, rfl, hx4⟩
    show J_ zX11_chance T (po_X11_chance T cl g) 0 0 16 _ [vI x4] T
    refine j_blx (F := fX11) tb_X11 (nn_ _) bk_X11_chance_16 bs_X11_chance_16 hz (fun K hK => ?_)
    refine And.intro (fun c5 => ?_) (fun c5 => ?_)
    · replace hx4 := hx4.resolve_right (fun z => c5 z.1)
      clear c5
      refine hK 22 _ [] T ?_
      refine j_blx (F := fX11) tb_X11 (nn_ _) bk_X11_chance_22 bs_X11_chance_22 hz (fun K hK => ?_)
      intro b6 b6b
      refine hK 27 _ [vI (T 111 0 99), vI g] T ?_
      refine j_callS (y := yX11_isOf) (Yc := zX11_isOf) (rest := []) [vI g, vI (T 111 0 99)] (ct_X11_isOf (T := T) (by omega)) cl_X11_317 (qd_c (by decide +kernel)) (nn_ _) rfl (rf_of rfl) (Nat.le_of_ble_eq_true rfl) (Nat.le_of_ble_eq_true rfl) (Nat.le_of_ble_eq_true rfl) rfl ?_
      rintro _ _ ⟨rfl, x7, rfl, hx7⟩
      show J_ zX11_chance T (po_X11_chance T cl g) 0 0 30 _ [vI x7] T
      refine j_blx (F := fX11) tb_X11 (nn_ _) bk_X11_chance_30 bs_X11_chance_30 hz (fun K hK => ?_)
      refine And.intro (fun c8 => ?_) (fun c8 => ?_)
      · replace hx7 := hx7.resolve_left (fun z => absurd (c8.symm.trans z.1) (by decide))
        clear c8
        refine hK 42 _ [] T ?_
        refine j_blx (F := fX11) tb_X11 (nn_ _) bk_X11_chance_42 bs_X11_chance_42 hz (fun K hK => ?_)
        refine (show po_X11_chance T cl g T (some (vI (-3))) from ?_)
        exact ⟨_, rfl, fr_0 _ _, by rfl⟩
      · replace hx7 := hx7.resolve_right (fun z => c8 z.1)
        clear c8
        refine hK 36 _ [vI g, vI cl, vR 111 0] T ?_
        refine j_callV (y := yX11_chanceOf) (Yc := zX11_chanceOf) (rest := []) [vI cl, vI g] (ct_X11_chanceOf (T := T) (by omega)) cl_X11_594 (qd_c (by decide +kernel)) (nn_ _) rfl (rf_of rfl) (Nat.le_of_ble_eq_true rfl) (Nat.le_of_ble_eq_true rfl) (Nat.le_of_ble_eq_true rfl) rfl ?_
        rintro U9 _ ⟨x10, rfl, fU9, qU9⟩
        show J_ zX11_chance T (po_X11_chance T cl g) 0 0 39 _ [vI x10] U9
        refine j_blx (F := fX11) tb_X11 (nn_ _) bk_X11_chance_39 bs_X11_chance_39 hz (fun K hK => ?_)
        refine hK 44 _ [vI x10] U9 ?_
        refine j_blx (F := fX11) tb_X11 (nn_ _) bk_X11_chance_44 bs_X11_chance_44 hz (fun K hK => ?_)
        refine (show po_X11_chance T cl g U9 (some (vI x10)) from ?_)
        exact ⟨_, rfl, fr_t (fr_0 _ _) (fr_s fU9 rfl), by rfl⟩
    · replace hx4 := hx4.resolve_left (fun z => absurd (c5.symm.trans z.1) (by decide))
      clear c5
      refine (show po_X11_chance T cl g T (some (vI (-2))) from ?_)
      exact ⟨_, rfl, fr_0 _ _, by rfl⟩
abbrev cX11_takenBelow : ByteArray := prog_13_method_119_code
def yX11_takenBelow : MethodName := ⟨RX11, "takenBelow", "(I)I"⟩
def zX11_takenBelow : Zm := (RX11, cX11_takenBelow, 5, (some .int), { frames := 0, cells := 0, slots := 0, locals := 0 })
theorem bk_X11_takenBelow_13 : ck_ fX11 (some .int) cX11_takenBelow 13 [.iload 4, .ifCond .eq 63, .aload 0, .aload 0, .tableswitch 0 11 103 #[], .iconst 1664525, .fmul, .iconst 1013904223, .fadd, .tableswitch 1 11 103 #[], .aload 0, .tableswitch 0 11 103 #[], .iconst 1, .iushr, .istore 3, .iload 3, .i2l, .sipush 2147483648, .iload 2, .i2l, .lsub, .lcmp, .ifCond .lt 57, .iconst 1, .goto 58] 57 = true := qck_r (nn_ _) (by decide +kernel)
theorem bs_X11_takenBelow_13 {P : Zt → Option Zv → Prop} (K : Int → Zl → List Zv → Zt → Prop) : sx_ K P [.iload 4, .ifCond .eq 63, .aload 0, .aload 0, .tableswitch 0 11 103 #[], .iconst 1664525, .fmul, .iconst 1013904223, .fadd, .tableswitch 1 11 103 #[], .aload 0, .tableswitch 0 11 103 #[], .iconst 1, .iushr, .istore 3, .iload 3, .i2l, .sipush 2147483648, .iload 2, .i2l, .lsub, .lcmp, .ifCond .lt 57, .iconst 1, .goto 58] 57 = x_iload 4 (x_ifCond .eq 63 K (x_aload 0 (x_aload 0 (x_g0 111 103 (-2147483648) 2147483647 (x_iconst 1664525 (x_fmul (x_iconst 1013904223 (x_fadd (x_p 111 103 (-2147483648) 2147483647 (x_aload 0 (x_g0 111 103 (-2147483648) 2147483647 (x_iconst 1 (x_iushr (x_istore 3 (x_iload 3 (x_i2l (x_sipush 2147483648 (x_iload 2 (x_i2l (x_lsub (x_lcmp (x_ifCond .lt 57 K (x_iconst 1 (x_goto 58 K)))))))))))))))))))))))) := ((xe_iload 4).trans (congrArg (x_iload 4) ((xe_ifCond .eq 63).trans (congrArg (x_ifCond .eq 63 K) ((xe_aload 0).trans (congrArg (x_aload 0) ((xe_aload 0).trans (congrArg (x_aload 0) ((xe_g0 (kk := 111) rfl tl_11_103).trans (congrArg (x_g0 111 103 (-2147483648) 2147483647) ((xe_iconst 1664525).trans (congrArg (x_iconst 1664525) ((xe_fmul).trans (congrArg (x_fmul) ((xe_iconst 1013904223).trans (congrArg (x_iconst 1013904223) ((xe_fadd).trans (congrArg (x_fadd) ((xe_p (kk := 111) rfl tl_11_103).trans (congrArg (x_p 111 103 (-2147483648) 2147483647) ((xe_aload 0).trans (congrArg (x_aload 0) ((xe_g0 (kk := 111) rfl tl_11_103).trans (congrArg (x_g0 111 103 (-2147483648) 2147483647) ((xe_iconst 1).trans (congrArg (x_iconst 1) ((xe_iushr).trans (congrArg (x_iushr) ((xe_istore 3).trans (congrArg (x_istore 3) ((xe_iload 3).trans (congrArg (x_iload 3) ((xe_i2l).trans (congrArg (x_i2l) ((xe_sipush 2147483648).trans (congrArg (x_sipush 2147483648) ((xe_iload 2).trans (congrArg (x_iload 2) ((xe_i2l).trans (congrArg (x_i2l) ((xe_lsub).trans (congrArg (x_lsub) ((xe_lcmp).trans (congrArg (x_lcmp) ((xe_ifCond .lt 57).trans (congrArg (x_ifCond .lt 57 K) ((xe_iconst 1).trans (congrArg (x_iconst 1) (xe_goto 58)))))))))))))))))))))))))))))))))))))))))))))))))
theorem bk_X11_takenBelow_63 : ck_ fX11 (some .int) cX11_takenBelow 63 [.iload 3, .iload 1, .irem, .ireturn] 67 = true := qck_r (nn_ _) (by decide +kernel)
theorem bs_X11_takenBelow_63 {P : Zt → Option Zv → Prop} (K : Int → Zl → List Zv → Zt → Prop) : sx_ K P [.iload 3, .iload 1, .irem, .ireturn] 67 = x_iload 3 (x_iload 1 (x_irem (x_ireturn P))) := ((xe_iload 3).trans (congrArg (x_iload 3) ((xe_iload 1).trans (congrArg (x_iload 1) ((xe_irem).trans (congrArg (x_irem) (xe_ireturn)))))))
theorem bk_X11_takenBelow_57 : ck_ fX11 (some .int) cX11_takenBelow 57 [.iconst 0, .istore 4, .goto 13] 63 = true := qck_r (nn_ _) (by decide +kernel)
theorem bs_X11_takenBelow_57 {P : Zt → Option Zv → Prop} (K : Int → Zl → List Zv → Zt → Prop) : sx_ K P [.iconst 0, .istore 4, .goto 13] 63 = x_iconst 0 (x_istore 4 (x_goto 13 K)) := ((xe_iconst 0).trans (congrArg (x_iconst 0) ((xe_istore 4).trans (congrArg (x_istore 4) (xe_goto 13)))))
theorem bk_X11_takenBelow_58 : ck_ fX11 (some .int) cX11_takenBelow 58 [.istore 4, .goto 13] 63 = true := qck_r (nn_ _) (by decide +kernel)
theorem bs_X11_takenBelow_58 {P : Zt → Option Zv → Prop} (K : Int → Zl → List Zv → Zt → Prop) : sx_ K P [.istore 4, .goto 13] 63 = x_istore 4 (x_goto 13 K) := ((xe_istore 4).trans (congrArg (x_istore 4) (xe_goto 13)))
theorem bk_X11_takenBelow_0 : ck_ fX11 (some .int) cX11_takenBelow 0 [.sipush 2147483648, .iload 1, .i2l, .lrem, .l2i, .istore 2, .iconst 0, .istore 3, .iconst 1, .istore 4] 13 = true := qck_r (nn_ _) (by decide +kernel)
theorem bs_X11_takenBelow_0 {P : Zt → Option Zv → Prop} (K : Int → Zl → List Zv → Zt → Prop) : sx_ K P [.sipush 2147483648, .iload 1, .i2l, .lrem, .l2i, .istore 2, .iconst 0, .istore 3, .iconst 1, .istore 4] 13 = x_sipush 2147483648 (x_iload 1 (x_i2l (x_lrem (x_l2i (x_istore 2 (x_iconst 0 (x_istore 3 (x_iconst 1 (x_istore 4 (K 13)))))))))) := ((xe_sipush 2147483648).trans (congrArg (x_sipush 2147483648) ((xe_iload 1).trans (congrArg (x_iload 1) ((xe_i2l).trans (congrArg (x_i2l) ((xe_lrem).trans (congrArg (x_lrem) ((xe_l2i).trans (congrArg (x_l2i) ((xe_istore 2).trans (congrArg (x_istore 2) ((xe_iconst 0).trans (congrArg (x_iconst 0) ((xe_istore 3).trans (congrArg (x_istore 3) ((xe_iconst 1).trans (congrArg (x_iconst 1) ((xe_istore 4).trans (congrArg (x_istore 4) xe_nil))))))))))))))))))))
abbrev po_X11_takenBelow (T : Zt) (m : Int) : Zt → Option Zv → Prop := fun T' r => ∃ x : Int, r = some (vI x) ∧ fr_ [(111, [103])] T T' ∧ (0 ≤ x ∧ x < m)
set_option maxHeartbeats 4000000 in
theorem ct_X11_takenBelow {T : Zt} {m : Int} (h1 : 1 ≤ m ∧ m ≤ 13824) : Ct_ yX11_takenBelow zX11_takenBelow T [vR 111 0, vI m] (po_X11_takenBelow T m) := by
  refine ct_of pn_11 rfl rfl (Nat.le_of_ble_eq_true rfl) (fun hT hav => ?_)
  have hr_m : -2147483648 ≤ m ∧ m ≤ 2147483647 := hav (vI m) (List.mem_cons_of_mem _ List.mem_cons_self)
  have hz : zX11_takenBelow.2.2.2.1 = some .boolean → ∀ (T' : Zt) (x : Int), po_X11_takenBelow T m T' (some (vI x)) → 0 ≤ x ∧ x ≤ 1 := fun h => by cases h
  have hr1 := Int.emod_nonneg 2147483648 (show m ≠ 0 by omega)
  have hr2 := Int.emod_lt_of_pos 2147483648 (show 0 < m by omega)
  show J_ zX11_takenBelow T (po_X11_takenBelow T m) 0 0 0 [some (vR 111 0), some (vI m), none, none, none] [] T
  have c_13 : ∀ (nn : Nat) (v : Int) (mr : Int) (ph : Nat) (T1 : Zt), ph ≤ nn → (fr_ [(111, [103])] T T1) → ((mr = 0 ∧ ph = 0 ∧ 0 ≤ v) ∨ (mr = 1 ∧ ph = 1 ∧ 2147469824 ≤ us_ (T1 111 0 103) 1) ∨ (mr = 1 ∧ ph = 2)) → J_ zX11_takenBelow T (po_X11_takenBelow T m) 0 0 13 [some (vR 111 0), some (vI m), some (vI (2147483648 % m)), some (vI v), some (vI mr)] [] T1 := by
    intro nn
    induction nn using Nat.strongRecOn with
    | _ nn ih_13 =>
      intro v mr ph T1 hm_13 hf_13 hp
      replace hm_13 := fun (_ : Unit) => hm_13
      refine j_blx (F := fX11) tb_X11 (nn_ _) bk_X11_takenBelow_13 bs_X11_takenBelow_13 hz (fun K hK => ?_)
      refine And.intro (fun c1 => ?_) (fun c1 => ?_)
      · refine hK 63 _ [] T1 ?_
        refine j_blx (F := fX11) tb_X11 (nn_ _) bk_X11_takenBelow_63 bs_X11_takenBelow_63 hz (fun K hK => ?_)
        have hv1 := Int.emod_nonneg v (show m ≠ 0 by omega)
        have hv2 := Int.emod_lt_of_pos v (show 0 < m by omega)
        refine dv_i (by omega) ?_
        refine (show po_X11_takenBelow T m T1 (some (vI (v % m))) from ?_)
        exact ⟨_, rfl, fr_t (fr_0 _ _) (fr_s hf_13 rfl), by omega⟩
      · intro b2 b2b
        intro w3 w3b
        intro w4 w4b
        refine bd_i (by omega) ?_
        refine x_nm (fun U5 hU5 => ?_)
        have e6 := up_f hU5
        intro b7 b7b
        have e8 : U5 111 0 103 = wr_ ((wr_ ((T1 111 0 103) * 1664525)) + 1013904223) := up_f hU5
        rw [e8] at b7 b7b ⊢
        intro w9 w9b
        have hu := us_1 (x := (wr_ ((wr_ ((T1 111 0 103) * 1664525)) + 1013904223))) (by omega)
        have htk : ph = 1 → us_ (wr_ ((wr_ ((T1 111 0 103) * 1664525)) + 1013904223)) 1 < 2147469824 := fun z => by
          rcases hp with y | y | y
          · omega
          · exact tk_2 (by omega) y.2.2
          · omega
        refine rl_i (by omega) ?_
        refine And.intro (fun c10 => ?_) (And.intro (fun c10 => ?_) (fun c10 => ?_))
        · refine And.intro (fun c11 => ?_) (fun c11 => ?_)
          · refine hK 57 [some (vR 111 0), some (vI m), some (vI (2147483648 % m)), some (vI (us_ (wr_ ((wr_ ((T1 111 0 103) * 1664525)) + 1013904223)) 1)), some (vI mr)] [] U5 ?_
            refine j_blx (F := fX11) tb_X11 (nn_ _) bk_X11_takenBelow_57 bs_X11_takenBelow_57 hz (fun K hK => ?_)
            refine hK 13 [some (vR 111 0), some (vI m), some (vI (2147483648 % m)), some (vI (us_ (wr_ ((wr_ ((T1 111 0 103) * 1664525)) + 1013904223)) 1)), some (vI 0)] [] U5 ?_
            have e12 : U5 111 0 103 = wr_ ((wr_ ((T1 111 0 103) * 1664525)) + 1013904223) := up_f hU5
            refine ih_13 _ ?_ (us_ (wr_ ((wr_ ((T1 111 0 103) * 1664525)) + 1013904223)) 1) 0 0 U5 (Nat.le_refl _) ?_ ?_
            · have hm_13 := hm_13 (); omega
            · exact fr_u (fr_t (fr_0 _ _) (fr_s hf_13 rfl)) hU5 rfl
            · exact Or.inl ⟨rfl, rfl, by omega⟩
          · refine hK 58 [some (vR 111 0), some (vI m), some (vI (2147483648 % m)), some (vI (us_ (wr_ ((wr_ ((T1 111 0 103) * 1664525)) + 1013904223)) 1)), some (vI mr)] [vI 1] U5 ?_
            refine j_blx (F := fX11) tb_X11 (nn_ _) bk_X11_takenBelow_58 bs_X11_takenBelow_58 hz (fun K hK => ?_)
            refine hK 13 [some (vR 111 0), some (vI m), some (vI (2147483648 % m)), some (vI (us_ (wr_ ((wr_ ((T1 111 0 103) * 1664525)) + 1013904223)) 1)), some (vI 1)] [] U5 ?_
            have e13 : U5 111 0 103 = wr_ ((wr_ ((T1 111 0 103) * 1664525)) + 1013904223) := up_f hU5
            refine ih_13 _ ?_ (us_ (wr_ ((wr_ ((T1 111 0 103) * 1664525)) + 1013904223)) 1) 1 1 U5 (Nat.le_refl _) ?_ ?_
            · have hm_13 := hm_13 (); omega
            · exact fr_u (fr_t (fr_0 _ _) (fr_s hf_13 rfl)) hU5 rfl
            · exact Or.inr (Or.inl ⟨rfl, rfl, by rw [up_f hU5]; omega⟩)
        · refine And.intro (fun c14 => ?_) (fun c14 => ?_)
          · refine hK 57 [some (vR 111 0), some (vI m), some (vI (2147483648 % m)), some (vI (us_ (wr_ ((wr_ ((T1 111 0 103) * 1664525)) + 1013904223)) 1)), some (vI mr)] [] U5 ?_
            refine j_blx (F := fX11) tb_X11 (nn_ _) bk_X11_takenBelow_57 bs_X11_takenBelow_57 hz (fun K hK => ?_)
            refine hK 13 [some (vR 111 0), some (vI m), some (vI (2147483648 % m)), some (vI (us_ (wr_ ((wr_ ((T1 111 0 103) * 1664525)) + 1013904223)) 1)), some (vI 0)] [] U5 ?_
            have e15 : U5 111 0 103 = wr_ ((wr_ ((T1 111 0 103) * 1664525)) + 1013904223) := up_f hU5
            refine ih_13 _ ?_ (us_ (wr_ ((wr_ ((T1 111 0 103) * 1664525)) + 1013904223)) 1) 0 0 U5 (Nat.le_refl _) ?_ ?_
            · have hm_13 := hm_13 (); omega
            · exact fr_u (fr_t (fr_0 _ _) (fr_s hf_13 rfl)) hU5 rfl
            · exact Or.inl ⟨rfl, rfl, by omega⟩
          · refine hK 58 [some (vR 111 0), some (vI m), some (vI (2147483648 % m)), some (vI (us_ (wr_ ((wr_ ((T1 111 0 103) * 1664525)) + 1013904223)) 1)), some (vI mr)] [vI 1] U5 ?_
            refine j_blx (F := fX11) tb_X11 (nn_ _) bk_X11_takenBelow_58 bs_X11_takenBelow_58 hz (fun K hK => ?_)
            refine hK 13 [some (vR 111 0), some (vI m), some (vI (2147483648 % m)), some (vI (us_ (wr_ ((wr_ ((T1 111 0 103) * 1664525)) + 1013904223)) 1)), some (vI 1)] [] U5 ?_
            have e16 : U5 111 0 103 = wr_ ((wr_ ((T1 111 0 103) * 1664525)) + 1013904223) := up_f hU5
            refine ih_13 _ ?_ (us_ (wr_ ((wr_ ((T1 111 0 103) * 1664525)) + 1013904223)) 1) 1 1 U5 (Nat.le_refl _) ?_ ?_
            · have hm_13 := hm_13 (); omega
            · exact fr_u (fr_t (fr_0 _ _) (fr_s hf_13 rfl)) hU5 rfl
            · exact Or.inr (Or.inl ⟨rfl, rfl, by rw [up_f hU5]; omega⟩)
        · refine And.intro (fun c17 => ?_) (fun c17 => ?_)
          · refine hK 57 [some (vR 111 0), some (vI m), some (vI (2147483648 % m)), some (vI (us_ (wr_ ((wr_ ((T1 111 0 103) * 1664525)) + 1013904223)) 1)), some (vI mr)] [] U5 ?_
            refine j_blx (F := fX11) tb_X11 (nn_ _) bk_X11_takenBelow_57 bs_X11_takenBelow_57 hz (fun K hK => ?_)
            refine hK 13 [some (vR 111 0), some (vI m), some (vI (2147483648 % m)), some (vI (us_ (wr_ ((wr_ ((T1 111 0 103) * 1664525)) + 1013904223)) 1)), some (vI 0)] [] U5 ?_
            have e18 : U5 111 0 103 = wr_ ((wr_ ((T1 111 0 103) * 1664525)) + 1013904223) := up_f hU5
            refine ih_13 _ ?_ (us_ (wr_ ((wr_ ((T1 111 0 103) * 1664525)) + 1013904223)) 1) 0 0 U5 (Nat.le_refl _) ?_ ?_
            · have hm_13 := hm_13 (); omega
            · exact fr_u (fr_t (fr_0 _ _) (fr_s hf_13 rfl)) hU5 rfl
            · exact Or.inl ⟨rfl, rfl, by omega⟩
          · refine hK 58 [some (vR 111 0), some (vI m), some (vI (2147483648 % m)), some (vI (us_ (wr_ ((wr_ ((T1 111 0 103) * 1664525)) + 1013904223)) 1)), some (vI mr)] [vI 1] U5 ?_
            refine j_blx (F := fX11) tb_X11 (nn_ _) bk_X11_takenBelow_58 bs_X11_takenBelow_58 hz (fun K hK => ?_)
            refine hK 13 [some (vR 111 0), some (vI m), some (vI (2147483648 % m)), some (vI (us_ (wr_ ((wr_ ((T1 111 0 103) * 1664525)) + 1013904223)) 1)), some (vI 1)] [] U5 ?_
            have e19 : U5 111 0 103 = wr_ ((wr_ ((T1 111 0 103) * 1664525)) + 1013904223) := up_f hU5
            refine ih_13 _ ?_ (us_ (wr_ ((wr_ ((T1 111 0 103) * 1664525)) + 1013904223)) 1) 1 1 U5 (Nat.le_refl _) ?_ ?_
            · have hm_13 := hm_13 (); omega
            · exact fr_u (fr_t (fr_0 _ _) (fr_s hf_13 rfl)) hU5 rfl
            · exact Or.inr (Or.inl ⟨rfl, rfl, by rw [up_f hU5]; omega⟩)
  refine j_blx (F := fX11) tb_X11 (nn_ _) bk_X11_takenBelow_0 bs_X11_takenBelow_0 hz (fun K hK => ?_)
  refine dv_i (by omega) ?_
  refine rg_i (by omega) ?_
  refine hK 13 [some (vR 111 0), some (vI m), some (vI (2147483648 % m)), some (vI 0), some (vI 1)] [] T ?_
  refine c_13 _ 0 1 2 T (Nat.le_refl _) ?_ ?_
  · exact fr_0 _ _
  · exact Or.inr (Or.inr ⟨rfl, rfl⟩)
abbrev cX11_ball : ByteArray := prog_13_method_120_code
def yX11_ball : MethodName := ⟨RX11, "ball", "(IZ)I"⟩
def zX11_ball : Zm := (RX11, cX11_ball, 12, (some .int), { frames := 2, cells := 0, slots := 0, locals := 52 })
theorem bk_X11_ball_265 : ck_ fX11 (some .int) cX11_ball 265 [.iload 10, .iload 9, .if_icmp .gt 291, .iinc 11 1, .iload 10, .aload 0, .iload 8, .iload 11] 282 = true := qck_r (nn_ _) (by decide +kernel)
theorem bs_X11_ball_265 {P : Zt → Option Zv → Prop} (K : Int → Zl → List Zv → Zt → Prop) : sx_ K P [.iload 10, .iload 9, .if_icmp .gt 291, .iinc 11 1, .iload 10, .aload 0, .iload 8, .iload 11] 282 = x_iload 10 (x_iload 9 (x_if_icmp .gt 291 K (x_iinc 11 1 (x_iload 10 (x_aload 0 (x_iload 8 (x_iload 11 (K 282)))))))) := ((xe_iload 10).trans (congrArg (x_iload 10) ((xe_iload 9).trans (congrArg (x_iload 9) ((xe_if_icmp .gt 291).trans (congrArg (x_if_icmp .gt 291 K) ((xe_iinc 11 1).trans (congrArg (x_iinc 11 1) ((xe_iload 10).trans (congrArg (x_iload 10) ((xe_aload 0).trans (congrArg (x_aload 0) ((xe_iload 8).trans (congrArg (x_iload 8) ((xe_iload 11).trans (congrArg (x_iload 11) xe_nil))))))))))))))))
theorem bk_X11_ball_291 : ck_ fX11 (some .int) cX11_ball 291 [.aload 0, .tableswitch 0 11 102 #[], .iload 8, .iload 11, .iastore, .iconst 8, .iload 8, .imul, .iload 11, .iadd, .ireturn] 309 = true := qck_r (nn_ _) (by decide +kernel)
theorem bs_X11_ball_291 {P : Zt → Option Zv → Prop} (K : Int → Zl → List Zv → Zt → Prop) : sx_ K P [.aload 0, .tableswitch 0 11 102 #[], .iload 8, .iload 11, .iastore, .iconst 8, .iload 8, .imul, .iload 11, .iadd, .ireturn] 309 = x_aload 0 (x_g1 111 302 (x_iload 8 (x_iload 11 (x_iastore (x_iconst 8 (x_iload 8 (x_imul (x_iload 11 (x_iadd (x_ireturn P)))))))))) := ((xe_aload 0).trans (congrArg (x_aload 0) ((xe_g1 (kk := 111) rfl tl_11_102).trans (congrArg (x_g1 111 302) ((xe_iload 8).trans (congrArg (x_iload 8) ((xe_iload 11).trans (congrArg (x_iload 11) ((xe_iastore).trans (congrArg (x_iastore) ((xe_iconst 8).trans (congrArg (x_iconst 8) ((xe_iload 8).trans (congrArg (x_iload 8) ((xe_imul).trans (congrArg (x_imul) ((xe_iload 11).trans (congrArg (x_iload 11) ((xe_iadd).trans (congrArg (x_iadd) (xe_ireturn)))))))))))))))))))))
theorem bk_X11_ball_285 : ck_ fX11 (some .int) cX11_ball 285 [.iadd, .istore 10, .goto 265] 291 = true := qck_r (nn_ _) (by decide +kernel)
theorem bs_X11_ball_285 {P : Zt → Option Zv → Prop} (K : Int → Zl → List Zv → Zt → Prop) : sx_ K P [.iadd, .istore 10, .goto 265] 291 = x_iadd (x_istore 10 (x_goto 265 K)) := ((xe_iadd).trans (congrArg (x_iadd) ((xe_istore 10).trans (congrArg (x_istore 10) (xe_goto 265)))))
theorem bk_X11_ball_196 : ck_ fX11 (some .int) cX11_ball 196 [.iload 9, .aload 0, .tableswitch 0 11 12 #[], .if_icmp .ge 251, .aload 0, .tableswitch 0 11 101 #[], .iload 9, .iaload, .iload 4, .if_icmp .ne 245, .aload 0, .tableswitch 0 11 102 #[], .iload 9, .iaload, .iconst (-1), .if_icmp .ne 245, .iload 7, .ifCond .ne 238, .iload 9, .goto 240] 238 = true := qck_r (nn_ _) (by decide +kernel)
theorem bs_X11_ball_196 {P : Zt → Option Zv → Prop} (K : Int → Zl → List Zv → Zt → Prop) : sx_ K P [.iload 9, .aload 0, .tableswitch 0 11 12 #[], .if_icmp .ge 251, .aload 0, .tableswitch 0 11 101 #[], .iload 9, .iaload, .iload 4, .if_icmp .ne 245, .aload 0, .tableswitch 0 11 102 #[], .iload 9, .iaload, .iconst (-1), .if_icmp .ne 245, .iload 7, .ifCond .ne 238, .iload 9, .goto 240] 238 = x_iload 9 (x_aload 0 (x_g0 111 12 0 12 (x_if_icmp .ge 251 K (x_aload 0 (x_g1 111 301 (x_iload 9 (x_iaload (x_iload 4 (x_if_icmp .ne 245 K (x_aload 0 (x_g1 111 302 (x_iload 9 (x_iaload (x_iconst (-1) (x_if_icmp .ne 245 K (x_iload 7 (x_ifCond .ne 238 K (x_iload 9 (x_goto 240 K))))))))))))))))))) := ((xe_iload 9).trans (congrArg (x_iload 9) ((xe_aload 0).trans (congrArg (x_aload 0) ((xe_g0 (kk := 111) rfl tl_11_12).trans (congrArg (x_g0 111 12 0 12) ((xe_if_icmp .ge 251).trans (congrArg (x_if_icmp .ge 251 K) ((xe_aload 0).trans (congrArg (x_aload 0) ((xe_g1 (kk := 111) rfl tl_11_101).trans (congrArg (x_g1 111 301) ((xe_iload 9).trans (congrArg (x_iload 9) ((xe_iaload).trans (congrArg (x_iaload) ((xe_iload 4).trans (congrArg (x_iload 4) ((xe_if_icmp .ne 245).trans (congrArg (x_if_icmp .ne 245 K) ((xe_aload 0).trans (congrArg (x_aload 0) ((xe_g1 (kk := 111) rfl tl_11_102).trans (congrArg (x_g1 111 302) ((xe_iload 9).trans (congrArg (x_iload 9) ((xe_iaload).trans (congrArg (x_iaload) ((xe_iconst (-1)).trans (congrArg (x_iconst (-1)) ((xe_if_icmp .ne 245).trans (congrArg (x_if_icmp .ne 245 K) ((xe_iload 7).trans (congrArg (x_iload 7) ((xe_ifCond .ne 238).trans (congrArg (x_ifCond .ne 238 K) ((xe_iload 9).trans (congrArg (x_iload 9) (xe_goto 240)))))))))))))))))))))))))))))))))))))))
theorem bk_X11_ball_251 : ck_ fX11 (some .int) cX11_ball 251 [.aload 0, .iload 5] 254 = true := qck_r (nn_ _) (by decide +kernel)
theorem bs_X11_ball_251 {P : Zt → Option Zv → Prop} (K : Int → Zl → List Zv → Zt → Prop) : sx_ K P [.aload 0, .iload 5] 254 = x_aload 0 (x_iload 5 (K 254)) := ((xe_aload 0).trans (congrArg (x_aload 0) ((xe_iload 5).trans (congrArg (x_iload 5) xe_nil))))
set_option maxRecDepth 100000 in
theorem cl_X11_604 : cv_ RX11 604 yX11_takenBelow zX11_takenBelow 11 1 := ⟨gi_V (lwq_10 (dqc_m (dqc_m (dqa_m (List.mem_of_getElem? (i := 3) rfl)))) rfl : Cond.methodLink RX11 604 yX11_takenBelow ∈ lw_g) (lwq_10 (dqc_m (dqc_m (dqa_m (List.mem_of_getElem? (i := 5) rfl)))) rfl : Cond.instanceMethod yX11_takenBelow ∈ lw_g) (lw_sel 73 rfl : Cond.selects yX11_takenBelow.cls yX11_takenBelow yX11_takenBelow ∈ lw_g) (lwq_1 (dqa_m (List.mem_of_getElem? (i := 2) rfl)) rfl : Cond.initialized yX11_takenBelow.cls ∈ lw_g) (lwq_10 (dqc_m (dqc_m (dqa_m (List.mem_of_getElem? (i := 6) rfl)))) rfl : Cond.code yX11_takenBelow cX11_takenBelow 5 (some .int) ∈ lw_g), ⟨nmh_1.1, nmh_1.2, pdq_15⟩, ⟨_, _, rfl⟩⟩
theorem bk_X11_ball_257 : ck_ fX11 (some .int) cX11_ball 257 [.istore 9, .iconst 0, .istore 10, .iconst (-1), .istore 11] 265 = true := qck_r (nn_ _) (by decide +kernel)
theorem bs_X11_ball_257 {P : Zt → Option Zv → Prop} (K : Int → Zl → List Zv → Zt → Prop) : sx_ K P [.istore 9, .iconst 0, .istore 10, .iconst (-1), .istore 11] 265 = x_istore 9 (x_iconst 0 (x_istore 10 (x_iconst (-1) (x_istore 11 (K 265))))) := ((xe_istore 9).trans (congrArg (x_istore 9) ((xe_iconst 0).trans (congrArg (x_iconst 0) ((xe_istore 10).trans (congrArg (x_istore 10) ((xe_iconst (-1)).trans (congrArg (x_iconst (-1)) ((xe_istore 11).trans (congrArg (x_istore 11) xe_nil))))))))))
theorem bk_X11_ball_245 : ck_ fX11 (some .int) cX11_ball 245 [.iinc 9 1, .goto 196] 251 = true := qck_r (nn_ _) (by decide +kernel)
theorem bs_X11_ball_245 {P : Zt → Option Zv → Prop} (K : Int → Zl → List Zv → Zt → Prop) : sx_ K P [.iinc 9 1, .goto 196] 251 = x_iinc 9 1 (x_goto 196 K) := ((xe_iinc 9 1).trans (congrArg (x_iinc 9 1) (xe_goto 196)))
theorem bk_X11_ball_238 : ck_ fX11 (some .int) cX11_ball 238 [.iload 8, .istore 8, .iinc 7 (-1), .iinc 9 1, .goto 196] 251 = true := qck_r (nn_ _) (by decide +kernel)
theorem bs_X11_ball_238 {P : Zt → Option Zv → Prop} (K : Int → Zl → List Zv → Zt → Prop) : sx_ K P [.iload 8, .istore 8, .iinc 7 (-1), .iinc 9 1, .goto 196] 251 = x_iload 8 (x_istore 8 (x_iinc 7 (-1) (x_iinc 9 1 (x_goto 196 K)))) := ((xe_iload 8).trans (congrArg (x_iload 8) ((xe_istore 8).trans (congrArg (x_istore 8) ((xe_iinc 7 (-1)).trans (congrArg (x_iinc 7 (-1)) ((xe_iinc 9 1).trans (congrArg (x_iinc 9 1) (xe_goto 196)))))))))
theorem bk_X11_ball_240 : ck_ fX11 (some .int) cX11_ball 240 [.istore 8, .iinc 7 (-1), .iinc 9 1, .goto 196] 251 = true := qck_r (nn_ _) (by decide +kernel)
theorem bs_X11_ball_240 {P : Zt → Option Zv → Prop} (K : Int → Zl → List Zv → Zt → Prop) : sx_ K P [.istore 8, .iinc 7 (-1), .iinc 9 1, .goto 196] 251 = x_istore 8 (x_iinc 7 (-1) (x_iinc 9 1 (x_goto 196 K))) := ((xe_istore 8).trans (congrArg (x_istore 8) ((xe_iinc 7 (-1)).trans (congrArg (x_iinc 7 (-1)) ((xe_iinc 9 1).trans (congrArg (x_iinc 9 1) (xe_goto 196)))))))
theorem bk_X11_ball_134 : ck_ fX11 (some .int) cX11_ball 134 [.iload 7, .aload 0, .tableswitch 0 11 12 #[], .if_icmp .ge 182, .iload 6, .aload 0, .tableswitch 0 11 101 #[], .iload 7, .iaload, .iload 4, .if_icmp .ne 172, .aload 0, .tableswitch 0 11 102 #[], .iload 7, .iaload, .iconst (-1), .if_icmp .ne 172, .iconst 1, .goto 173] 172 = true := qck_r (nn_ _) (by decide +kernel)
theorem bs_X11_ball_134 {P : Zt → Option Zv → Prop} (K : Int → Zl → List Zv → Zt → Prop) : sx_ K P [.iload 7, .aload 0, .tableswitch 0 11 12 #[], .if_icmp .ge 182, .iload 6, .aload 0, .tableswitch 0 11 101 #[], .iload 7, .iaload, .iload 4, .if_icmp .ne 172, .aload 0, .tableswitch 0 11 102 #[], .iload 7, .iaload, .iconst (-1), .if_icmp .ne 172, .iconst 1, .goto 173] 172 = x_iload 7 (x_aload 0 (x_g0 111 12 0 12 (x_if_icmp .ge 182 K (x_iload 6 (x_aload 0 (x_g1 111 301 (x_iload 7 (x_iaload (x_iload 4 (x_if_icmp .ne 172 K (x_aload 0 (x_g1 111 302 (x_iload 7 (x_iaload (x_iconst (-1) (x_if_icmp .ne 172 K (x_iconst 1 (x_goto 173 K)))))))))))))))))) := ((xe_iload 7).trans (congrArg (x_iload 7) ((xe_aload 0).trans (congrArg (x_aload 0) ((xe_g0 (kk := 111) rfl tl_11_12).trans (congrArg (x_g0 111 12 0 12) ((xe_if_icmp .ge 182).trans (congrArg (x_if_icmp .ge 182 K) ((xe_iload 6).trans (congrArg (x_iload 6) ((xe_aload 0).trans (congrArg (x_aload 0) ((xe_g1 (kk := 111) rfl tl_11_101).trans (congrArg (x_g1 111 301) ((xe_iload 7).trans (congrArg (x_iload 7) ((xe_iaload).trans (congrArg (x_iaload) ((xe_iload 4).trans (congrArg (x_iload 4) ((xe_if_icmp .ne 172).trans (congrArg (x_if_icmp .ne 172 K) ((xe_aload 0).trans (congrArg (x_aload 0) ((xe_g1 (kk := 111) rfl tl_11_102).trans (congrArg (x_g1 111 302) ((xe_iload 7).trans (congrArg (x_iload 7) ((xe_iaload).trans (congrArg (x_iaload) ((xe_iconst (-1)).trans (congrArg (x_iconst (-1)) ((xe_if_icmp .ne 172).trans (congrArg (x_if_icmp .ne 172 K) ((xe_iconst 1).trans (congrArg (x_iconst 1) (xe_goto 173)))))))))))))))))))))))))))))))))))))
theorem bk_X11_ball_182 : ck_ fX11 (some .int) cX11_ball 182 [.aload 0, .iload 6] 185 = true := qck_r (nn_ _) (by decide +kernel)
theorem bs_X11_ball_182 {P : Zt → Option Zv → Prop} (K : Int → Zl → List Zv → Zt → Prop) : sx_ K P [.aload 0, .iload 6] 185 = x_aload 0 (x_iload 6 (K 185)) := ((xe_aload 0).trans (congrArg (x_aload 0) ((xe_iload 6).trans (congrArg (x_iload 6) xe_nil))))
theorem bk_X11_ball_188 : ck_ fX11 (some .int) cX11_ball 188 [.istore 7, .iconst (-1), .istore 8, .iconst 0, .istore 9] 196 = true := qck_r (nn_ _) (by decide +kernel)
theorem bs_X11_ball_188 {P : Zt → Option Zv → Prop} (K : Int → Zl → List Zv → Zt → Prop) : sx_ K P [.istore 7, .iconst (-1), .istore 8, .iconst 0, .istore 9] 196 = x_istore 7 (x_iconst (-1) (x_istore 8 (x_iconst 0 (x_istore 9 (K 196))))) := ((xe_istore 7).trans (congrArg (x_istore 7) ((xe_iconst (-1)).trans (congrArg (x_iconst (-1)) ((xe_istore 8).trans (congrArg (x_istore 8) ((xe_iconst 0).trans (congrArg (x_iconst 0) ((xe_istore 9).trans (congrArg (x_istore 9) xe_nil))))))))))
theorem bk_X11_ball_172 : ck_ fX11 (some .int) cX11_ball 172 [.iconst 0, .iadd, .istore 6, .iinc 7 1, .goto 134] 182 = true := qck_r (nn_ _) (by decide +kernel)
theorem bs_X11_ball_172 {P : Zt → Option Zv → Prop} (K : Int → Zl → List Zv → Zt → Prop) : sx_ K P [.iconst 0, .iadd, .istore 6, .iinc 7 1, .goto 134] 182 = x_iconst 0 (x_iadd (x_istore 6 (x_iinc 7 1 (x_goto 134 K)))) := ((xe_iconst 0).trans (congrArg (x_iconst 0) ((xe_iadd).trans (congrArg (x_iadd) ((xe_istore 6).trans (congrArg (x_istore 6) ((xe_iinc 7 1).trans (congrArg (x_iinc 7 1) (xe_goto 134)))))))))
theorem bk_X11_ball_173 : ck_ fX11 (some .int) cX11_ball 173 [.iadd, .istore 6, .iinc 7 1, .goto 134] 182 = true := qck_r (nn_ _) (by decide +kernel)
theorem bs_X11_ball_173 {P : Zt → Option Zv → Prop} (K : Int → Zl → List Zv → Zt → Prop) : sx_ K P [.iadd, .istore 6, .iinc 7 1, .goto 134] 182 = x_iadd (x_istore 6 (x_iinc 7 1 (x_goto 134 K))) := ((xe_iadd).trans (congrArg (x_iadd) ((xe_istore 6).trans (congrArg (x_istore 6) ((xe_iinc 7 1).trans (congrArg (x_iinc 7 1) (xe_goto 134)))))))
theorem bk_X11_ball_8 : ck_ fX11 (some .int) cX11_ball 8 [.iload 5, .aload 0, .tableswitch 0 11 12 #[], .if_icmp .ge 81, .aload 0, .tableswitch 0 11 98 #[], .ifCond .eq 81, .aload 0, .tableswitch 0 11 101 #[], .iload 5, .iaload, .iconst (-1), .if_icmp .eq 75, .aload 0, .tableswitch 0 11 102 #[], .iload 5, .iaload, .iconst (-1), .if_icmp .ne 75, .aload 0, .tableswitch 0 11 101 #[], .iload 5, .iaload, .iload 4, .if_icmp .ge 68, .aload 0, .tableswitch 0 11 101 #[], .iload 5, .iaload, .goto 70] 68 = true := qck_r (nn_ _) (by decide +kernel)
theorem bs_X11_ball_8 {P : Zt → Option Zv → Prop} (K : Int → Zl → List Zv → Zt → Prop) : sx_ K P [.iload 5, .aload 0, .tableswitch 0 11 12 #[], .if_icmp .ge 81, .aload 0, .tableswitch 0 11 98 #[], .ifCond .eq 81, .aload 0, .tableswitch 0 11 101 #[], .iload 5, .iaload, .iconst (-1), .if_icmp .eq 75, .aload 0, .tableswitch 0 11 102 #[], .iload 5, .iaload, .iconst (-1), .if_icmp .ne 75, .aload 0, .tableswitch 0 11 101 #[], .iload 5, .iaload, .iload 4, .if_icmp .ge 68, .aload 0, .tableswitch 0 11 101 #[], .iload 5, .iaload, .goto 70] 68 = x_iload 5 (x_aload 0 (x_g0 111 12 0 12 (x_if_icmp .ge 81 K (x_aload 0 (x_g0 111 98 0 1 (x_ifCond .eq 81 K (x_aload 0 (x_g1 111 301 (x_iload 5 (x_iaload (x_iconst (-1) (x_if_icmp .eq 75 K (x_aload 0 (x_g1 111 302 (x_iload 5 (x_iaload (x_iconst (-1) (x_if_icmp .ne 75 K (x_aload 0 (x_g1 111 301 (x_iload 5 (x_iaload (x_iload 4 (x_if_icmp .ge 68 K (x_aload 0 (x_g1 111 301 (x_iload 5 (x_iaload (x_goto 70 K))))))))))))))))))))))))))))) := ((xe_iload 5).trans (congrArg (x_iload 5) ((xe_aload 0).trans (congrArg (x_aload 0) ((xe_g0 (kk := 111) rfl tl_11_12).trans (congrArg (x_g0 111 12 0 12) ((xe_if_icmp .ge 81).trans (congrArg (x_if_icmp .ge 81 K) ((xe_aload 0).trans (congrArg (x_aload 0) ((xe_g0 (kk := 111) rfl tl_11_98).trans (congrArg (x_g0 111 98 0 1) ((xe_ifCond .eq 81).trans (congrArg (x_ifCond .eq 81 K) ((xe_aload 0).trans (congrArg (x_aload 0) ((xe_g1 (kk := 111) rfl tl_11_101).trans (congrArg (x_g1 111 301) ((xe_iload 5).trans (congrArg (x_iload 5) ((xe_iaload).trans (congrArg (x_iaload) ((xe_iconst (-1)).trans (congrArg (x_iconst (-1)) ((xe_if_icmp .eq 75).trans (congrArg (x_if_icmp .eq 75 K) ((xe_aload 0).trans (congrArg (x_aload 0) ((xe_g1 (kk := 111) rfl tl_11_102).trans (congrArg (x_g1 111 302) ((xe_iload 5).trans (congrArg (x_iload 5) ((xe_iaload).trans (congrArg (x_iaload) ((xe_iconst (-1)).trans (congrArg (x_iconst (-1)) ((xe_if_icmp .ne 75).trans (congrArg (x_if_icmp .ne 75 K) ((xe_aload 0).trans (congrArg (x_aload 0) ((xe_g1 (kk := 111) rfl tl_11_101).trans (congrArg (x_g1 111 301) ((xe_iload 5).trans (congrArg (x_iload 5) ((xe_iaload).trans (congrArg (x_iaload) ((xe_iload 4).trans (congrArg (x_iload 4) ((xe_if_icmp .ge 68).trans (congrArg (x_if_icmp .ge 68 K) ((xe_aload 0).trans (congrArg (x_aload 0) ((xe_g1 (kk := 111) rfl tl_11_101).trans (congrArg (x_g1 111 301) ((xe_iload 5).trans (congrArg (x_iload 5) ((xe_iaload).trans (congrArg (x_iaload) (xe_goto 70)))))))))))))))))))))))))))))))))))))))))))))))))))))))))))
theorem bk_X11_ball_81 : ck_ fX11 (some .int) cX11_ball 81 [.aload 0, .tableswitch 0 11 98 #[], .ifCond .eq 101, .iload 3, .ifCond .le 101, .aload 0, .iconst (-1), .iconst (-1)] 95 = true := qck_r (nn_ _) (by decide +kernel)
theorem bs_X11_ball_81 {P : Zt → Option Zv → Prop} (K : Int → Zl → List Zv → Zt → Prop) : sx_ K P [.aload 0, .tableswitch 0 11 98 #[], .ifCond .eq 101, .iload 3, .ifCond .le 101, .aload 0, .iconst (-1), .iconst (-1)] 95 = x_aload 0 (x_g0 111 98 0 1 (x_ifCond .eq 101 K (x_iload 3 (x_ifCond .le 101 K (x_aload 0 (x_iconst (-1) (x_iconst (-1) (K 95)))))))) := ((xe_aload 0).trans (congrArg (x_aload 0) ((xe_g0 (kk := 111) rfl tl_11_98).trans (congrArg (x_g0 111 98 0 1) ((xe_ifCond .eq 101).trans (congrArg (x_ifCond .eq 101 K) ((xe_iload 3).trans (congrArg (x_iload 3) ((xe_ifCond .le 101).trans (congrArg (x_ifCond .le 101 K) ((xe_aload 0).trans (congrArg (x_aload 0) ((xe_iconst (-1)).trans (congrArg (x_iconst (-1)) ((xe_iconst (-1)).trans (congrArg (x_iconst (-1)) xe_nil))))))))))))))))
theorem bk_X11_ball_101 : ck_ fX11 (some .int) cX11_ball 101 [.iconst 0, .istore 5, .iload 5, .ifCond .ne 112, .iconst (-4), .ireturn] 112 = true := qck_r (nn_ _) (by decide +kernel)
theorem bs_X11_ball_101 {P : Zt → Option Zv → Prop} (K : Int → Zl → List Zv → Zt → Prop) : sx_ K P [.iconst 0, .istore 5, .iload 5, .ifCond .ne 112, .iconst (-4), .ireturn] 112 = x_iconst 0 (x_istore 5 (x_iload 5 (x_ifCond .ne 112 K (x_iconst (-4) (x_ireturn P))))) := ((xe_iconst 0).trans (congrArg (x_iconst 0) ((xe_istore 5).trans (congrArg (x_istore 5) ((xe_iload 5).trans (congrArg (x_iload 5) ((xe_ifCond .ne 112).trans (congrArg (x_ifCond .ne 112 K) ((xe_iconst (-4)).trans (congrArg (x_iconst (-4)) (xe_ireturn)))))))))))
theorem bk_X11_ball_98 : ck_ fX11 (some .int) cX11_ball 98 [.goto 102] 101 = true := qck_r (nn_ _) (by decide +kernel)
theorem bs_X11_ball_98 {P : Zt → Option Zv → Prop} (K : Int → Zl → List Zv → Zt → Prop) : sx_ K P [.goto 102] 101 = x_goto 102 K := (xe_goto 102)
theorem bk_X11_ball_102 : ck_ fX11 (some .int) cX11_ball 102 [.istore 5, .iload 5, .ifCond .ne 112, .iconst (-4), .ireturn] 112 = true := qck_r (nn_ _) (by decide +kernel)
theorem bs_X11_ball_102 {P : Zt → Option Zv → Prop} (K : Int → Zl → List Zv → Zt → Prop) : sx_ K P [.istore 5, .iload 5, .ifCond .ne 112, .iconst (-4), .ireturn] 112 = x_istore 5 (x_iload 5 (x_ifCond .ne 112 K (x_iconst (-4) (x_ireturn P)))) := ((xe_istore 5).trans (congrArg (x_istore 5) ((xe_iload 5).trans (congrArg (x_iload 5) ((xe_ifCond .ne 112).trans (congrArg (x_ifCond .ne 112 K) ((xe_iconst (-4)).trans (congrArg (x_iconst (-4)) (xe_ireturn)))))))))
theorem bk_X11_ball_112 : ck_ fX11 (some .int) cX11_ball 112 [.aload 0, .iload 2, .ifCond .eq 121, .iload 1, .goto 125] 121 = true := qck_r (nn_ _) (by decide +kernel)
theorem bs_X11_ball_112 {P : Zt → Option Zv → Prop} (K : Int → Zl → List Zv → Zt → Prop) : sx_ K P [.aload 0, .iload 2, .ifCond .eq 121, .iload 1, .goto 125] 121 = x_aload 0 (x_iload 2 (x_ifCond .eq 121 K (x_iload 1 (x_goto 125 K)))) := ((xe_aload 0).trans (congrArg (x_aload 0) ((xe_iload 2).trans (congrArg (x_iload 2) ((xe_ifCond .eq 121).trans (congrArg (x_ifCond .eq 121 K) ((xe_iload 1).trans (congrArg (x_iload 1) (xe_goto 125)))))))))
theorem bk_X11_ball_121 : ck_ fX11 (some .int) cX11_ball 121 [.aload 0, .tableswitch 0 11 103 #[], .tableswitch 1 11 103 #[], .iconst 0, .istore 6, .iconst 0, .istore 7] 134 = true := qck_r (nn_ _) (by decide +kernel)
theorem bs_X11_ball_121 {P : Zt → Option Zv → Prop} (K : Int → Zl → List Zv → Zt → Prop) : sx_ K P [.aload 0, .tableswitch 0 11 103 #[], .tableswitch 1 11 103 #[], .iconst 0, .istore 6, .iconst 0, .istore 7] 134 = x_aload 0 (x_g0 111 103 (-2147483648) 2147483647 (x_p 111 103 (-2147483648) 2147483647 (x_iconst 0 (x_istore 6 (x_iconst 0 (x_istore 7 (K 134))))))) := ((xe_aload 0).trans (congrArg (x_aload 0) ((xe_g0 (kk := 111) rfl tl_11_103).trans (congrArg (x_g0 111 103 (-2147483648) 2147483647) ((xe_p (kk := 111) rfl tl_11_103).trans (congrArg (x_p 111 103 (-2147483648) 2147483647) ((xe_iconst 0).trans (congrArg (x_iconst 0) ((xe_istore 6).trans (congrArg (x_istore 6) ((xe_iconst 0).trans (congrArg (x_iconst 0) ((xe_istore 7).trans (congrArg (x_istore 7) xe_nil))))))))))))))
theorem bk_X11_ball_125 : ck_ fX11 (some .int) cX11_ball 125 [.tableswitch 1 11 103 #[], .iconst 0, .istore 6, .iconst 0, .istore 7] 134 = true := qck_r (nn_ _) (by decide +kernel)
theorem bs_X11_ball_125 {P : Zt → Option Zv → Prop} (K : Int → Zl → List Zv → Zt → Prop) : sx_ K P [.tableswitch 1 11 103 #[], .iconst 0, .istore 6, .iconst 0, .istore 7] 134 = x_p 111 103 (-2147483648) 2147483647 (x_iconst 0 (x_istore 6 (x_iconst 0 (x_istore 7 (K 134))))) := ((xe_p (kk := 111) rfl tl_11_103).trans (congrArg (x_p 111 103 (-2147483648) 2147483647) ((xe_iconst 0).trans (congrArg (x_iconst 0) ((xe_istore 6).trans (congrArg (x_istore 6) ((xe_iconst 0).trans (congrArg (x_iconst 0) ((xe_istore 7).trans (congrArg (x_istore 7) xe_nil))))))))))
theorem bk_X11_ball_75 : ck_ fX11 (some .int) cX11_ball 75 [.iinc 5 1, .goto 8] 81 = true := qck_r (nn_ _) (by decide +kernel)
theorem bs_X11_ball_75 {P : Zt → Option Zv → Prop} (K : Int → Zl → List Zv → Zt → Prop) : sx_ K P [.iinc 5 1, .goto 8] 81 = x_iinc 5 1 (x_goto 8 K) := ((xe_iinc 5 1).trans (congrArg (x_iinc 5 1) (xe_goto 8)))
theorem bk_X11_ball_68 : ck_ fX11 (some .int) cX11_ball 68 [.iload 4, .istore 4, .iinc 3 1, .iinc 5 1, .goto 8] 81 = true := qck_r (nn_ _) (by decide +kernel)
theorem bs_X11_ball_68 {P : Zt → Option Zv → Prop} (K : Int → Zl → List Zv → Zt → Prop) : sx_ K P [.iload 4, .istore 4, .iinc 3 1, .iinc 5 1, .goto 8] 81 = x_iload 4 (x_istore 4 (x_iinc 3 1 (x_iinc 5 1 (x_goto 8 K)))) := ((xe_iload 4).trans (congrArg (x_iload 4) ((xe_istore 4).trans (congrArg (x_istore 4) ((xe_iinc 3 1).trans (congrArg (x_iinc 3 1) ((xe_iinc 5 1).trans (congrArg (x_iinc 5 1) (xe_goto 8)))))))))
theorem bk_X11_ball_70 : ck_ fX11 (some .int) cX11_ball 70 [.istore 4, .iinc 3 1, .iinc 5 1, .goto 8] 81 = true := qck_r (nn_ _) (by decide +kernel)
theorem bs_X11_ball_70 {P : Zt → Option Zv → Prop} (K : Int → Zl → List Zv → Zt → Prop) : sx_ K P [.istore 4, .iinc 3 1, .iinc 5 1, .goto 8] 81 = x_istore 4 (x_iinc 3 1 (x_iinc 5 1 (x_goto 8 K))) := ((xe_istore 4).trans (congrArg (x_istore 4) ((xe_iinc 3 1).trans (congrArg (x_iinc 3 1) ((xe_iinc 5 1).trans (congrArg (x_iinc 5 1) (xe_goto 8)))))))
theorem bk_X11_ball_0 : ck_ fX11 (some .int) cX11_ball 0 [.iconst 0, .istore 3, .iconst 3, .istore 4, .iconst 0, .istore 5] 8 = true := qck_r (nn_ _) (by decide +kernel)
theorem bs_X11_ball_0 {P : Zt → Option Zv → Prop} (K : Int → Zl → List Zv → Zt → Prop) : sx_ K P [.iconst 0, .istore 3, .iconst 3, .istore 4, .iconst 0, .istore 5] 8 = x_iconst 0 (x_istore 3 (x_iconst 3 (x_istore 4 (x_iconst 0 (x_istore 5 (K 8)))))) := ((xe_iconst 0).trans (congrArg (x_iconst 0) ((xe_istore 3).trans (congrArg (x_istore 3) ((xe_iconst 3).trans (congrArg (x_iconst 3) ((xe_istore 4).trans (congrArg (x_istore 4) ((xe_iconst 0).trans (congrArg (x_iconst 0) ((xe_istore 5).trans (congrArg (x_istore 5) xe_nil))))))))))))
abbrev po_X11_ball (T : Zt) (ta fi : Int) : Zt → Option Zv → Prop := fun T' r => ∃ x : Int, r = some (vI x) ∧ fr_ [(304, []), (305, []), (302, []), (111, [103])] T T' ∧ (x = x)
set_option maxHeartbeats 4000000 in
theorem ct_X11_ball {T : Zt} {ta fi : Int} : Ct_ yX11_ball zX11_ball T [vR 111 0, vI ta, vI fi] (po_X11_ball T ta fi) := by
  refine ct_of pn_11 rfl rfl (Nat.le_of_ble_eq_true rfl) (fun hT hav => ?_)
  have hr_ta : -2147483648 ≤ ta ∧ ta ≤ 2147483647 := hav (vI ta) (List.mem_cons_of_mem _ List.mem_cons_self)
  have hr_fi : -2147483648 ≤ fi ∧ fi ≤ 2147483647 := hav (vI fi) (List.mem_cons_of_mem _ (List.mem_cons_of_mem _ List.mem_cons_self))
  have hz : zX11_ball.2.2.2.1 = some .boolean → ∀ (T' : Zt) (x : Int), po_X11_ball T ta fi T' (some (vI x)) → 0 ≤ x ∧ x ≤ 1 := fun h => by cases h
  have hb_12 : 0 ≤ T 111 0 12 ∧ T 111 0 12 ≤ 12 := bd_f hT 111 12 tl_11_12 0
  have hb_99 : 0 ≤ T 111 0 99 ∧ T 111 0 99 ≤ 4 := bd_f hT 111 99 tl_11_99 0
  show J_ zX11_ball T (po_X11_ball T ta fi) 0 0 0 [some (vR 111 0), some (vI ta), some (vI fi), none, none, none, none, none, none, none, none, none] [] T
  have c_265 : ∀ (nn : Nat) (pt : Int) (al : Int) (cl : Int) (tk : Int) (sm : Int) (g : Int) (T3 : Zt), ((3 - g).toNat) ≤ nn → (fr_ [(304, []), (305, []), (302, []), (111, [103])] T T3) → (al = (nw_ (drw_ T) (-1) (-1) (ll_ T) (gf_ T) : Nat) ∧ 1 ≤ al ∧ al ≤ 13824) → (∀ k, T3 302 0 k = T 302 0 k) → (-1 ≤ g ∧ g ≤ 3 ∧ 0 ≤ tk ∧ tk < al ∧ 0 ≤ cl ∧ cl < T 111 0 12 ∧ T 301 0 cl = pt ∧ T 302 0 cl = -1 ∧ 0 ≤ pt ∧ pt ≤ 2 ∧ 0 ≤ sm ∧ sm ≤ tk + 13824) → (sm = sgm_ T cl g) → J_ zX11_ball T (po_X11_ball T ta fi) 0 0 265 [some (vR 111 0), some (vI ta), some (vI fi), none, some (vI pt), some (vI al), none, none, some (vI cl), some (vI tk), some (vI sm), some (vI g)] [] T3 := by
    intro nn
    induction nn using Nat.strongRecOn with
    | _ nn ih_265 =>
      intro pt al cl tk sm g T3 hm_265 hf_265 al1 go3 i3 sg
      replace hm_265 := fun (_ : Unit) => hm_265
      refine j_blx (F := fX11) tb_X11 (nn_ _) bk_X11_ball_265 bs_X11_ball_265 hz (fun K hK => ?_)
      refine And.intro (fun c1 => ?_) (fun c1 => ?_)
      · refine hK 291 _ [] T3 ?_
        refine j_blx (F := fX11) tb_X11 (nn_ _) bk_X11_ball_291 bs_X11_ball_291 hz (fun K hK => ?_)
        refine iy_i (by omega) (by omega) ?_
        refine x_nm (fun U2 hU2 => ?_)
        have e3 := up_f hU2
        refine rg_i (by omega) ?_
        refine rg_i (by omega) ?_
        refine (show po_X11_ball T ta fi U2 (some (vI ((8 * cl) + g))) from ?_)
        exact ⟨_, rfl, fr_u (fr_t (fr_0 _ _) (fr_s hf_265 rfl)) hU2 rfl, by rfl⟩
      · have hg3 : g < 3 := by
          apply Int.not_le.mp
          intro z
          have e9 := sgm_3 (T := T) (c := cl) (by omega) (by omega) (by omega) (by omega)
          rw [show (3 : Int) = g by omega] at e9
          omega
        refine rg_i (by omega) ?_
        refine hK 282 [some (vR 111 0), some (vI ta), some (vI fi), none, some (vI pt), some (vI al), none, none, some (vI cl), some (vI tk), some (vI sm), some (vI (g + 1))] [vI (g + 1), vI cl, vR 111 0, vI sm] T3 ?_
        refine j_callV (y := yX11_countWays) (Yc := zX11_countWays) (rest := [vI sm]) [vI cl, vI (g + 1)] (ct_X11_countWays (T := T3)) cl_X11_591 (qd_c (by decide +kernel)) (nn_ _) rfl (rf_of rfl) (Nat.le_of_ble_eq_true rfl) (Nat.le_of_ble_eq_true rfl) (Nat.le_of_ble_eq_true rfl) rfl ?_
        rintro U4 _ ⟨x5, rfl, fU4, qU4⟩
        have bU4 := qU4.2.2
        show J_ zX11_ball T (po_X11_ball T ta fi) 0 0 285 _ [vI x5, vI sm] U4
        have hnw : x5 = (nw_ (drw_ T) cl (g + 1) (ll_ T) (gf_ T) : Nat) := by
          rw [qU4.1, drw_e (T := T) (fun k => hf_265 301 0 k rfl) (fun k => hf_265 214 0 k rfl) (hf_265 111 0 12 rfl) (hf_265 111 0 99 rfl) (hf_265 111 0 100 rfl), ll_e (T := T) (fun k => hf_265 301 0 k rfl) go3 (hf_265 111 0 12 rfl), gf_e go3]
        refine j_blx (F := fX11) tb_X11 (nn_ _) bk_X11_ball_285 bs_X11_ball_285 hz (fun K hK => ?_)
        refine rg_i (by omega) ?_
        refine hK 265 [some (vR 111 0), some (vI ta), some (vI fi), none, some (vI pt), some (vI al), none, none, some (vI cl), some (vI tk), some (vI (sm + x5)), some (vI (g + 1))] [] U4 ?_
        refine ih_265 _ ?_ pt al cl tk (sm + x5) (g + 1) U4 (Nat.le_refl _) ?_ ?_ ?_ ?_ ?_
        · have hm_265 := hm_265 (); omega
        · exact fr_t (fr_t (fr_0 _ _) (fr_s hf_265 rfl)) (fr_s fU4 rfl)
        · exact al1
        · exact fun k => ((qU4.2.1 k).trans (go3 k))
        · omega
        · rw [sgm_s (by omega), ← sg, ← hnw]
  have c_196 : ∀ (nn : Nat) (pt : Int) (al : Int) (wh : Int) (cl : Int) (k : Int) (w0 : Int) (T2 : Zt), ((12 - k).toNat) ≤ nn → (fr_ [(304, []), (305, []), (302, []), (111, [103])] T T2) → (al = (nw_ (drw_ T) (-1) (-1) (ll_ T) (gf_ T) : Nat) ∧ 1 ≤ al ∧ al ≤ 13824) → (∀ k, T2 302 0 k = T 302 0 k) → (0 ≤ k ∧ k ≤ T 111 0 12 ∧ 0 ≤ w0 ∧ w0 < cel_ T pt (T 111 0 12) ∧ 0 ≤ pt ∧ pt ≤ 2) → (wh = w0 - cel_ T pt k) → ((w0 < cel_ T pt k ∧ 0 ≤ cl ∧ cl < T 111 0 12 ∧ T 301 0 cl = pt ∧ T 302 0 cl = -1) ∨ (cel_ T pt k ≤ w0 ∧ cl = -1)) → J_ zX11_ball T (po_X11_ball T ta fi) 0 0 196 [some (vR 111 0), some (vI ta), some (vI fi), none, some (vI pt), some (vI al), none, some (vI wh), some (vI cl), some (vI k), none, none] [] T2 := by
    intro nn
    induction nn using Nat.strongRecOn with
    | _ nn ih_196 =>
      intro pt al wh cl k w0 T2 hm_196 hf_196 al1 go2 i2 hw hcl
      replace hm_196 := fun (_ : Unit) => hm_196
      have hb2 := cel_b (T := T) (p := pt) (k := k) (by omega)
      have hb3 := cel_b (T := T) (p := pt) (k := T 111 0 12) (by omega)
      refine j_blx (F := fX11) tb_X11 (nn_ _) bk_X11_ball_196 bs_X11_ball_196 hz (fun K hK => ?_)
      intro b6 b6b
      have e7 : T2 111 0 12 = T 111 0 12 := hf_196 111 0 12 rfl
      rw [e7] at b6 b6b ⊢
      refine And.intro (fun c8 => ?_) (fun c8 => ?_)
      · refine hK 251 _ [] T2 ?_
        rw [show k = T 111 0 12 by omega] at hcl
        refine j_blx (F := fX11) tb_X11 (nn_ _) bk_X11_ball_251 bs_X11_ball_251 hz (fun K hK => ?_)
        refine hK 254 _ [vI al, vR 111 0] T2 ?_
        refine j_callV (y := yX11_takenBelow) (Yc := zX11_takenBelow) (rest := []) [vI al] (ct_X11_takenBelow (T := T2) (by omega)) cl_X11_604 (qd_c (by decide +kernel)) (nn_ _) rfl (rf_of rfl) (Nat.le_of_ble_eq_true rfl) (Nat.le_of_ble_eq_true rfl) (Nat.le_of_ble_eq_true rfl) rfl ?_
        rintro U9 _ ⟨x10, rfl, fU9, qU9⟩
        show J_ zX11_ball T (po_X11_ball T ta fi) 0 0 257 _ [vI x10] U9
        refine j_blx (F := fX11) tb_X11 (nn_ _) bk_X11_ball_257 bs_X11_ball_257 hz (fun K hK => ?_)
        refine hK 265 [some (vR 111 0), some (vI ta), some (vI fi), none, some (vI pt), some (vI al), none, some (vI wh), some (vI cl), some (vI x10), some (vI 0), some (vI (-1))] [] U9 ?_
        refine j_drq [some (vR 111 0), some (vI ta), some (vI fi), none, some (vI pt), some (vI al), none, none, some (vI cl), some (vI x10), some (vI 0), some (vI (-1))] (drq_s (drq_s (drq_s (drq_n (drq_s (drq_s (drq_n (drq_n (drq_s (drq_s (drq_s (drq_s drq_0)))))))))))) ?_
        refine c_265 _ pt al cl x10 0 (-1) U9 (Nat.le_refl _) ?_ ?_ ?_ ?_ ?_
        · exact fr_t (fr_t (fr_0 _ _) (fr_s hf_196 rfl)) (fr_s fU9 rfl)
        · exact al1
        · exact fun k => (fU9 302 0 k rfl).trans (go2 k)
        · omega
        · exact sgm_0.symm
      · refine ix_i (by omega) ?_
        intro b11 b11b
        have e12 : T2 301 0 k = T 301 0 k := hf_196 301 0 k rfl
        rw [e12] at b11 b11b ⊢
        refine And.intro (fun c13 => ?_) (fun c13 => ?_)
        · refine hK 245 [some (vR 111 0), some (vI ta), some (vI fi), none, some (vI pt), some (vI al), none, some (vI wh), some (vI cl), some (vI k), none, none] [] T2 ?_
          refine j_blx (F := fX11) tb_X11 (nn_ _) bk_X11_ball_245 bs_X11_ball_245 hz (fun K hK => ?_)
          refine rg_i (by omega) ?_
          refine hK 196 [some (vR 111 0), some (vI ta), some (vI fi), none, some (vI pt), some (vI al), none, some (vI wh), some (vI cl), some (vI (k + 1)), none, none] [] T2 ?_
          refine ih_196 _ ?_ pt al wh cl (k + 1) w0 T2 (Nat.le_refl _) ?_ ?_ ?_ ?_ ?_ ?_
          · have hm_196 := hm_196 (); omega
          · exact fr_t (fr_0 _ _) (fr_s hf_196 rfl)
          · exact al1
          · exact fun k => go2 k
          · first
            | omega
            | (have z9 := el.1; omega)
          · first
            | (rw [cel_f (by omega) (by omega)]; omega)
            | (rw [cel_t (by omega) (by omega)]; omega)
          · first
            | (rw [cel_f (by omega) (by omega)]; exact hcl)
            | (rw [cel_t (by omega) (by omega)]; omega)
        · refine ix_i (by omega) ?_
          intro b14 b14b
          have g15 := go2 k
          refine And.intro (fun c16 => ?_) (fun c16 => ?_)
          · refine hK 245 [some (vR 111 0), some (vI ta), some (vI fi), none, some (vI pt), some (vI al), none, some (vI wh), some (vI cl), some (vI k), none, none] [] T2 ?_
            refine j_blx (F := fX11) tb_X11 (nn_ _) bk_X11_ball_245 bs_X11_ball_245 hz (fun K hK => ?_)
            refine rg_i (by omega) ?_
            refine hK 196 [some (vR 111 0), some (vI ta), some (vI fi), none, some (vI pt), some (vI al), none, some (vI wh), some (vI cl), some (vI (k + 1)), none, none] [] T2 ?_
            refine ih_196 _ ?_ pt al wh cl (k + 1) w0 T2 (Nat.le_refl _) ?_ ?_ ?_ ?_ ?_ ?_
            · have hm_196 := hm_196 (); omega
            · exact fr_t (fr_0 _ _) (fr_s hf_196 rfl)
            · exact al1
            · exact fun k => go2 k
            · first
              | omega
              | (have z9 := el.1; omega)
            · first
              | (rw [cel_f (by omega) (by omega)]; omega)
              | (rw [cel_t (by omega) (by omega)]; omega)
            · first
              | (rw [cel_f (by omega) (by omega)]; exact hcl)
              | (rw [cel_t (by omega) (by omega)]; omega)
          · refine And.intro (fun c17 => ?_) (fun c17 => ?_)
            · refine hK 238 [some (vR 111 0), some (vI ta), some (vI fi), none, some (vI pt), some (vI al), none, some (vI wh), some (vI cl), some (vI k), none, none] [] T2 ?_
              refine j_blx (F := fX11) tb_X11 (nn_ _) bk_X11_ball_238 bs_X11_ball_238 hz (fun K hK => ?_)
              refine rg_i (by omega) ?_
              refine rg_i (by omega) ?_
              refine hK 196 [some (vR 111 0), some (vI ta), some (vI fi), none, some (vI pt), some (vI al), none, some (vI (wh + (-1))), some (vI cl), some (vI (k + 1)), none, none] [] T2 ?_
              refine ih_196 _ ?_ pt al (wh + (-1)) cl (k + 1) w0 T2 (Nat.le_refl _) ?_ ?_ ?_ ?_ ?_ ?_
              · have hm_196 := hm_196 (); omega
              · exact fr_t (fr_0 _ _) (fr_s hf_196 rfl)
              · exact al1
              · exact fun k => go2 k
              · first
                | omega
                | (have z9 := el.1; omega)
              · first
                | (rw [cel_f (by omega) (by omega)]; omega)
                | (rw [cel_t (by omega) (by omega)]; omega)
              · first
                | (rw [cel_f (by omega) (by omega)]; exact hcl)
                | (rw [cel_t (by omega) (by omega)]; omega)
            · refine hK 240 [some (vR 111 0), some (vI ta), some (vI fi), none, some (vI pt), some (vI al), none, some (vI wh), some (vI cl), some (vI k), none, none] [vI k] T2 ?_
              refine j_blx (F := fX11) tb_X11 (nn_ _) bk_X11_ball_240 bs_X11_ball_240 hz (fun K hK => ?_)
              refine rg_i (by omega) ?_
              refine rg_i (by omega) ?_
              refine hK 196 [some (vR 111 0), some (vI ta), some (vI fi), none, some (vI pt), some (vI al), none, some (vI (wh + (-1))), some (vI k), some (vI (k + 1)), none, none] [] T2 ?_
              refine ih_196 _ ?_ pt al (wh + (-1)) k (k + 1) w0 T2 (Nat.le_refl _) ?_ ?_ ?_ ?_ ?_ ?_
              · have hm_196 := hm_196 (); omega
              · exact fr_t (fr_0 _ _) (fr_s hf_196 rfl)
              · exact al1
              · exact fun k => go2 k
              · first
                | omega
                | (have z9 := el.1; omega)
              · first
                | (rw [cel_f (by omega) (by omega)]; omega)
                | (rw [cel_t (by omega) (by omega)]; omega)
              · first
                | (rw [cel_f (by omega) (by omega)]; exact hcl)
                | (rw [cel_t (by omega) (by omega)]; omega)
  have c_134 : ∀ (nn : Nat) (pt : Int) (al : Int) (n : Int) (k : Int) (T1 : Zt), ((12 - k).toNat) ≤ nn → (fr_ [(304, []), (305, []), (302, []), (111, [103])] T T1) → (al = (nw_ (drw_ T) (-1) (-1) (ll_ T) (gf_ T) : Nat) ∧ 1 ≤ al ∧ al ≤ 13824) → (∀ k, T1 302 0 k = T 302 0 k) → (EL_ T pt (T 111 0 12)) → (0 ≤ k ∧ k ≤ T 111 0 12) → (n = cel_ T pt k) → J_ zX11_ball T (po_X11_ball T ta fi) 0 0 134 [some (vR 111 0), some (vI ta), some (vI fi), none, some (vI pt), some (vI al), some (vI n), some (vI k), none, none, none, none] [] T1 := by
    intro nn
    induction nn using Nat.strongRecOn with
    | _ nn ih_134 =>
      intro pt al n k T1 hm_134 hf_134 al1 go1 el i1 cn
      replace hm_134 := fun (_ : Unit) => hm_134
      have hb1 := cel_b (T := T) (p := pt) (k := k) (by omega)
      refine j_blx (F := fX11) tb_X11 (nn_ _) bk_X11_ball_134 bs_X11_ball_134 hz (fun K hK => ?_)
      intro b18 b18b
      have e19 : T1 111 0 12 = T 111 0 12 := hf_134 111 0 12 rfl
      rw [e19] at b18 b18b ⊢
      refine And.intro (fun c20 => ?_) (fun c20 => ?_)
      · refine hK 182 _ [] T1 ?_
        have hcp := cel_p el
        have hpt := el.1
        rw [show T 111 0 12 = k by omega] at hcp
        have hce : cel_ T pt (T 111 0 12) = n := by rw [cn, show T 111 0 12 = k by omega]
        refine j_blx (F := fX11) tb_X11 (nn_ _) bk_X11_ball_182 bs_X11_ball_182 hz (fun K hK => ?_)
        refine hK 185 _ [vI n, vR 111 0] T1 ?_
        refine j_callV (y := yX11_takenBelow) (Yc := zX11_takenBelow) (rest := []) [vI n] (ct_X11_takenBelow (T := T1) (by omega)) cl_X11_604 (qd_c (by decide +kernel)) (nn_ _) rfl (rf_of rfl) (Nat.le_of_ble_eq_true rfl) (Nat.le_of_ble_eq_true rfl) (Nat.le_of_ble_eq_true rfl) rfl ?_
        rintro U21 _ ⟨x22, rfl, fU21, qU21⟩
        show J_ zX11_ball T (po_X11_ball T ta fi) 0 0 188 _ [vI x22] U21
        refine j_blx (F := fX11) tb_X11 (nn_ _) bk_X11_ball_188 bs_X11_ball_188 hz (fun K hK => ?_)
        refine hK 196 [some (vR 111 0), some (vI ta), some (vI fi), none, some (vI pt), some (vI al), some (vI n), some (vI x22), some (vI (-1)), some (vI 0), none, none] [] U21 ?_
        refine j_drq [some (vR 111 0), some (vI ta), some (vI fi), none, some (vI pt), some (vI al), none, some (vI x22), some (vI (-1)), some (vI 0), none, none] (drq_s (drq_s (drq_s (drq_n (drq_s (drq_s (drq_n (drq_s (drq_s (drq_s (drq_n (drq_n drq_0)))))))))))) ?_
        refine c_196 _ pt al x22 (-1) 0 x22 U21 (Nat.le_refl _) ?_ ?_ ?_ ?_ ?_ ?_
        · exact fr_t (fr_t (fr_0 _ _) (fr_s hf_134 rfl)) (fr_s fU21 rfl)
        · exact al1
        · exact fun k => (fU21 302 0 k rfl).trans (go1 k)
        · first
          | omega
          | (have z9 := el.1; omega)
        · show _ = _ - (0 : Int); omega
        · exact Or.inr ⟨by show (0 : Int) ≤ _; omega, rfl⟩
      · refine ix_i (by omega) ?_
        intro b23 b23b
        have e24 : T1 301 0 k = T 301 0 k := hf_134 301 0 k rfl
        rw [e24] at b23 b23b ⊢
        refine And.intro (fun c25 => ?_) (fun c25 => ?_)
        · refine hK 172 [some (vR 111 0), some (vI ta), some (vI fi), none, some (vI pt), some (vI al), some (vI n), some (vI k), none, none, none, none] [vI n] T1 ?_
          refine j_blx (F := fX11) tb_X11 (nn_ _) bk_X11_ball_172 bs_X11_ball_172 hz (fun K hK => ?_)
          refine rg_i (by omega) ?_
          refine rg_i (by omega) ?_
          refine hK 134 [some (vR 111 0), some (vI ta), some (vI fi), none, some (vI pt), some (vI al), some (vI (n + 0)), some (vI (k + 1)), none, none, none, none] [] T1 ?_
          refine ih_134 _ ?_ pt al (n + 0) (k + 1) T1 (Nat.le_refl _) ?_ ?_ ?_ ?_ ?_ ?_
          · have hm_134 := hm_134 (); omega
          · exact fr_t (fr_0 _ _) (fr_s hf_134 rfl)
          · exact al1
          · exact fun k => go1 k
          · first
            | exact el
            | (rw [show T 111 0 12 = k by omega]; exact (hq.resolve_left (by omega)).2)
          · omega
          · first
            | (rw [cel_f (by omega) (by omega)]; omega)
            | (rw [cel_t (by omega) (by omega)]; omega)
        · refine ix_i (by omega) ?_
          intro b26 b26b
          have g27 := go1 k
          refine And.intro (fun c28 => ?_) (fun c28 => ?_)
          · refine hK 172 [some (vR 111 0), some (vI ta), some (vI fi), none, some (vI pt), some (vI al), some (vI n), some (vI k), none, none, none, none] [vI n] T1 ?_
            refine j_blx (F := fX11) tb_X11 (nn_ _) bk_X11_ball_172 bs_X11_ball_172 hz (fun K hK => ?_)
            refine rg_i (by omega) ?_
            refine rg_i (by omega) ?_
            refine hK 134 [some (vR 111 0), some (vI ta), some (vI fi), none, some (vI pt), some (vI al), some (vI (n + 0)), some (vI (k + 1)), none, none, none, none] [] T1 ?_
            refine ih_134 _ ?_ pt al (n + 0) (k + 1) T1 (Nat.le_refl _) ?_ ?_ ?_ ?_ ?_ ?_
            · have hm_134 := hm_134 (); omega
            · exact fr_t (fr_0 _ _) (fr_s hf_134 rfl)
            · exact al1
            · exact fun k => go1 k
            · first
              | exact el
              | (rw [show T 111 0 12 = k by omega]; exact (hq.resolve_left (by omega)).2)
            · omega
            · first
              | (rw [cel_f (by omega) (by omega)]; omega)
              | (rw [cel_t (by omega) (by omega)]; omega)
          · refine hK 173 [some (vR 111 0), some (vI ta), some (vI fi), none, some (vI pt), some (vI al), some (vI n), some (vI k), none, none, none, none] [vI 1, vI n] T1 ?_
            refine j_blx (F := fX11) tb_X11 (nn_ _) bk_X11_ball_173 bs_X11_ball_173 hz (fun K hK => ?_)
            refine rg_i (by omega) ?_
            refine rg_i (by omega) ?_
            refine hK 134 [some (vR 111 0), some (vI ta), some (vI fi), none, some (vI pt), some (vI al), some (vI (n + 1)), some (vI (k + 1)), none, none, none, none] [] T1 ?_
            refine ih_134 _ ?_ pt al (n + 1) (k + 1) T1 (Nat.le_refl _) ?_ ?_ ?_ ?_ ?_ ?_
            · have hm_134 := hm_134 (); omega
            · exact fr_t (fr_0 _ _) (fr_s hf_134 rfl)
            · exact al1
            · exact fun k => go1 k
            · first
              | exact el
              | (rw [show T 111 0 12 = k by omega]; exact (hq.resolve_left (by omega)).2)
            · omega
            · first
              | (rw [cel_f (by omega) (by omega)]; omega)
              | (rw [cel_t (by omega) (by omega)]; omega)
  have c_8 : ∀ (nn : Nat) (lf : Int) (pt : Int) (k : Int), ((12 - k).toNat) ≤ nn → (0 ≤ k ∧ k ≤ T 111 0 12 ∧ 0 ≤ lf ∧ lf ≤ k) → ((lf = 0 ∧ pt = 3) ∨ (0 < lf ∧ EL_ T pt k)) → J_ zX11_ball T (po_X11_ball T ta fi) 0 0 8 [some (vR 111 0), some (vI ta), some (vI fi), some (vI lf), some (vI pt), some (vI k), none, none, none, none, none, none] [] T := by
    intro nn
    induction nn using Nat.strongRecOn with
    | _ nn ih_8 =>
      intro lf pt k hm_8 i0 hq
      replace hm_8 := fun (_ : Unit) => hm_8
      refine j_blx (F := fX11) tb_X11 (nn_ _) bk_X11_ball_8 bs_X11_ball_8 hz (fun K hK => ?_)
      intro b29 b29b
      refine And.intro (fun c30 => ?_) (fun c30 => ?_)
      · refine hK 81 _ [] T ?_
        refine j_blx (F := fX11) tb_X11 (nn_ _) bk_X11_ball_81 bs_X11_ball_81 hz (fun K hK => ?_)
        intro b31 b31b
        refine And.intro (fun c32 => ?_) (fun c32 => ?_)
        · refine hK 101 _ [] T ?_
          refine j_blx (F := fX11) tb_X11 (nn_ _) bk_X11_ball_101 bs_X11_ball_101 hz (fun K hK => ?_)
          refine And.intro (fun c33 => ?_) (fun c33 => ?_)
          · exact absurd c33 (by decide)
          · refine (show po_X11_ball T ta fi T (some (vI (-4))) from ?_)
            exact ⟨_, rfl, fr_0 _ _, by rfl⟩
        · refine And.intro (fun c34 => ?_) (fun c34 => ?_)
          · refine hK 101 _ [] T ?_
            refine j_blx (F := fX11) tb_X11 (nn_ _) bk_X11_ball_101 bs_X11_ball_101 hz (fun K hK => ?_)
            refine And.intro (fun c35 => ?_) (fun c35 => ?_)
            · exact absurd c35 (by decide)
            · refine (show po_X11_ball T ta fi T (some (vI (-4))) from ?_)
              exact ⟨_, rfl, fr_0 _ _, by rfl⟩
          · refine hK 95 _ [vI (-1), vI (-1), vR 111 0] T ?_
            refine j_callV (y := yX11_countWays) (Yc := zX11_countWays) (rest := []) [vI (-1), vI (-1)] (ct_X11_countWays (T := T)) cl_X11_591 (qd_c (by decide +kernel)) (nn_ _) rfl (rf_of rfl) (Nat.le_of_ble_eq_true rfl) (Nat.le_of_ble_eq_true rfl) (Nat.le_of_ble_eq_true rfl) rfl ?_
            rintro U36 _ ⟨x37, rfl, fU36, qU36⟩
            have bU36 := qU36.2.2
            show J_ zX11_ball T (po_X11_ball T ta fi) 0 0 98 _ [vI x37] U36
            refine j_blx (F := fX11) tb_X11 (nn_ _) bk_X11_ball_98 bs_X11_ball_98 hz (fun K hK => ?_)
            refine hK 102 _ [vI x37] U36 ?_
            refine j_blx (F := fX11) tb_X11 (nn_ _) bk_X11_ball_102 bs_X11_ball_102 hz (fun K hK => ?_)
            refine And.intro (fun c38 => ?_) (fun c38 => ?_)
            · refine hK 112 [some (vR 111 0), some (vI ta), some (vI fi), some (vI lf), some (vI pt), some (vI x37), none, none, none, none, none, none] [] U36 ?_
              refine j_blx (F := fX11) tb_X11 (nn_ _) bk_X11_ball_112 bs_X11_ball_112 hz (fun K hK => ?_)
              refine And.intro (fun c39 => ?_) (fun c39 => ?_)
              · refine hK 121 _ [vR 111 0] U36 ?_
                refine j_blx (F := fX11) tb_X11 (nn_ _) bk_X11_ball_121 bs_X11_ball_121 hz (fun K hK => ?_)
                intro b40 b40b
                have e41 : U36 111 0 103 = T 111 0 103 := fU36 111 0 103 rfl
                rw [e41] at b40 b40b ⊢
                refine bd_i (by omega) ?_
                refine x_nm (fun U42 hU42 => ?_)
                have e43 := up_f hU42
                refine hK 134 [some (vR 111 0), some (vI ta), some (vI fi), some (vI lf), some (vI pt), some (vI x37), some (vI 0), some (vI 0), none, none, none, none] [] U42 ?_
                refine j_drq [some (vR 111 0), some (vI ta), some (vI fi), none, some (vI pt), some (vI x37), some (vI 0), some (vI 0), none, none, none, none] (drq_s (drq_s (drq_s (drq_n (drq_s (drq_s (drq_s (drq_s (drq_n (drq_n (drq_n (drq_n drq_0)))))))))))) ?_
                refine c_134 _ pt x37 0 0 U42 (Nat.le_refl _) ?_ ?_ ?_ ?_ ?_ ?_
                · exact fr_u (fr_t (fr_0 _ _) (fr_s fU36 rfl)) hU42 rfl
                · exact ⟨qU36.1, by omega, by omega⟩
                · exact fun k => (up_k hU42 (by exact Nat.ne_of_beq_eq_false rfl) 0 k).trans ((qU36.2.1 k))
                · first
                  | exact el
                  | (rw [show T 111 0 12 = k by omega]; exact (hq.resolve_left (by omega)).2)
                · omega
                · rfl
              · refine hK 125 [some (vR 111 0), some (vI ta), some (vI fi), some (vI lf), some (vI pt), some (vI x37), none, none, none, none, none, none] [vI ta, vR 111 0] U36 ?_
                refine j_blx (F := fX11) tb_X11 (nn_ _) bk_X11_ball_125 bs_X11_ball_125 hz (fun K hK => ?_)
                refine bd_i (by omega) ?_
                refine x_nm (fun U44 hU44 => ?_)
                have e45 := up_f hU44
                refine hK 134 [some (vR 111 0), some (vI ta), some (vI fi), some (vI lf), some (vI pt), some (vI x37), some (vI 0), some (vI 0), none, none, none, none] [] U44 ?_
                refine j_drq [some (vR 111 0), some (vI ta), some (vI fi), none, some (vI pt), some (vI x37), some (vI 0), some (vI 0), none, none, none, none] (drq_s (drq_s (drq_s (drq_n (drq_s (drq_s (drq_s (drq_s (drq_n (drq_n (drq_n (drq_n drq_0)))))))))))) ?_
                refine c_134 _ pt x37 0 0 U44 (Nat.le_refl _) ?_ ?_ ?_ ?_ ?_ ?_
                · exact fr_u (fr_t (fr_0 _ _) (fr_s fU36 rfl)) hU44 rfl
                · exact ⟨qU36.1, by omega, by omega⟩
                · exact fun k => (up_k hU44 (by exact Nat.ne_of_beq_eq_false rfl) 0 k).trans ((qU36.2.1 k))
                · first
                  | exact el
                  | (rw [show T 111 0 12 = k by omega]; exact (hq.resolve_left (by omega)).2)
                · omega
                · rfl
            · refine (show po_X11_ball T ta fi U36 (some (vI (-4))) from ?_)
              exact ⟨_, rfl, fr_t (fr_0 _ _) (fr_s fU36 rfl), by rfl⟩
      · intro b46 b46b
        refine And.intro (fun c47 => ?_) (fun c47 => ?_)
        · refine hK 81 _ [] T ?_
          refine j_blx (F := fX11) tb_X11 (nn_ _) bk_X11_ball_81 bs_X11_ball_81 hz (fun K hK => ?_)
          intro b48 b48b
          refine And.intro (fun c49 => ?_) (fun c49 => ?_)
          · refine hK 101 _ [] T ?_
            refine j_blx (F := fX11) tb_X11 (nn_ _) bk_X11_ball_101 bs_X11_ball_101 hz (fun K hK => ?_)
            refine And.intro (fun c50 => ?_) (fun c50 => ?_)
            · exact absurd c50 (by decide)
            · refine (show po_X11_ball T ta fi T (some (vI (-4))) from ?_)
              exact ⟨_, rfl, fr_0 _ _, by rfl⟩
          · refine And.intro (fun c51 => ?_) (fun c51 => ?_)
            · refine hK 101 _ [] T ?_
              refine j_blx (F := fX11) tb_X11 (nn_ _) bk_X11_ball_101 bs_X11_ball_101 hz (fun K hK => ?_)
              refine And.intro (fun c52 => ?_) (fun c52 => ?_)
              · exact absurd c52 (by decide)
              · refine (show po_X11_ball T ta fi T (some (vI (-4))) from ?_)
                exact ⟨_, rfl, fr_0 _ _, by rfl⟩
            · refine hK 95 _ [vI (-1), vI (-1), vR 111 0] T ?_
              refine j_callV (y := yX11_countWays) (Yc := zX11_countWays) (rest := []) [vI (-1), vI (-1)] (ct_X11_countWays (T := T)) cl_X11_591 (qd_c (by decide +kernel)) (nn_ _) rfl (rf_of rfl) (Nat.le_of_ble_eq_true rfl) (Nat.le_of_ble_eq_true rfl) (Nat.le_of_ble_eq_true rfl) rfl ?_
              rintro U53 _ ⟨x54, rfl, fU53, qU53⟩
              have bU53 := qU53.2.2
              show J_ zX11_ball T (po_X11_ball T ta fi) 0 0 98 _ [vI x54] U53
              refine j_blx (F := fX11) tb_X11 (nn_ _) bk_X11_ball_98 bs_X11_ball_98 hz (fun K hK => ?_)
              refine hK 102 _ [vI x54] U53 ?_
              refine j_blx (F := fX11) tb_X11 (nn_ _) bk_X11_ball_102 bs_X11_ball_102 hz (fun K hK => ?_)
              refine And.intro (fun c55 => ?_) (fun c55 => ?_)
              · refine hK 112 [some (vR 111 0), some (vI ta), some (vI fi), some (vI lf), some (vI pt), some (vI x54), none, none, none, none, none, none] [] U53 ?_
                refine j_blx (F := fX11) tb_X11 (nn_ _) bk_X11_ball_112 bs_X11_ball_112 hz (fun K hK => ?_)
                refine And.intro (fun c56 => ?_) (fun c56 => ?_)
                · refine hK 121 _ [vR 111 0] U53 ?_
                  refine j_blx (F := fX11) tb_X11 (nn_ _) bk_X11_ball_121 bs_X11_ball_121 hz (fun K hK => ?_)
                  intro b57 b57b
                  have e58 : U53 111 0 103 = T 111 0 103 := fU53 111 0 103 rfl
                  rw [e58] at b57 b57b ⊢
                  refine bd_i (by omega) ?_
                  refine x_nm (fun U59 hU59 => ?_)
                  have e60 := up_f hU59
                  refine hK 134 [some (vR 111 0), some (vI ta), some (vI fi), some (vI lf), some (vI pt), some (vI x54), some (vI 0), some (vI 0), none, none, none, none] [] U59 ?_
                  refine j_drq [some (vR 111 0), some (vI ta), some (vI fi), none, some (vI pt), some (vI x54), some (vI 0), some (vI 0), none, none, none, none] (drq_s (drq_s (drq_s (drq_n (drq_s (drq_s (drq_s (drq_s (drq_n (drq_n (drq_n (drq_n drq_0)))))))))))) ?_
                  refine c_134 _ pt x54 0 0 U59 (Nat.le_refl _) ?_ ?_ ?_ ?_ ?_ ?_
                  · exact fr_u (fr_t (fr_0 _ _) (fr_s fU53 rfl)) hU59 rfl
                  · exact ⟨qU53.1, by omega, by omega⟩
                  · exact fun k => (up_k hU59 (by exact Nat.ne_of_beq_eq_false rfl) 0 k).trans ((qU53.2.1 k))
                  · first
                    | exact el
                    | (rw [show T 111 0 12 = k by omega]; exact (hq.resolve_left (by omega)).2)
                  · omega
                  · rfl
                · refine hK 125 [some (vR 111 0), some (vI ta), some (vI fi), some (vI lf), some (vI pt), some (vI x54), none, none, none, none, none, none] [vI ta, vR 111 0] U53 ?_
                  refine j_blx (F := fX11) tb_X11 (nn_ _) bk_X11_ball_125 bs_X11_ball_125 hz (fun K hK => ?_)
                  refine bd_i (by omega) ?_
                  refine x_nm (fun U61 hU61 => ?_)
                  have e62 := up_f hU61
                  refine hK 134 [some (vR 111 0), some (vI ta), some (vI fi), some (vI lf), some (vI pt), some (vI x54), some (vI 0), some (vI 0), none, none, none, none] [] U61 ?_
                  refine j_drq [some (vR 111 0), some (vI ta), some (vI fi), none, some (vI pt), some (vI x54), some (vI 0), some (vI 0), none, none, none, none] (drq_s (drq_s (drq_s (drq_n (drq_s (drq_s (drq_s (drq_s (drq_n (drq_n (drq_n (drq_n drq_0)))))))))))) ?_
                  refine c_134 _ pt x54 0 0 U61 (Nat.le_refl _) ?_ ?_ ?_ ?_ ?_ ?_
                  · exact fr_u (fr_t (fr_0 _ _) (fr_s fU53 rfl)) hU61 rfl
                  · exact ⟨qU53.1, by omega, by omega⟩
                  · exact fun k => (up_k hU61 (by exact Nat.ne_of_beq_eq_false rfl) 0 k).trans ((qU53.2.1 k))
                  · first
                    | exact el
                    | (rw [show T 111 0 12 = k by omega]; exact (hq.resolve_left (by omega)).2)
                  · omega
                  · rfl
              · refine (show po_X11_ball T ta fi U53 (some (vI (-4))) from ?_)
                exact ⟨_, rfl, fr_t (fr_0 _ _) (fr_s fU53 rfl), by rfl⟩
        · refine ix_i (by omega) ?_
          intro b63 b63b
          refine And.intro (fun c64 => ?_) (fun c64 => ?_)
          · refine hK 75 _ [] T ?_
            refine j_blx (F := fX11) tb_X11 (nn_ _) bk_X11_ball_75 bs_X11_ball_75 hz (fun K hK => ?_)
            refine rg_i (by omega) ?_
            refine hK 8 [some (vR 111 0), some (vI ta), some (vI fi), some (vI lf), some (vI pt), some (vI (k + 1)), none, none, none, none, none, none] [] T ?_
            refine ih_8 _ ?_ lf pt (k + 1) (Nat.le_refl _) ?_ ?_
            · have hm_8 := hm_8 (); omega
            · omega
            · exact hq.imp id (fun z => ⟨z.1, el_m z.2⟩)
          · refine ix_i (by omega) ?_
            intro b65 b65b
            refine And.intro (fun c66 => ?_) (fun c66 => ?_)
            · refine hK 75 [some (vR 111 0), some (vI ta), some (vI fi), some (vI lf), some (vI pt), some (vI k), none, none, none, none, none, none] [] T ?_
              refine j_blx (F := fX11) tb_X11 (nn_ _) bk_X11_ball_75 bs_X11_ball_75 hz (fun K hK => ?_)
              refine rg_i (by omega) ?_
              refine hK 8 [some (vR 111 0), some (vI ta), some (vI fi), some (vI lf), some (vI pt), some (vI (k + 1)), none, none, none, none, none, none] [] T ?_
              refine ih_8 _ ?_ lf pt (k + 1) (Nat.le_refl _) ?_ ?_
              · have hm_8 := hm_8 (); omega
              · omega
              · exact hq.imp id (fun z => ⟨z.1, el_m z.2⟩)
            · refine ix_i (by omega) ?_
              intro b67 b67b
              refine And.intro (fun c68 => ?_) (fun c68 => ?_)
              · refine hK 68 [some (vR 111 0), some (vI ta), some (vI fi), some (vI lf), some (vI pt), some (vI k), none, none, none, none, none, none] [] T ?_
                refine j_blx (F := fX11) tb_X11 (nn_ _) bk_X11_ball_68 bs_X11_ball_68 hz (fun K hK => ?_)
                refine rg_i (by omega) ?_
                refine rg_i (by omega) ?_
                refine hK 8 [some (vR 111 0), some (vI ta), some (vI fi), some (vI (lf + 1)), some (vI pt), some (vI (k + 1)), none, none, none, none, none, none] [] T ?_
                refine ih_8 _ ?_ (lf + 1) pt (k + 1) (Nat.le_refl _) ?_ ?_
                · have hm_8 := hm_8 (); omega
                · omega
                · exact hq.elim (fun z => by omega) (fun z => Or.inr ⟨by omega, el_m z.2⟩)
              · refine ix_i (by omega) ?_
                intro b69 b69b
                refine hK 70 [some (vR 111 0), some (vI ta), some (vI fi), some (vI lf), some (vI pt), some (vI k), none, none, none, none, none, none] [vI (T 301 0 k)] T ?_
                refine j_blx (F := fX11) tb_X11 (nn_ _) bk_X11_ball_70 bs_X11_ball_70 hz (fun K hK => ?_)
                refine rg_i (by omega) ?_
                refine rg_i (by omega) ?_
                refine hK 8 [some (vR 111 0), some (vI ta), some (vI fi), some (vI (lf + 1)), some (vI (T 301 0 k)), some (vI (k + 1)), none, none, none, none, none, none] [] T ?_
                refine ih_8 _ ?_ (lf + 1) (T 301 0 k) (k + 1) (Nat.le_refl _) ?_ ?_
                · have hm_8 := hm_8 (); omega
                · omega
                · exact Or.inr ⟨by omega, el_n (by omega) (by omega) rfl (by omega)⟩
  refine j_blx (F := fX11) tb_X11 (nn_ _) bk_X11_ball_0 bs_X11_ball_0 hz (fun K hK => ?_)
  refine hK 8 [some (vR 111 0), some (vI ta), some (vI fi), some (vI 0), some (vI 3), some (vI 0), none, none, none, none, none, none] [] T ?_
  refine c_8 _ 0 3 0 (Nat.le_refl _) ?_ ?_
  · omega
  · exact Or.inl ⟨rfl, rfl⟩
